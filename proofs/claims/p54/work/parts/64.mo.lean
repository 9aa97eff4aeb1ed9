/-! the words of each method -/
def mo_ini (own : Nat) : Nat × Nat := match own with
  | 0 => (1, 12)
  | 1 => (1, 4)
  | 2 => (1, 11)
  | 3 => (1, 9)
  | 4 => (1, 13)
  | 5 => (1, 10)
  | 6 => (1, 5)
  | 7 => (1, 3)
  | 8 => (1, 6)
  | 9 => (1, 8)
  | 10 => (1, 2)
  | 11 => (1, 7)
  | 12 => (1, 1)
  | 13 => (1, 14)
  | 14 => (1, 0)
  | 15 => (1, 22)
  | 16 => (1, 27)
  | 17 => (1, 33)
  | 18 => (1, 35)
  | _ => (0, 0)
set_option maxRecDepth 100000 in
theorem mo_c1 : (List.range' 2 586).all (fun mid => decide ((mt_y mid).cls = sh_R (mt_i mid).1)) = true := by decide +kernel
set_option maxRecDepth 100000 in
theorem mo_c2 : (List.range' 2 586).all (fun mid => plainName (mt_y mid).cls) = true := by decide +kernel
set_option maxRecDepth 100000 in
theorem mo_c3 : (List.range' 2 586).all (fun mid => decide ((tb_K (mo_ini (mt_i mid).1).1)[(mo_ini (mt_i mid).1).2]? = some (Cond.initialized (mt_y mid).cls))) = true := by decide +kernel
set_option maxRecDepth 100000 in
theorem mo_c4 : (List.range' 2 586).all (fun mid => decide ((mt_y mid).cls ≠ "java/lang/invoke/MethodHandle") && decide ((mt_y mid).cls ≠ "java/lang/invoke/VarHandle")) = true := by decide +kernel
set_option maxRecDepth 100000 in
theorem mo_c5 : (List.range' 2 586).all (fun mid => decide ((mt_i mid).2 ≤ 80)) = true := by decide +kernel
set_option maxRecDepth 20000 in
theorem mo_0 {sc : Nat × (Nat → Int)} : (tb_K 5)[133]? = some (sm_cw (mt_P sc) (mt_M sc) 0) := rfl
set_option maxRecDepth 20000 in
theorem mo_1 {sc : Nat × (Nat → Int)} : (tb_K 5)[136]? = some (sm_cw (mt_P sc) (mt_M sc) 1) := rfl
set_option maxRecDepth 20000 in
theorem mo_2 {sc : Nat × (Nat → Int)} : (tb_K 6)[145]? = some (sm_cw (mt_P sc) (mt_M sc) 2) := rfl
set_option maxRecDepth 20000 in
theorem mo_3 {sc : Nat × (Nat → Int)} : (tb_K 9)[77]? = some (sm_cw (mt_P sc) (mt_M sc) 3) := rfl
set_option maxRecDepth 20000 in
theorem mo_4 {sc : Nat × (Nat → Int)} : (tb_K 11)[44]? = some (sm_cw (mt_P sc) (mt_M sc) 4) := rfl
set_option maxRecDepth 20000 in
theorem mo_5 {sc : Nat × (Nat → Int)} : (tb_K 11)[195]? = some (sm_cw (mt_P sc) (mt_M sc) 5) := rfl
set_option maxRecDepth 20000 in
theorem mo_6 {sc : Nat × (Nat → Int)} : (tb_K 9)[80]? = some (sm_cw (mt_P sc) (mt_M sc) 6) := rfl
set_option maxRecDepth 20000 in
theorem mo_7 {sc : Nat × (Nat → Int)} : (tb_K 10)[146]? = some (sm_cw (mt_P sc) (mt_M sc) 7) := rfl
set_option maxRecDepth 20000 in
theorem mo_8 {sc : Nat × (Nat → Int)} : (tb_K 11)[48]? = some (sm_cw (mt_P sc) (mt_M sc) 8) := rfl
set_option maxRecDepth 20000 in
theorem mo_9 {sc : Nat × (Nat → Int)} : (tb_K 11)[203]? = some (sm_cw (mt_P sc) (mt_M sc) 9) := rfl
set_option maxRecDepth 20000 in
theorem mo_10 {sc : Nat × (Nat → Int)} : (tb_K 11)[206]? = some (sm_cw (mt_P sc) (mt_M sc) 10) := rfl
set_option maxRecDepth 20000 in
theorem mo_11 {sc : Nat × (Nat → Int)} : (tb_K 8)[64]? = some (sm_cw (mt_P sc) (mt_M sc) 11) := rfl
set_option maxRecDepth 20000 in
theorem mo_12 {sc : Nat × (Nat → Int)} : (tb_K 8)[73]? = some (sm_cw (mt_P sc) (mt_M sc) 12) := rfl
set_option maxRecDepth 20000 in
theorem mo_13 {sc : Nat × (Nat → Int)} : (tb_K 8)[82]? = some (sm_cw (mt_P sc) (mt_M sc) 13) := rfl
set_option maxRecDepth 20000 in
theorem mo_14 {sc : Nat × (Nat → Int)} : (tb_K 8)[211]? = some (sm_cw (mt_P sc) (mt_M sc) 14) := rfl
set_option maxRecDepth 20000 in
theorem mo_15 {sc : Nat × (Nat → Int)} : (tb_K 8)[68]? = some (sm_cw (mt_P sc) (mt_M sc) 15) := rfl
set_option maxRecDepth 20000 in
theorem mo_16 {sc : Nat × (Nat → Int)} : (tb_K 10)[131]? = some (sm_cw (mt_P sc) (mt_M sc) 16) := rfl
set_option maxRecDepth 20000 in
theorem mo_17 {sc : Nat × (Nat → Int)} : (tb_K 8)[215]? = some (sm_cw (mt_P sc) (mt_M sc) 17) := rfl
set_option maxRecDepth 20000 in
theorem mo_18 {sc : Nat × (Nat → Int)} : (tb_K 8)[219]? = some (sm_cw (mt_P sc) (mt_M sc) 18) := rfl
set_option maxRecDepth 20000 in
theorem mo_19 {sc : Nat × (Nat → Int)} : (tb_K 9)[58]? = some (sm_cw (mt_P sc) (mt_M sc) 19) := rfl
set_option maxRecDepth 20000 in
theorem mo_20 {sc : Nat × (Nat → Int)} : (tb_K 8)[192]? = some (sm_cw (mt_P sc) (mt_M sc) 20) := rfl
set_option maxRecDepth 20000 in
theorem mo_21 {sc : Nat × (Nat → Int)} : (tb_K 8)[196]? = some (sm_cw (mt_P sc) (mt_M sc) 21) := rfl
set_option maxRecDepth 20000 in
theorem mo_22 {sc : Nat × (Nat → Int)} : (tb_K 8)[202]? = some (sm_cw (mt_P sc) (mt_M sc) 22) := rfl
set_option maxRecDepth 20000 in
theorem mo_23 {sc : Nat × (Nat → Int)} : (tb_K 8)[207]? = some (sm_cw (mt_P sc) (mt_M sc) 23) := rfl
set_option maxRecDepth 20000 in
theorem mo_24 {sc : Nat × (Nat → Int)} : (tb_K 9)[30]? = some (sm_cw (mt_P sc) (mt_M sc) 24) := rfl
set_option maxRecDepth 20000 in
theorem mo_25 {sc : Nat × (Nat → Int)} : (tb_K 9)[3]? = some (sm_cw (mt_P sc) (mt_M sc) 25) := rfl
set_option maxRecDepth 20000 in
theorem mo_26 {sc : Nat × (Nat → Int)} : (tb_K 9)[14]? = some (sm_cw (mt_P sc) (mt_M sc) 26) := rfl
set_option maxRecDepth 20000 in
theorem mo_27 {sc : Nat × (Nat → Int)} : (tb_K 9)[18]? = some (sm_cw (mt_P sc) (mt_M sc) 27) := rfl
set_option maxRecDepth 20000 in
theorem mo_28 {sc : Nat × (Nat → Int)} : (tb_K 9)[22]? = some (sm_cw (mt_P sc) (mt_M sc) 28) := rfl
set_option maxRecDepth 20000 in
theorem mo_29 {sc : Nat × (Nat → Int)} : (tb_K 9)[26]? = some (sm_cw (mt_P sc) (mt_M sc) 29) := rfl
set_option maxRecDepth 20000 in
theorem mo_30 {sc : Nat × (Nat → Int)} : (tb_K 10)[142]? = some (sm_cw (mt_P sc) (mt_M sc) 30) := rfl
set_option maxRecDepth 20000 in
theorem mo_31 {sc : Nat × (Nat → Int)} : (tb_K 6)[123]? = some (sm_cw (mt_P sc) (mt_M sc) 31) := rfl
set_option maxRecDepth 20000 in
theorem mo_32 {sc : Nat × (Nat → Int)} : (tb_K 6)[127]? = some (sm_cw (mt_P sc) (mt_M sc) 32) := rfl
set_option maxRecDepth 20000 in
theorem mo_33 {sc : Nat × (Nat → Int)} : (tb_K 6)[133]? = some (sm_cw (mt_P sc) (mt_M sc) 33) := rfl
set_option maxRecDepth 20000 in
theorem mo_34 {sc : Nat × (Nat → Int)} : (tb_K 6)[138]? = some (sm_cw (mt_P sc) (mt_M sc) 34) := rfl
set_option maxRecDepth 20000 in
theorem mo_35 {sc : Nat × (Nat → Int)} : (tb_K 6)[148]? = some (sm_cw (mt_P sc) (mt_M sc) 35) := rfl
set_option maxRecDepth 20000 in
theorem mo_36 {sc : Nat × (Nat → Int)} : (tb_K 6)[152]? = some (sm_cw (mt_P sc) (mt_M sc) 36) := rfl
set_option maxRecDepth 20000 in
theorem mo_37 {sc : Nat × (Nat → Int)} : (tb_K 6)[181]? = some (sm_cw (mt_P sc) (mt_M sc) 37) := rfl
set_option maxRecDepth 20000 in
theorem mo_38 {sc : Nat × (Nat → Int)} : (tb_K 6)[188]? = some (sm_cw (mt_P sc) (mt_M sc) 38) := rfl
set_option maxRecDepth 20000 in
theorem mo_39 {sc : Nat × (Nat → Int)} : (tb_K 6)[156]? = some (sm_cw (mt_P sc) (mt_M sc) 39) := rfl
set_option maxRecDepth 20000 in
theorem mo_40 {sc : Nat × (Nat → Int)} : (tb_K 6)[160]? = some (sm_cw (mt_P sc) (mt_M sc) 40) := rfl
set_option maxRecDepth 20000 in
theorem mo_41 {sc : Nat × (Nat → Int)} : (tb_K 6)[173]? = some (sm_cw (mt_P sc) (mt_M sc) 41) := rfl
set_option maxRecDepth 20000 in
theorem mo_42 {sc : Nat × (Nat → Int)} : (tb_K 6)[169]? = some (sm_cw (mt_P sc) (mt_M sc) 42) := rfl
set_option maxRecDepth 20000 in
theorem mo_43 {sc : Nat × (Nat → Int)} : (tb_K 6)[177]? = some (sm_cw (mt_P sc) (mt_M sc) 43) := rfl
set_option maxRecDepth 20000 in
theorem mo_44 {sc : Nat × (Nat → Int)} : (tb_K 6)[164]? = some (sm_cw (mt_P sc) (mt_M sc) 44) := rfl
set_option maxRecDepth 20000 in
theorem mo_45 {sc : Nat × (Nat → Int)} : (tb_K 6)[192]? = some (sm_cw (mt_P sc) (mt_M sc) 45) := rfl
set_option maxRecDepth 20000 in
theorem mo_46 {sc : Nat × (Nat → Int)} : (tb_K 6)[196]? = some (sm_cw (mt_P sc) (mt_M sc) 46) := rfl
set_option maxRecDepth 20000 in
theorem mo_47 {sc : Nat × (Nat → Int)} : (tb_K 6)[208]? = some (sm_cw (mt_P sc) (mt_M sc) 47) := rfl
set_option maxRecDepth 20000 in
theorem mo_48 {sc : Nat × (Nat → Int)} : (tb_K 6)[213]? = some (sm_cw (mt_P sc) (mt_M sc) 48) := rfl
set_option maxRecDepth 20000 in
theorem mo_49 {sc : Nat × (Nat → Int)} : (tb_K 6)[216]? = some (sm_cw (mt_P sc) (mt_M sc) 49) := rfl
set_option maxRecDepth 20000 in
theorem mo_50 {sc : Nat × (Nat → Int)} : (tb_K 6)[223]? = some (sm_cw (mt_P sc) (mt_M sc) 50) := rfl
set_option maxRecDepth 20000 in
theorem mo_51 {sc : Nat × (Nat → Int)} : (tb_K 6)[227]? = some (sm_cw (mt_P sc) (mt_M sc) 51) := rfl
set_option maxRecDepth 20000 in
theorem mo_52 {sc : Nat × (Nat → Int)} : (tb_K 7)[3]? = some (sm_cw (mt_P sc) (mt_M sc) 52) := rfl
set_option maxRecDepth 20000 in
theorem mo_53 {sc : Nat × (Nat → Int)} : (tb_K 8)[25]? = some (sm_cw (mt_P sc) (mt_M sc) 53) := rfl
set_option maxRecDepth 20000 in
theorem mo_54 {sc : Nat × (Nat → Int)} : (tb_K 8)[60]? = some (sm_cw (mt_P sc) (mt_M sc) 54) := rfl
set_option maxRecDepth 20000 in
theorem mo_55 {sc : Nat × (Nat → Int)} : (tb_K 8)[129]? = some (sm_cw (mt_P sc) (mt_M sc) 55) := rfl
set_option maxRecDepth 20000 in
theorem mo_56 {sc : Nat × (Nat → Int)} : (tb_K 8)[137]? = some (sm_cw (mt_P sc) (mt_M sc) 56) := rfl
set_option maxRecDepth 20000 in
theorem mo_57 {sc : Nat × (Nat → Int)} : (tb_K 8)[114]? = some (sm_cw (mt_P sc) (mt_M sc) 57) := rfl
set_option maxRecDepth 20000 in
theorem mo_58 {sc : Nat × (Nat → Int)} : (tb_K 8)[118]? = some (sm_cw (mt_P sc) (mt_M sc) 58) := rfl
set_option maxRecDepth 20000 in
theorem mo_59 {sc : Nat × (Nat → Int)} : (tb_K 8)[77]? = some (sm_cw (mt_P sc) (mt_M sc) 59) := rfl
set_option maxRecDepth 20000 in
theorem mo_60 {sc : Nat × (Nat → Int)} : (tb_K 8)[133]? = some (sm_cw (mt_P sc) (mt_M sc) 60) := rfl
set_option maxRecDepth 20000 in
theorem mo_61 {sc : Nat × (Nat → Int)} : (tb_K 11)[136]? = some (sm_cw (mt_P sc) (mt_M sc) 61) := rfl
set_option maxRecDepth 20000 in
theorem mo_62 {sc : Nat × (Nat → Int)} : (tb_K 11)[181]? = some (sm_cw (mt_P sc) (mt_M sc) 62) := rfl
set_option maxRecDepth 20000 in
theorem mo_63 {sc : Nat × (Nat → Int)} : (tb_K 6)[142]? = some (sm_cw (mt_P sc) (mt_M sc) 63) := rfl
set_option maxRecDepth 20000 in
theorem mo_64 {sc : Nat × (Nat → Int)} : (tb_K 6)[238]? = some (sm_cw (mt_P sc) (mt_M sc) 64) := rfl
set_option maxRecDepth 20000 in
theorem mo_65 {sc : Nat × (Nat → Int)} : (tb_K 6)[204]? = some (sm_cw (mt_P sc) (mt_M sc) 65) := rfl
set_option maxRecDepth 20000 in
theorem mo_66 {sc : Nat × (Nat → Int)} : (tb_K 6)[200]? = some (sm_cw (mt_P sc) (mt_M sc) 66) := rfl
set_option maxRecDepth 20000 in
theorem mo_67 {sc : Nat × (Nat → Int)} : (tb_K 6)[231]? = some (sm_cw (mt_P sc) (mt_M sc) 67) := rfl
set_option maxRecDepth 20000 in
theorem mo_68 {sc : Nat × (Nat → Int)} : (tb_K 10)[185]? = some (sm_cw (mt_P sc) (mt_M sc) 68) := rfl
set_option maxRecDepth 20000 in
theorem mo_69 {sc : Nat × (Nat → Int)} : (tb_K 10)[177]? = some (sm_cw (mt_P sc) (mt_M sc) 69) := rfl
set_option maxRecDepth 20000 in
theorem mo_70 {sc : Nat × (Nat → Int)} : (tb_K 10)[212]? = some (sm_cw (mt_P sc) (mt_M sc) 70) := rfl
set_option maxRecDepth 20000 in
theorem mo_71 {sc : Nat × (Nat → Int)} : (tb_K 10)[160]? = some (sm_cw (mt_P sc) (mt_M sc) 71) := rfl
set_option maxRecDepth 20000 in
theorem mo_72 {sc : Nat × (Nat → Int)} : (tb_K 10)[181]? = some (sm_cw (mt_P sc) (mt_M sc) 72) := rfl
set_option maxRecDepth 20000 in
theorem mo_73 {sc : Nat × (Nat → Int)} : (tb_K 10)[165]? = some (sm_cw (mt_P sc) (mt_M sc) 73) := rfl
set_option maxRecDepth 20000 in
theorem mo_74 {sc : Nat × (Nat → Int)} : (tb_K 10)[169]? = some (sm_cw (mt_P sc) (mt_M sc) 74) := rfl
set_option maxRecDepth 20000 in
theorem mo_75 {sc : Nat × (Nat → Int)} : (tb_K 10)[173]? = some (sm_cw (mt_P sc) (mt_M sc) 75) := rfl
set_option maxRecDepth 20000 in
theorem mo_76 {sc : Nat × (Nat → Int)} : (tb_K 10)[228]? = some (sm_cw (mt_P sc) (mt_M sc) 76) := rfl
set_option maxRecDepth 20000 in
theorem mo_77 {sc : Nat × (Nat → Int)} : (tb_K 10)[232]? = some (sm_cw (mt_P sc) (mt_M sc) 77) := rfl
set_option maxRecDepth 20000 in
theorem mo_78 {sc : Nat × (Nat → Int)} : (tb_K 11)[27]? = some (sm_cw (mt_P sc) (mt_M sc) 78) := rfl
set_option maxRecDepth 20000 in
theorem mo_79 {sc : Nat × (Nat → Int)} : (tb_K 10)[224]? = some (sm_cw (mt_P sc) (mt_M sc) 79) := rfl
set_option maxRecDepth 20000 in
theorem mo_80 {sc : Nat × (Nat → Int)} : (tb_K 11)[4]? = some (sm_cw (mt_P sc) (mt_M sc) 80) := rfl
set_option maxRecDepth 20000 in
theorem mo_81 {sc : Nat × (Nat → Int)} : (tb_K 11)[8]? = some (sm_cw (mt_P sc) (mt_M sc) 81) := rfl
set_option maxRecDepth 20000 in
theorem mo_82 {sc : Nat × (Nat → Int)} : (tb_K 11)[19]? = some (sm_cw (mt_P sc) (mt_M sc) 82) := rfl
set_option maxRecDepth 20000 in
theorem mo_83 {sc : Nat × (Nat → Int)} : (tb_K 11)[23]? = some (sm_cw (mt_P sc) (mt_M sc) 83) := rfl
set_option maxRecDepth 20000 in
theorem mo_84 {sc : Nat × (Nat → Int)} : (tb_K 11)[31]? = some (sm_cw (mt_P sc) (mt_M sc) 84) := rfl
set_option maxRecDepth 20000 in
theorem mo_85 {sc : Nat × (Nat → Int)} : (tb_K 11)[35]? = some (sm_cw (mt_P sc) (mt_M sc) 85) := rfl
set_option maxRecDepth 20000 in
theorem mo_86 {sc : Nat × (Nat → Int)} : (tb_K 11)[41]? = some (sm_cw (mt_P sc) (mt_M sc) 86) := rfl
set_option maxRecDepth 20000 in
theorem mo_87 {sc : Nat × (Nat → Int)} : (tb_K 11)[55]? = some (sm_cw (mt_P sc) (mt_M sc) 87) := rfl
set_option maxRecDepth 20000 in
theorem mo_88 {sc : Nat × (Nat → Int)} : (tb_K 7)[30]? = some (sm_cw (mt_P sc) (mt_M sc) 88) := rfl
set_option maxRecDepth 20000 in
theorem mo_89 {sc : Nat × (Nat → Int)} : (tb_K 7)[34]? = some (sm_cw (mt_P sc) (mt_M sc) 89) := rfl
set_option maxRecDepth 20000 in
theorem mo_90 {sc : Nat × (Nat → Int)} : (tb_K 8)[29]? = some (sm_cw (mt_P sc) (mt_M sc) 90) := rfl
set_option maxRecDepth 20000 in
theorem mo_91 {sc : Nat × (Nat → Int)} : (tb_K 7)[182]? = some (sm_cw (mt_P sc) (mt_M sc) 91) := rfl
set_option maxRecDepth 20000 in
theorem mo_92 {sc : Nat × (Nat → Int)} : (tb_K 7)[196]? = some (sm_cw (mt_P sc) (mt_M sc) 92) := rfl
set_option maxRecDepth 20000 in
theorem mo_93 {sc : Nat × (Nat → Int)} : (tb_K 7)[200]? = some (sm_cw (mt_P sc) (mt_M sc) 93) := rfl
set_option maxRecDepth 20000 in
theorem mo_94 {sc : Nat × (Nat → Int)} : (tb_K 7)[230]? = some (sm_cw (mt_P sc) (mt_M sc) 94) := rfl
set_option maxRecDepth 20000 in
theorem mo_95 {sc : Nat × (Nat → Int)} : (tb_K 7)[187]? = some (sm_cw (mt_P sc) (mt_M sc) 95) := rfl
set_option maxRecDepth 20000 in
theorem mo_96 {sc : Nat × (Nat → Int)} : (tb_K 8)[21]? = some (sm_cw (mt_P sc) (mt_M sc) 96) := rfl
set_option maxRecDepth 20000 in
theorem mo_97 {sc : Nat × (Nat → Int)} : (tb_K 7)[204]? = some (sm_cw (mt_P sc) (mt_M sc) 97) := rfl
set_option maxRecDepth 20000 in
theorem mo_98 {sc : Nat × (Nat → Int)} : (tb_K 7)[207]? = some (sm_cw (mt_P sc) (mt_M sc) 98) := rfl
set_option maxRecDepth 20000 in
theorem mo_99 {sc : Nat × (Nat → Int)} : (tb_K 7)[213]? = some (sm_cw (mt_P sc) (mt_M sc) 99) := rfl
set_option maxRecDepth 20000 in
theorem mo_100 {sc : Nat × (Nat → Int)} : (tb_K 7)[218]? = some (sm_cw (mt_P sc) (mt_M sc) 100) := rfl
set_option maxRecDepth 20000 in
theorem mo_101 {sc : Nat × (Nat → Int)} : (tb_K 7)[222]? = some (sm_cw (mt_P sc) (mt_M sc) 101) := rfl
set_option maxRecDepth 20000 in
theorem mo_102 {sc : Nat × (Nat → Int)} : (tb_K 7)[226]? = some (sm_cw (mt_P sc) (mt_M sc) 102) := rfl
set_option maxRecDepth 20000 in
theorem mo_103 {sc : Nat × (Nat → Int)} : (tb_K 7)[234]? = some (sm_cw (mt_P sc) (mt_M sc) 103) := rfl
set_option maxRecDepth 20000 in
theorem mo_104 {sc : Nat × (Nat → Int)} : (tb_K 7)[238]? = some (sm_cw (mt_P sc) (mt_M sc) 104) := rfl
set_option maxRecDepth 20000 in
theorem mo_105 {sc : Nat × (Nat → Int)} : (tb_K 8)[2]? = some (sm_cw (mt_P sc) (mt_M sc) 105) := rfl
set_option maxRecDepth 20000 in
theorem mo_106 {sc : Nat × (Nat → Int)} : (tb_K 8)[6]? = some (sm_cw (mt_P sc) (mt_M sc) 106) := rfl
set_option maxRecDepth 20000 in
theorem mo_107 {sc : Nat × (Nat → Int)} : (tb_K 8)[12]? = some (sm_cw (mt_P sc) (mt_M sc) 107) := rfl
set_option maxRecDepth 20000 in
theorem mo_108 {sc : Nat × (Nat → Int)} : (tb_K 8)[16]? = some (sm_cw (mt_P sc) (mt_M sc) 108) := rfl
set_option maxRecDepth 20000 in
theorem mo_109 {sc : Nat × (Nat → Int)} : (tb_K 8)[35]? = some (sm_cw (mt_P sc) (mt_M sc) 109) := rfl
set_option maxRecDepth 20000 in
theorem mo_110 {sc : Nat × (Nat → Int)} : (tb_K 8)[39]? = some (sm_cw (mt_P sc) (mt_M sc) 110) := rfl
set_option maxRecDepth 20000 in
theorem mo_111 {sc : Nat × (Nat → Int)} : (tb_K 8)[48]? = some (sm_cw (mt_P sc) (mt_M sc) 111) := rfl
set_option maxRecDepth 20000 in
theorem mo_112 {sc : Nat × (Nat → Int)} : (tb_K 8)[52]? = some (sm_cw (mt_P sc) (mt_M sc) 112) := rfl
set_option maxRecDepth 20000 in
theorem mo_113 {sc : Nat × (Nat → Int)} : (tb_K 8)[44]? = some (sm_cw (mt_P sc) (mt_M sc) 113) := rfl
set_option maxRecDepth 20000 in
theorem mo_114 {sc : Nat × (Nat → Int)} : (tb_K 8)[56]? = some (sm_cw (mt_P sc) (mt_M sc) 114) := rfl
set_option maxRecDepth 20000 in
theorem mo_115 {sc : Nat × (Nat → Int)} : (tb_K 5)[75]? = some (sm_cw (mt_P sc) (mt_M sc) 115) := rfl
set_option maxRecDepth 20000 in
theorem mo_116 {sc : Nat × (Nat → Int)} : (tb_K 5)[211]? = some (sm_cw (mt_P sc) (mt_M sc) 116) := rfl
set_option maxRecDepth 20000 in
theorem mo_117 {sc : Nat × (Nat → Int)} : (tb_K 6)[119]? = some (sm_cw (mt_P sc) (mt_M sc) 117) := rfl
set_option maxRecDepth 20000 in
theorem mo_118 {sc : Nat × (Nat → Int)} : (tb_K 5)[224]? = some (sm_cw (mt_P sc) (mt_M sc) 118) := rfl
set_option maxRecDepth 20000 in
theorem mo_119 {sc : Nat × (Nat → Int)} : (tb_K 6)[1]? = some (sm_cw (mt_P sc) (mt_M sc) 119) := rfl
set_option maxRecDepth 20000 in
theorem mo_120 {sc : Nat × (Nat → Int)} : (tb_K 5)[237]? = some (sm_cw (mt_P sc) (mt_M sc) 120) := rfl
set_option maxRecDepth 20000 in
theorem mo_121 {sc : Nat × (Nat → Int)} : (tb_K 6)[13]? = some (sm_cw (mt_P sc) (mt_M sc) 121) := rfl
set_option maxRecDepth 20000 in
theorem mo_122 {sc : Nat × (Nat → Int)} : (tb_K 6)[9]? = some (sm_cw (mt_P sc) (mt_M sc) 122) := rfl
set_option maxRecDepth 20000 in
theorem mo_123 {sc : Nat × (Nat → Int)} : (tb_K 6)[5]? = some (sm_cw (mt_P sc) (mt_M sc) 123) := rfl
set_option maxRecDepth 20000 in
theorem mo_124 {sc : Nat × (Nat → Int)} : (tb_K 5)[233]? = some (sm_cw (mt_P sc) (mt_M sc) 124) := rfl
set_option maxRecDepth 20000 in
theorem mo_125 {sc : Nat × (Nat → Int)} : (tb_K 6)[17]? = some (sm_cw (mt_P sc) (mt_M sc) 125) := rfl
set_option maxRecDepth 20000 in
theorem mo_126 {sc : Nat × (Nat → Int)} : (tb_K 6)[99]? = some (sm_cw (mt_P sc) (mt_M sc) 126) := rfl
set_option maxRecDepth 20000 in
theorem mo_127 {sc : Nat × (Nat → Int)} : (tb_K 6)[115]? = some (sm_cw (mt_P sc) (mt_M sc) 127) := rfl
set_option maxRecDepth 20000 in
theorem mo_128 {sc : Nat × (Nat → Int)} : (tb_K 6)[103]? = some (sm_cw (mt_P sc) (mt_M sc) 128) := rfl
set_option maxRecDepth 20000 in
theorem mo_129 {sc : Nat × (Nat → Int)} : (tb_K 6)[107]? = some (sm_cw (mt_P sc) (mt_M sc) 129) := rfl
set_option maxRecDepth 20000 in
theorem mo_130 {sc : Nat × (Nat → Int)} : (tb_K 6)[111]? = some (sm_cw (mt_P sc) (mt_M sc) 130) := rfl
set_option maxRecDepth 20000 in
theorem mo_131 {sc : Nat × (Nat → Int)} : (tb_K 7)[18]? = some (sm_cw (mt_P sc) (mt_M sc) 131) := rfl
set_option maxRecDepth 20000 in
theorem mo_132 {sc : Nat × (Nat → Int)} : (tb_K 7)[22]? = some (sm_cw (mt_P sc) (mt_M sc) 132) := rfl
set_option maxRecDepth 20000 in
theorem mo_133 {sc : Nat × (Nat → Int)} : (tb_K 7)[26]? = some (sm_cw (mt_P sc) (mt_M sc) 133) := rfl
set_option maxRecDepth 20000 in
theorem mo_134 {sc : Nat × (Nat → Int)} : (tb_K 6)[21]? = some (sm_cw (mt_P sc) (mt_M sc) 134) := rfl
set_option maxRecDepth 20000 in
theorem mo_135 {sc : Nat × (Nat → Int)} : (tb_K 6)[25]? = some (sm_cw (mt_P sc) (mt_M sc) 135) := rfl
set_option maxRecDepth 20000 in
theorem mo_136 {sc : Nat × (Nat → Int)} : (tb_K 6)[29]? = some (sm_cw (mt_P sc) (mt_M sc) 136) := rfl
set_option maxRecDepth 20000 in
theorem mo_137 {sc : Nat × (Nat → Int)} : (tb_K 6)[33]? = some (sm_cw (mt_P sc) (mt_M sc) 137) := rfl
set_option maxRecDepth 20000 in
theorem mo_138 {sc : Nat × (Nat → Int)} : (tb_K 6)[45]? = some (sm_cw (mt_P sc) (mt_M sc) 138) := rfl
set_option maxRecDepth 20000 in
theorem mo_139 {sc : Nat × (Nat → Int)} : (tb_K 6)[63]? = some (sm_cw (mt_P sc) (mt_M sc) 139) := rfl
set_option maxRecDepth 20000 in
theorem mo_140 {sc : Nat × (Nat → Int)} : (tb_K 6)[41]? = some (sm_cw (mt_P sc) (mt_M sc) 140) := rfl
set_option maxRecDepth 20000 in
theorem mo_141 {sc : Nat × (Nat → Int)} : (tb_K 6)[57]? = some (sm_cw (mt_P sc) (mt_M sc) 141) := rfl
set_option maxRecDepth 20000 in
theorem mo_142 {sc : Nat × (Nat → Int)} : (tb_K 6)[37]? = some (sm_cw (mt_P sc) (mt_M sc) 142) := rfl
set_option maxRecDepth 20000 in
theorem mo_143 {sc : Nat × (Nat → Int)} : (tb_K 6)[49]? = some (sm_cw (mt_P sc) (mt_M sc) 143) := rfl
set_option maxRecDepth 20000 in
theorem mo_144 {sc : Nat × (Nat → Int)} : (tb_K 6)[53]? = some (sm_cw (mt_P sc) (mt_M sc) 144) := rfl
set_option maxRecDepth 20000 in
theorem mo_145 {sc : Nat × (Nat → Int)} : (tb_K 6)[67]? = some (sm_cw (mt_P sc) (mt_M sc) 145) := rfl
set_option maxRecDepth 20000 in
theorem mo_146 {sc : Nat × (Nat → Int)} : (tb_K 6)[71]? = some (sm_cw (mt_P sc) (mt_M sc) 146) := rfl
set_option maxRecDepth 20000 in
theorem mo_147 {sc : Nat × (Nat → Int)} : (tb_K 6)[79]? = some (sm_cw (mt_P sc) (mt_M sc) 147) := rfl
set_option maxRecDepth 20000 in
theorem mo_148 {sc : Nat × (Nat → Int)} : (tb_K 6)[75]? = some (sm_cw (mt_P sc) (mt_M sc) 148) := rfl
set_option maxRecDepth 20000 in
theorem mo_149 {sc : Nat × (Nat → Int)} : (tb_K 6)[83]? = some (sm_cw (mt_P sc) (mt_M sc) 149) := rfl
set_option maxRecDepth 20000 in
theorem mo_150 {sc : Nat × (Nat → Int)} : (tb_K 6)[91]? = some (sm_cw (mt_P sc) (mt_M sc) 150) := rfl
set_option maxRecDepth 20000 in
theorem mo_151 {sc : Nat × (Nat → Int)} : (tb_K 6)[87]? = some (sm_cw (mt_P sc) (mt_M sc) 151) := rfl
set_option maxRecDepth 20000 in
theorem mo_152 {sc : Nat × (Nat → Int)} : (tb_K 6)[95]? = some (sm_cw (mt_P sc) (mt_M sc) 152) := rfl
set_option maxRecDepth 20000 in
theorem mo_153 {sc : Nat × (Nat → Int)} : (tb_K 9)[48]? = some (sm_cw (mt_P sc) (mt_M sc) 153) := rfl
set_option maxRecDepth 20000 in
theorem mo_154 {sc : Nat × (Nat → Int)} : (tb_K 9)[53]? = some (sm_cw (mt_P sc) (mt_M sc) 154) := rfl
set_option maxRecDepth 20000 in
theorem mo_155 {sc : Nat × (Nat → Int)} : (tb_K 9)[62]? = some (sm_cw (mt_P sc) (mt_M sc) 155) := rfl
set_option maxRecDepth 20000 in
theorem mo_156 {sc : Nat × (Nat → Int)} : (tb_K 10)[120]? = some (sm_cw (mt_P sc) (mt_M sc) 156) := rfl
set_option maxRecDepth 20000 in
theorem mo_157 {sc : Nat × (Nat → Int)} : (tb_K 9)[66]? = some (sm_cw (mt_P sc) (mt_M sc) 157) := rfl
set_option maxRecDepth 20000 in
theorem mo_158 {sc : Nat × (Nat → Int)} : (tb_K 9)[70]? = some (sm_cw (mt_P sc) (mt_M sc) 158) := rfl
set_option maxRecDepth 20000 in
theorem mo_159 {sc : Nat × (Nat → Int)} : (tb_K 10)[94]? = some (sm_cw (mt_P sc) (mt_M sc) 159) := rfl
set_option maxRecDepth 20000 in
theorem mo_160 {sc : Nat × (Nat → Int)} : (tb_K 10)[102]? = some (sm_cw (mt_P sc) (mt_M sc) 160) := rfl
set_option maxRecDepth 20000 in
theorem mo_161 {sc : Nat × (Nat → Int)} : (tb_K 9)[74]? = some (sm_cw (mt_P sc) (mt_M sc) 161) := rfl
set_option maxRecDepth 20000 in
theorem mo_162 {sc : Nat × (Nat → Int)} : (tb_K 10)[86]? = some (sm_cw (mt_P sc) (mt_M sc) 162) := rfl
set_option maxRecDepth 20000 in
theorem mo_163 {sc : Nat × (Nat → Int)} : (tb_K 10)[90]? = some (sm_cw (mt_P sc) (mt_M sc) 163) := rfl
set_option maxRecDepth 20000 in
theorem mo_164 {sc : Nat × (Nat → Int)} : (tb_K 10)[110]? = some (sm_cw (mt_P sc) (mt_M sc) 164) := rfl
set_option maxRecDepth 20000 in
theorem mo_165 {sc : Nat × (Nat → Int)} : (tb_K 10)[98]? = some (sm_cw (mt_P sc) (mt_M sc) 165) := rfl
set_option maxRecDepth 20000 in
theorem mo_166 {sc : Nat × (Nat → Int)} : (tb_K 10)[106]? = some (sm_cw (mt_P sc) (mt_M sc) 166) := rfl
set_option maxRecDepth 20000 in
theorem mo_167 {sc : Nat × (Nat → Int)} : (tb_K 10)[114]? = some (sm_cw (mt_P sc) (mt_M sc) 167) := rfl
set_option maxRecDepth 20000 in
theorem mo_168 {sc : Nat × (Nat → Int)} : (tb_K 8)[90]? = some (sm_cw (mt_P sc) (mt_M sc) 168) := rfl
set_option maxRecDepth 20000 in
theorem mo_169 {sc : Nat × (Nat → Int)} : (tb_K 8)[86]? = some (sm_cw (mt_P sc) (mt_M sc) 169) := rfl
set_option maxRecDepth 20000 in
theorem mo_170 {sc : Nat × (Nat → Int)} : (tb_K 8)[109]? = some (sm_cw (mt_P sc) (mt_M sc) 170) := rfl
set_option maxRecDepth 20000 in
theorem mo_171 {sc : Nat × (Nat → Int)} : (tb_K 8)[106]? = some (sm_cw (mt_P sc) (mt_M sc) 171) := rfl
set_option maxRecDepth 20000 in
theorem mo_172 {sc : Nat × (Nat → Int)} : (tb_K 8)[103]? = some (sm_cw (mt_P sc) (mt_M sc) 172) := rfl
set_option maxRecDepth 20000 in
theorem mo_173 {sc : Nat × (Nat → Int)} : (tb_K 8)[98]? = some (sm_cw (mt_P sc) (mt_M sc) 173) := rfl
set_option maxRecDepth 20000 in
theorem mo_174 {sc : Nat × (Nat → Int)} : (tb_K 11)[191]? = some (sm_cw (mt_P sc) (mt_M sc) 174) := rfl
set_option maxRecDepth 20000 in
theorem mo_175 {sc : Nat × (Nat → Int)} : (tb_K 11)[200]? = some (sm_cw (mt_P sc) (mt_M sc) 175) := rfl
set_option maxRecDepth 20000 in
theorem mo_176 {sc : Nat × (Nat → Int)} : (tb_K 11)[219]? = some (sm_cw (mt_P sc) (mt_M sc) 176) := rfl
set_option maxRecDepth 20000 in
theorem mo_177 {sc : Nat × (Nat → Int)} : (tb_K 11)[187]? = some (sm_cw (mt_P sc) (mt_M sc) 177) := rfl
set_option maxRecDepth 20000 in
theorem mo_178 {sc : Nat × (Nat → Int)} : (tb_K 12)[44]? = some (sm_cw (mt_P sc) (mt_M sc) 178) := rfl
set_option maxRecDepth 20000 in
theorem mo_179 {sc : Nat × (Nat → Int)} : (tb_K 11)[230]? = some (sm_cw (mt_P sc) (mt_M sc) 179) := rfl
set_option maxRecDepth 20000 in
theorem mo_180 {sc : Nat × (Nat → Int)} : (tb_K 11)[236]? = some (sm_cw (mt_P sc) (mt_M sc) 180) := rfl
set_option maxRecDepth 20000 in
theorem mo_181 {sc : Nat × (Nat → Int)} : (tb_K 12)[1]? = some (sm_cw (mt_P sc) (mt_M sc) 181) := rfl
set_option maxRecDepth 20000 in
theorem mo_182 {sc : Nat × (Nat → Int)} : (tb_K 12)[5]? = some (sm_cw (mt_P sc) (mt_M sc) 182) := rfl
set_option maxRecDepth 20000 in
theorem mo_183 {sc : Nat × (Nat → Int)} : (tb_K 12)[48]? = some (sm_cw (mt_P sc) (mt_M sc) 183) := rfl
set_option maxRecDepth 20000 in
theorem mo_184 {sc : Nat × (Nat → Int)} : (tb_K 12)[33]? = some (sm_cw (mt_P sc) (mt_M sc) 184) := rfl
set_option maxRecDepth 20000 in
theorem mo_185 {sc : Nat × (Nat → Int)} : (tb_K 5)[33]? = some (sm_cw (mt_P sc) (mt_M sc) 185) := rfl
set_option maxRecDepth 20000 in
theorem mo_186 {sc : Nat × (Nat → Int)} : (tb_K 5)[79]? = some (sm_cw (mt_P sc) (mt_M sc) 186) := rfl
set_option maxRecDepth 20000 in
theorem mo_187 {sc : Nat × (Nat → Int)} : (tb_K 5)[192]? = some (sm_cw (mt_P sc) (mt_M sc) 187) := rfl
set_option maxRecDepth 20000 in
theorem mo_188 {sc : Nat × (Nat → Int)} : (tb_K 5)[215]? = some (sm_cw (mt_P sc) (mt_M sc) 188) := rfl
set_option maxRecDepth 20000 in
theorem mo_189 {sc : Nat × (Nat → Int)} : (tb_K 5)[220]? = some (sm_cw (mt_P sc) (mt_M sc) 189) := rfl
set_option maxRecDepth 20000 in
theorem mo_190 {sc : Nat × (Nat → Int)} : (tb_K 5)[228]? = some (sm_cw (mt_P sc) (mt_M sc) 190) := rfl
set_option maxRecDepth 20000 in
theorem mo_191 {sc : Nat × (Nat → Int)} : (tb_K 5)[83]? = some (sm_cw (mt_P sc) (mt_M sc) 191) := rfl
set_option maxRecDepth 20000 in
theorem mo_192 {sc : Nat × (Nat → Int)} : (tb_K 5)[87]? = some (sm_cw (mt_P sc) (mt_M sc) 192) := rfl
set_option maxRecDepth 20000 in
theorem mo_193 {sc : Nat × (Nat → Int)} : (tb_K 5)[91]? = some (sm_cw (mt_P sc) (mt_M sc) 193) := rfl
set_option maxRecDepth 20000 in
theorem mo_194 {sc : Nat × (Nat → Int)} : (tb_K 5)[97]? = some (sm_cw (mt_P sc) (mt_M sc) 194) := rfl
set_option maxRecDepth 20000 in
theorem mo_195 {sc : Nat × (Nat → Int)} : (tb_K 5)[101]? = some (sm_cw (mt_P sc) (mt_M sc) 195) := rfl
set_option maxRecDepth 20000 in
theorem mo_196 {sc : Nat × (Nat → Int)} : (tb_K 11)[71]? = some (sm_cw (mt_P sc) (mt_M sc) 196) := rfl
set_option maxRecDepth 20000 in
theorem mo_197 {sc : Nat × (Nat → Int)} : (tb_K 11)[67]? = some (sm_cw (mt_P sc) (mt_M sc) 197) := rfl
set_option maxRecDepth 20000 in
theorem mo_198 {sc : Nat × (Nat → Int)} : (tb_K 11)[125]? = some (sm_cw (mt_P sc) (mt_M sc) 198) := rfl
set_option maxRecDepth 20000 in
theorem mo_199 {sc : Nat × (Nat → Int)} : (tb_K 11)[96]? = some (sm_cw (mt_P sc) (mt_M sc) 199) := rfl
set_option maxRecDepth 20000 in
theorem mo_200 {sc : Nat × (Nat → Int)} : (tb_K 11)[100]? = some (sm_cw (mt_P sc) (mt_M sc) 200) := rfl
set_option maxRecDepth 20000 in
theorem mo_201 {sc : Nat × (Nat → Int)} : (tb_K 11)[117]? = some (sm_cw (mt_P sc) (mt_M sc) 201) := rfl
set_option maxRecDepth 20000 in
theorem mo_202 {sc : Nat × (Nat → Int)} : (tb_K 11)[121]? = some (sm_cw (mt_P sc) (mt_M sc) 202) := rfl
set_option maxRecDepth 20000 in
theorem mo_203 {sc : Nat × (Nat → Int)} : (tb_K 11)[107]? = some (sm_cw (mt_P sc) (mt_M sc) 203) := rfl
set_option maxRecDepth 20000 in
theorem mo_204 {sc : Nat × (Nat → Int)} : (tb_K 11)[112]? = some (sm_cw (mt_P sc) (mt_M sc) 204) := rfl
set_option maxRecDepth 20000 in
theorem mo_205 {sc : Nat × (Nat → Int)} : (tb_K 11)[141]? = some (sm_cw (mt_P sc) (mt_M sc) 205) := rfl
set_option maxRecDepth 20000 in
theorem mo_206 {sc : Nat × (Nat → Int)} : (tb_K 11)[145]? = some (sm_cw (mt_P sc) (mt_M sc) 206) := rfl
set_option maxRecDepth 20000 in
theorem mo_207 {sc : Nat × (Nat → Int)} : (tb_K 11)[149]? = some (sm_cw (mt_P sc) (mt_M sc) 207) := rfl
set_option maxRecDepth 20000 in
theorem mo_208 {sc : Nat × (Nat → Int)} : (tb_K 11)[170]? = some (sm_cw (mt_P sc) (mt_M sc) 208) := rfl
set_option maxRecDepth 20000 in
theorem mo_209 {sc : Nat × (Nat → Int)} : (tb_K 11)[155]? = some (sm_cw (mt_P sc) (mt_M sc) 209) := rfl
set_option maxRecDepth 20000 in
theorem mo_210 {sc : Nat × (Nat → Int)} : (tb_K 11)[166]? = some (sm_cw (mt_P sc) (mt_M sc) 210) := rfl
set_option maxRecDepth 20000 in
theorem mo_211 {sc : Nat × (Nat → Int)} : (tb_K 4)[199]? = some (sm_cw (mt_P sc) (mt_M sc) 211) := rfl
set_option maxRecDepth 20000 in
theorem mo_212 {sc : Nat × (Nat → Int)} : (tb_K 5)[41]? = some (sm_cw (mt_P sc) (mt_M sc) 212) := rfl
set_option maxRecDepth 20000 in
theorem mo_213 {sc : Nat × (Nat → Int)} : (tb_K 5)[66]? = some (sm_cw (mt_P sc) (mt_M sc) 213) := rfl
set_option maxRecDepth 20000 in
theorem mo_214 {sc : Nat × (Nat → Int)} : (tb_K 7)[10]? = some (sm_cw (mt_P sc) (mt_M sc) 214) := rfl
set_option maxRecDepth 20000 in
theorem mo_215 {sc : Nat × (Nat → Int)} : (tb_K 4)[187]? = some (sm_cw (mt_P sc) (mt_M sc) 215) := rfl
set_option maxRecDepth 20000 in
theorem mo_216 {sc : Nat × (Nat → Int)} : (tb_K 4)[191]? = some (sm_cw (mt_P sc) (mt_M sc) 216) := rfl
set_option maxRecDepth 20000 in
theorem mo_217 {sc : Nat × (Nat → Int)} : (tb_K 7)[42]? = some (sm_cw (mt_P sc) (mt_M sc) 217) := rfl
set_option maxRecDepth 20000 in
theorem mo_218 {sc : Nat × (Nat → Int)} : (tb_K 7)[79]? = some (sm_cw (mt_P sc) (mt_M sc) 218) := rfl
set_option maxRecDepth 20000 in
theorem mo_219 {sc : Nat × (Nat → Int)} : (tb_K 7)[86]? = some (sm_cw (mt_P sc) (mt_M sc) 219) := rfl
set_option maxRecDepth 20000 in
theorem mo_220 {sc : Nat × (Nat → Int)} : (tb_K 7)[94]? = some (sm_cw (mt_P sc) (mt_M sc) 220) := rfl
set_option maxRecDepth 20000 in
theorem mo_221 {sc : Nat × (Nat → Int)} : (tb_K 7)[101]? = some (sm_cw (mt_P sc) (mt_M sc) 221) := rfl
set_option maxRecDepth 20000 in
theorem mo_222 {sc : Nat × (Nat → Int)} : (tb_K 7)[108]? = some (sm_cw (mt_P sc) (mt_M sc) 222) := rfl
set_option maxRecDepth 20000 in
theorem mo_223 {sc : Nat × (Nat → Int)} : (tb_K 7)[115]? = some (sm_cw (mt_P sc) (mt_M sc) 223) := rfl
set_option maxRecDepth 20000 in
theorem mo_224 {sc : Nat × (Nat → Int)} : (tb_K 7)[122]? = some (sm_cw (mt_P sc) (mt_M sc) 224) := rfl
set_option maxRecDepth 20000 in
theorem mo_225 {sc : Nat × (Nat → Int)} : (tb_K 7)[130]? = some (sm_cw (mt_P sc) (mt_M sc) 225) := rfl
set_option maxRecDepth 20000 in
theorem mo_226 {sc : Nat × (Nat → Int)} : (tb_K 7)[137]? = some (sm_cw (mt_P sc) (mt_M sc) 226) := rfl
set_option maxRecDepth 20000 in
theorem mo_227 {sc : Nat × (Nat → Int)} : (tb_K 7)[144]? = some (sm_cw (mt_P sc) (mt_M sc) 227) := rfl
set_option maxRecDepth 20000 in
theorem mo_228 {sc : Nat × (Nat → Int)} : (tb_K 7)[160]? = some (sm_cw (mt_P sc) (mt_M sc) 228) := rfl
set_option maxRecDepth 20000 in
theorem mo_229 {sc : Nat × (Nat → Int)} : (tb_K 7)[167]? = some (sm_cw (mt_P sc) (mt_M sc) 229) := rfl
set_option maxRecDepth 20000 in
theorem mo_230 {sc : Nat × (Nat → Int)} : (tb_K 7)[174]? = some (sm_cw (mt_P sc) (mt_M sc) 230) := rfl
set_option maxRecDepth 20000 in
theorem mo_231 {sc : Nat × (Nat → Int)} : (tb_K 8)[125]? = some (sm_cw (mt_P sc) (mt_M sc) 231) := rfl
set_option maxRecDepth 20000 in
theorem mo_232 {sc : Nat × (Nat → Int)} : (tb_K 8)[144]? = some (sm_cw (mt_P sc) (mt_M sc) 232) := rfl
set_option maxRecDepth 20000 in
theorem mo_233 {sc : Nat × (Nat → Int)} : (tb_K 8)[153]? = some (sm_cw (mt_P sc) (mt_M sc) 233) := rfl
set_option maxRecDepth 20000 in
theorem mo_234 {sc : Nat × (Nat → Int)} : (tb_K 8)[160]? = some (sm_cw (mt_P sc) (mt_M sc) 234) := rfl
set_option maxRecDepth 20000 in
theorem mo_235 {sc : Nat × (Nat → Int)} : (tb_K 8)[167]? = some (sm_cw (mt_P sc) (mt_M sc) 235) := rfl
set_option maxRecDepth 20000 in
theorem mo_236 {sc : Nat × (Nat → Int)} : (tb_K 8)[174]? = some (sm_cw (mt_P sc) (mt_M sc) 236) := rfl
set_option maxRecDepth 20000 in
theorem mo_237 {sc : Nat × (Nat → Int)} : (tb_K 8)[181]? = some (sm_cw (mt_P sc) (mt_M sc) 237) := rfl
set_option maxRecDepth 20000 in
theorem mo_238 {sc : Nat × (Nat → Int)} : (tb_K 8)[188]? = some (sm_cw (mt_P sc) (mt_M sc) 238) := rfl
set_option maxRecDepth 20000 in
theorem mo_239 {sc : Nat × (Nat → Int)} : (tb_K 8)[228]? = some (sm_cw (mt_P sc) (mt_M sc) 239) := rfl
set_option maxRecDepth 20000 in
theorem mo_240 {sc : Nat × (Nat → Int)} : (tb_K 8)[239]? = some (sm_cw (mt_P sc) (mt_M sc) 240) := rfl
set_option maxRecDepth 20000 in
theorem mo_241 {sc : Nat × (Nat → Int)} : (tb_K 9)[10]? = some (sm_cw (mt_P sc) (mt_M sc) 241) := rfl
set_option maxRecDepth 20000 in
theorem mo_242 {sc : Nat × (Nat → Int)} : (tb_K 9)[37]? = some (sm_cw (mt_P sc) (mt_M sc) 242) := rfl
set_option maxRecDepth 20000 in
theorem mo_243 {sc : Nat × (Nat → Int)} : (tb_K 9)[44]? = some (sm_cw (mt_P sc) (mt_M sc) 243) := rfl
set_option maxRecDepth 20000 in
theorem mo_244 {sc : Nat × (Nat → Int)} : (tb_K 10)[127]? = some (sm_cw (mt_P sc) (mt_M sc) 244) := rfl
set_option maxRecDepth 20000 in
theorem mo_245 {sc : Nat × (Nat → Int)} : (tb_K 10)[138]? = some (sm_cw (mt_P sc) (mt_M sc) 245) := rfl
set_option maxRecDepth 20000 in
theorem mo_246 {sc : Nat × (Nat → Int)} : (tb_K 10)[156]? = some (sm_cw (mt_P sc) (mt_M sc) 246) := rfl
set_option maxRecDepth 20000 in
theorem mo_247 {sc : Nat × (Nat → Int)} : (tb_K 10)[192]? = some (sm_cw (mt_P sc) (mt_M sc) 247) := rfl
set_option maxRecDepth 20000 in
theorem mo_248 {sc : Nat × (Nat → Int)} : (tb_K 10)[199]? = some (sm_cw (mt_P sc) (mt_M sc) 248) := rfl
set_option maxRecDepth 20000 in
theorem mo_249 {sc : Nat × (Nat → Int)} : (tb_K 10)[208]? = some (sm_cw (mt_P sc) (mt_M sc) 249) := rfl
set_option maxRecDepth 20000 in
theorem mo_250 {sc : Nat × (Nat → Int)} : (tb_K 10)[220]? = some (sm_cw (mt_P sc) (mt_M sc) 250) := rfl
set_option maxRecDepth 20000 in
theorem mo_251 {sc : Nat × (Nat → Int)} : (tb_K 11)[0]? = some (sm_cw (mt_P sc) (mt_M sc) 251) := rfl
set_option maxRecDepth 20000 in
theorem mo_252 {sc : Nat × (Nat → Int)} : (tb_K 11)[15]? = some (sm_cw (mt_P sc) (mt_M sc) 252) := rfl
set_option maxRecDepth 20000 in
theorem mo_253 {sc : Nat × (Nat → Int)} : (tb_K 11)[63]? = some (sm_cw (mt_P sc) (mt_M sc) 253) := rfl
set_option maxRecDepth 20000 in
theorem mo_254 {sc : Nat × (Nat → Int)} : (tb_K 11)[83]? = some (sm_cw (mt_P sc) (mt_M sc) 254) := rfl
set_option maxRecDepth 20000 in
theorem mo_255 {sc : Nat × (Nat → Int)} : (tb_K 11)[92]? = some (sm_cw (mt_P sc) (mt_M sc) 255) := rfl
set_option maxRecDepth 20000 in
theorem mo_256 {sc : Nat × (Nat → Int)} : (tb_K 11)[132]? = some (sm_cw (mt_P sc) (mt_M sc) 256) := rfl
set_option maxRecDepth 20000 in
theorem mo_257 {sc : Nat × (Nat → Int)} : (tb_K 11)[162]? = some (sm_cw (mt_P sc) (mt_M sc) 257) := rfl
set_option maxRecDepth 20000 in
theorem mo_258 {sc : Nat × (Nat → Int)} : (tb_K 11)[177]? = some (sm_cw (mt_P sc) (mt_M sc) 258) := rfl
set_option maxRecDepth 20000 in
theorem mo_259 {sc : Nat × (Nat → Int)} : (tb_K 11)[214]? = some (sm_cw (mt_P sc) (mt_M sc) 259) := rfl
set_option maxRecDepth 20000 in
theorem mo_260 {sc : Nat × (Nat → Int)} : (tb_K 11)[226]? = some (sm_cw (mt_P sc) (mt_M sc) 260) := rfl
set_option maxRecDepth 20000 in
theorem mo_261 {sc : Nat × (Nat → Int)} : (tb_K 12)[12]? = some (sm_cw (mt_P sc) (mt_M sc) 261) := rfl
set_option maxRecDepth 20000 in
theorem mo_262 {sc : Nat × (Nat → Int)} : (tb_K 12)[22]? = some (sm_cw (mt_P sc) (mt_M sc) 262) := rfl
set_option maxRecDepth 20000 in
theorem mo_263 {sc : Nat × (Nat → Int)} : (tb_K 12)[29]? = some (sm_cw (mt_P sc) (mt_M sc) 263) := rfl
set_option maxRecDepth 20000 in
theorem mo_264 {sc : Nat × (Nat → Int)} : (tb_K 12)[40]? = some (sm_cw (mt_P sc) (mt_M sc) 264) := rfl
set_option maxRecDepth 20000 in
theorem mo_265 {sc : Nat × (Nat → Int)} : (tb_K 7)[49]? = some (sm_cw (mt_P sc) (mt_M sc) 265) := rfl
set_option maxRecDepth 20000 in
theorem mo_266 {sc : Nat × (Nat → Int)} : (tb_K 5)[44]? = some (sm_cw (mt_P sc) (mt_M sc) 266) := rfl
set_option maxRecDepth 20000 in
theorem mo_267 {sc : Nat × (Nat → Int)} : (tb_K 8)[231]? = some (sm_cw (mt_P sc) (mt_M sc) 267) := rfl
set_option maxRecDepth 20000 in
theorem mo_268 {sc : Nat × (Nat → Int)} : (tb_K 4)[203]? = some (sm_cw (mt_P sc) (mt_M sc) 268) := rfl
set_option maxRecDepth 20000 in
theorem mo_269 {sc : Nat × (Nat → Int)} : (tb_K 12)[15]? = some (sm_cw (mt_P sc) (mt_M sc) 269) := rfl
set_option maxRecDepth 20000 in
theorem mo_270 {sc : Nat × (Nat → Int)} : (tb_K 7)[46]? = some (sm_cw (mt_P sc) (mt_M sc) 270) := rfl
set_option maxRecDepth 20000 in
theorem mo_271 {sc : Nat × (Nat → Int)} : (tb_K 7)[68]? = some (sm_cw (mt_P sc) (mt_M sc) 271) := rfl
set_option maxRecDepth 20000 in
theorem mo_272 {sc : Nat × (Nat → Int)} : (tb_K 7)[72]? = some (sm_cw (mt_P sc) (mt_M sc) 272) := rfl
set_option maxRecDepth 20000 in
theorem mo_273 {sc : Nat × (Nat → Int)} : (tb_K 5)[71]? = some (sm_cw (mt_P sc) (mt_M sc) 273) := rfl
set_option maxRecDepth 20000 in
theorem mo_274 {sc : Nat × (Nat → Int)} : (tb_K 7)[14]? = some (sm_cw (mt_P sc) (mt_M sc) 274) := rfl
set_option maxRecDepth 20000 in
theorem mo_275 {sc : Nat × (Nat → Int)} : (tb_K 7)[178]? = some (sm_cw (mt_P sc) (mt_M sc) 275) := rfl
set_option maxRecDepth 20000 in
theorem mo_276 {sc : Nat × (Nat → Int)} : (tb_K 7)[148]? = some (sm_cw (mt_P sc) (mt_M sc) 276) := rfl
set_option maxRecDepth 20000 in
theorem mo_277 {sc : Nat × (Nat → Int)} : (tb_K 7)[153]? = some (sm_cw (mt_P sc) (mt_M sc) 277) := rfl
set_option maxRecDepth 20000 in
theorem mo_278 {sc : Nat × (Nat → Int)} : (tb_K 15)[141]? = some (sm_cw (mt_P sc) (mt_M sc) 278) := rfl
set_option maxRecDepth 20000 in
theorem mo_279 {sc : Nat × (Nat → Int)} : (tb_K 15)[25]? = some (sm_cw (mt_P sc) (mt_M sc) 279) := rfl
set_option maxRecDepth 20000 in
theorem mo_280 {sc : Nat × (Nat → Int)} : (tb_K 15)[29]? = some (sm_cw (mt_P sc) (mt_M sc) 280) := rfl
set_option maxRecDepth 20000 in
theorem mo_281 {sc : Nat × (Nat → Int)} : (tb_K 15)[33]? = some (sm_cw (mt_P sc) (mt_M sc) 281) := rfl
set_option maxRecDepth 20000 in
theorem mo_282 {sc : Nat × (Nat → Int)} : (tb_K 15)[56]? = some (sm_cw (mt_P sc) (mt_M sc) 282) := rfl
set_option maxRecDepth 20000 in
theorem mo_283 {sc : Nat × (Nat → Int)} : (tb_K 15)[66]? = some (sm_cw (mt_P sc) (mt_M sc) 283) := rfl
set_option maxRecDepth 20000 in
theorem mo_284 {sc : Nat × (Nat → Int)} : (tb_K 15)[69]? = some (sm_cw (mt_P sc) (mt_M sc) 284) := rfl
set_option maxRecDepth 20000 in
theorem mo_285 {sc : Nat × (Nat → Int)} : (tb_K 15)[59]? = some (sm_cw (mt_P sc) (mt_M sc) 285) := rfl
set_option maxRecDepth 20000 in
theorem mo_286 {sc : Nat × (Nat → Int)} : (tb_K 15)[52]? = some (sm_cw (mt_P sc) (mt_M sc) 286) := rfl
set_option maxRecDepth 20000 in
theorem mo_287 {sc : Nat × (Nat → Int)} : (tb_K 15)[75]? = some (sm_cw (mt_P sc) (mt_M sc) 287) := rfl
set_option maxRecDepth 20000 in
theorem mo_288 {sc : Nat × (Nat → Int)} : (tb_K 15)[72]? = some (sm_cw (mt_P sc) (mt_M sc) 288) := rfl
set_option maxRecDepth 20000 in
theorem mo_289 {sc : Nat × (Nat → Int)} : (tb_K 15)[78]? = some (sm_cw (mt_P sc) (mt_M sc) 289) := rfl
set_option maxRecDepth 20000 in
theorem mo_290 {sc : Nat × (Nat → Int)} : (tb_K 15)[63]? = some (sm_cw (mt_P sc) (mt_M sc) 290) := rfl
set_option maxRecDepth 20000 in
theorem mo_291 {sc : Nat × (Nat → Int)} : (tb_K 15)[48]? = some (sm_cw (mt_P sc) (mt_M sc) 291) := rfl
set_option maxRecDepth 20000 in
theorem mo_292 {sc : Nat × (Nat → Int)} : (tb_K 15)[90]? = some (sm_cw (mt_P sc) (mt_M sc) 292) := rfl
set_option maxRecDepth 20000 in
theorem mo_293 {sc : Nat × (Nat → Int)} : (tb_K 15)[86]? = some (sm_cw (mt_P sc) (mt_M sc) 293) := rfl
set_option maxRecDepth 20000 in
theorem mo_294 {sc : Nat × (Nat → Int)} : (tb_K 15)[181]? = some (sm_cw (mt_P sc) (mt_M sc) 294) := rfl
set_option maxRecDepth 20000 in
theorem mo_295 {sc : Nat × (Nat → Int)} : (tb_K 15)[122]? = some (sm_cw (mt_P sc) (mt_M sc) 295) := rfl
set_option maxRecDepth 20000 in
theorem mo_296 {sc : Nat × (Nat → Int)} : (tb_K 15)[98]? = some (sm_cw (mt_P sc) (mt_M sc) 296) := rfl
set_option maxRecDepth 20000 in
theorem mo_297 {sc : Nat × (Nat → Int)} : (tb_K 15)[102]? = some (sm_cw (mt_P sc) (mt_M sc) 297) := rfl
set_option maxRecDepth 20000 in
theorem mo_298 {sc : Nat × (Nat → Int)} : (tb_K 15)[82]? = some (sm_cw (mt_P sc) (mt_M sc) 298) := rfl
set_option maxRecDepth 20000 in
theorem mo_299 {sc : Nat × (Nat → Int)} : (tb_K 15)[106]? = some (sm_cw (mt_P sc) (mt_M sc) 299) := rfl
set_option maxRecDepth 20000 in
theorem mo_300 {sc : Nat × (Nat → Int)} : (tb_K 15)[118]? = some (sm_cw (mt_P sc) (mt_M sc) 300) := rfl
set_option maxRecDepth 20000 in
theorem mo_301 {sc : Nat × (Nat → Int)} : (tb_K 15)[114]? = some (sm_cw (mt_P sc) (mt_M sc) 301) := rfl
set_option maxRecDepth 20000 in
theorem mo_302 {sc : Nat × (Nat → Int)} : (tb_K 15)[134]? = some (sm_cw (mt_P sc) (mt_M sc) 302) := rfl
set_option maxRecDepth 20000 in
theorem mo_303 {sc : Nat × (Nat → Int)} : (tb_K 15)[110]? = some (sm_cw (mt_P sc) (mt_M sc) 303) := rfl
set_option maxRecDepth 20000 in
theorem mo_304 {sc : Nat × (Nat → Int)} : (tb_K 16)[27]? = some (sm_cw (mt_P sc) (mt_M sc) 304) := rfl
set_option maxRecDepth 20000 in
theorem mo_305 {sc : Nat × (Nat → Int)} : (tb_K 16)[23]? = some (sm_cw (mt_P sc) (mt_M sc) 305) := rfl
set_option maxRecDepth 20000 in
theorem mo_306 {sc : Nat × (Nat → Int)} : (tb_K 15)[130]? = some (sm_cw (mt_P sc) (mt_M sc) 306) := rfl
set_option maxRecDepth 20000 in
theorem mo_307 {sc : Nat × (Nat → Int)} : (tb_K 15)[138]? = some (sm_cw (mt_P sc) (mt_M sc) 307) := rfl
set_option maxRecDepth 20000 in
theorem mo_308 {sc : Nat × (Nat → Int)} : (tb_K 15)[145]? = some (sm_cw (mt_P sc) (mt_M sc) 308) := rfl
set_option maxRecDepth 20000 in
theorem mo_309 {sc : Nat × (Nat → Int)} : (tb_K 15)[215]? = some (sm_cw (mt_P sc) (mt_M sc) 309) := rfl
set_option maxRecDepth 20000 in
theorem mo_310 {sc : Nat × (Nat → Int)} : (tb_K 15)[212]? = some (sm_cw (mt_P sc) (mt_M sc) 310) := rfl
set_option maxRecDepth 20000 in
theorem mo_311 {sc : Nat × (Nat → Int)} : (tb_K 15)[165]? = some (sm_cw (mt_P sc) (mt_M sc) 311) := rfl
set_option maxRecDepth 20000 in
theorem mo_312 {sc : Nat × (Nat → Int)} : (tb_K 15)[161]? = some (sm_cw (mt_P sc) (mt_M sc) 312) := rfl
set_option maxRecDepth 20000 in
theorem mo_313 {sc : Nat × (Nat → Int)} : (tb_K 15)[223]? = some (sm_cw (mt_P sc) (mt_M sc) 313) := rfl
set_option maxRecDepth 20000 in
theorem mo_314 {sc : Nat × (Nat → Int)} : (tb_K 16)[7]? = some (sm_cw (mt_P sc) (mt_M sc) 314) := rfl
set_option maxRecDepth 20000 in
theorem mo_315 {sc : Nat × (Nat → Int)} : (tb_K 15)[219]? = some (sm_cw (mt_P sc) (mt_M sc) 315) := rfl
set_option maxRecDepth 20000 in
theorem mo_316 {sc : Nat × (Nat → Int)} : (tb_K 16)[3]? = some (sm_cw (mt_P sc) (mt_M sc) 316) := rfl
set_option maxRecDepth 20000 in
theorem mo_317 {sc : Nat × (Nat → Int)} : (tb_K 15)[204]? = some (sm_cw (mt_P sc) (mt_M sc) 317) := rfl
set_option maxRecDepth 20000 in
theorem mo_318 {sc : Nat × (Nat → Int)} : (tb_K 15)[169]? = some (sm_cw (mt_P sc) (mt_M sc) 318) := rfl
set_option maxRecDepth 20000 in
theorem mo_319 {sc : Nat × (Nat → Int)} : (tb_K 15)[157]? = some (sm_cw (mt_P sc) (mt_M sc) 319) := rfl
set_option maxRecDepth 20000 in
theorem mo_320 {sc : Nat × (Nat → Int)} : (tb_K 15)[208]? = some (sm_cw (mt_P sc) (mt_M sc) 320) := rfl
set_option maxRecDepth 20000 in
theorem mo_321 {sc : Nat × (Nat → Int)} : (tb_K 15)[153]? = some (sm_cw (mt_P sc) (mt_M sc) 321) := rfl
set_option maxRecDepth 20000 in
theorem mo_322 {sc : Nat × (Nat → Int)} : (tb_K 15)[177]? = some (sm_cw (mt_P sc) (mt_M sc) 322) := rfl
set_option maxRecDepth 20000 in
theorem mo_323 {sc : Nat × (Nat → Int)} : (tb_K 15)[200]? = some (sm_cw (mt_P sc) (mt_M sc) 323) := rfl
set_option maxRecDepth 20000 in
theorem mo_324 {sc : Nat × (Nat → Int)} : (tb_K 15)[185]? = some (sm_cw (mt_P sc) (mt_M sc) 324) := rfl
set_option maxRecDepth 20000 in
theorem mo_325 {sc : Nat × (Nat → Int)} : (tb_K 15)[197]? = some (sm_cw (mt_P sc) (mt_M sc) 325) := rfl
set_option maxRecDepth 20000 in
theorem mo_326 {sc : Nat × (Nat → Int)} : (tb_K 15)[189]? = some (sm_cw (mt_P sc) (mt_M sc) 326) := rfl
set_option maxRecDepth 20000 in
theorem mo_327 {sc : Nat × (Nat → Int)} : (tb_K 15)[173]? = some (sm_cw (mt_P sc) (mt_M sc) 327) := rfl
set_option maxRecDepth 20000 in
theorem mo_328 {sc : Nat × (Nat → Int)} : (tb_K 15)[231]? = some (sm_cw (mt_P sc) (mt_M sc) 328) := rfl
set_option maxRecDepth 20000 in
theorem mo_329 {sc : Nat × (Nat → Int)} : (tb_K 15)[235]? = some (sm_cw (mt_P sc) (mt_M sc) 329) := rfl
set_option maxRecDepth 20000 in
theorem mo_330 {sc : Nat × (Nat → Int)} : (tb_K 15)[239]? = some (sm_cw (mt_P sc) (mt_M sc) 330) := rfl
set_option maxRecDepth 20000 in
theorem mo_331 {sc : Nat × (Nat → Int)} : (tb_K 15)[227]? = some (sm_cw (mt_P sc) (mt_M sc) 331) := rfl
set_option maxRecDepth 20000 in
theorem mo_332 {sc : Nat × (Nat → Int)} : (tb_K 16)[11]? = some (sm_cw (mt_P sc) (mt_M sc) 332) := rfl
set_option maxRecDepth 20000 in
theorem mo_333 {sc : Nat × (Nat → Int)} : (tb_K 15)[193]? = some (sm_cw (mt_P sc) (mt_M sc) 333) := rfl
set_option maxRecDepth 20000 in
theorem mo_334 {sc : Nat × (Nat → Int)} : (tb_K 15)[126]? = some (sm_cw (mt_P sc) (mt_M sc) 334) := rfl
set_option maxRecDepth 20000 in
theorem mo_335 {sc : Nat × (Nat → Int)} : (tb_K 15)[149]? = some (sm_cw (mt_P sc) (mt_M sc) 335) := rfl
set_option maxRecDepth 20000 in
theorem mo_336 {sc : Nat × (Nat → Int)} : (tb_K 16)[15]? = some (sm_cw (mt_P sc) (mt_M sc) 336) := rfl
set_option maxRecDepth 20000 in
theorem mo_337 {sc : Nat × (Nat → Int)} : (tb_K 16)[31]? = some (sm_cw (mt_P sc) (mt_M sc) 337) := rfl
set_option maxRecDepth 20000 in
theorem mo_338 {sc : Nat × (Nat → Int)} : (tb_K 16)[19]? = some (sm_cw (mt_P sc) (mt_M sc) 338) := rfl
set_option maxRecDepth 20000 in
theorem mo_339 {sc : Nat × (Nat → Int)} : (tb_K 15)[94]? = some (sm_cw (mt_P sc) (mt_M sc) 339) := rfl
set_option maxRecDepth 20000 in
theorem mo_340 {sc : Nat × (Nat → Int)} : (tb_K 15)[44]? = some (sm_cw (mt_P sc) (mt_M sc) 340) := rfl
set_option maxRecDepth 20000 in
theorem mo_341 {sc : Nat × (Nat → Int)} : (tb_K 16)[39]? = some (sm_cw (mt_P sc) (mt_M sc) 341) := rfl
set_option maxRecDepth 20000 in
theorem mo_342 {sc : Nat × (Nat → Int)} : (tb_K 16)[63]? = some (sm_cw (mt_P sc) (mt_M sc) 342) := rfl
set_option maxRecDepth 20000 in
theorem mo_343 {sc : Nat × (Nat → Int)} : (tb_K 16)[51]? = some (sm_cw (mt_P sc) (mt_M sc) 343) := rfl
set_option maxRecDepth 20000 in
theorem mo_344 {sc : Nat × (Nat → Int)} : (tb_K 16)[55]? = some (sm_cw (mt_P sc) (mt_M sc) 344) := rfl
set_option maxRecDepth 20000 in
theorem mo_345 {sc : Nat × (Nat → Int)} : (tb_K 16)[59]? = some (sm_cw (mt_P sc) (mt_M sc) 345) := rfl
set_option maxRecDepth 20000 in
theorem mo_346 {sc : Nat × (Nat → Int)} : (tb_K 16)[67]? = some (sm_cw (mt_P sc) (mt_M sc) 346) := rfl
set_option maxRecDepth 20000 in
theorem mo_347 {sc : Nat × (Nat → Int)} : (tb_K 16)[47]? = some (sm_cw (mt_P sc) (mt_M sc) 347) := rfl
set_option maxRecDepth 20000 in
theorem mo_348 {sc : Nat × (Nat → Int)} : (tb_K 16)[43]? = some (sm_cw (mt_P sc) (mt_M sc) 348) := rfl
set_option maxRecDepth 20000 in
theorem mo_349 {sc : Nat × (Nat → Int)} : (tb_K 16)[35]? = some (sm_cw (mt_P sc) (mt_M sc) 349) := rfl
set_option maxRecDepth 20000 in
theorem mo_350 {sc : Nat × (Nat → Int)} : (tb_K 16)[78]? = some (sm_cw (mt_P sc) (mt_M sc) 350) := rfl
set_option maxRecDepth 20000 in
theorem mo_351 {sc : Nat × (Nat → Int)} : (tb_K 16)[89]? = some (sm_cw (mt_P sc) (mt_M sc) 351) := rfl
set_option maxRecDepth 20000 in
theorem mo_352 {sc : Nat × (Nat → Int)} : (tb_K 16)[75]? = some (sm_cw (mt_P sc) (mt_M sc) 352) := rfl
set_option maxRecDepth 20000 in
theorem mo_353 {sc : Nat × (Nat → Int)} : (tb_K 16)[97]? = some (sm_cw (mt_P sc) (mt_M sc) 353) := rfl
set_option maxRecDepth 20000 in
theorem mo_354 {sc : Nat × (Nat → Int)} : (tb_K 16)[93]? = some (sm_cw (mt_P sc) (mt_M sc) 354) := rfl
set_option maxRecDepth 20000 in
theorem mo_355 {sc : Nat × (Nat → Int)} : (tb_K 16)[113]? = some (sm_cw (mt_P sc) (mt_M sc) 355) := rfl
set_option maxRecDepth 20000 in
theorem mo_356 {sc : Nat × (Nat → Int)} : (tb_K 16)[109]? = some (sm_cw (mt_P sc) (mt_M sc) 356) := rfl
set_option maxRecDepth 20000 in
theorem mo_357 {sc : Nat × (Nat → Int)} : (tb_K 16)[101]? = some (sm_cw (mt_P sc) (mt_M sc) 357) := rfl
set_option maxRecDepth 20000 in
theorem mo_358 {sc : Nat × (Nat → Int)} : (tb_K 16)[105]? = some (sm_cw (mt_P sc) (mt_M sc) 358) := rfl
set_option maxRecDepth 20000 in
theorem mo_359 {sc : Nat × (Nat → Int)} : (tb_K 16)[117]? = some (sm_cw (mt_P sc) (mt_M sc) 359) := rfl
set_option maxRecDepth 20000 in
theorem mo_360 {sc : Nat × (Nat → Int)} : (tb_K 16)[71]? = some (sm_cw (mt_P sc) (mt_M sc) 360) := rfl
set_option maxRecDepth 20000 in
theorem mo_361 {sc : Nat × (Nat → Int)} : (tb_K 16)[121]? = some (sm_cw (mt_P sc) (mt_M sc) 361) := rfl
set_option maxRecDepth 20000 in
theorem mo_362 {sc : Nat × (Nat → Int)} : (tb_K 15)[40]? = some (sm_cw (mt_P sc) (mt_M sc) 362) := rfl
set_option maxRecDepth 20000 in
theorem mo_363 {sc : Nat × (Nat → Int)} : (tb_K 15)[37]? = some (sm_cw (mt_P sc) (mt_M sc) 363) := rfl
set_option maxRecDepth 20000 in
theorem mo_364 {sc : Nat × (Nat → Int)} : (tb_K 16)[133]? = some (sm_cw (mt_P sc) (mt_M sc) 364) := rfl
set_option maxRecDepth 20000 in
theorem mo_365 {sc : Nat × (Nat → Int)} : (tb_K 16)[137]? = some (sm_cw (mt_P sc) (mt_M sc) 365) := rfl
set_option maxRecDepth 20000 in
theorem mo_366 {sc : Nat × (Nat → Int)} : (tb_K 16)[129]? = some (sm_cw (mt_P sc) (mt_M sc) 366) := rfl
set_option maxRecDepth 20000 in
theorem mo_367 {sc : Nat × (Nat → Int)} : (tb_K 16)[125]? = some (sm_cw (mt_P sc) (mt_M sc) 367) := rfl
set_option maxRecDepth 20000 in
theorem mo_368 {sc : Nat × (Nat → Int)} : (tb_K 16)[141]? = some (sm_cw (mt_P sc) (mt_M sc) 368) := rfl
set_option maxRecDepth 20000 in
theorem mo_369 {sc : Nat × (Nat → Int)} : (tb_K 16)[153]? = some (sm_cw (mt_P sc) (mt_M sc) 369) := rfl
set_option maxRecDepth 20000 in
theorem mo_370 {sc : Nat × (Nat → Int)} : (tb_K 16)[157]? = some (sm_cw (mt_P sc) (mt_M sc) 370) := rfl
set_option maxRecDepth 20000 in
theorem mo_371 {sc : Nat × (Nat → Int)} : (tb_K 16)[161]? = some (sm_cw (mt_P sc) (mt_M sc) 371) := rfl
set_option maxRecDepth 20000 in
theorem mo_372 {sc : Nat × (Nat → Int)} : (tb_K 16)[149]? = some (sm_cw (mt_P sc) (mt_M sc) 372) := rfl
set_option maxRecDepth 20000 in
theorem mo_373 {sc : Nat × (Nat → Int)} : (tb_K 16)[145]? = some (sm_cw (mt_P sc) (mt_M sc) 373) := rfl
set_option maxRecDepth 20000 in
theorem mo_374 {sc : Nat × (Nat → Int)} : (tb_K 16)[165]? = some (sm_cw (mt_P sc) (mt_M sc) 374) := rfl
set_option maxRecDepth 20000 in
theorem mo_375 {sc : Nat × (Nat → Int)} : (tb_K 16)[169]? = some (sm_cw (mt_P sc) (mt_M sc) 375) := rfl
set_option maxRecDepth 20000 in
theorem mo_376 {sc : Nat × (Nat → Int)} : (tb_K 16)[173]? = some (sm_cw (mt_P sc) (mt_M sc) 376) := rfl
set_option maxRecDepth 20000 in
theorem mo_377 {sc : Nat × (Nat → Int)} : (tb_K 16)[177]? = some (sm_cw (mt_P sc) (mt_M sc) 377) := rfl
set_option maxRecDepth 20000 in
theorem mo_378 {sc : Nat × (Nat → Int)} : (tb_K 16)[181]? = some (sm_cw (mt_P sc) (mt_M sc) 378) := rfl
set_option maxRecDepth 20000 in
theorem mo_379 {sc : Nat × (Nat → Int)} : (tb_K 16)[189]? = some (sm_cw (mt_P sc) (mt_M sc) 379) := rfl
set_option maxRecDepth 20000 in
theorem mo_380 {sc : Nat × (Nat → Int)} : (tb_K 16)[185]? = some (sm_cw (mt_P sc) (mt_M sc) 380) := rfl
set_option maxRecDepth 20000 in
theorem mo_381 {sc : Nat × (Nat → Int)} : (tb_K 16)[196]? = some (sm_cw (mt_P sc) (mt_M sc) 381) := rfl
set_option maxRecDepth 20000 in
theorem mo_382 {sc : Nat × (Nat → Int)} : (tb_K 16)[193]? = some (sm_cw (mt_P sc) (mt_M sc) 382) := rfl
set_option maxRecDepth 20000 in
theorem mo_383 {sc : Nat × (Nat → Int)} : (tb_K 16)[200]? = some (sm_cw (mt_P sc) (mt_M sc) 383) := rfl
set_option maxRecDepth 20000 in
theorem mo_384 {sc : Nat × (Nat → Int)} : (tb_K 16)[204]? = some (sm_cw (mt_P sc) (mt_M sc) 384) := rfl
set_option maxRecDepth 20000 in
theorem mo_385 {sc : Nat × (Nat → Int)} : (tb_K 16)[224]? = some (sm_cw (mt_P sc) (mt_M sc) 385) := rfl
set_option maxRecDepth 20000 in
theorem mo_386 {sc : Nat × (Nat → Int)} : (tb_K 16)[220]? = some (sm_cw (mt_P sc) (mt_M sc) 386) := rfl
set_option maxRecDepth 20000 in
theorem mo_387 {sc : Nat × (Nat → Int)} : (tb_K 16)[212]? = some (sm_cw (mt_P sc) (mt_M sc) 387) := rfl
set_option maxRecDepth 20000 in
theorem mo_388 {sc : Nat × (Nat → Int)} : (tb_K 16)[216]? = some (sm_cw (mt_P sc) (mt_M sc) 388) := rfl
set_option maxRecDepth 20000 in
theorem mo_389 {sc : Nat × (Nat → Int)} : (tb_K 16)[208]? = some (sm_cw (mt_P sc) (mt_M sc) 389) := rfl
set_option maxRecDepth 20000 in
theorem mo_390 {sc : Nat × (Nat → Int)} : (tb_K 16)[228]? = some (sm_cw (mt_P sc) (mt_M sc) 390) := rfl
set_option maxRecDepth 20000 in
theorem mo_391 {sc : Nat × (Nat → Int)} : (tb_K 16)[232]? = some (sm_cw (mt_P sc) (mt_M sc) 391) := rfl
set_option maxRecDepth 20000 in
theorem mo_392 {sc : Nat × (Nat → Int)} : (tb_K 17)[9]? = some (sm_cw (mt_P sc) (mt_M sc) 392) := rfl
set_option maxRecDepth 20000 in
theorem mo_393 {sc : Nat × (Nat → Int)} : (tb_K 17)[5]? = some (sm_cw (mt_P sc) (mt_M sc) 393) := rfl
set_option maxRecDepth 20000 in
theorem mo_394 {sc : Nat × (Nat → Int)} : (tb_K 17)[1]? = some (sm_cw (mt_P sc) (mt_M sc) 394) := rfl
set_option maxRecDepth 20000 in
theorem mo_395 {sc : Nat × (Nat → Int)} : (tb_K 17)[29]? = some (sm_cw (mt_P sc) (mt_M sc) 395) := rfl
set_option maxRecDepth 20000 in
theorem mo_396 {sc : Nat × (Nat → Int)} : (tb_K 17)[21]? = some (sm_cw (mt_P sc) (mt_M sc) 396) := rfl
set_option maxRecDepth 20000 in
theorem mo_397 {sc : Nat × (Nat → Int)} : (tb_K 17)[25]? = some (sm_cw (mt_P sc) (mt_M sc) 397) := rfl
set_option maxRecDepth 20000 in
theorem mo_398 {sc : Nat × (Nat → Int)} : (tb_K 17)[33]? = some (sm_cw (mt_P sc) (mt_M sc) 398) := rfl
set_option maxRecDepth 20000 in
theorem mo_399 {sc : Nat × (Nat → Int)} : (tb_K 17)[37]? = some (sm_cw (mt_P sc) (mt_M sc) 399) := rfl
set_option maxRecDepth 20000 in
theorem mo_400 {sc : Nat × (Nat → Int)} : (tb_K 17)[17]? = some (sm_cw (mt_P sc) (mt_M sc) 400) := rfl
set_option maxRecDepth 20000 in
theorem mo_401 {sc : Nat × (Nat → Int)} : (tb_K 17)[45]? = some (sm_cw (mt_P sc) (mt_M sc) 401) := rfl
set_option maxRecDepth 20000 in
theorem mo_402 {sc : Nat × (Nat → Int)} : (tb_K 17)[41]? = some (sm_cw (mt_P sc) (mt_M sc) 402) := rfl
set_option maxRecDepth 20000 in
theorem mo_403 {sc : Nat × (Nat → Int)} : (tb_K 17)[55]? = some (sm_cw (mt_P sc) (mt_M sc) 403) := rfl
set_option maxRecDepth 20000 in
theorem mo_404 {sc : Nat × (Nat → Int)} : (tb_K 17)[63]? = some (sm_cw (mt_P sc) (mt_M sc) 404) := rfl
set_option maxRecDepth 20000 in
theorem mo_405 {sc : Nat × (Nat → Int)} : (tb_K 17)[52]? = some (sm_cw (mt_P sc) (mt_M sc) 405) := rfl
set_option maxRecDepth 20000 in
theorem mo_406 {sc : Nat × (Nat → Int)} : (tb_K 17)[59]? = some (sm_cw (mt_P sc) (mt_M sc) 406) := rfl
set_option maxRecDepth 20000 in
theorem mo_407 {sc : Nat × (Nat → Int)} : (tb_K 17)[13]? = some (sm_cw (mt_P sc) (mt_M sc) 407) := rfl
set_option maxRecDepth 20000 in
theorem mo_408 {sc : Nat × (Nat → Int)} : (tb_K 17)[49]? = some (sm_cw (mt_P sc) (mt_M sc) 408) := rfl
set_option maxRecDepth 20000 in
theorem mo_409 {sc : Nat × (Nat → Int)} : (tb_K 17)[103]? = some (sm_cw (mt_P sc) (mt_M sc) 409) := rfl
set_option maxRecDepth 20000 in
theorem mo_410 {sc : Nat × (Nat → Int)} : (tb_K 17)[99]? = some (sm_cw (mt_P sc) (mt_M sc) 410) := rfl
set_option maxRecDepth 20000 in
theorem mo_411 {sc : Nat × (Nat → Int)} : (tb_K 17)[95]? = some (sm_cw (mt_P sc) (mt_M sc) 411) := rfl
set_option maxRecDepth 20000 in
theorem mo_412 {sc : Nat × (Nat → Int)} : (tb_K 17)[87]? = some (sm_cw (mt_P sc) (mt_M sc) 412) := rfl
set_option maxRecDepth 20000 in
theorem mo_413 {sc : Nat × (Nat → Int)} : (tb_K 17)[75]? = some (sm_cw (mt_P sc) (mt_M sc) 413) := rfl
set_option maxRecDepth 20000 in
theorem mo_414 {sc : Nat × (Nat → Int)} : (tb_K 17)[79]? = some (sm_cw (mt_P sc) (mt_M sc) 414) := rfl
set_option maxRecDepth 20000 in
theorem mo_415 {sc : Nat × (Nat → Int)} : (tb_K 17)[71]? = some (sm_cw (mt_P sc) (mt_M sc) 415) := rfl
set_option maxRecDepth 20000 in
theorem mo_416 {sc : Nat × (Nat → Int)} : (tb_K 17)[83]? = some (sm_cw (mt_P sc) (mt_M sc) 416) := rfl
set_option maxRecDepth 20000 in
theorem mo_417 {sc : Nat × (Nat → Int)} : (tb_K 17)[91]? = some (sm_cw (mt_P sc) (mt_M sc) 417) := rfl
set_option maxRecDepth 20000 in
theorem mo_418 {sc : Nat × (Nat → Int)} : (tb_K 17)[67]? = some (sm_cw (mt_P sc) (mt_M sc) 418) := rfl
set_option maxRecDepth 20000 in
theorem mo_419 {sc : Nat × (Nat → Int)} : (tb_K 16)[236]? = some (sm_cw (mt_P sc) (mt_M sc) 419) := rfl
set_option maxRecDepth 20000 in
theorem mo_420 {sc : Nat × (Nat → Int)} : (tb_K 17)[107]? = some (sm_cw (mt_P sc) (mt_M sc) 420) := rfl
set_option maxRecDepth 20000 in
theorem mo_421 {sc : Nat × (Nat → Int)} : (tb_K 17)[119]? = some (sm_cw (mt_P sc) (mt_M sc) 421) := rfl
set_option maxRecDepth 20000 in
theorem mo_422 {sc : Nat × (Nat → Int)} : (tb_K 17)[123]? = some (sm_cw (mt_P sc) (mt_M sc) 422) := rfl
set_option maxRecDepth 20000 in
theorem mo_423 {sc : Nat × (Nat → Int)} : (tb_K 17)[127]? = some (sm_cw (mt_P sc) (mt_M sc) 423) := rfl
set_option maxRecDepth 20000 in
theorem mo_424 {sc : Nat × (Nat → Int)} : (tb_K 17)[131]? = some (sm_cw (mt_P sc) (mt_M sc) 424) := rfl
set_option maxRecDepth 20000 in
theorem mo_425 {sc : Nat × (Nat → Int)} : (tb_K 17)[115]? = some (sm_cw (mt_P sc) (mt_M sc) 425) := rfl
set_option maxRecDepth 20000 in
theorem mo_426 {sc : Nat × (Nat → Int)} : (tb_K 17)[135]? = some (sm_cw (mt_P sc) (mt_M sc) 426) := rfl
set_option maxRecDepth 20000 in
theorem mo_427 {sc : Nat × (Nat → Int)} : (tb_K 17)[139]? = some (sm_cw (mt_P sc) (mt_M sc) 427) := rfl
set_option maxRecDepth 20000 in
theorem mo_428 {sc : Nat × (Nat → Int)} : (tb_K 17)[143]? = some (sm_cw (mt_P sc) (mt_M sc) 428) := rfl
set_option maxRecDepth 20000 in
theorem mo_429 {sc : Nat × (Nat → Int)} : (tb_K 17)[154]? = some (sm_cw (mt_P sc) (mt_M sc) 429) := rfl
set_option maxRecDepth 20000 in
theorem mo_430 {sc : Nat × (Nat → Int)} : (tb_K 17)[151]? = some (sm_cw (mt_P sc) (mt_M sc) 430) := rfl
set_option maxRecDepth 20000 in
theorem mo_431 {sc : Nat × (Nat → Int)} : (tb_K 17)[158]? = some (sm_cw (mt_P sc) (mt_M sc) 431) := rfl
set_option maxRecDepth 20000 in
theorem mo_432 {sc : Nat × (Nat → Int)} : (tb_K 17)[170]? = some (sm_cw (mt_P sc) (mt_M sc) 432) := rfl
set_option maxRecDepth 20000 in
theorem mo_433 {sc : Nat × (Nat → Int)} : (tb_K 17)[147]? = some (sm_cw (mt_P sc) (mt_M sc) 433) := rfl
set_option maxRecDepth 20000 in
theorem mo_434 {sc : Nat × (Nat → Int)} : (tb_K 17)[162]? = some (sm_cw (mt_P sc) (mt_M sc) 434) := rfl
set_option maxRecDepth 20000 in
theorem mo_435 {sc : Nat × (Nat → Int)} : (tb_K 17)[166]? = some (sm_cw (mt_P sc) (mt_M sc) 435) := rfl
set_option maxRecDepth 20000 in
theorem mo_436 {sc : Nat × (Nat → Int)} : (tb_K 17)[178]? = some (sm_cw (mt_P sc) (mt_M sc) 436) := rfl
set_option maxRecDepth 20000 in
theorem mo_437 {sc : Nat × (Nat → Int)} : (tb_K 17)[214]? = some (sm_cw (mt_P sc) (mt_M sc) 437) := rfl
set_option maxRecDepth 20000 in
theorem mo_438 {sc : Nat × (Nat → Int)} : (tb_K 17)[218]? = some (sm_cw (mt_P sc) (mt_M sc) 438) := rfl
set_option maxRecDepth 20000 in
theorem mo_439 {sc : Nat × (Nat → Int)} : (tb_K 17)[210]? = some (sm_cw (mt_P sc) (mt_M sc) 439) := rfl
set_option maxRecDepth 20000 in
theorem mo_440 {sc : Nat × (Nat → Int)} : (tb_K 17)[206]? = some (sm_cw (mt_P sc) (mt_M sc) 440) := rfl
set_option maxRecDepth 20000 in
theorem mo_441 {sc : Nat × (Nat → Int)} : (tb_K 17)[222]? = some (sm_cw (mt_P sc) (mt_M sc) 441) := rfl
set_option maxRecDepth 20000 in
theorem mo_442 {sc : Nat × (Nat → Int)} : (tb_K 17)[202]? = some (sm_cw (mt_P sc) (mt_M sc) 442) := rfl
set_option maxRecDepth 20000 in
theorem mo_443 {sc : Nat × (Nat → Int)} : (tb_K 17)[182]? = some (sm_cw (mt_P sc) (mt_M sc) 443) := rfl
set_option maxRecDepth 20000 in
theorem mo_444 {sc : Nat × (Nat → Int)} : (tb_K 17)[174]? = some (sm_cw (mt_P sc) (mt_M sc) 444) := rfl
set_option maxRecDepth 20000 in
theorem mo_445 {sc : Nat × (Nat → Int)} : (tb_K 17)[190]? = some (sm_cw (mt_P sc) (mt_M sc) 445) := rfl
set_option maxRecDepth 20000 in
theorem mo_446 {sc : Nat × (Nat → Int)} : (tb_K 17)[186]? = some (sm_cw (mt_P sc) (mt_M sc) 446) := rfl
set_option maxRecDepth 20000 in
theorem mo_447 {sc : Nat × (Nat → Int)} : (tb_K 17)[194]? = some (sm_cw (mt_P sc) (mt_M sc) 447) := rfl
set_option maxRecDepth 20000 in
theorem mo_448 {sc : Nat × (Nat → Int)} : (tb_K 17)[226]? = some (sm_cw (mt_P sc) (mt_M sc) 448) := rfl
set_option maxRecDepth 20000 in
theorem mo_449 {sc : Nat × (Nat → Int)} : (tb_K 17)[198]? = some (sm_cw (mt_P sc) (mt_M sc) 449) := rfl
set_option maxRecDepth 20000 in
theorem mo_450 {sc : Nat × (Nat → Int)} : (tb_K 17)[234]? = some (sm_cw (mt_P sc) (mt_M sc) 450) := rfl
set_option maxRecDepth 20000 in
theorem mo_451 {sc : Nat × (Nat → Int)} : (tb_K 17)[230]? = some (sm_cw (mt_P sc) (mt_M sc) 451) := rfl
set_option maxRecDepth 20000 in
theorem mo_452 {sc : Nat × (Nat → Int)} : (tb_K 18)[10]? = some (sm_cw (mt_P sc) (mt_M sc) 452) := rfl
set_option maxRecDepth 20000 in
theorem mo_453 {sc : Nat × (Nat → Int)} : (tb_K 18)[34]? = some (sm_cw (mt_P sc) (mt_M sc) 453) := rfl
set_option maxRecDepth 20000 in
theorem mo_454 {sc : Nat × (Nat → Int)} : (tb_K 18)[26]? = some (sm_cw (mt_P sc) (mt_M sc) 454) := rfl
set_option maxRecDepth 20000 in
theorem mo_455 {sc : Nat × (Nat → Int)} : (tb_K 18)[38]? = some (sm_cw (mt_P sc) (mt_M sc) 455) := rfl
set_option maxRecDepth 20000 in
theorem mo_456 {sc : Nat × (Nat → Int)} : (tb_K 18)[30]? = some (sm_cw (mt_P sc) (mt_M sc) 456) := rfl
set_option maxRecDepth 20000 in
theorem mo_457 {sc : Nat × (Nat → Int)} : (tb_K 18)[50]? = some (sm_cw (mt_P sc) (mt_M sc) 457) := rfl
set_option maxRecDepth 20000 in
theorem mo_458 {sc : Nat × (Nat → Int)} : (tb_K 18)[46]? = some (sm_cw (mt_P sc) (mt_M sc) 458) := rfl
set_option maxRecDepth 20000 in
theorem mo_459 {sc : Nat × (Nat → Int)} : (tb_K 18)[22]? = some (sm_cw (mt_P sc) (mt_M sc) 459) := rfl
set_option maxRecDepth 20000 in
theorem mo_460 {sc : Nat × (Nat → Int)} : (tb_K 18)[42]? = some (sm_cw (mt_P sc) (mt_M sc) 460) := rfl
set_option maxRecDepth 20000 in
theorem mo_461 {sc : Nat × (Nat → Int)} : (tb_K 18)[18]? = some (sm_cw (mt_P sc) (mt_M sc) 461) := rfl
set_option maxRecDepth 20000 in
theorem mo_462 {sc : Nat × (Nat → Int)} : (tb_K 18)[6]? = some (sm_cw (mt_P sc) (mt_M sc) 462) := rfl
set_option maxRecDepth 20000 in
theorem mo_463 {sc : Nat × (Nat → Int)} : (tb_K 18)[2]? = some (sm_cw (mt_P sc) (mt_M sc) 463) := rfl
set_option maxRecDepth 20000 in
theorem mo_464 {sc : Nat × (Nat → Int)} : (tb_K 18)[54]? = some (sm_cw (mt_P sc) (mt_M sc) 464) := rfl
set_option maxRecDepth 20000 in
theorem mo_465 {sc : Nat × (Nat → Int)} : (tb_K 18)[14]? = some (sm_cw (mt_P sc) (mt_M sc) 465) := rfl
set_option maxRecDepth 20000 in
theorem mo_466 {sc : Nat × (Nat → Int)} : (tb_K 17)[238]? = some (sm_cw (mt_P sc) (mt_M sc) 466) := rfl
set_option maxRecDepth 20000 in
theorem mo_467 {sc : Nat × (Nat → Int)} : (tb_K 18)[58]? = some (sm_cw (mt_P sc) (mt_M sc) 467) := rfl
set_option maxRecDepth 20000 in
theorem mo_468 {sc : Nat × (Nat → Int)} : (tb_K 18)[62]? = some (sm_cw (mt_P sc) (mt_M sc) 468) := rfl
set_option maxRecDepth 20000 in
theorem mo_469 {sc : Nat × (Nat → Int)} : (tb_K 18)[82]? = some (sm_cw (mt_P sc) (mt_M sc) 469) := rfl
set_option maxRecDepth 20000 in
theorem mo_470 {sc : Nat × (Nat → Int)} : (tb_K 18)[78]? = some (sm_cw (mt_P sc) (mt_M sc) 470) := rfl
set_option maxRecDepth 20000 in
theorem mo_471 {sc : Nat × (Nat → Int)} : (tb_K 18)[74]? = some (sm_cw (mt_P sc) (mt_M sc) 471) := rfl
set_option maxRecDepth 20000 in
theorem mo_472 {sc : Nat × (Nat → Int)} : (tb_K 18)[86]? = some (sm_cw (mt_P sc) (mt_M sc) 472) := rfl
set_option maxRecDepth 20000 in
theorem mo_473 {sc : Nat × (Nat → Int)} : (tb_K 18)[70]? = some (sm_cw (mt_P sc) (mt_M sc) 473) := rfl
set_option maxRecDepth 20000 in
theorem mo_474 {sc : Nat × (Nat → Int)} : (tb_K 18)[66]? = some (sm_cw (mt_P sc) (mt_M sc) 474) := rfl
set_option maxRecDepth 20000 in
theorem mo_475 {sc : Nat × (Nat → Int)} : (tb_K 18)[94]? = some (sm_cw (mt_P sc) (mt_M sc) 475) := rfl
set_option maxRecDepth 20000 in
theorem mo_476 {sc : Nat × (Nat → Int)} : (tb_K 18)[98]? = some (sm_cw (mt_P sc) (mt_M sc) 476) := rfl
set_option maxRecDepth 20000 in
theorem mo_477 {sc : Nat × (Nat → Int)} : (tb_K 18)[90]? = some (sm_cw (mt_P sc) (mt_M sc) 477) := rfl
set_option maxRecDepth 20000 in
theorem mo_478 {sc : Nat × (Nat → Int)} : (tb_K 18)[105]? = some (sm_cw (mt_P sc) (mt_M sc) 478) := rfl
set_option maxRecDepth 20000 in
theorem mo_479 {sc : Nat × (Nat → Int)} : (tb_K 18)[102]? = some (sm_cw (mt_P sc) (mt_M sc) 479) := rfl
set_option maxRecDepth 20000 in
theorem mo_480 {sc : Nat × (Nat → Int)} : (tb_K 18)[109]? = some (sm_cw (mt_P sc) (mt_M sc) 480) := rfl
set_option maxRecDepth 20000 in
theorem mo_481 {sc : Nat × (Nat → Int)} : (tb_K 18)[134]? = some (sm_cw (mt_P sc) (mt_M sc) 481) := rfl
set_option maxRecDepth 20000 in
theorem mo_482 {sc : Nat × (Nat → Int)} : (tb_K 18)[130]? = some (sm_cw (mt_P sc) (mt_M sc) 482) := rfl
set_option maxRecDepth 20000 in
theorem mo_483 {sc : Nat × (Nat → Int)} : (tb_K 18)[126]? = some (sm_cw (mt_P sc) (mt_M sc) 483) := rfl
set_option maxRecDepth 20000 in
theorem mo_484 {sc : Nat × (Nat → Int)} : (tb_K 18)[122]? = some (sm_cw (mt_P sc) (mt_M sc) 484) := rfl
set_option maxRecDepth 20000 in
theorem mo_485 {sc : Nat × (Nat → Int)} : (tb_K 18)[118]? = some (sm_cw (mt_P sc) (mt_M sc) 485) := rfl
set_option maxRecDepth 20000 in
theorem mo_486 {sc : Nat × (Nat → Int)} : (tb_K 18)[113]? = some (sm_cw (mt_P sc) (mt_M sc) 486) := rfl
set_option maxRecDepth 20000 in
theorem mo_487 {sc : Nat × (Nat → Int)} : (tb_K 18)[138]? = some (sm_cw (mt_P sc) (mt_M sc) 487) := rfl
set_option maxRecDepth 20000 in
theorem mo_488 {sc : Nat × (Nat → Int)} : (tb_K 18)[158]? = some (sm_cw (mt_P sc) (mt_M sc) 488) := rfl
set_option maxRecDepth 20000 in
theorem mo_489 {sc : Nat × (Nat → Int)} : (tb_K 18)[154]? = some (sm_cw (mt_P sc) (mt_M sc) 489) := rfl
set_option maxRecDepth 20000 in
theorem mo_490 {sc : Nat × (Nat → Int)} : (tb_K 18)[150]? = some (sm_cw (mt_P sc) (mt_M sc) 490) := rfl
set_option maxRecDepth 20000 in
theorem mo_491 {sc : Nat × (Nat → Int)} : (tb_K 18)[162]? = some (sm_cw (mt_P sc) (mt_M sc) 491) := rfl
set_option maxRecDepth 20000 in
theorem mo_492 {sc : Nat × (Nat → Int)} : (tb_K 18)[146]? = some (sm_cw (mt_P sc) (mt_M sc) 492) := rfl
set_option maxRecDepth 20000 in
theorem mo_493 {sc : Nat × (Nat → Int)} : (tb_K 18)[166]? = some (sm_cw (mt_P sc) (mt_M sc) 493) := rfl
set_option maxRecDepth 20000 in
theorem mo_494 {sc : Nat × (Nat → Int)} : (tb_K 18)[142]? = some (sm_cw (mt_P sc) (mt_M sc) 494) := rfl
set_option maxRecDepth 20000 in
theorem mo_495 {sc : Nat × (Nat → Int)} : (tb_K 18)[178]? = some (sm_cw (mt_P sc) (mt_M sc) 495) := rfl
set_option maxRecDepth 20000 in
theorem mo_496 {sc : Nat × (Nat → Int)} : (tb_K 18)[174]? = some (sm_cw (mt_P sc) (mt_M sc) 496) := rfl
set_option maxRecDepth 20000 in
theorem mo_497 {sc : Nat × (Nat → Int)} : (tb_K 18)[170]? = some (sm_cw (mt_P sc) (mt_M sc) 497) := rfl
set_option maxRecDepth 20000 in
theorem mo_498 {sc : Nat × (Nat → Int)} : (tb_K 18)[186]? = some (sm_cw (mt_P sc) (mt_M sc) 498) := rfl
set_option maxRecDepth 20000 in
theorem mo_499 {sc : Nat × (Nat → Int)} : (tb_K 18)[190]? = some (sm_cw (mt_P sc) (mt_M sc) 499) := rfl
set_option maxRecDepth 20000 in
theorem mo_500 {sc : Nat × (Nat → Int)} : (tb_K 18)[182]? = some (sm_cw (mt_P sc) (mt_M sc) 500) := rfl
set_option maxRecDepth 20000 in
theorem mo_501 {sc : Nat × (Nat → Int)} : (tb_K 18)[206]? = some (sm_cw (mt_P sc) (mt_M sc) 501) := rfl
set_option maxRecDepth 20000 in
theorem mo_502 {sc : Nat × (Nat → Int)} : (tb_K 18)[202]? = some (sm_cw (mt_P sc) (mt_M sc) 502) := rfl
set_option maxRecDepth 20000 in
theorem mo_503 {sc : Nat × (Nat → Int)} : (tb_K 18)[214]? = some (sm_cw (mt_P sc) (mt_M sc) 503) := rfl
set_option maxRecDepth 20000 in
theorem mo_504 {sc : Nat × (Nat → Int)} : (tb_K 18)[210]? = some (sm_cw (mt_P sc) (mt_M sc) 504) := rfl
set_option maxRecDepth 20000 in
theorem mo_505 {sc : Nat × (Nat → Int)} : (tb_K 18)[198]? = some (sm_cw (mt_P sc) (mt_M sc) 505) := rfl
set_option maxRecDepth 20000 in
theorem mo_506 {sc : Nat × (Nat → Int)} : (tb_K 18)[194]? = some (sm_cw (mt_P sc) (mt_M sc) 506) := rfl
set_option maxRecDepth 20000 in
theorem mo_507 {sc : Nat × (Nat → Int)} : (tb_K 18)[235]? = some (sm_cw (mt_P sc) (mt_M sc) 507) := rfl
set_option maxRecDepth 20000 in
theorem mo_508 {sc : Nat × (Nat → Int)} : (tb_K 18)[239]? = some (sm_cw (mt_P sc) (mt_M sc) 508) := rfl
set_option maxRecDepth 20000 in
theorem mo_509 {sc : Nat × (Nat → Int)} : (tb_K 18)[231]? = some (sm_cw (mt_P sc) (mt_M sc) 509) := rfl
set_option maxRecDepth 20000 in
theorem mo_510 {sc : Nat × (Nat → Int)} : (tb_K 18)[227]? = some (sm_cw (mt_P sc) (mt_M sc) 510) := rfl
set_option maxRecDepth 20000 in
theorem mo_511 {sc : Nat × (Nat → Int)} : (tb_K 18)[222]? = some (sm_cw (mt_P sc) (mt_M sc) 511) := rfl
set_option maxRecDepth 20000 in
theorem mo_512 {sc : Nat × (Nat → Int)} : (tb_K 18)[218]? = some (sm_cw (mt_P sc) (mt_M sc) 512) := rfl
set_option maxRecDepth 20000 in
theorem mo_513 {sc : Nat × (Nat → Int)} : (tb_K 19)[3]? = some (sm_cw (mt_P sc) (mt_M sc) 513) := rfl
set_option maxRecDepth 20000 in
theorem mo_514 {sc : Nat × (Nat → Int)} : (tb_K 19)[11]? = some (sm_cw (mt_P sc) (mt_M sc) 514) := rfl
set_option maxRecDepth 20000 in
theorem mo_515 {sc : Nat × (Nat → Int)} : (tb_K 19)[34]? = some (sm_cw (mt_P sc) (mt_M sc) 515) := rfl
set_option maxRecDepth 20000 in
theorem mo_516 {sc : Nat × (Nat → Int)} : (tb_K 19)[26]? = some (sm_cw (mt_P sc) (mt_M sc) 516) := rfl
set_option maxRecDepth 20000 in
theorem mo_517 {sc : Nat × (Nat → Int)} : (tb_K 19)[23]? = some (sm_cw (mt_P sc) (mt_M sc) 517) := rfl
set_option maxRecDepth 20000 in
theorem mo_518 {sc : Nat × (Nat → Int)} : (tb_K 19)[30]? = some (sm_cw (mt_P sc) (mt_M sc) 518) := rfl
set_option maxRecDepth 20000 in
theorem mo_519 {sc : Nat × (Nat → Int)} : (tb_K 17)[111]? = some (sm_cw (mt_P sc) (mt_M sc) 519) := rfl
set_option maxRecDepth 20000 in
theorem mo_520 {sc : Nat × (Nat → Int)} : (tb_K 19)[15]? = some (sm_cw (mt_P sc) (mt_M sc) 520) := rfl
set_option maxRecDepth 20000 in
theorem mo_521 {sc : Nat × (Nat → Int)} : (tb_K 19)[19]? = some (sm_cw (mt_P sc) (mt_M sc) 521) := rfl
set_option maxRecDepth 20000 in
theorem mo_522 {sc : Nat × (Nat → Int)} : (tb_K 19)[7]? = some (sm_cw (mt_P sc) (mt_M sc) 522) := rfl
set_option maxRecDepth 20000 in
theorem mo_523 {sc : Nat × (Nat → Int)} : (tb_K 19)[38]? = some (sm_cw (mt_P sc) (mt_M sc) 523) := rfl
set_option maxRecDepth 20000 in
theorem mo_524 {sc : Nat × (Nat → Int)} : (tb_K 19)[50]? = some (sm_cw (mt_P sc) (mt_M sc) 524) := rfl
set_option maxRecDepth 20000 in
theorem mo_525 {sc : Nat × (Nat → Int)} : (tb_K 19)[54]? = some (sm_cw (mt_P sc) (mt_M sc) 525) := rfl
set_option maxRecDepth 20000 in
theorem mo_526 {sc : Nat × (Nat → Int)} : (tb_K 19)[46]? = some (sm_cw (mt_P sc) (mt_M sc) 526) := rfl
set_option maxRecDepth 20000 in
theorem mo_527 {sc : Nat × (Nat → Int)} : (tb_K 19)[58]? = some (sm_cw (mt_P sc) (mt_M sc) 527) := rfl
set_option maxRecDepth 20000 in
theorem mo_528 {sc : Nat × (Nat → Int)} : (tb_K 19)[42]? = some (sm_cw (mt_P sc) (mt_M sc) 528) := rfl
set_option maxRecDepth 20000 in
theorem mo_529 {sc : Nat × (Nat → Int)} : (tb_K 19)[66]? = some (sm_cw (mt_P sc) (mt_M sc) 529) := rfl
set_option maxRecDepth 20000 in
theorem mo_530 {sc : Nat × (Nat → Int)} : (tb_K 19)[62]? = some (sm_cw (mt_P sc) (mt_M sc) 530) := rfl
set_option maxRecDepth 20000 in
theorem mo_531 {sc : Nat × (Nat → Int)} : (tb_K 19)[70]? = some (sm_cw (mt_P sc) (mt_M sc) 531) := rfl
set_option maxRecDepth 20000 in
theorem mo_532 {sc : Nat × (Nat → Int)} : (tb_K 19)[78]? = some (sm_cw (mt_P sc) (mt_M sc) 532) := rfl
set_option maxRecDepth 20000 in
theorem mo_533 {sc : Nat × (Nat → Int)} : (tb_K 19)[74]? = some (sm_cw (mt_P sc) (mt_M sc) 533) := rfl
set_option maxRecDepth 20000 in
theorem mo_534 {sc : Nat × (Nat → Int)} : (tb_K 19)[82]? = some (sm_cw (mt_P sc) (mt_M sc) 534) := rfl
set_option maxRecDepth 20000 in
theorem mo_535 {sc : Nat × (Nat → Int)} : (tb_K 4)[194]? = some (sm_cw (mt_P sc) (mt_M sc) 535) := rfl
set_option maxRecDepth 20000 in
theorem mo_536 {sc : Nat × (Nat → Int)} : (tb_K 5)[36]? = some (sm_cw (mt_P sc) (mt_M sc) 536) := rfl
set_option maxRecDepth 20000 in
theorem mo_537 {sc : Nat × (Nat → Int)} : (tb_K 5)[62]? = some (sm_cw (mt_P sc) (mt_M sc) 537) := rfl
set_option maxRecDepth 20000 in
theorem mo_538 {sc : Nat × (Nat → Int)} : (tb_K 7)[6]? = some (sm_cw (mt_P sc) (mt_M sc) 538) := rfl
set_option maxRecDepth 20000 in
theorem mo_539 {sc : Nat × (Nat → Int)} : (tb_K 7)[37]? = some (sm_cw (mt_P sc) (mt_M sc) 539) := rfl
set_option maxRecDepth 20000 in
theorem mo_540 {sc : Nat × (Nat → Int)} : (tb_K 7)[75]? = some (sm_cw (mt_P sc) (mt_M sc) 540) := rfl
set_option maxRecDepth 20000 in
theorem mo_541 {sc : Nat × (Nat → Int)} : (tb_K 7)[82]? = some (sm_cw (mt_P sc) (mt_M sc) 541) := rfl
set_option maxRecDepth 20000 in
theorem mo_542 {sc : Nat × (Nat → Int)} : (tb_K 7)[90]? = some (sm_cw (mt_P sc) (mt_M sc) 542) := rfl
set_option maxRecDepth 20000 in
theorem mo_543 {sc : Nat × (Nat → Int)} : (tb_K 7)[97]? = some (sm_cw (mt_P sc) (mt_M sc) 543) := rfl
set_option maxRecDepth 20000 in
theorem mo_544 {sc : Nat × (Nat → Int)} : (tb_K 7)[104]? = some (sm_cw (mt_P sc) (mt_M sc) 544) := rfl
set_option maxRecDepth 20000 in
theorem mo_545 {sc : Nat × (Nat → Int)} : (tb_K 7)[111]? = some (sm_cw (mt_P sc) (mt_M sc) 545) := rfl
set_option maxRecDepth 20000 in
theorem mo_546 {sc : Nat × (Nat → Int)} : (tb_K 7)[118]? = some (sm_cw (mt_P sc) (mt_M sc) 546) := rfl
set_option maxRecDepth 20000 in
theorem mo_547 {sc : Nat × (Nat → Int)} : (tb_K 7)[126]? = some (sm_cw (mt_P sc) (mt_M sc) 547) := rfl
set_option maxRecDepth 20000 in
theorem mo_548 {sc : Nat × (Nat → Int)} : (tb_K 7)[133]? = some (sm_cw (mt_P sc) (mt_M sc) 548) := rfl
set_option maxRecDepth 20000 in
theorem mo_549 {sc : Nat × (Nat → Int)} : (tb_K 7)[140]? = some (sm_cw (mt_P sc) (mt_M sc) 549) := rfl
set_option maxRecDepth 20000 in
theorem mo_550 {sc : Nat × (Nat → Int)} : (tb_K 7)[156]? = some (sm_cw (mt_P sc) (mt_M sc) 550) := rfl
set_option maxRecDepth 20000 in
theorem mo_551 {sc : Nat × (Nat → Int)} : (tb_K 7)[163]? = some (sm_cw (mt_P sc) (mt_M sc) 551) := rfl
set_option maxRecDepth 20000 in
theorem mo_552 {sc : Nat × (Nat → Int)} : (tb_K 7)[170]? = some (sm_cw (mt_P sc) (mt_M sc) 552) := rfl
set_option maxRecDepth 20000 in
theorem mo_553 {sc : Nat × (Nat → Int)} : (tb_K 8)[121]? = some (sm_cw (mt_P sc) (mt_M sc) 553) := rfl
set_option maxRecDepth 20000 in
theorem mo_554 {sc : Nat × (Nat → Int)} : (tb_K 8)[140]? = some (sm_cw (mt_P sc) (mt_M sc) 554) := rfl
set_option maxRecDepth 20000 in
theorem mo_555 {sc : Nat × (Nat → Int)} : (tb_K 8)[149]? = some (sm_cw (mt_P sc) (mt_M sc) 555) := rfl
set_option maxRecDepth 20000 in
theorem mo_556 {sc : Nat × (Nat → Int)} : (tb_K 8)[156]? = some (sm_cw (mt_P sc) (mt_M sc) 556) := rfl
set_option maxRecDepth 20000 in
theorem mo_557 {sc : Nat × (Nat → Int)} : (tb_K 8)[163]? = some (sm_cw (mt_P sc) (mt_M sc) 557) := rfl
set_option maxRecDepth 20000 in
theorem mo_558 {sc : Nat × (Nat → Int)} : (tb_K 8)[170]? = some (sm_cw (mt_P sc) (mt_M sc) 558) := rfl
set_option maxRecDepth 20000 in
theorem mo_559 {sc : Nat × (Nat → Int)} : (tb_K 8)[177]? = some (sm_cw (mt_P sc) (mt_M sc) 559) := rfl
set_option maxRecDepth 20000 in
theorem mo_560 {sc : Nat × (Nat → Int)} : (tb_K 8)[184]? = some (sm_cw (mt_P sc) (mt_M sc) 560) := rfl
set_option maxRecDepth 20000 in
theorem mo_561 {sc : Nat × (Nat → Int)} : (tb_K 8)[223]? = some (sm_cw (mt_P sc) (mt_M sc) 561) := rfl
set_option maxRecDepth 20000 in
theorem mo_562 {sc : Nat × (Nat → Int)} : (tb_K 8)[235]? = some (sm_cw (mt_P sc) (mt_M sc) 562) := rfl
set_option maxRecDepth 20000 in
theorem mo_563 {sc : Nat × (Nat → Int)} : (tb_K 9)[6]? = some (sm_cw (mt_P sc) (mt_M sc) 563) := rfl
set_option maxRecDepth 20000 in
theorem mo_564 {sc : Nat × (Nat → Int)} : (tb_K 9)[33]? = some (sm_cw (mt_P sc) (mt_M sc) 564) := rfl
set_option maxRecDepth 20000 in
theorem mo_565 {sc : Nat × (Nat → Int)} : (tb_K 9)[40]? = some (sm_cw (mt_P sc) (mt_M sc) 565) := rfl
set_option maxRecDepth 20000 in
theorem mo_566 {sc : Nat × (Nat → Int)} : (tb_K 10)[123]? = some (sm_cw (mt_P sc) (mt_M sc) 566) := rfl
set_option maxRecDepth 20000 in
theorem mo_567 {sc : Nat × (Nat → Int)} : (tb_K 10)[134]? = some (sm_cw (mt_P sc) (mt_M sc) 567) := rfl
set_option maxRecDepth 20000 in
theorem mo_568 {sc : Nat × (Nat → Int)} : (tb_K 10)[152]? = some (sm_cw (mt_P sc) (mt_M sc) 568) := rfl
set_option maxRecDepth 20000 in
theorem mo_569 {sc : Nat × (Nat → Int)} : (tb_K 10)[188]? = some (sm_cw (mt_P sc) (mt_M sc) 569) := rfl
set_option maxRecDepth 20000 in
theorem mo_570 {sc : Nat × (Nat → Int)} : (tb_K 10)[195]? = some (sm_cw (mt_P sc) (mt_M sc) 570) := rfl
set_option maxRecDepth 20000 in
theorem mo_571 {sc : Nat × (Nat → Int)} : (tb_K 10)[204]? = some (sm_cw (mt_P sc) (mt_M sc) 571) := rfl
set_option maxRecDepth 20000 in
theorem mo_572 {sc : Nat × (Nat → Int)} : (tb_K 10)[216]? = some (sm_cw (mt_P sc) (mt_M sc) 572) := rfl
set_option maxRecDepth 20000 in
theorem mo_573 {sc : Nat × (Nat → Int)} : (tb_K 10)[236]? = some (sm_cw (mt_P sc) (mt_M sc) 573) := rfl
set_option maxRecDepth 20000 in
theorem mo_574 {sc : Nat × (Nat → Int)} : (tb_K 11)[11]? = some (sm_cw (mt_P sc) (mt_M sc) 574) := rfl
set_option maxRecDepth 20000 in
theorem mo_575 {sc : Nat × (Nat → Int)} : (tb_K 11)[59]? = some (sm_cw (mt_P sc) (mt_M sc) 575) := rfl
set_option maxRecDepth 20000 in
theorem mo_576 {sc : Nat × (Nat → Int)} : (tb_K 11)[79]? = some (sm_cw (mt_P sc) (mt_M sc) 576) := rfl
set_option maxRecDepth 20000 in
theorem mo_577 {sc : Nat × (Nat → Int)} : (tb_K 11)[88]? = some (sm_cw (mt_P sc) (mt_M sc) 577) := rfl
set_option maxRecDepth 20000 in
theorem mo_578 {sc : Nat × (Nat → Int)} : (tb_K 11)[128]? = some (sm_cw (mt_P sc) (mt_M sc) 578) := rfl
set_option maxRecDepth 20000 in
theorem mo_579 {sc : Nat × (Nat → Int)} : (tb_K 11)[158]? = some (sm_cw (mt_P sc) (mt_M sc) 579) := rfl
set_option maxRecDepth 20000 in
theorem mo_580 {sc : Nat × (Nat → Int)} : (tb_K 11)[173]? = some (sm_cw (mt_P sc) (mt_M sc) 580) := rfl
set_option maxRecDepth 20000 in
theorem mo_581 {sc : Nat × (Nat → Int)} : (tb_K 11)[210]? = some (sm_cw (mt_P sc) (mt_M sc) 581) := rfl
set_option maxRecDepth 20000 in
theorem mo_582 {sc : Nat × (Nat → Int)} : (tb_K 11)[222]? = some (sm_cw (mt_P sc) (mt_M sc) 582) := rfl
set_option maxRecDepth 20000 in
theorem mo_583 {sc : Nat × (Nat → Int)} : (tb_K 12)[8]? = some (sm_cw (mt_P sc) (mt_M sc) 583) := rfl
set_option maxRecDepth 20000 in
theorem mo_584 {sc : Nat × (Nat → Int)} : (tb_K 12)[18]? = some (sm_cw (mt_P sc) (mt_M sc) 584) := rfl
set_option maxRecDepth 20000 in
theorem mo_585 {sc : Nat × (Nat → Int)} : (tb_K 12)[25]? = some (sm_cw (mt_P sc) (mt_M sc) 585) := rfl
set_option maxRecDepth 20000 in
theorem mo_586 {sc : Nat × (Nat → Int)} : (tb_K 12)[36]? = some (sm_cw (mt_P sc) (mt_M sc) 586) := rfl
set_option maxRecDepth 20000 in
theorem mo_587 {sc : Nat × (Nat → Int)} : (tb_K 12)[52]? = some (sm_cw (mt_P sc) (mt_M sc) 587) := rfl
theorem mh_213 : sm_hok (mt_i 213).1 (mt_hr 213) (mt_hs 213) := ⟨⟨rfl, rfl, rfl⟩, by decide, ⟨"java/lang/IllegalStateException", rfl, wb (k := 5) (i := 67) rfl rfl⟩, trivial⟩
theorem mh_214 : sm_hok (mt_i 214).1 (mt_hr 214) (mt_hs 214) := ⟨⟨rfl, rfl, rfl⟩, by decide, ⟨"java/lang/IllegalStateException", rfl, wb (k := 5) (i := 67) rfl rfl⟩, trivial⟩
theorem mh_535 : sm_hok (mt_i 535).1 (mt_hr 535) (mt_hs 535) := ⟨⟨rfl, rfl, rfl⟩, by decide, ⟨"java/lang/UnsupportedOperationException", rfl, wb (k := 4) (i := 195) rfl rfl⟩, trivial⟩
theorem mh_536 : sm_hok (mt_i 536).1 (mt_hr 536) (mt_hs 536) := ⟨⟨rfl, rfl, rfl⟩, by decide, ⟨"java/lang/IllegalArgumentException", rfl, wb (k := 5) (i := 37) rfl rfl⟩, trivial⟩
theorem mh_537 : sm_hok (mt_i 537).1 (mt_hr 537) (mt_hs 537) := ⟨⟨rfl, rfl, rfl⟩, by decide, ⟨"java/lang/UnsupportedOperationException", rfl, wb (k := 4) (i := 195) rfl rfl⟩, trivial⟩
theorem mh_538 : sm_hok (mt_i 538).1 (mt_hr 538) (mt_hs 538) := ⟨⟨rfl, rfl, rfl⟩, by decide, ⟨"java/lang/UnsupportedOperationException", rfl, wb (k := 4) (i := 195) rfl rfl⟩, trivial⟩
theorem mh_539 : sm_hok (mt_i 539).1 (mt_hr 539) (mt_hs 539) := ⟨⟨rfl, rfl, rfl⟩, by decide, ⟨"java/lang/IllegalArgumentException", rfl, wb (k := 5) (i := 37) rfl rfl⟩, ⟨⟨rfl, rfl, rfl⟩, by decide, ⟨"java/lang/IndexOutOfBoundsException", rfl, wb (k := 7) (i := 38) rfl rfl⟩, trivial⟩⟩
theorem mh_540 : sm_hok (mt_i 540).1 (mt_hr 540) (mt_hs 540) := ⟨⟨rfl, rfl, rfl⟩, by decide, ⟨"java/lang/IllegalArgumentException", rfl, wb (k := 5) (i := 37) rfl rfl⟩, trivial⟩
theorem mh_541 : sm_hok (mt_i 541).1 (mt_hr 541) (mt_hs 541) := ⟨⟨rfl, rfl, rfl⟩, by decide, ⟨"java/lang/IndexOutOfBoundsException", rfl, wb (k := 7) (i := 38) rfl rfl⟩, ⟨⟨rfl, rfl, rfl⟩, by decide, ⟨"java/lang/IllegalArgumentException", rfl, wb (k := 5) (i := 37) rfl rfl⟩, trivial⟩⟩
theorem mh_542 : sm_hok (mt_i 542).1 (mt_hr 542) (mt_hs 542) := ⟨⟨rfl, rfl, rfl⟩, by decide, ⟨"java/lang/IndexOutOfBoundsException", rfl, wb (k := 7) (i := 38) rfl rfl⟩, trivial⟩
theorem mh_543 : sm_hok (mt_i 543).1 (mt_hr 543) (mt_hs 543) := ⟨⟨rfl, rfl, rfl⟩, by decide, ⟨"java/lang/IndexOutOfBoundsException", rfl, wb (k := 7) (i := 38) rfl rfl⟩, trivial⟩
theorem mh_544 : sm_hok (mt_i 544).1 (mt_hr 544) (mt_hs 544) := ⟨⟨rfl, rfl, rfl⟩, by decide, ⟨"java/lang/IndexOutOfBoundsException", rfl, wb (k := 7) (i := 38) rfl rfl⟩, trivial⟩
theorem mh_545 : sm_hok (mt_i 545).1 (mt_hr 545) (mt_hs 545) := ⟨⟨rfl, rfl, rfl⟩, by decide, ⟨"java/lang/IndexOutOfBoundsException", rfl, wb (k := 7) (i := 38) rfl rfl⟩, ⟨⟨rfl, rfl, rfl⟩, by decide, ⟨"java/lang/IllegalArgumentException", rfl, wb (k := 5) (i := 37) rfl rfl⟩, trivial⟩⟩
theorem mh_546 : sm_hok (mt_i 546).1 (mt_hr 546) (mt_hs 546) := ⟨⟨rfl, rfl, rfl⟩, by decide, ⟨"java/lang/IndexOutOfBoundsException", rfl, wb (k := 7) (i := 38) rfl rfl⟩, ⟨⟨rfl, rfl, rfl⟩, by decide, ⟨"java/lang/IllegalArgumentException", rfl, wb (k := 5) (i := 37) rfl rfl⟩, trivial⟩⟩
theorem mh_547 : sm_hok (mt_i 547).1 (mt_hr 547) (mt_hs 547) := ⟨⟨rfl, rfl, rfl⟩, by decide, ⟨"java/lang/IndexOutOfBoundsException", rfl, wb (k := 7) (i := 38) rfl rfl⟩, trivial⟩
theorem mh_548 : sm_hok (mt_i 548).1 (mt_hr 548) (mt_hs 548) := ⟨⟨rfl, rfl, rfl⟩, by decide, ⟨"java/lang/IndexOutOfBoundsException", rfl, wb (k := 7) (i := 38) rfl rfl⟩, trivial⟩
theorem mh_549 : sm_hok (mt_i 549).1 (mt_hr 549) (mt_hs 549) := ⟨⟨rfl, rfl, rfl⟩, by decide, ⟨"java/lang/IndexOutOfBoundsException", rfl, wb (k := 7) (i := 38) rfl rfl⟩, ⟨⟨rfl, rfl, rfl⟩, by decide, ⟨"java/lang/IllegalArgumentException", rfl, wb (k := 5) (i := 37) rfl rfl⟩, trivial⟩⟩
theorem mh_550 : sm_hok (mt_i 550).1 (mt_hr 550) (mt_hs 550) := ⟨⟨rfl, rfl, rfl⟩, by decide, ⟨"java/lang/IndexOutOfBoundsException", rfl, wb (k := 7) (i := 38) rfl rfl⟩, trivial⟩
theorem mh_551 : sm_hok (mt_i 551).1 (mt_hr 551) (mt_hs 551) := ⟨⟨rfl, rfl, rfl⟩, by decide, ⟨"java/lang/IndexOutOfBoundsException", rfl, wb (k := 7) (i := 38) rfl rfl⟩, trivial⟩
theorem mh_552 : sm_hok (mt_i 552).1 (mt_hr 552) (mt_hs 552) := ⟨⟨rfl, rfl, rfl⟩, by decide, ⟨"java/lang/IndexOutOfBoundsException", rfl, wb (k := 7) (i := 38) rfl rfl⟩, ⟨⟨rfl, rfl, rfl⟩, by decide, ⟨"java/lang/UnsupportedOperationException", rfl, wb (k := 4) (i := 195) rfl rfl⟩, trivial⟩⟩
theorem mh_553 : sm_hok (mt_i 553).1 (mt_hr 553) (mt_hs 553) := ⟨⟨rfl, rfl, rfl⟩, by decide, ⟨"java/lang/IndexOutOfBoundsException", rfl, wb (k := 7) (i := 38) rfl rfl⟩, ⟨⟨rfl, rfl, rfl⟩, by decide, ⟨"java/lang/IllegalArgumentException", rfl, wb (k := 5) (i := 37) rfl rfl⟩, trivial⟩⟩
theorem mh_554 : sm_hok (mt_i 554).1 (mt_hr 554) (mt_hs 554) := ⟨⟨rfl, rfl, rfl⟩, by decide, ⟨"java/lang/IndexOutOfBoundsException", rfl, wb (k := 7) (i := 38) rfl rfl⟩, ⟨⟨rfl, rfl, rfl⟩, by decide, ⟨"java/lang/IllegalArgumentException", rfl, wb (k := 5) (i := 37) rfl rfl⟩, trivial⟩⟩
theorem mh_555 : sm_hok (mt_i 555).1 (mt_hr 555) (mt_hs 555) := ⟨⟨rfl, rfl, rfl⟩, by decide, ⟨"java/lang/IndexOutOfBoundsException", rfl, wb (k := 7) (i := 38) rfl rfl⟩, trivial⟩
theorem mh_556 : sm_hok (mt_i 556).1 (mt_hr 556) (mt_hs 556) := ⟨⟨rfl, rfl, rfl⟩, by decide, ⟨"java/lang/IndexOutOfBoundsException", rfl, wb (k := 7) (i := 38) rfl rfl⟩, ⟨⟨rfl, rfl, rfl⟩, by decide, ⟨"java/lang/IllegalArgumentException", rfl, wb (k := 5) (i := 37) rfl rfl⟩, trivial⟩⟩
theorem mh_557 : sm_hok (mt_i 557).1 (mt_hr 557) (mt_hs 557) := ⟨⟨rfl, rfl, rfl⟩, by decide, ⟨"java/lang/IndexOutOfBoundsException", rfl, wb (k := 7) (i := 38) rfl rfl⟩, ⟨⟨rfl, rfl, rfl⟩, by decide, ⟨"java/lang/IllegalArgumentException", rfl, wb (k := 5) (i := 37) rfl rfl⟩, trivial⟩⟩
theorem mh_558 : sm_hok (mt_i 558).1 (mt_hr 558) (mt_hs 558) := ⟨⟨rfl, rfl, rfl⟩, by decide, ⟨"java/lang/IndexOutOfBoundsException", rfl, wb (k := 7) (i := 38) rfl rfl⟩, trivial⟩
theorem mh_559 : sm_hok (mt_i 559).1 (mt_hr 559) (mt_hs 559) := ⟨⟨rfl, rfl, rfl⟩, by decide, ⟨"java/lang/IndexOutOfBoundsException", rfl, wb (k := 7) (i := 38) rfl rfl⟩, ⟨⟨rfl, rfl, rfl⟩, by decide, ⟨"java/lang/IllegalArgumentException", rfl, wb (k := 5) (i := 37) rfl rfl⟩, trivial⟩⟩
theorem mh_560 : sm_hok (mt_i 560).1 (mt_hr 560) (mt_hs 560) := ⟨⟨rfl, rfl, rfl⟩, by decide, ⟨"java/lang/IndexOutOfBoundsException", rfl, wb (k := 7) (i := 38) rfl rfl⟩, ⟨⟨rfl, rfl, rfl⟩, by decide, ⟨"java/lang/IllegalArgumentException", rfl, wb (k := 5) (i := 37) rfl rfl⟩, trivial⟩⟩
theorem mh_561 : sm_hok (mt_i 561).1 (mt_hr 561) (mt_hs 561) := ⟨⟨rfl, rfl, rfl⟩, by decide, ⟨"java/lang/IndexOutOfBoundsException", rfl, wb (k := 7) (i := 38) rfl rfl⟩, ⟨⟨rfl, rfl, rfl⟩, by decide, ⟨"java/lang/IllegalArgumentException", rfl, wb (k := 5) (i := 37) rfl rfl⟩, ⟨⟨rfl, rfl, rfl⟩, by decide, ⟨"java/lang/IllegalStateException", rfl, wb (k := 8) (i := 224) rfl rfl⟩, trivial⟩⟩⟩
theorem mh_562 : sm_hok (mt_i 562).1 (mt_hr 562) (mt_hs 562) := ⟨⟨rfl, rfl, rfl⟩, by decide, ⟨"java/lang/IndexOutOfBoundsException", rfl, wb (k := 7) (i := 38) rfl rfl⟩, ⟨⟨rfl, rfl, rfl⟩, by decide, ⟨"java/lang/IllegalStateException", rfl, wb (k := 8) (i := 224) rfl rfl⟩, trivial⟩⟩
theorem mh_563 : sm_hok (mt_i 563).1 (mt_hr 563) (mt_hs 563) := ⟨⟨rfl, rfl, rfl⟩, by decide, ⟨"java/lang/IndexOutOfBoundsException", rfl, wb (k := 7) (i := 38) rfl rfl⟩, ⟨⟨rfl, rfl, rfl⟩, by decide, ⟨"java/lang/IllegalArgumentException", rfl, wb (k := 5) (i := 37) rfl rfl⟩, ⟨⟨rfl, rfl, rfl⟩, by decide, ⟨"java/lang/IllegalStateException", rfl, wb (k := 8) (i := 224) rfl rfl⟩, trivial⟩⟩⟩
theorem mh_564 : sm_hok (mt_i 564).1 (mt_hr 564) (mt_hs 564) := ⟨⟨rfl, rfl, rfl⟩, by decide, ⟨"java/lang/IndexOutOfBoundsException", rfl, wb (k := 7) (i := 38) rfl rfl⟩, ⟨⟨rfl, rfl, rfl⟩, by decide, ⟨"java/lang/IllegalStateException", rfl, wb (k := 8) (i := 224) rfl rfl⟩, trivial⟩⟩
theorem mh_565 : sm_hok (mt_i 565).1 (mt_hr 565) (mt_hs 565) := ⟨⟨rfl, rfl, rfl⟩, by decide, ⟨"java/lang/IndexOutOfBoundsException", rfl, wb (k := 7) (i := 38) rfl rfl⟩, ⟨⟨rfl, rfl, rfl⟩, by decide, ⟨"java/lang/IllegalArgumentException", rfl, wb (k := 5) (i := 37) rfl rfl⟩, ⟨⟨rfl, rfl, rfl⟩, by decide, ⟨"java/lang/IllegalStateException", rfl, wb (k := 8) (i := 224) rfl rfl⟩, trivial⟩⟩⟩
theorem mh_566 : sm_hok (mt_i 566).1 (mt_hr 566) (mt_hs 566) := ⟨⟨rfl, rfl, rfl⟩, by decide, ⟨"java/lang/IndexOutOfBoundsException", rfl, wb (k := 7) (i := 38) rfl rfl⟩, ⟨⟨rfl, rfl, rfl⟩, by decide, ⟨"java/lang/IllegalStateException", rfl, wb (k := 8) (i := 224) rfl rfl⟩, trivial⟩⟩
theorem mh_567 : sm_hok (mt_i 567).1 (mt_hr 567) (mt_hs 567) := ⟨⟨rfl, rfl, rfl⟩, by decide, ⟨"java/lang/IndexOutOfBoundsException", rfl, wb (k := 7) (i := 38) rfl rfl⟩, ⟨⟨rfl, rfl, rfl⟩, by decide, ⟨"java/lang/IllegalArgumentException", rfl, wb (k := 5) (i := 37) rfl rfl⟩, ⟨⟨rfl, rfl, rfl⟩, by decide, ⟨"java/lang/IllegalStateException", rfl, wb (k := 8) (i := 224) rfl rfl⟩, trivial⟩⟩⟩
theorem mh_568 : sm_hok (mt_i 568).1 (mt_hr 568) (mt_hs 568) := ⟨⟨rfl, rfl, rfl⟩, by decide, ⟨"java/lang/IndexOutOfBoundsException", rfl, wb (k := 7) (i := 38) rfl rfl⟩, ⟨⟨rfl, rfl, rfl⟩, by decide, ⟨"java/lang/IllegalStateException", rfl, wb (k := 8) (i := 224) rfl rfl⟩, ⟨⟨rfl, rfl, rfl⟩, by decide, ⟨"java/lang/UnsupportedOperationException", rfl, wb (k := 4) (i := 195) rfl rfl⟩, trivial⟩⟩⟩
theorem mh_569 : sm_hok (mt_i 569).1 (mt_hr 569) (mt_hs 569) := ⟨⟨rfl, rfl, rfl⟩, by decide, ⟨"java/lang/IndexOutOfBoundsException", rfl, wb (k := 7) (i := 38) rfl rfl⟩, ⟨⟨rfl, rfl, rfl⟩, by decide, ⟨"java/lang/IllegalArgumentException", rfl, wb (k := 5) (i := 37) rfl rfl⟩, ⟨⟨rfl, rfl, rfl⟩, by decide, ⟨"java/lang/IllegalStateException", rfl, wb (k := 8) (i := 224) rfl rfl⟩, trivial⟩⟩⟩
theorem mh_570 : sm_hok (mt_i 570).1 (mt_hr 570) (mt_hs 570) := ⟨⟨rfl, rfl, rfl⟩, by decide, ⟨"java/lang/IndexOutOfBoundsException", rfl, wb (k := 7) (i := 38) rfl rfl⟩, ⟨⟨rfl, rfl, rfl⟩, by decide, ⟨"java/lang/IllegalArgumentException", rfl, wb (k := 5) (i := 37) rfl rfl⟩, ⟨⟨rfl, rfl, rfl⟩, by decide, ⟨"java/lang/IllegalStateException", rfl, wb (k := 8) (i := 224) rfl rfl⟩, ⟨⟨rfl, rfl, rfl⟩, by decide, ⟨"java/lang/UnsupportedOperationException", rfl, wb (k := 4) (i := 195) rfl rfl⟩, trivial⟩⟩⟩⟩
theorem mh_571 : sm_hok (mt_i 571).1 (mt_hr 571) (mt_hs 571) := ⟨⟨rfl, rfl, rfl⟩, by decide, ⟨"java/lang/IndexOutOfBoundsException", rfl, wb (k := 7) (i := 38) rfl rfl⟩, ⟨⟨rfl, rfl, rfl⟩, by decide, ⟨"java/lang/IllegalStateException", rfl, wb (k := 8) (i := 224) rfl rfl⟩, trivial⟩⟩
theorem mh_572 : sm_hok (mt_i 572).1 (mt_hr 572) (mt_hs 572) := ⟨⟨rfl, rfl, rfl⟩, by decide, ⟨"java/lang/IndexOutOfBoundsException", rfl, wb (k := 7) (i := 38) rfl rfl⟩, ⟨⟨rfl, rfl, rfl⟩, by decide, ⟨"java/lang/IllegalStateException", rfl, wb (k := 8) (i := 224) rfl rfl⟩, trivial⟩⟩
theorem mh_573 : sm_hok (mt_i 573).1 (mt_hr 573) (mt_hs 573) := ⟨⟨rfl, rfl, rfl⟩, by decide, ⟨"java/lang/IndexOutOfBoundsException", rfl, wb (k := 7) (i := 38) rfl rfl⟩, ⟨⟨rfl, rfl, rfl⟩, by decide, ⟨"java/lang/IllegalStateException", rfl, wb (k := 8) (i := 224) rfl rfl⟩, trivial⟩⟩
theorem mh_574 : sm_hok (mt_i 574).1 (mt_hr 574) (mt_hs 574) := ⟨⟨rfl, rfl, rfl⟩, by decide, ⟨"java/lang/IndexOutOfBoundsException", rfl, wb (k := 7) (i := 38) rfl rfl⟩, ⟨⟨rfl, rfl, rfl⟩, by decide, ⟨"java/lang/IllegalArgumentException", rfl, wb (k := 5) (i := 37) rfl rfl⟩, ⟨⟨rfl, rfl, rfl⟩, by decide, ⟨"java/lang/IllegalStateException", rfl, wb (k := 8) (i := 224) rfl rfl⟩, trivial⟩⟩⟩
theorem mh_575 : sm_hok (mt_i 575).1 (mt_hr 575) (mt_hs 575) := ⟨⟨rfl, rfl, rfl⟩, by decide, ⟨"java/lang/IndexOutOfBoundsException", rfl, wb (k := 7) (i := 38) rfl rfl⟩, trivial⟩
theorem mh_576 : sm_hok (mt_i 576).1 (mt_hr 576) (mt_hs 576) := ⟨⟨rfl, rfl, rfl⟩, by decide, ⟨"java/lang/IndexOutOfBoundsException", rfl, wb (k := 7) (i := 38) rfl rfl⟩, ⟨⟨rfl, rfl, rfl⟩, by decide, ⟨"java/lang/UnsupportedOperationException", rfl, wb (k := 4) (i := 195) rfl rfl⟩, trivial⟩⟩
theorem mh_577 : sm_hok (mt_i 577).1 (mt_hr 577) (mt_hs 577) := ⟨⟨rfl, rfl, rfl⟩, by decide, ⟨"java/lang/IndexOutOfBoundsException", rfl, wb (k := 7) (i := 38) rfl rfl⟩, trivial⟩
theorem mh_578 : sm_hok (mt_i 578).1 (mt_hr 578) (mt_hs 578) := ⟨⟨rfl, rfl, rfl⟩, by decide, ⟨"java/lang/IndexOutOfBoundsException", rfl, wb (k := 7) (i := 38) rfl rfl⟩, ⟨⟨rfl, rfl, rfl⟩, by decide, ⟨"java/lang/IllegalArgumentException", rfl, wb (k := 5) (i := 37) rfl rfl⟩, ⟨⟨rfl, rfl, rfl⟩, by decide, ⟨"java/lang/UnsupportedOperationException", rfl, wb (k := 4) (i := 195) rfl rfl⟩, trivial⟩⟩⟩
theorem mh_579 : sm_hok (mt_i 579).1 (mt_hr 579) (mt_hs 579) := ⟨⟨rfl, rfl, rfl⟩, by decide, ⟨"java/lang/IndexOutOfBoundsException", rfl, wb (k := 7) (i := 38) rfl rfl⟩, ⟨⟨rfl, rfl, rfl⟩, by decide, ⟨"java/lang/IllegalArgumentException", rfl, wb (k := 5) (i := 37) rfl rfl⟩, ⟨⟨rfl, rfl, rfl⟩, by decide, ⟨"java/lang/UnsupportedOperationException", rfl, wb (k := 4) (i := 195) rfl rfl⟩, trivial⟩⟩⟩
theorem mh_580 : sm_hok (mt_i 580).1 (mt_hr 580) (mt_hs 580) := ⟨⟨rfl, rfl, rfl⟩, by decide, ⟨"java/lang/IndexOutOfBoundsException", rfl, wb (k := 7) (i := 38) rfl rfl⟩, trivial⟩
theorem mh_581 : sm_hok (mt_i 581).1 (mt_hr 581) (mt_hs 581) := ⟨⟨rfl, rfl, rfl⟩, by decide, ⟨"java/lang/IndexOutOfBoundsException", rfl, wb (k := 7) (i := 38) rfl rfl⟩, ⟨⟨rfl, rfl, rfl⟩, by decide, ⟨"java/lang/IllegalArgumentException", rfl, wb (k := 5) (i := 37) rfl rfl⟩, trivial⟩⟩
theorem mh_582 : sm_hok (mt_i 582).1 (mt_hr 582) (mt_hs 582) := ⟨⟨rfl, rfl, rfl⟩, by decide, ⟨"java/lang/IndexOutOfBoundsException", rfl, wb (k := 7) (i := 38) rfl rfl⟩, trivial⟩
theorem mh_583 : sm_hok (mt_i 583).1 (mt_hr 583) (mt_hs 583) := ⟨⟨rfl, rfl, rfl⟩, by decide, ⟨"java/lang/IndexOutOfBoundsException", rfl, wb (k := 7) (i := 38) rfl rfl⟩, ⟨⟨rfl, rfl, rfl⟩, by decide, ⟨"java/lang/IllegalStateException", rfl, wb (k := 8) (i := 224) rfl rfl⟩, trivial⟩⟩
theorem mh_584 : sm_hok (mt_i 584).1 (mt_hr 584) (mt_hs 584) := ⟨⟨rfl, rfl, rfl⟩, by decide, ⟨"java/lang/IndexOutOfBoundsException", rfl, wb (k := 7) (i := 38) rfl rfl⟩, ⟨⟨rfl, rfl, rfl⟩, by decide, ⟨"java/lang/IllegalStateException", rfl, wb (k := 8) (i := 224) rfl rfl⟩, trivial⟩⟩
theorem mh_585 : sm_hok (mt_i 585).1 (mt_hr 585) (mt_hs 585) := ⟨⟨rfl, rfl, rfl⟩, by decide, ⟨"java/lang/IndexOutOfBoundsException", rfl, wb (k := 7) (i := 38) rfl rfl⟩, ⟨⟨rfl, rfl, rfl⟩, by decide, ⟨"java/lang/IllegalStateException", rfl, wb (k := 8) (i := 224) rfl rfl⟩, trivial⟩⟩
theorem mh_586 : sm_hok (mt_i 586).1 (mt_hr 586) (mt_hs 586) := ⟨⟨rfl, rfl, rfl⟩, by decide, ⟨"java/lang/IndexOutOfBoundsException", rfl, wb (k := 7) (i := 38) rfl rfl⟩, ⟨⟨rfl, rfl, rfl⟩, by decide, ⟨"java/lang/IllegalArgumentException", rfl, wb (k := 5) (i := 37) rfl rfl⟩, trivial⟩⟩
theorem mo_t0 {sc : Nat × (Nat → Int)} {mid : Nat} (h0 : 0 ≤ mid) (h : mid < 64) : (∃ k i : Nat, (tb_K k)[i]? = some (sm_cw (mt_P sc) (mt_M sc) mid)) ∧ sm_hok (mt_i mid).1 (mt_hr mid) (mt_hs mid) := by
  rcases Nat.lt_or_ge mid 32 with h1 | h1
  · rcases Nat.lt_or_ge mid 16 with h1 | h1
    · rcases Nat.lt_or_ge mid 8 with h1 | h1
      · rcases Nat.lt_or_ge mid 4 with h1 | h1
        · rcases Nat.lt_or_ge mid 2 with h1 | h1
          · rcases Nat.lt_or_ge mid 1 with h1 | h1
            · obtain rfl : mid = 0 := by omega
              exact ⟨⟨5, 133, mo_0⟩, trivial⟩
            · obtain rfl : mid = 1 := by omega
              exact ⟨⟨5, 136, mo_1⟩, trivial⟩
          · rcases Nat.lt_or_ge mid 3 with h1 | h1
            · obtain rfl : mid = 2 := by omega
              exact ⟨⟨6, 145, mo_2⟩, trivial⟩
            · obtain rfl : mid = 3 := by omega
              exact ⟨⟨9, 77, mo_3⟩, trivial⟩
        · rcases Nat.lt_or_ge mid 6 with h1 | h1
          · rcases Nat.lt_or_ge mid 5 with h1 | h1
            · obtain rfl : mid = 4 := by omega
              exact ⟨⟨11, 44, mo_4⟩, trivial⟩
            · obtain rfl : mid = 5 := by omega
              exact ⟨⟨11, 195, mo_5⟩, trivial⟩
          · rcases Nat.lt_or_ge mid 7 with h1 | h1
            · obtain rfl : mid = 6 := by omega
              exact ⟨⟨9, 80, mo_6⟩, trivial⟩
            · obtain rfl : mid = 7 := by omega
              exact ⟨⟨10, 146, mo_7⟩, trivial⟩
      · rcases Nat.lt_or_ge mid 12 with h1 | h1
        · rcases Nat.lt_or_ge mid 10 with h1 | h1
          · rcases Nat.lt_or_ge mid 9 with h1 | h1
            · obtain rfl : mid = 8 := by omega
              exact ⟨⟨11, 48, mo_8⟩, trivial⟩
            · obtain rfl : mid = 9 := by omega
              exact ⟨⟨11, 203, mo_9⟩, trivial⟩
          · rcases Nat.lt_or_ge mid 11 with h1 | h1
            · obtain rfl : mid = 10 := by omega
              exact ⟨⟨11, 206, mo_10⟩, trivial⟩
            · obtain rfl : mid = 11 := by omega
              exact ⟨⟨8, 64, mo_11⟩, trivial⟩
        · rcases Nat.lt_or_ge mid 14 with h1 | h1
          · rcases Nat.lt_or_ge mid 13 with h1 | h1
            · obtain rfl : mid = 12 := by omega
              exact ⟨⟨8, 73, mo_12⟩, trivial⟩
            · obtain rfl : mid = 13 := by omega
              exact ⟨⟨8, 82, mo_13⟩, trivial⟩
          · rcases Nat.lt_or_ge mid 15 with h1 | h1
            · obtain rfl : mid = 14 := by omega
              exact ⟨⟨8, 211, mo_14⟩, trivial⟩
            · obtain rfl : mid = 15 := by omega
              exact ⟨⟨8, 68, mo_15⟩, trivial⟩
    · rcases Nat.lt_or_ge mid 24 with h1 | h1
      · rcases Nat.lt_or_ge mid 20 with h1 | h1
        · rcases Nat.lt_or_ge mid 18 with h1 | h1
          · rcases Nat.lt_or_ge mid 17 with h1 | h1
            · obtain rfl : mid = 16 := by omega
              exact ⟨⟨10, 131, mo_16⟩, trivial⟩
            · obtain rfl : mid = 17 := by omega
              exact ⟨⟨8, 215, mo_17⟩, trivial⟩
          · rcases Nat.lt_or_ge mid 19 with h1 | h1
            · obtain rfl : mid = 18 := by omega
              exact ⟨⟨8, 219, mo_18⟩, trivial⟩
            · obtain rfl : mid = 19 := by omega
              exact ⟨⟨9, 58, mo_19⟩, trivial⟩
        · rcases Nat.lt_or_ge mid 22 with h1 | h1
          · rcases Nat.lt_or_ge mid 21 with h1 | h1
            · obtain rfl : mid = 20 := by omega
              exact ⟨⟨8, 192, mo_20⟩, trivial⟩
            · obtain rfl : mid = 21 := by omega
              exact ⟨⟨8, 196, mo_21⟩, trivial⟩
          · rcases Nat.lt_or_ge mid 23 with h1 | h1
            · obtain rfl : mid = 22 := by omega
              exact ⟨⟨8, 202, mo_22⟩, trivial⟩
            · obtain rfl : mid = 23 := by omega
              exact ⟨⟨8, 207, mo_23⟩, trivial⟩
      · rcases Nat.lt_or_ge mid 28 with h1 | h1
        · rcases Nat.lt_or_ge mid 26 with h1 | h1
          · rcases Nat.lt_or_ge mid 25 with h1 | h1
            · obtain rfl : mid = 24 := by omega
              exact ⟨⟨9, 30, mo_24⟩, trivial⟩
            · obtain rfl : mid = 25 := by omega
              exact ⟨⟨9, 3, mo_25⟩, trivial⟩
          · rcases Nat.lt_or_ge mid 27 with h1 | h1
            · obtain rfl : mid = 26 := by omega
              exact ⟨⟨9, 14, mo_26⟩, trivial⟩
            · obtain rfl : mid = 27 := by omega
              exact ⟨⟨9, 18, mo_27⟩, trivial⟩
        · rcases Nat.lt_or_ge mid 30 with h1 | h1
          · rcases Nat.lt_or_ge mid 29 with h1 | h1
            · obtain rfl : mid = 28 := by omega
              exact ⟨⟨9, 22, mo_28⟩, trivial⟩
            · obtain rfl : mid = 29 := by omega
              exact ⟨⟨9, 26, mo_29⟩, trivial⟩
          · rcases Nat.lt_or_ge mid 31 with h1 | h1
            · obtain rfl : mid = 30 := by omega
              exact ⟨⟨10, 142, mo_30⟩, trivial⟩
            · obtain rfl : mid = 31 := by omega
              exact ⟨⟨6, 123, mo_31⟩, trivial⟩
  · rcases Nat.lt_or_ge mid 48 with h1 | h1
    · rcases Nat.lt_or_ge mid 40 with h1 | h1
      · rcases Nat.lt_or_ge mid 36 with h1 | h1
        · rcases Nat.lt_or_ge mid 34 with h1 | h1
          · rcases Nat.lt_or_ge mid 33 with h1 | h1
            · obtain rfl : mid = 32 := by omega
              exact ⟨⟨6, 127, mo_32⟩, trivial⟩
            · obtain rfl : mid = 33 := by omega
              exact ⟨⟨6, 133, mo_33⟩, trivial⟩
          · rcases Nat.lt_or_ge mid 35 with h1 | h1
            · obtain rfl : mid = 34 := by omega
              exact ⟨⟨6, 138, mo_34⟩, trivial⟩
            · obtain rfl : mid = 35 := by omega
              exact ⟨⟨6, 148, mo_35⟩, trivial⟩
        · rcases Nat.lt_or_ge mid 38 with h1 | h1
          · rcases Nat.lt_or_ge mid 37 with h1 | h1
            · obtain rfl : mid = 36 := by omega
              exact ⟨⟨6, 152, mo_36⟩, trivial⟩
            · obtain rfl : mid = 37 := by omega
              exact ⟨⟨6, 181, mo_37⟩, trivial⟩
          · rcases Nat.lt_or_ge mid 39 with h1 | h1
            · obtain rfl : mid = 38 := by omega
              exact ⟨⟨6, 188, mo_38⟩, trivial⟩
            · obtain rfl : mid = 39 := by omega
              exact ⟨⟨6, 156, mo_39⟩, trivial⟩
      · rcases Nat.lt_or_ge mid 44 with h1 | h1
        · rcases Nat.lt_or_ge mid 42 with h1 | h1
          · rcases Nat.lt_or_ge mid 41 with h1 | h1
            · obtain rfl : mid = 40 := by omega
              exact ⟨⟨6, 160, mo_40⟩, trivial⟩
            · obtain rfl : mid = 41 := by omega
              exact ⟨⟨6, 173, mo_41⟩, trivial⟩
          · rcases Nat.lt_or_ge mid 43 with h1 | h1
            · obtain rfl : mid = 42 := by omega
              exact ⟨⟨6, 169, mo_42⟩, trivial⟩
            · obtain rfl : mid = 43 := by omega
              exact ⟨⟨6, 177, mo_43⟩, trivial⟩
        · rcases Nat.lt_or_ge mid 46 with h1 | h1
          · rcases Nat.lt_or_ge mid 45 with h1 | h1
            · obtain rfl : mid = 44 := by omega
              exact ⟨⟨6, 164, mo_44⟩, trivial⟩
            · obtain rfl : mid = 45 := by omega
              exact ⟨⟨6, 192, mo_45⟩, trivial⟩
          · rcases Nat.lt_or_ge mid 47 with h1 | h1
            · obtain rfl : mid = 46 := by omega
              exact ⟨⟨6, 196, mo_46⟩, trivial⟩
            · obtain rfl : mid = 47 := by omega
              exact ⟨⟨6, 208, mo_47⟩, trivial⟩
    · rcases Nat.lt_or_ge mid 56 with h1 | h1
      · rcases Nat.lt_or_ge mid 52 with h1 | h1
        · rcases Nat.lt_or_ge mid 50 with h1 | h1
          · rcases Nat.lt_or_ge mid 49 with h1 | h1
            · obtain rfl : mid = 48 := by omega
              exact ⟨⟨6, 213, mo_48⟩, trivial⟩
            · obtain rfl : mid = 49 := by omega
              exact ⟨⟨6, 216, mo_49⟩, trivial⟩
          · rcases Nat.lt_or_ge mid 51 with h1 | h1
            · obtain rfl : mid = 50 := by omega
              exact ⟨⟨6, 223, mo_50⟩, trivial⟩
            · obtain rfl : mid = 51 := by omega
              exact ⟨⟨6, 227, mo_51⟩, trivial⟩
        · rcases Nat.lt_or_ge mid 54 with h1 | h1
          · rcases Nat.lt_or_ge mid 53 with h1 | h1
            · obtain rfl : mid = 52 := by omega
              exact ⟨⟨7, 3, mo_52⟩, trivial⟩
            · obtain rfl : mid = 53 := by omega
              exact ⟨⟨8, 25, mo_53⟩, trivial⟩
          · rcases Nat.lt_or_ge mid 55 with h1 | h1
            · obtain rfl : mid = 54 := by omega
              exact ⟨⟨8, 60, mo_54⟩, trivial⟩
            · obtain rfl : mid = 55 := by omega
              exact ⟨⟨8, 129, mo_55⟩, trivial⟩
      · rcases Nat.lt_or_ge mid 60 with h1 | h1
        · rcases Nat.lt_or_ge mid 58 with h1 | h1
          · rcases Nat.lt_or_ge mid 57 with h1 | h1
            · obtain rfl : mid = 56 := by omega
              exact ⟨⟨8, 137, mo_56⟩, trivial⟩
            · obtain rfl : mid = 57 := by omega
              exact ⟨⟨8, 114, mo_57⟩, trivial⟩
          · rcases Nat.lt_or_ge mid 59 with h1 | h1
            · obtain rfl : mid = 58 := by omega
              exact ⟨⟨8, 118, mo_58⟩, trivial⟩
            · obtain rfl : mid = 59 := by omega
              exact ⟨⟨8, 77, mo_59⟩, trivial⟩
        · rcases Nat.lt_or_ge mid 62 with h1 | h1
          · rcases Nat.lt_or_ge mid 61 with h1 | h1
            · obtain rfl : mid = 60 := by omega
              exact ⟨⟨8, 133, mo_60⟩, trivial⟩
            · obtain rfl : mid = 61 := by omega
              exact ⟨⟨11, 136, mo_61⟩, trivial⟩
          · rcases Nat.lt_or_ge mid 63 with h1 | h1
            · obtain rfl : mid = 62 := by omega
              exact ⟨⟨11, 181, mo_62⟩, trivial⟩
            · obtain rfl : mid = 63 := by omega
              exact ⟨⟨6, 142, mo_63⟩, trivial⟩
theorem mo_t1 {sc : Nat × (Nat → Int)} {mid : Nat} (h0 : 64 ≤ mid) (h : mid < 128) : (∃ k i : Nat, (tb_K k)[i]? = some (sm_cw (mt_P sc) (mt_M sc) mid)) ∧ sm_hok (mt_i mid).1 (mt_hr mid) (mt_hs mid) := by
  rcases Nat.lt_or_ge mid 96 with h1 | h1
  · rcases Nat.lt_or_ge mid 80 with h1 | h1
    · rcases Nat.lt_or_ge mid 72 with h1 | h1
      · rcases Nat.lt_or_ge mid 68 with h1 | h1
        · rcases Nat.lt_or_ge mid 66 with h1 | h1
          · rcases Nat.lt_or_ge mid 65 with h1 | h1
            · obtain rfl : mid = 64 := by omega
              exact ⟨⟨6, 238, mo_64⟩, trivial⟩
            · obtain rfl : mid = 65 := by omega
              exact ⟨⟨6, 204, mo_65⟩, trivial⟩
          · rcases Nat.lt_or_ge mid 67 with h1 | h1
            · obtain rfl : mid = 66 := by omega
              exact ⟨⟨6, 200, mo_66⟩, trivial⟩
            · obtain rfl : mid = 67 := by omega
              exact ⟨⟨6, 231, mo_67⟩, trivial⟩
        · rcases Nat.lt_or_ge mid 70 with h1 | h1
          · rcases Nat.lt_or_ge mid 69 with h1 | h1
            · obtain rfl : mid = 68 := by omega
              exact ⟨⟨10, 185, mo_68⟩, trivial⟩
            · obtain rfl : mid = 69 := by omega
              exact ⟨⟨10, 177, mo_69⟩, trivial⟩
          · rcases Nat.lt_or_ge mid 71 with h1 | h1
            · obtain rfl : mid = 70 := by omega
              exact ⟨⟨10, 212, mo_70⟩, trivial⟩
            · obtain rfl : mid = 71 := by omega
              exact ⟨⟨10, 160, mo_71⟩, trivial⟩
      · rcases Nat.lt_or_ge mid 76 with h1 | h1
        · rcases Nat.lt_or_ge mid 74 with h1 | h1
          · rcases Nat.lt_or_ge mid 73 with h1 | h1
            · obtain rfl : mid = 72 := by omega
              exact ⟨⟨10, 181, mo_72⟩, trivial⟩
            · obtain rfl : mid = 73 := by omega
              exact ⟨⟨10, 165, mo_73⟩, trivial⟩
          · rcases Nat.lt_or_ge mid 75 with h1 | h1
            · obtain rfl : mid = 74 := by omega
              exact ⟨⟨10, 169, mo_74⟩, trivial⟩
            · obtain rfl : mid = 75 := by omega
              exact ⟨⟨10, 173, mo_75⟩, trivial⟩
        · rcases Nat.lt_or_ge mid 78 with h1 | h1
          · rcases Nat.lt_or_ge mid 77 with h1 | h1
            · obtain rfl : mid = 76 := by omega
              exact ⟨⟨10, 228, mo_76⟩, trivial⟩
            · obtain rfl : mid = 77 := by omega
              exact ⟨⟨10, 232, mo_77⟩, trivial⟩
          · rcases Nat.lt_or_ge mid 79 with h1 | h1
            · obtain rfl : mid = 78 := by omega
              exact ⟨⟨11, 27, mo_78⟩, trivial⟩
            · obtain rfl : mid = 79 := by omega
              exact ⟨⟨10, 224, mo_79⟩, trivial⟩
    · rcases Nat.lt_or_ge mid 88 with h1 | h1
      · rcases Nat.lt_or_ge mid 84 with h1 | h1
        · rcases Nat.lt_or_ge mid 82 with h1 | h1
          · rcases Nat.lt_or_ge mid 81 with h1 | h1
            · obtain rfl : mid = 80 := by omega
              exact ⟨⟨11, 4, mo_80⟩, trivial⟩
            · obtain rfl : mid = 81 := by omega
              exact ⟨⟨11, 8, mo_81⟩, trivial⟩
          · rcases Nat.lt_or_ge mid 83 with h1 | h1
            · obtain rfl : mid = 82 := by omega
              exact ⟨⟨11, 19, mo_82⟩, trivial⟩
            · obtain rfl : mid = 83 := by omega
              exact ⟨⟨11, 23, mo_83⟩, trivial⟩
        · rcases Nat.lt_or_ge mid 86 with h1 | h1
          · rcases Nat.lt_or_ge mid 85 with h1 | h1
            · obtain rfl : mid = 84 := by omega
              exact ⟨⟨11, 31, mo_84⟩, trivial⟩
            · obtain rfl : mid = 85 := by omega
              exact ⟨⟨11, 35, mo_85⟩, trivial⟩
          · rcases Nat.lt_or_ge mid 87 with h1 | h1
            · obtain rfl : mid = 86 := by omega
              exact ⟨⟨11, 41, mo_86⟩, trivial⟩
            · obtain rfl : mid = 87 := by omega
              exact ⟨⟨11, 55, mo_87⟩, trivial⟩
      · rcases Nat.lt_or_ge mid 92 with h1 | h1
        · rcases Nat.lt_or_ge mid 90 with h1 | h1
          · rcases Nat.lt_or_ge mid 89 with h1 | h1
            · obtain rfl : mid = 88 := by omega
              exact ⟨⟨7, 30, mo_88⟩, trivial⟩
            · obtain rfl : mid = 89 := by omega
              exact ⟨⟨7, 34, mo_89⟩, trivial⟩
          · rcases Nat.lt_or_ge mid 91 with h1 | h1
            · obtain rfl : mid = 90 := by omega
              exact ⟨⟨8, 29, mo_90⟩, trivial⟩
            · obtain rfl : mid = 91 := by omega
              exact ⟨⟨7, 182, mo_91⟩, trivial⟩
        · rcases Nat.lt_or_ge mid 94 with h1 | h1
          · rcases Nat.lt_or_ge mid 93 with h1 | h1
            · obtain rfl : mid = 92 := by omega
              exact ⟨⟨7, 196, mo_92⟩, trivial⟩
            · obtain rfl : mid = 93 := by omega
              exact ⟨⟨7, 200, mo_93⟩, trivial⟩
          · rcases Nat.lt_or_ge mid 95 with h1 | h1
            · obtain rfl : mid = 94 := by omega
              exact ⟨⟨7, 230, mo_94⟩, trivial⟩
            · obtain rfl : mid = 95 := by omega
              exact ⟨⟨7, 187, mo_95⟩, trivial⟩
  · rcases Nat.lt_or_ge mid 112 with h1 | h1
    · rcases Nat.lt_or_ge mid 104 with h1 | h1
      · rcases Nat.lt_or_ge mid 100 with h1 | h1
        · rcases Nat.lt_or_ge mid 98 with h1 | h1
          · rcases Nat.lt_or_ge mid 97 with h1 | h1
            · obtain rfl : mid = 96 := by omega
              exact ⟨⟨8, 21, mo_96⟩, trivial⟩
            · obtain rfl : mid = 97 := by omega
              exact ⟨⟨7, 204, mo_97⟩, trivial⟩
          · rcases Nat.lt_or_ge mid 99 with h1 | h1
            · obtain rfl : mid = 98 := by omega
              exact ⟨⟨7, 207, mo_98⟩, trivial⟩
            · obtain rfl : mid = 99 := by omega
              exact ⟨⟨7, 213, mo_99⟩, trivial⟩
        · rcases Nat.lt_or_ge mid 102 with h1 | h1
          · rcases Nat.lt_or_ge mid 101 with h1 | h1
            · obtain rfl : mid = 100 := by omega
              exact ⟨⟨7, 218, mo_100⟩, trivial⟩
            · obtain rfl : mid = 101 := by omega
              exact ⟨⟨7, 222, mo_101⟩, trivial⟩
          · rcases Nat.lt_or_ge mid 103 with h1 | h1
            · obtain rfl : mid = 102 := by omega
              exact ⟨⟨7, 226, mo_102⟩, trivial⟩
            · obtain rfl : mid = 103 := by omega
              exact ⟨⟨7, 234, mo_103⟩, trivial⟩
      · rcases Nat.lt_or_ge mid 108 with h1 | h1
        · rcases Nat.lt_or_ge mid 106 with h1 | h1
          · rcases Nat.lt_or_ge mid 105 with h1 | h1
            · obtain rfl : mid = 104 := by omega
              exact ⟨⟨7, 238, mo_104⟩, trivial⟩
            · obtain rfl : mid = 105 := by omega
              exact ⟨⟨8, 2, mo_105⟩, trivial⟩
          · rcases Nat.lt_or_ge mid 107 with h1 | h1
            · obtain rfl : mid = 106 := by omega
              exact ⟨⟨8, 6, mo_106⟩, trivial⟩
            · obtain rfl : mid = 107 := by omega
              exact ⟨⟨8, 12, mo_107⟩, trivial⟩
        · rcases Nat.lt_or_ge mid 110 with h1 | h1
          · rcases Nat.lt_or_ge mid 109 with h1 | h1
            · obtain rfl : mid = 108 := by omega
              exact ⟨⟨8, 16, mo_108⟩, trivial⟩
            · obtain rfl : mid = 109 := by omega
              exact ⟨⟨8, 35, mo_109⟩, trivial⟩
          · rcases Nat.lt_or_ge mid 111 with h1 | h1
            · obtain rfl : mid = 110 := by omega
              exact ⟨⟨8, 39, mo_110⟩, trivial⟩
            · obtain rfl : mid = 111 := by omega
              exact ⟨⟨8, 48, mo_111⟩, trivial⟩
    · rcases Nat.lt_or_ge mid 120 with h1 | h1
      · rcases Nat.lt_or_ge mid 116 with h1 | h1
        · rcases Nat.lt_or_ge mid 114 with h1 | h1
          · rcases Nat.lt_or_ge mid 113 with h1 | h1
            · obtain rfl : mid = 112 := by omega
              exact ⟨⟨8, 52, mo_112⟩, trivial⟩
            · obtain rfl : mid = 113 := by omega
              exact ⟨⟨8, 44, mo_113⟩, trivial⟩
          · rcases Nat.lt_or_ge mid 115 with h1 | h1
            · obtain rfl : mid = 114 := by omega
              exact ⟨⟨8, 56, mo_114⟩, trivial⟩
            · obtain rfl : mid = 115 := by omega
              exact ⟨⟨5, 75, mo_115⟩, trivial⟩
        · rcases Nat.lt_or_ge mid 118 with h1 | h1
          · rcases Nat.lt_or_ge mid 117 with h1 | h1
            · obtain rfl : mid = 116 := by omega
              exact ⟨⟨5, 211, mo_116⟩, trivial⟩
            · obtain rfl : mid = 117 := by omega
              exact ⟨⟨6, 119, mo_117⟩, trivial⟩
          · rcases Nat.lt_or_ge mid 119 with h1 | h1
            · obtain rfl : mid = 118 := by omega
              exact ⟨⟨5, 224, mo_118⟩, trivial⟩
            · obtain rfl : mid = 119 := by omega
              exact ⟨⟨6, 1, mo_119⟩, trivial⟩
      · rcases Nat.lt_or_ge mid 124 with h1 | h1
        · rcases Nat.lt_or_ge mid 122 with h1 | h1
          · rcases Nat.lt_or_ge mid 121 with h1 | h1
            · obtain rfl : mid = 120 := by omega
              exact ⟨⟨5, 237, mo_120⟩, trivial⟩
            · obtain rfl : mid = 121 := by omega
              exact ⟨⟨6, 13, mo_121⟩, trivial⟩
          · rcases Nat.lt_or_ge mid 123 with h1 | h1
            · obtain rfl : mid = 122 := by omega
              exact ⟨⟨6, 9, mo_122⟩, trivial⟩
            · obtain rfl : mid = 123 := by omega
              exact ⟨⟨6, 5, mo_123⟩, trivial⟩
        · rcases Nat.lt_or_ge mid 126 with h1 | h1
          · rcases Nat.lt_or_ge mid 125 with h1 | h1
            · obtain rfl : mid = 124 := by omega
              exact ⟨⟨5, 233, mo_124⟩, trivial⟩
            · obtain rfl : mid = 125 := by omega
              exact ⟨⟨6, 17, mo_125⟩, trivial⟩
          · rcases Nat.lt_or_ge mid 127 with h1 | h1
            · obtain rfl : mid = 126 := by omega
              exact ⟨⟨6, 99, mo_126⟩, trivial⟩
            · obtain rfl : mid = 127 := by omega
              exact ⟨⟨6, 115, mo_127⟩, trivial⟩
theorem mo_t2 {sc : Nat × (Nat → Int)} {mid : Nat} (h0 : 128 ≤ mid) (h : mid < 192) : (∃ k i : Nat, (tb_K k)[i]? = some (sm_cw (mt_P sc) (mt_M sc) mid)) ∧ sm_hok (mt_i mid).1 (mt_hr mid) (mt_hs mid) := by
  rcases Nat.lt_or_ge mid 160 with h1 | h1
  · rcases Nat.lt_or_ge mid 144 with h1 | h1
    · rcases Nat.lt_or_ge mid 136 with h1 | h1
      · rcases Nat.lt_or_ge mid 132 with h1 | h1
        · rcases Nat.lt_or_ge mid 130 with h1 | h1
          · rcases Nat.lt_or_ge mid 129 with h1 | h1
            · obtain rfl : mid = 128 := by omega
              exact ⟨⟨6, 103, mo_128⟩, trivial⟩
            · obtain rfl : mid = 129 := by omega
              exact ⟨⟨6, 107, mo_129⟩, trivial⟩
          · rcases Nat.lt_or_ge mid 131 with h1 | h1
            · obtain rfl : mid = 130 := by omega
              exact ⟨⟨6, 111, mo_130⟩, trivial⟩
            · obtain rfl : mid = 131 := by omega
              exact ⟨⟨7, 18, mo_131⟩, trivial⟩
        · rcases Nat.lt_or_ge mid 134 with h1 | h1
          · rcases Nat.lt_or_ge mid 133 with h1 | h1
            · obtain rfl : mid = 132 := by omega
              exact ⟨⟨7, 22, mo_132⟩, trivial⟩
            · obtain rfl : mid = 133 := by omega
              exact ⟨⟨7, 26, mo_133⟩, trivial⟩
          · rcases Nat.lt_or_ge mid 135 with h1 | h1
            · obtain rfl : mid = 134 := by omega
              exact ⟨⟨6, 21, mo_134⟩, trivial⟩
            · obtain rfl : mid = 135 := by omega
              exact ⟨⟨6, 25, mo_135⟩, trivial⟩
      · rcases Nat.lt_or_ge mid 140 with h1 | h1
        · rcases Nat.lt_or_ge mid 138 with h1 | h1
          · rcases Nat.lt_or_ge mid 137 with h1 | h1
            · obtain rfl : mid = 136 := by omega
              exact ⟨⟨6, 29, mo_136⟩, trivial⟩
            · obtain rfl : mid = 137 := by omega
              exact ⟨⟨6, 33, mo_137⟩, trivial⟩
          · rcases Nat.lt_or_ge mid 139 with h1 | h1
            · obtain rfl : mid = 138 := by omega
              exact ⟨⟨6, 45, mo_138⟩, trivial⟩
            · obtain rfl : mid = 139 := by omega
              exact ⟨⟨6, 63, mo_139⟩, trivial⟩
        · rcases Nat.lt_or_ge mid 142 with h1 | h1
          · rcases Nat.lt_or_ge mid 141 with h1 | h1
            · obtain rfl : mid = 140 := by omega
              exact ⟨⟨6, 41, mo_140⟩, trivial⟩
            · obtain rfl : mid = 141 := by omega
              exact ⟨⟨6, 57, mo_141⟩, trivial⟩
          · rcases Nat.lt_or_ge mid 143 with h1 | h1
            · obtain rfl : mid = 142 := by omega
              exact ⟨⟨6, 37, mo_142⟩, trivial⟩
            · obtain rfl : mid = 143 := by omega
              exact ⟨⟨6, 49, mo_143⟩, trivial⟩
    · rcases Nat.lt_or_ge mid 152 with h1 | h1
      · rcases Nat.lt_or_ge mid 148 with h1 | h1
        · rcases Nat.lt_or_ge mid 146 with h1 | h1
          · rcases Nat.lt_or_ge mid 145 with h1 | h1
            · obtain rfl : mid = 144 := by omega
              exact ⟨⟨6, 53, mo_144⟩, trivial⟩
            · obtain rfl : mid = 145 := by omega
              exact ⟨⟨6, 67, mo_145⟩, trivial⟩
          · rcases Nat.lt_or_ge mid 147 with h1 | h1
            · obtain rfl : mid = 146 := by omega
              exact ⟨⟨6, 71, mo_146⟩, trivial⟩
            · obtain rfl : mid = 147 := by omega
              exact ⟨⟨6, 79, mo_147⟩, trivial⟩
        · rcases Nat.lt_or_ge mid 150 with h1 | h1
          · rcases Nat.lt_or_ge mid 149 with h1 | h1
            · obtain rfl : mid = 148 := by omega
              exact ⟨⟨6, 75, mo_148⟩, trivial⟩
            · obtain rfl : mid = 149 := by omega
              exact ⟨⟨6, 83, mo_149⟩, trivial⟩
          · rcases Nat.lt_or_ge mid 151 with h1 | h1
            · obtain rfl : mid = 150 := by omega
              exact ⟨⟨6, 91, mo_150⟩, trivial⟩
            · obtain rfl : mid = 151 := by omega
              exact ⟨⟨6, 87, mo_151⟩, trivial⟩
      · rcases Nat.lt_or_ge mid 156 with h1 | h1
        · rcases Nat.lt_or_ge mid 154 with h1 | h1
          · rcases Nat.lt_or_ge mid 153 with h1 | h1
            · obtain rfl : mid = 152 := by omega
              exact ⟨⟨6, 95, mo_152⟩, trivial⟩
            · obtain rfl : mid = 153 := by omega
              exact ⟨⟨9, 48, mo_153⟩, trivial⟩
          · rcases Nat.lt_or_ge mid 155 with h1 | h1
            · obtain rfl : mid = 154 := by omega
              exact ⟨⟨9, 53, mo_154⟩, trivial⟩
            · obtain rfl : mid = 155 := by omega
              exact ⟨⟨9, 62, mo_155⟩, trivial⟩
        · rcases Nat.lt_or_ge mid 158 with h1 | h1
          · rcases Nat.lt_or_ge mid 157 with h1 | h1
            · obtain rfl : mid = 156 := by omega
              exact ⟨⟨10, 120, mo_156⟩, trivial⟩
            · obtain rfl : mid = 157 := by omega
              exact ⟨⟨9, 66, mo_157⟩, trivial⟩
          · rcases Nat.lt_or_ge mid 159 with h1 | h1
            · obtain rfl : mid = 158 := by omega
              exact ⟨⟨9, 70, mo_158⟩, trivial⟩
            · obtain rfl : mid = 159 := by omega
              exact ⟨⟨10, 94, mo_159⟩, trivial⟩
  · rcases Nat.lt_or_ge mid 176 with h1 | h1
    · rcases Nat.lt_or_ge mid 168 with h1 | h1
      · rcases Nat.lt_or_ge mid 164 with h1 | h1
        · rcases Nat.lt_or_ge mid 162 with h1 | h1
          · rcases Nat.lt_or_ge mid 161 with h1 | h1
            · obtain rfl : mid = 160 := by omega
              exact ⟨⟨10, 102, mo_160⟩, trivial⟩
            · obtain rfl : mid = 161 := by omega
              exact ⟨⟨9, 74, mo_161⟩, trivial⟩
          · rcases Nat.lt_or_ge mid 163 with h1 | h1
            · obtain rfl : mid = 162 := by omega
              exact ⟨⟨10, 86, mo_162⟩, trivial⟩
            · obtain rfl : mid = 163 := by omega
              exact ⟨⟨10, 90, mo_163⟩, trivial⟩
        · rcases Nat.lt_or_ge mid 166 with h1 | h1
          · rcases Nat.lt_or_ge mid 165 with h1 | h1
            · obtain rfl : mid = 164 := by omega
              exact ⟨⟨10, 110, mo_164⟩, trivial⟩
            · obtain rfl : mid = 165 := by omega
              exact ⟨⟨10, 98, mo_165⟩, trivial⟩
          · rcases Nat.lt_or_ge mid 167 with h1 | h1
            · obtain rfl : mid = 166 := by omega
              exact ⟨⟨10, 106, mo_166⟩, trivial⟩
            · obtain rfl : mid = 167 := by omega
              exact ⟨⟨10, 114, mo_167⟩, trivial⟩
      · rcases Nat.lt_or_ge mid 172 with h1 | h1
        · rcases Nat.lt_or_ge mid 170 with h1 | h1
          · rcases Nat.lt_or_ge mid 169 with h1 | h1
            · obtain rfl : mid = 168 := by omega
              exact ⟨⟨8, 90, mo_168⟩, trivial⟩
            · obtain rfl : mid = 169 := by omega
              exact ⟨⟨8, 86, mo_169⟩, trivial⟩
          · rcases Nat.lt_or_ge mid 171 with h1 | h1
            · obtain rfl : mid = 170 := by omega
              exact ⟨⟨8, 109, mo_170⟩, trivial⟩
            · obtain rfl : mid = 171 := by omega
              exact ⟨⟨8, 106, mo_171⟩, trivial⟩
        · rcases Nat.lt_or_ge mid 174 with h1 | h1
          · rcases Nat.lt_or_ge mid 173 with h1 | h1
            · obtain rfl : mid = 172 := by omega
              exact ⟨⟨8, 103, mo_172⟩, trivial⟩
            · obtain rfl : mid = 173 := by omega
              exact ⟨⟨8, 98, mo_173⟩, trivial⟩
          · rcases Nat.lt_or_ge mid 175 with h1 | h1
            · obtain rfl : mid = 174 := by omega
              exact ⟨⟨11, 191, mo_174⟩, trivial⟩
            · obtain rfl : mid = 175 := by omega
              exact ⟨⟨11, 200, mo_175⟩, trivial⟩
    · rcases Nat.lt_or_ge mid 184 with h1 | h1
      · rcases Nat.lt_or_ge mid 180 with h1 | h1
        · rcases Nat.lt_or_ge mid 178 with h1 | h1
          · rcases Nat.lt_or_ge mid 177 with h1 | h1
            · obtain rfl : mid = 176 := by omega
              exact ⟨⟨11, 219, mo_176⟩, trivial⟩
            · obtain rfl : mid = 177 := by omega
              exact ⟨⟨11, 187, mo_177⟩, trivial⟩
          · rcases Nat.lt_or_ge mid 179 with h1 | h1
            · obtain rfl : mid = 178 := by omega
              exact ⟨⟨12, 44, mo_178⟩, trivial⟩
            · obtain rfl : mid = 179 := by omega
              exact ⟨⟨11, 230, mo_179⟩, trivial⟩
        · rcases Nat.lt_or_ge mid 182 with h1 | h1
          · rcases Nat.lt_or_ge mid 181 with h1 | h1
            · obtain rfl : mid = 180 := by omega
              exact ⟨⟨11, 236, mo_180⟩, trivial⟩
            · obtain rfl : mid = 181 := by omega
              exact ⟨⟨12, 1, mo_181⟩, trivial⟩
          · rcases Nat.lt_or_ge mid 183 with h1 | h1
            · obtain rfl : mid = 182 := by omega
              exact ⟨⟨12, 5, mo_182⟩, trivial⟩
            · obtain rfl : mid = 183 := by omega
              exact ⟨⟨12, 48, mo_183⟩, trivial⟩
      · rcases Nat.lt_or_ge mid 188 with h1 | h1
        · rcases Nat.lt_or_ge mid 186 with h1 | h1
          · rcases Nat.lt_or_ge mid 185 with h1 | h1
            · obtain rfl : mid = 184 := by omega
              exact ⟨⟨12, 33, mo_184⟩, trivial⟩
            · obtain rfl : mid = 185 := by omega
              exact ⟨⟨5, 33, mo_185⟩, trivial⟩
          · rcases Nat.lt_or_ge mid 187 with h1 | h1
            · obtain rfl : mid = 186 := by omega
              exact ⟨⟨5, 79, mo_186⟩, trivial⟩
            · obtain rfl : mid = 187 := by omega
              exact ⟨⟨5, 192, mo_187⟩, trivial⟩
        · rcases Nat.lt_or_ge mid 190 with h1 | h1
          · rcases Nat.lt_or_ge mid 189 with h1 | h1
            · obtain rfl : mid = 188 := by omega
              exact ⟨⟨5, 215, mo_188⟩, trivial⟩
            · obtain rfl : mid = 189 := by omega
              exact ⟨⟨5, 220, mo_189⟩, trivial⟩
          · rcases Nat.lt_or_ge mid 191 with h1 | h1
            · obtain rfl : mid = 190 := by omega
              exact ⟨⟨5, 228, mo_190⟩, trivial⟩
            · obtain rfl : mid = 191 := by omega
              exact ⟨⟨5, 83, mo_191⟩, trivial⟩
theorem mo_t3 {sc : Nat × (Nat → Int)} {mid : Nat} (h0 : 192 ≤ mid) (h : mid < 256) : (∃ k i : Nat, (tb_K k)[i]? = some (sm_cw (mt_P sc) (mt_M sc) mid)) ∧ sm_hok (mt_i mid).1 (mt_hr mid) (mt_hs mid) := by
  rcases Nat.lt_or_ge mid 224 with h1 | h1
  · rcases Nat.lt_or_ge mid 208 with h1 | h1
    · rcases Nat.lt_or_ge mid 200 with h1 | h1
      · rcases Nat.lt_or_ge mid 196 with h1 | h1
        · rcases Nat.lt_or_ge mid 194 with h1 | h1
          · rcases Nat.lt_or_ge mid 193 with h1 | h1
            · obtain rfl : mid = 192 := by omega
              exact ⟨⟨5, 87, mo_192⟩, trivial⟩
            · obtain rfl : mid = 193 := by omega
              exact ⟨⟨5, 91, mo_193⟩, trivial⟩
          · rcases Nat.lt_or_ge mid 195 with h1 | h1
            · obtain rfl : mid = 194 := by omega
              exact ⟨⟨5, 97, mo_194⟩, trivial⟩
            · obtain rfl : mid = 195 := by omega
              exact ⟨⟨5, 101, mo_195⟩, trivial⟩
        · rcases Nat.lt_or_ge mid 198 with h1 | h1
          · rcases Nat.lt_or_ge mid 197 with h1 | h1
            · obtain rfl : mid = 196 := by omega
              exact ⟨⟨11, 71, mo_196⟩, trivial⟩
            · obtain rfl : mid = 197 := by omega
              exact ⟨⟨11, 67, mo_197⟩, trivial⟩
          · rcases Nat.lt_or_ge mid 199 with h1 | h1
            · obtain rfl : mid = 198 := by omega
              exact ⟨⟨11, 125, mo_198⟩, trivial⟩
            · obtain rfl : mid = 199 := by omega
              exact ⟨⟨11, 96, mo_199⟩, trivial⟩
      · rcases Nat.lt_or_ge mid 204 with h1 | h1
        · rcases Nat.lt_or_ge mid 202 with h1 | h1
          · rcases Nat.lt_or_ge mid 201 with h1 | h1
            · obtain rfl : mid = 200 := by omega
              exact ⟨⟨11, 100, mo_200⟩, trivial⟩
            · obtain rfl : mid = 201 := by omega
              exact ⟨⟨11, 117, mo_201⟩, trivial⟩
          · rcases Nat.lt_or_ge mid 203 with h1 | h1
            · obtain rfl : mid = 202 := by omega
              exact ⟨⟨11, 121, mo_202⟩, trivial⟩
            · obtain rfl : mid = 203 := by omega
              exact ⟨⟨11, 107, mo_203⟩, trivial⟩
        · rcases Nat.lt_or_ge mid 206 with h1 | h1
          · rcases Nat.lt_or_ge mid 205 with h1 | h1
            · obtain rfl : mid = 204 := by omega
              exact ⟨⟨11, 112, mo_204⟩, trivial⟩
            · obtain rfl : mid = 205 := by omega
              exact ⟨⟨11, 141, mo_205⟩, trivial⟩
          · rcases Nat.lt_or_ge mid 207 with h1 | h1
            · obtain rfl : mid = 206 := by omega
              exact ⟨⟨11, 145, mo_206⟩, trivial⟩
            · obtain rfl : mid = 207 := by omega
              exact ⟨⟨11, 149, mo_207⟩, trivial⟩
    · rcases Nat.lt_or_ge mid 216 with h1 | h1
      · rcases Nat.lt_or_ge mid 212 with h1 | h1
        · rcases Nat.lt_or_ge mid 210 with h1 | h1
          · rcases Nat.lt_or_ge mid 209 with h1 | h1
            · obtain rfl : mid = 208 := by omega
              exact ⟨⟨11, 170, mo_208⟩, trivial⟩
            · obtain rfl : mid = 209 := by omega
              exact ⟨⟨11, 155, mo_209⟩, trivial⟩
          · rcases Nat.lt_or_ge mid 211 with h1 | h1
            · obtain rfl : mid = 210 := by omega
              exact ⟨⟨11, 166, mo_210⟩, trivial⟩
            · obtain rfl : mid = 211 := by omega
              exact ⟨⟨4, 199, mo_211⟩, trivial⟩
        · rcases Nat.lt_or_ge mid 214 with h1 | h1
          · rcases Nat.lt_or_ge mid 213 with h1 | h1
            · obtain rfl : mid = 212 := by omega
              exact ⟨⟨5, 41, mo_212⟩, trivial⟩
            · obtain rfl : mid = 213 := by omega
              exact ⟨⟨5, 66, mo_213⟩, mh_213⟩
          · rcases Nat.lt_or_ge mid 215 with h1 | h1
            · obtain rfl : mid = 214 := by omega
              exact ⟨⟨7, 10, mo_214⟩, mh_214⟩
            · obtain rfl : mid = 215 := by omega
              exact ⟨⟨4, 187, mo_215⟩, trivial⟩
      · rcases Nat.lt_or_ge mid 220 with h1 | h1
        · rcases Nat.lt_or_ge mid 218 with h1 | h1
          · rcases Nat.lt_or_ge mid 217 with h1 | h1
            · obtain rfl : mid = 216 := by omega
              exact ⟨⟨4, 191, mo_216⟩, trivial⟩
            · obtain rfl : mid = 217 := by omega
              exact ⟨⟨7, 42, mo_217⟩, trivial⟩
          · rcases Nat.lt_or_ge mid 219 with h1 | h1
            · obtain rfl : mid = 218 := by omega
              exact ⟨⟨7, 79, mo_218⟩, trivial⟩
            · obtain rfl : mid = 219 := by omega
              exact ⟨⟨7, 86, mo_219⟩, trivial⟩
        · rcases Nat.lt_or_ge mid 222 with h1 | h1
          · rcases Nat.lt_or_ge mid 221 with h1 | h1
            · obtain rfl : mid = 220 := by omega
              exact ⟨⟨7, 94, mo_220⟩, trivial⟩
            · obtain rfl : mid = 221 := by omega
              exact ⟨⟨7, 101, mo_221⟩, trivial⟩
          · rcases Nat.lt_or_ge mid 223 with h1 | h1
            · obtain rfl : mid = 222 := by omega
              exact ⟨⟨7, 108, mo_222⟩, trivial⟩
            · obtain rfl : mid = 223 := by omega
              exact ⟨⟨7, 115, mo_223⟩, trivial⟩
  · rcases Nat.lt_or_ge mid 240 with h1 | h1
    · rcases Nat.lt_or_ge mid 232 with h1 | h1
      · rcases Nat.lt_or_ge mid 228 with h1 | h1
        · rcases Nat.lt_or_ge mid 226 with h1 | h1
          · rcases Nat.lt_or_ge mid 225 with h1 | h1
            · obtain rfl : mid = 224 := by omega
              exact ⟨⟨7, 122, mo_224⟩, trivial⟩
            · obtain rfl : mid = 225 := by omega
              exact ⟨⟨7, 130, mo_225⟩, trivial⟩
          · rcases Nat.lt_or_ge mid 227 with h1 | h1
            · obtain rfl : mid = 226 := by omega
              exact ⟨⟨7, 137, mo_226⟩, trivial⟩
            · obtain rfl : mid = 227 := by omega
              exact ⟨⟨7, 144, mo_227⟩, trivial⟩
        · rcases Nat.lt_or_ge mid 230 with h1 | h1
          · rcases Nat.lt_or_ge mid 229 with h1 | h1
            · obtain rfl : mid = 228 := by omega
              exact ⟨⟨7, 160, mo_228⟩, trivial⟩
            · obtain rfl : mid = 229 := by omega
              exact ⟨⟨7, 167, mo_229⟩, trivial⟩
          · rcases Nat.lt_or_ge mid 231 with h1 | h1
            · obtain rfl : mid = 230 := by omega
              exact ⟨⟨7, 174, mo_230⟩, trivial⟩
            · obtain rfl : mid = 231 := by omega
              exact ⟨⟨8, 125, mo_231⟩, trivial⟩
      · rcases Nat.lt_or_ge mid 236 with h1 | h1
        · rcases Nat.lt_or_ge mid 234 with h1 | h1
          · rcases Nat.lt_or_ge mid 233 with h1 | h1
            · obtain rfl : mid = 232 := by omega
              exact ⟨⟨8, 144, mo_232⟩, trivial⟩
            · obtain rfl : mid = 233 := by omega
              exact ⟨⟨8, 153, mo_233⟩, trivial⟩
          · rcases Nat.lt_or_ge mid 235 with h1 | h1
            · obtain rfl : mid = 234 := by omega
              exact ⟨⟨8, 160, mo_234⟩, trivial⟩
            · obtain rfl : mid = 235 := by omega
              exact ⟨⟨8, 167, mo_235⟩, trivial⟩
        · rcases Nat.lt_or_ge mid 238 with h1 | h1
          · rcases Nat.lt_or_ge mid 237 with h1 | h1
            · obtain rfl : mid = 236 := by omega
              exact ⟨⟨8, 174, mo_236⟩, trivial⟩
            · obtain rfl : mid = 237 := by omega
              exact ⟨⟨8, 181, mo_237⟩, trivial⟩
          · rcases Nat.lt_or_ge mid 239 with h1 | h1
            · obtain rfl : mid = 238 := by omega
              exact ⟨⟨8, 188, mo_238⟩, trivial⟩
            · obtain rfl : mid = 239 := by omega
              exact ⟨⟨8, 228, mo_239⟩, trivial⟩
    · rcases Nat.lt_or_ge mid 248 with h1 | h1
      · rcases Nat.lt_or_ge mid 244 with h1 | h1
        · rcases Nat.lt_or_ge mid 242 with h1 | h1
          · rcases Nat.lt_or_ge mid 241 with h1 | h1
            · obtain rfl : mid = 240 := by omega
              exact ⟨⟨8, 239, mo_240⟩, trivial⟩
            · obtain rfl : mid = 241 := by omega
              exact ⟨⟨9, 10, mo_241⟩, trivial⟩
          · rcases Nat.lt_or_ge mid 243 with h1 | h1
            · obtain rfl : mid = 242 := by omega
              exact ⟨⟨9, 37, mo_242⟩, trivial⟩
            · obtain rfl : mid = 243 := by omega
              exact ⟨⟨9, 44, mo_243⟩, trivial⟩
        · rcases Nat.lt_or_ge mid 246 with h1 | h1
          · rcases Nat.lt_or_ge mid 245 with h1 | h1
            · obtain rfl : mid = 244 := by omega
              exact ⟨⟨10, 127, mo_244⟩, trivial⟩
            · obtain rfl : mid = 245 := by omega
              exact ⟨⟨10, 138, mo_245⟩, trivial⟩
          · rcases Nat.lt_or_ge mid 247 with h1 | h1
            · obtain rfl : mid = 246 := by omega
              exact ⟨⟨10, 156, mo_246⟩, trivial⟩
            · obtain rfl : mid = 247 := by omega
              exact ⟨⟨10, 192, mo_247⟩, trivial⟩
      · rcases Nat.lt_or_ge mid 252 with h1 | h1
        · rcases Nat.lt_or_ge mid 250 with h1 | h1
          · rcases Nat.lt_or_ge mid 249 with h1 | h1
            · obtain rfl : mid = 248 := by omega
              exact ⟨⟨10, 199, mo_248⟩, trivial⟩
            · obtain rfl : mid = 249 := by omega
              exact ⟨⟨10, 208, mo_249⟩, trivial⟩
          · rcases Nat.lt_or_ge mid 251 with h1 | h1
            · obtain rfl : mid = 250 := by omega
              exact ⟨⟨10, 220, mo_250⟩, trivial⟩
            · obtain rfl : mid = 251 := by omega
              exact ⟨⟨11, 0, mo_251⟩, trivial⟩
        · rcases Nat.lt_or_ge mid 254 with h1 | h1
          · rcases Nat.lt_or_ge mid 253 with h1 | h1
            · obtain rfl : mid = 252 := by omega
              exact ⟨⟨11, 15, mo_252⟩, trivial⟩
            · obtain rfl : mid = 253 := by omega
              exact ⟨⟨11, 63, mo_253⟩, trivial⟩
          · rcases Nat.lt_or_ge mid 255 with h1 | h1
            · obtain rfl : mid = 254 := by omega
              exact ⟨⟨11, 83, mo_254⟩, trivial⟩
            · obtain rfl : mid = 255 := by omega
              exact ⟨⟨11, 92, mo_255⟩, trivial⟩
theorem mo_t4 {sc : Nat × (Nat → Int)} {mid : Nat} (h0 : 256 ≤ mid) (h : mid < 320) : (∃ k i : Nat, (tb_K k)[i]? = some (sm_cw (mt_P sc) (mt_M sc) mid)) ∧ sm_hok (mt_i mid).1 (mt_hr mid) (mt_hs mid) := by
  rcases Nat.lt_or_ge mid 288 with h1 | h1
  · rcases Nat.lt_or_ge mid 272 with h1 | h1
    · rcases Nat.lt_or_ge mid 264 with h1 | h1
      · rcases Nat.lt_or_ge mid 260 with h1 | h1
        · rcases Nat.lt_or_ge mid 258 with h1 | h1
          · rcases Nat.lt_or_ge mid 257 with h1 | h1
            · obtain rfl : mid = 256 := by omega
              exact ⟨⟨11, 132, mo_256⟩, trivial⟩
            · obtain rfl : mid = 257 := by omega
              exact ⟨⟨11, 162, mo_257⟩, trivial⟩
          · rcases Nat.lt_or_ge mid 259 with h1 | h1
            · obtain rfl : mid = 258 := by omega
              exact ⟨⟨11, 177, mo_258⟩, trivial⟩
            · obtain rfl : mid = 259 := by omega
              exact ⟨⟨11, 214, mo_259⟩, trivial⟩
        · rcases Nat.lt_or_ge mid 262 with h1 | h1
          · rcases Nat.lt_or_ge mid 261 with h1 | h1
            · obtain rfl : mid = 260 := by omega
              exact ⟨⟨11, 226, mo_260⟩, trivial⟩
            · obtain rfl : mid = 261 := by omega
              exact ⟨⟨12, 12, mo_261⟩, trivial⟩
          · rcases Nat.lt_or_ge mid 263 with h1 | h1
            · obtain rfl : mid = 262 := by omega
              exact ⟨⟨12, 22, mo_262⟩, trivial⟩
            · obtain rfl : mid = 263 := by omega
              exact ⟨⟨12, 29, mo_263⟩, trivial⟩
      · rcases Nat.lt_or_ge mid 268 with h1 | h1
        · rcases Nat.lt_or_ge mid 266 with h1 | h1
          · rcases Nat.lt_or_ge mid 265 with h1 | h1
            · obtain rfl : mid = 264 := by omega
              exact ⟨⟨12, 40, mo_264⟩, trivial⟩
            · obtain rfl : mid = 265 := by omega
              exact ⟨⟨7, 49, mo_265⟩, trivial⟩
          · rcases Nat.lt_or_ge mid 267 with h1 | h1
            · obtain rfl : mid = 266 := by omega
              exact ⟨⟨5, 44, mo_266⟩, trivial⟩
            · obtain rfl : mid = 267 := by omega
              exact ⟨⟨8, 231, mo_267⟩, trivial⟩
        · rcases Nat.lt_or_ge mid 270 with h1 | h1
          · rcases Nat.lt_or_ge mid 269 with h1 | h1
            · obtain rfl : mid = 268 := by omega
              exact ⟨⟨4, 203, mo_268⟩, trivial⟩
            · obtain rfl : mid = 269 := by omega
              exact ⟨⟨12, 15, mo_269⟩, trivial⟩
          · rcases Nat.lt_or_ge mid 271 with h1 | h1
            · obtain rfl : mid = 270 := by omega
              exact ⟨⟨7, 46, mo_270⟩, trivial⟩
            · obtain rfl : mid = 271 := by omega
              exact ⟨⟨7, 68, mo_271⟩, trivial⟩
    · rcases Nat.lt_or_ge mid 280 with h1 | h1
      · rcases Nat.lt_or_ge mid 276 with h1 | h1
        · rcases Nat.lt_or_ge mid 274 with h1 | h1
          · rcases Nat.lt_or_ge mid 273 with h1 | h1
            · obtain rfl : mid = 272 := by omega
              exact ⟨⟨7, 72, mo_272⟩, trivial⟩
            · obtain rfl : mid = 273 := by omega
              exact ⟨⟨5, 71, mo_273⟩, trivial⟩
          · rcases Nat.lt_or_ge mid 275 with h1 | h1
            · obtain rfl : mid = 274 := by omega
              exact ⟨⟨7, 14, mo_274⟩, trivial⟩
            · obtain rfl : mid = 275 := by omega
              exact ⟨⟨7, 178, mo_275⟩, trivial⟩
        · rcases Nat.lt_or_ge mid 278 with h1 | h1
          · rcases Nat.lt_or_ge mid 277 with h1 | h1
            · obtain rfl : mid = 276 := by omega
              exact ⟨⟨7, 148, mo_276⟩, trivial⟩
            · obtain rfl : mid = 277 := by omega
              exact ⟨⟨7, 153, mo_277⟩, trivial⟩
          · rcases Nat.lt_or_ge mid 279 with h1 | h1
            · obtain rfl : mid = 278 := by omega
              exact ⟨⟨15, 141, mo_278⟩, trivial⟩
            · obtain rfl : mid = 279 := by omega
              exact ⟨⟨15, 25, mo_279⟩, trivial⟩
      · rcases Nat.lt_or_ge mid 284 with h1 | h1
        · rcases Nat.lt_or_ge mid 282 with h1 | h1
          · rcases Nat.lt_or_ge mid 281 with h1 | h1
            · obtain rfl : mid = 280 := by omega
              exact ⟨⟨15, 29, mo_280⟩, trivial⟩
            · obtain rfl : mid = 281 := by omega
              exact ⟨⟨15, 33, mo_281⟩, trivial⟩
          · rcases Nat.lt_or_ge mid 283 with h1 | h1
            · obtain rfl : mid = 282 := by omega
              exact ⟨⟨15, 56, mo_282⟩, trivial⟩
            · obtain rfl : mid = 283 := by omega
              exact ⟨⟨15, 66, mo_283⟩, trivial⟩
        · rcases Nat.lt_or_ge mid 286 with h1 | h1
          · rcases Nat.lt_or_ge mid 285 with h1 | h1
            · obtain rfl : mid = 284 := by omega
              exact ⟨⟨15, 69, mo_284⟩, trivial⟩
            · obtain rfl : mid = 285 := by omega
              exact ⟨⟨15, 59, mo_285⟩, trivial⟩
          · rcases Nat.lt_or_ge mid 287 with h1 | h1
            · obtain rfl : mid = 286 := by omega
              exact ⟨⟨15, 52, mo_286⟩, trivial⟩
            · obtain rfl : mid = 287 := by omega
              exact ⟨⟨15, 75, mo_287⟩, trivial⟩
  · rcases Nat.lt_or_ge mid 304 with h1 | h1
    · rcases Nat.lt_or_ge mid 296 with h1 | h1
      · rcases Nat.lt_or_ge mid 292 with h1 | h1
        · rcases Nat.lt_or_ge mid 290 with h1 | h1
          · rcases Nat.lt_or_ge mid 289 with h1 | h1
            · obtain rfl : mid = 288 := by omega
              exact ⟨⟨15, 72, mo_288⟩, trivial⟩
            · obtain rfl : mid = 289 := by omega
              exact ⟨⟨15, 78, mo_289⟩, trivial⟩
          · rcases Nat.lt_or_ge mid 291 with h1 | h1
            · obtain rfl : mid = 290 := by omega
              exact ⟨⟨15, 63, mo_290⟩, trivial⟩
            · obtain rfl : mid = 291 := by omega
              exact ⟨⟨15, 48, mo_291⟩, trivial⟩
        · rcases Nat.lt_or_ge mid 294 with h1 | h1
          · rcases Nat.lt_or_ge mid 293 with h1 | h1
            · obtain rfl : mid = 292 := by omega
              exact ⟨⟨15, 90, mo_292⟩, trivial⟩
            · obtain rfl : mid = 293 := by omega
              exact ⟨⟨15, 86, mo_293⟩, trivial⟩
          · rcases Nat.lt_or_ge mid 295 with h1 | h1
            · obtain rfl : mid = 294 := by omega
              exact ⟨⟨15, 181, mo_294⟩, trivial⟩
            · obtain rfl : mid = 295 := by omega
              exact ⟨⟨15, 122, mo_295⟩, trivial⟩
      · rcases Nat.lt_or_ge mid 300 with h1 | h1
        · rcases Nat.lt_or_ge mid 298 with h1 | h1
          · rcases Nat.lt_or_ge mid 297 with h1 | h1
            · obtain rfl : mid = 296 := by omega
              exact ⟨⟨15, 98, mo_296⟩, trivial⟩
            · obtain rfl : mid = 297 := by omega
              exact ⟨⟨15, 102, mo_297⟩, trivial⟩
          · rcases Nat.lt_or_ge mid 299 with h1 | h1
            · obtain rfl : mid = 298 := by omega
              exact ⟨⟨15, 82, mo_298⟩, trivial⟩
            · obtain rfl : mid = 299 := by omega
              exact ⟨⟨15, 106, mo_299⟩, trivial⟩
        · rcases Nat.lt_or_ge mid 302 with h1 | h1
          · rcases Nat.lt_or_ge mid 301 with h1 | h1
            · obtain rfl : mid = 300 := by omega
              exact ⟨⟨15, 118, mo_300⟩, trivial⟩
            · obtain rfl : mid = 301 := by omega
              exact ⟨⟨15, 114, mo_301⟩, trivial⟩
          · rcases Nat.lt_or_ge mid 303 with h1 | h1
            · obtain rfl : mid = 302 := by omega
              exact ⟨⟨15, 134, mo_302⟩, trivial⟩
            · obtain rfl : mid = 303 := by omega
              exact ⟨⟨15, 110, mo_303⟩, trivial⟩
    · rcases Nat.lt_or_ge mid 312 with h1 | h1
      · rcases Nat.lt_or_ge mid 308 with h1 | h1
        · rcases Nat.lt_or_ge mid 306 with h1 | h1
          · rcases Nat.lt_or_ge mid 305 with h1 | h1
            · obtain rfl : mid = 304 := by omega
              exact ⟨⟨16, 27, mo_304⟩, trivial⟩
            · obtain rfl : mid = 305 := by omega
              exact ⟨⟨16, 23, mo_305⟩, trivial⟩
          · rcases Nat.lt_or_ge mid 307 with h1 | h1
            · obtain rfl : mid = 306 := by omega
              exact ⟨⟨15, 130, mo_306⟩, trivial⟩
            · obtain rfl : mid = 307 := by omega
              exact ⟨⟨15, 138, mo_307⟩, trivial⟩
        · rcases Nat.lt_or_ge mid 310 with h1 | h1
          · rcases Nat.lt_or_ge mid 309 with h1 | h1
            · obtain rfl : mid = 308 := by omega
              exact ⟨⟨15, 145, mo_308⟩, trivial⟩
            · obtain rfl : mid = 309 := by omega
              exact ⟨⟨15, 215, mo_309⟩, trivial⟩
          · rcases Nat.lt_or_ge mid 311 with h1 | h1
            · obtain rfl : mid = 310 := by omega
              exact ⟨⟨15, 212, mo_310⟩, trivial⟩
            · obtain rfl : mid = 311 := by omega
              exact ⟨⟨15, 165, mo_311⟩, trivial⟩
      · rcases Nat.lt_or_ge mid 316 with h1 | h1
        · rcases Nat.lt_or_ge mid 314 with h1 | h1
          · rcases Nat.lt_or_ge mid 313 with h1 | h1
            · obtain rfl : mid = 312 := by omega
              exact ⟨⟨15, 161, mo_312⟩, trivial⟩
            · obtain rfl : mid = 313 := by omega
              exact ⟨⟨15, 223, mo_313⟩, trivial⟩
          · rcases Nat.lt_or_ge mid 315 with h1 | h1
            · obtain rfl : mid = 314 := by omega
              exact ⟨⟨16, 7, mo_314⟩, trivial⟩
            · obtain rfl : mid = 315 := by omega
              exact ⟨⟨15, 219, mo_315⟩, trivial⟩
        · rcases Nat.lt_or_ge mid 318 with h1 | h1
          · rcases Nat.lt_or_ge mid 317 with h1 | h1
            · obtain rfl : mid = 316 := by omega
              exact ⟨⟨16, 3, mo_316⟩, trivial⟩
            · obtain rfl : mid = 317 := by omega
              exact ⟨⟨15, 204, mo_317⟩, trivial⟩
          · rcases Nat.lt_or_ge mid 319 with h1 | h1
            · obtain rfl : mid = 318 := by omega
              exact ⟨⟨15, 169, mo_318⟩, trivial⟩
            · obtain rfl : mid = 319 := by omega
              exact ⟨⟨15, 157, mo_319⟩, trivial⟩
theorem mo_t5 {sc : Nat × (Nat → Int)} {mid : Nat} (h0 : 320 ≤ mid) (h : mid < 384) : (∃ k i : Nat, (tb_K k)[i]? = some (sm_cw (mt_P sc) (mt_M sc) mid)) ∧ sm_hok (mt_i mid).1 (mt_hr mid) (mt_hs mid) := by
  rcases Nat.lt_or_ge mid 352 with h1 | h1
  · rcases Nat.lt_or_ge mid 336 with h1 | h1
    · rcases Nat.lt_or_ge mid 328 with h1 | h1
      · rcases Nat.lt_or_ge mid 324 with h1 | h1
        · rcases Nat.lt_or_ge mid 322 with h1 | h1
          · rcases Nat.lt_or_ge mid 321 with h1 | h1
            · obtain rfl : mid = 320 := by omega
              exact ⟨⟨15, 208, mo_320⟩, trivial⟩
            · obtain rfl : mid = 321 := by omega
              exact ⟨⟨15, 153, mo_321⟩, trivial⟩
          · rcases Nat.lt_or_ge mid 323 with h1 | h1
            · obtain rfl : mid = 322 := by omega
              exact ⟨⟨15, 177, mo_322⟩, trivial⟩
            · obtain rfl : mid = 323 := by omega
              exact ⟨⟨15, 200, mo_323⟩, trivial⟩
        · rcases Nat.lt_or_ge mid 326 with h1 | h1
          · rcases Nat.lt_or_ge mid 325 with h1 | h1
            · obtain rfl : mid = 324 := by omega
              exact ⟨⟨15, 185, mo_324⟩, trivial⟩
            · obtain rfl : mid = 325 := by omega
              exact ⟨⟨15, 197, mo_325⟩, trivial⟩
          · rcases Nat.lt_or_ge mid 327 with h1 | h1
            · obtain rfl : mid = 326 := by omega
              exact ⟨⟨15, 189, mo_326⟩, trivial⟩
            · obtain rfl : mid = 327 := by omega
              exact ⟨⟨15, 173, mo_327⟩, trivial⟩
      · rcases Nat.lt_or_ge mid 332 with h1 | h1
        · rcases Nat.lt_or_ge mid 330 with h1 | h1
          · rcases Nat.lt_or_ge mid 329 with h1 | h1
            · obtain rfl : mid = 328 := by omega
              exact ⟨⟨15, 231, mo_328⟩, trivial⟩
            · obtain rfl : mid = 329 := by omega
              exact ⟨⟨15, 235, mo_329⟩, trivial⟩
          · rcases Nat.lt_or_ge mid 331 with h1 | h1
            · obtain rfl : mid = 330 := by omega
              exact ⟨⟨15, 239, mo_330⟩, trivial⟩
            · obtain rfl : mid = 331 := by omega
              exact ⟨⟨15, 227, mo_331⟩, trivial⟩
        · rcases Nat.lt_or_ge mid 334 with h1 | h1
          · rcases Nat.lt_or_ge mid 333 with h1 | h1
            · obtain rfl : mid = 332 := by omega
              exact ⟨⟨16, 11, mo_332⟩, trivial⟩
            · obtain rfl : mid = 333 := by omega
              exact ⟨⟨15, 193, mo_333⟩, trivial⟩
          · rcases Nat.lt_or_ge mid 335 with h1 | h1
            · obtain rfl : mid = 334 := by omega
              exact ⟨⟨15, 126, mo_334⟩, trivial⟩
            · obtain rfl : mid = 335 := by omega
              exact ⟨⟨15, 149, mo_335⟩, trivial⟩
    · rcases Nat.lt_or_ge mid 344 with h1 | h1
      · rcases Nat.lt_or_ge mid 340 with h1 | h1
        · rcases Nat.lt_or_ge mid 338 with h1 | h1
          · rcases Nat.lt_or_ge mid 337 with h1 | h1
            · obtain rfl : mid = 336 := by omega
              exact ⟨⟨16, 15, mo_336⟩, trivial⟩
            · obtain rfl : mid = 337 := by omega
              exact ⟨⟨16, 31, mo_337⟩, trivial⟩
          · rcases Nat.lt_or_ge mid 339 with h1 | h1
            · obtain rfl : mid = 338 := by omega
              exact ⟨⟨16, 19, mo_338⟩, trivial⟩
            · obtain rfl : mid = 339 := by omega
              exact ⟨⟨15, 94, mo_339⟩, trivial⟩
        · rcases Nat.lt_or_ge mid 342 with h1 | h1
          · rcases Nat.lt_or_ge mid 341 with h1 | h1
            · obtain rfl : mid = 340 := by omega
              exact ⟨⟨15, 44, mo_340⟩, trivial⟩
            · obtain rfl : mid = 341 := by omega
              exact ⟨⟨16, 39, mo_341⟩, trivial⟩
          · rcases Nat.lt_or_ge mid 343 with h1 | h1
            · obtain rfl : mid = 342 := by omega
              exact ⟨⟨16, 63, mo_342⟩, trivial⟩
            · obtain rfl : mid = 343 := by omega
              exact ⟨⟨16, 51, mo_343⟩, trivial⟩
      · rcases Nat.lt_or_ge mid 348 with h1 | h1
        · rcases Nat.lt_or_ge mid 346 with h1 | h1
          · rcases Nat.lt_or_ge mid 345 with h1 | h1
            · obtain rfl : mid = 344 := by omega
              exact ⟨⟨16, 55, mo_344⟩, trivial⟩
            · obtain rfl : mid = 345 := by omega
              exact ⟨⟨16, 59, mo_345⟩, trivial⟩
          · rcases Nat.lt_or_ge mid 347 with h1 | h1
            · obtain rfl : mid = 346 := by omega
              exact ⟨⟨16, 67, mo_346⟩, trivial⟩
            · obtain rfl : mid = 347 := by omega
              exact ⟨⟨16, 47, mo_347⟩, trivial⟩
        · rcases Nat.lt_or_ge mid 350 with h1 | h1
          · rcases Nat.lt_or_ge mid 349 with h1 | h1
            · obtain rfl : mid = 348 := by omega
              exact ⟨⟨16, 43, mo_348⟩, trivial⟩
            · obtain rfl : mid = 349 := by omega
              exact ⟨⟨16, 35, mo_349⟩, trivial⟩
          · rcases Nat.lt_or_ge mid 351 with h1 | h1
            · obtain rfl : mid = 350 := by omega
              exact ⟨⟨16, 78, mo_350⟩, trivial⟩
            · obtain rfl : mid = 351 := by omega
              exact ⟨⟨16, 89, mo_351⟩, trivial⟩
  · rcases Nat.lt_or_ge mid 368 with h1 | h1
    · rcases Nat.lt_or_ge mid 360 with h1 | h1
      · rcases Nat.lt_or_ge mid 356 with h1 | h1
        · rcases Nat.lt_or_ge mid 354 with h1 | h1
          · rcases Nat.lt_or_ge mid 353 with h1 | h1
            · obtain rfl : mid = 352 := by omega
              exact ⟨⟨16, 75, mo_352⟩, trivial⟩
            · obtain rfl : mid = 353 := by omega
              exact ⟨⟨16, 97, mo_353⟩, trivial⟩
          · rcases Nat.lt_or_ge mid 355 with h1 | h1
            · obtain rfl : mid = 354 := by omega
              exact ⟨⟨16, 93, mo_354⟩, trivial⟩
            · obtain rfl : mid = 355 := by omega
              exact ⟨⟨16, 113, mo_355⟩, trivial⟩
        · rcases Nat.lt_or_ge mid 358 with h1 | h1
          · rcases Nat.lt_or_ge mid 357 with h1 | h1
            · obtain rfl : mid = 356 := by omega
              exact ⟨⟨16, 109, mo_356⟩, trivial⟩
            · obtain rfl : mid = 357 := by omega
              exact ⟨⟨16, 101, mo_357⟩, trivial⟩
          · rcases Nat.lt_or_ge mid 359 with h1 | h1
            · obtain rfl : mid = 358 := by omega
              exact ⟨⟨16, 105, mo_358⟩, trivial⟩
            · obtain rfl : mid = 359 := by omega
              exact ⟨⟨16, 117, mo_359⟩, trivial⟩
      · rcases Nat.lt_or_ge mid 364 with h1 | h1
        · rcases Nat.lt_or_ge mid 362 with h1 | h1
          · rcases Nat.lt_or_ge mid 361 with h1 | h1
            · obtain rfl : mid = 360 := by omega
              exact ⟨⟨16, 71, mo_360⟩, trivial⟩
            · obtain rfl : mid = 361 := by omega
              exact ⟨⟨16, 121, mo_361⟩, trivial⟩
          · rcases Nat.lt_or_ge mid 363 with h1 | h1
            · obtain rfl : mid = 362 := by omega
              exact ⟨⟨15, 40, mo_362⟩, trivial⟩
            · obtain rfl : mid = 363 := by omega
              exact ⟨⟨15, 37, mo_363⟩, trivial⟩
        · rcases Nat.lt_or_ge mid 366 with h1 | h1
          · rcases Nat.lt_or_ge mid 365 with h1 | h1
            · obtain rfl : mid = 364 := by omega
              exact ⟨⟨16, 133, mo_364⟩, trivial⟩
            · obtain rfl : mid = 365 := by omega
              exact ⟨⟨16, 137, mo_365⟩, trivial⟩
          · rcases Nat.lt_or_ge mid 367 with h1 | h1
            · obtain rfl : mid = 366 := by omega
              exact ⟨⟨16, 129, mo_366⟩, trivial⟩
            · obtain rfl : mid = 367 := by omega
              exact ⟨⟨16, 125, mo_367⟩, trivial⟩
    · rcases Nat.lt_or_ge mid 376 with h1 | h1
      · rcases Nat.lt_or_ge mid 372 with h1 | h1
        · rcases Nat.lt_or_ge mid 370 with h1 | h1
          · rcases Nat.lt_or_ge mid 369 with h1 | h1
            · obtain rfl : mid = 368 := by omega
              exact ⟨⟨16, 141, mo_368⟩, trivial⟩
            · obtain rfl : mid = 369 := by omega
              exact ⟨⟨16, 153, mo_369⟩, trivial⟩
          · rcases Nat.lt_or_ge mid 371 with h1 | h1
            · obtain rfl : mid = 370 := by omega
              exact ⟨⟨16, 157, mo_370⟩, trivial⟩
            · obtain rfl : mid = 371 := by omega
              exact ⟨⟨16, 161, mo_371⟩, trivial⟩
        · rcases Nat.lt_or_ge mid 374 with h1 | h1
          · rcases Nat.lt_or_ge mid 373 with h1 | h1
            · obtain rfl : mid = 372 := by omega
              exact ⟨⟨16, 149, mo_372⟩, trivial⟩
            · obtain rfl : mid = 373 := by omega
              exact ⟨⟨16, 145, mo_373⟩, trivial⟩
          · rcases Nat.lt_or_ge mid 375 with h1 | h1
            · obtain rfl : mid = 374 := by omega
              exact ⟨⟨16, 165, mo_374⟩, trivial⟩
            · obtain rfl : mid = 375 := by omega
              exact ⟨⟨16, 169, mo_375⟩, trivial⟩
      · rcases Nat.lt_or_ge mid 380 with h1 | h1
        · rcases Nat.lt_or_ge mid 378 with h1 | h1
          · rcases Nat.lt_or_ge mid 377 with h1 | h1
            · obtain rfl : mid = 376 := by omega
              exact ⟨⟨16, 173, mo_376⟩, trivial⟩
            · obtain rfl : mid = 377 := by omega
              exact ⟨⟨16, 177, mo_377⟩, trivial⟩
          · rcases Nat.lt_or_ge mid 379 with h1 | h1
            · obtain rfl : mid = 378 := by omega
              exact ⟨⟨16, 181, mo_378⟩, trivial⟩
            · obtain rfl : mid = 379 := by omega
              exact ⟨⟨16, 189, mo_379⟩, trivial⟩
        · rcases Nat.lt_or_ge mid 382 with h1 | h1
          · rcases Nat.lt_or_ge mid 381 with h1 | h1
            · obtain rfl : mid = 380 := by omega
              exact ⟨⟨16, 185, mo_380⟩, trivial⟩
            · obtain rfl : mid = 381 := by omega
              exact ⟨⟨16, 196, mo_381⟩, trivial⟩
          · rcases Nat.lt_or_ge mid 383 with h1 | h1
            · obtain rfl : mid = 382 := by omega
              exact ⟨⟨16, 193, mo_382⟩, trivial⟩
            · obtain rfl : mid = 383 := by omega
              exact ⟨⟨16, 200, mo_383⟩, trivial⟩
theorem mo_t6 {sc : Nat × (Nat → Int)} {mid : Nat} (h0 : 384 ≤ mid) (h : mid < 448) : (∃ k i : Nat, (tb_K k)[i]? = some (sm_cw (mt_P sc) (mt_M sc) mid)) ∧ sm_hok (mt_i mid).1 (mt_hr mid) (mt_hs mid) := by
  rcases Nat.lt_or_ge mid 416 with h1 | h1
  · rcases Nat.lt_or_ge mid 400 with h1 | h1
    · rcases Nat.lt_or_ge mid 392 with h1 | h1
      · rcases Nat.lt_or_ge mid 388 with h1 | h1
        · rcases Nat.lt_or_ge mid 386 with h1 | h1
          · rcases Nat.lt_or_ge mid 385 with h1 | h1
            · obtain rfl : mid = 384 := by omega
              exact ⟨⟨16, 204, mo_384⟩, trivial⟩
            · obtain rfl : mid = 385 := by omega
              exact ⟨⟨16, 224, mo_385⟩, trivial⟩
          · rcases Nat.lt_or_ge mid 387 with h1 | h1
            · obtain rfl : mid = 386 := by omega
              exact ⟨⟨16, 220, mo_386⟩, trivial⟩
            · obtain rfl : mid = 387 := by omega
              exact ⟨⟨16, 212, mo_387⟩, trivial⟩
        · rcases Nat.lt_or_ge mid 390 with h1 | h1
          · rcases Nat.lt_or_ge mid 389 with h1 | h1
            · obtain rfl : mid = 388 := by omega
              exact ⟨⟨16, 216, mo_388⟩, trivial⟩
            · obtain rfl : mid = 389 := by omega
              exact ⟨⟨16, 208, mo_389⟩, trivial⟩
          · rcases Nat.lt_or_ge mid 391 with h1 | h1
            · obtain rfl : mid = 390 := by omega
              exact ⟨⟨16, 228, mo_390⟩, trivial⟩
            · obtain rfl : mid = 391 := by omega
              exact ⟨⟨16, 232, mo_391⟩, trivial⟩
      · rcases Nat.lt_or_ge mid 396 with h1 | h1
        · rcases Nat.lt_or_ge mid 394 with h1 | h1
          · rcases Nat.lt_or_ge mid 393 with h1 | h1
            · obtain rfl : mid = 392 := by omega
              exact ⟨⟨17, 9, mo_392⟩, trivial⟩
            · obtain rfl : mid = 393 := by omega
              exact ⟨⟨17, 5, mo_393⟩, trivial⟩
          · rcases Nat.lt_or_ge mid 395 with h1 | h1
            · obtain rfl : mid = 394 := by omega
              exact ⟨⟨17, 1, mo_394⟩, trivial⟩
            · obtain rfl : mid = 395 := by omega
              exact ⟨⟨17, 29, mo_395⟩, trivial⟩
        · rcases Nat.lt_or_ge mid 398 with h1 | h1
          · rcases Nat.lt_or_ge mid 397 with h1 | h1
            · obtain rfl : mid = 396 := by omega
              exact ⟨⟨17, 21, mo_396⟩, trivial⟩
            · obtain rfl : mid = 397 := by omega
              exact ⟨⟨17, 25, mo_397⟩, trivial⟩
          · rcases Nat.lt_or_ge mid 399 with h1 | h1
            · obtain rfl : mid = 398 := by omega
              exact ⟨⟨17, 33, mo_398⟩, trivial⟩
            · obtain rfl : mid = 399 := by omega
              exact ⟨⟨17, 37, mo_399⟩, trivial⟩
    · rcases Nat.lt_or_ge mid 408 with h1 | h1
      · rcases Nat.lt_or_ge mid 404 with h1 | h1
        · rcases Nat.lt_or_ge mid 402 with h1 | h1
          · rcases Nat.lt_or_ge mid 401 with h1 | h1
            · obtain rfl : mid = 400 := by omega
              exact ⟨⟨17, 17, mo_400⟩, trivial⟩
            · obtain rfl : mid = 401 := by omega
              exact ⟨⟨17, 45, mo_401⟩, trivial⟩
          · rcases Nat.lt_or_ge mid 403 with h1 | h1
            · obtain rfl : mid = 402 := by omega
              exact ⟨⟨17, 41, mo_402⟩, trivial⟩
            · obtain rfl : mid = 403 := by omega
              exact ⟨⟨17, 55, mo_403⟩, trivial⟩
        · rcases Nat.lt_or_ge mid 406 with h1 | h1
          · rcases Nat.lt_or_ge mid 405 with h1 | h1
            · obtain rfl : mid = 404 := by omega
              exact ⟨⟨17, 63, mo_404⟩, trivial⟩
            · obtain rfl : mid = 405 := by omega
              exact ⟨⟨17, 52, mo_405⟩, trivial⟩
          · rcases Nat.lt_or_ge mid 407 with h1 | h1
            · obtain rfl : mid = 406 := by omega
              exact ⟨⟨17, 59, mo_406⟩, trivial⟩
            · obtain rfl : mid = 407 := by omega
              exact ⟨⟨17, 13, mo_407⟩, trivial⟩
      · rcases Nat.lt_or_ge mid 412 with h1 | h1
        · rcases Nat.lt_or_ge mid 410 with h1 | h1
          · rcases Nat.lt_or_ge mid 409 with h1 | h1
            · obtain rfl : mid = 408 := by omega
              exact ⟨⟨17, 49, mo_408⟩, trivial⟩
            · obtain rfl : mid = 409 := by omega
              exact ⟨⟨17, 103, mo_409⟩, trivial⟩
          · rcases Nat.lt_or_ge mid 411 with h1 | h1
            · obtain rfl : mid = 410 := by omega
              exact ⟨⟨17, 99, mo_410⟩, trivial⟩
            · obtain rfl : mid = 411 := by omega
              exact ⟨⟨17, 95, mo_411⟩, trivial⟩
        · rcases Nat.lt_or_ge mid 414 with h1 | h1
          · rcases Nat.lt_or_ge mid 413 with h1 | h1
            · obtain rfl : mid = 412 := by omega
              exact ⟨⟨17, 87, mo_412⟩, trivial⟩
            · obtain rfl : mid = 413 := by omega
              exact ⟨⟨17, 75, mo_413⟩, trivial⟩
          · rcases Nat.lt_or_ge mid 415 with h1 | h1
            · obtain rfl : mid = 414 := by omega
              exact ⟨⟨17, 79, mo_414⟩, trivial⟩
            · obtain rfl : mid = 415 := by omega
              exact ⟨⟨17, 71, mo_415⟩, trivial⟩
  · rcases Nat.lt_or_ge mid 432 with h1 | h1
    · rcases Nat.lt_or_ge mid 424 with h1 | h1
      · rcases Nat.lt_or_ge mid 420 with h1 | h1
        · rcases Nat.lt_or_ge mid 418 with h1 | h1
          · rcases Nat.lt_or_ge mid 417 with h1 | h1
            · obtain rfl : mid = 416 := by omega
              exact ⟨⟨17, 83, mo_416⟩, trivial⟩
            · obtain rfl : mid = 417 := by omega
              exact ⟨⟨17, 91, mo_417⟩, trivial⟩
          · rcases Nat.lt_or_ge mid 419 with h1 | h1
            · obtain rfl : mid = 418 := by omega
              exact ⟨⟨17, 67, mo_418⟩, trivial⟩
            · obtain rfl : mid = 419 := by omega
              exact ⟨⟨16, 236, mo_419⟩, trivial⟩
        · rcases Nat.lt_or_ge mid 422 with h1 | h1
          · rcases Nat.lt_or_ge mid 421 with h1 | h1
            · obtain rfl : mid = 420 := by omega
              exact ⟨⟨17, 107, mo_420⟩, trivial⟩
            · obtain rfl : mid = 421 := by omega
              exact ⟨⟨17, 119, mo_421⟩, trivial⟩
          · rcases Nat.lt_or_ge mid 423 with h1 | h1
            · obtain rfl : mid = 422 := by omega
              exact ⟨⟨17, 123, mo_422⟩, trivial⟩
            · obtain rfl : mid = 423 := by omega
              exact ⟨⟨17, 127, mo_423⟩, trivial⟩
      · rcases Nat.lt_or_ge mid 428 with h1 | h1
        · rcases Nat.lt_or_ge mid 426 with h1 | h1
          · rcases Nat.lt_or_ge mid 425 with h1 | h1
            · obtain rfl : mid = 424 := by omega
              exact ⟨⟨17, 131, mo_424⟩, trivial⟩
            · obtain rfl : mid = 425 := by omega
              exact ⟨⟨17, 115, mo_425⟩, trivial⟩
          · rcases Nat.lt_or_ge mid 427 with h1 | h1
            · obtain rfl : mid = 426 := by omega
              exact ⟨⟨17, 135, mo_426⟩, trivial⟩
            · obtain rfl : mid = 427 := by omega
              exact ⟨⟨17, 139, mo_427⟩, trivial⟩
        · rcases Nat.lt_or_ge mid 430 with h1 | h1
          · rcases Nat.lt_or_ge mid 429 with h1 | h1
            · obtain rfl : mid = 428 := by omega
              exact ⟨⟨17, 143, mo_428⟩, trivial⟩
            · obtain rfl : mid = 429 := by omega
              exact ⟨⟨17, 154, mo_429⟩, trivial⟩
          · rcases Nat.lt_or_ge mid 431 with h1 | h1
            · obtain rfl : mid = 430 := by omega
              exact ⟨⟨17, 151, mo_430⟩, trivial⟩
            · obtain rfl : mid = 431 := by omega
              exact ⟨⟨17, 158, mo_431⟩, trivial⟩
    · rcases Nat.lt_or_ge mid 440 with h1 | h1
      · rcases Nat.lt_or_ge mid 436 with h1 | h1
        · rcases Nat.lt_or_ge mid 434 with h1 | h1
          · rcases Nat.lt_or_ge mid 433 with h1 | h1
            · obtain rfl : mid = 432 := by omega
              exact ⟨⟨17, 170, mo_432⟩, trivial⟩
            · obtain rfl : mid = 433 := by omega
              exact ⟨⟨17, 147, mo_433⟩, trivial⟩
          · rcases Nat.lt_or_ge mid 435 with h1 | h1
            · obtain rfl : mid = 434 := by omega
              exact ⟨⟨17, 162, mo_434⟩, trivial⟩
            · obtain rfl : mid = 435 := by omega
              exact ⟨⟨17, 166, mo_435⟩, trivial⟩
        · rcases Nat.lt_or_ge mid 438 with h1 | h1
          · rcases Nat.lt_or_ge mid 437 with h1 | h1
            · obtain rfl : mid = 436 := by omega
              exact ⟨⟨17, 178, mo_436⟩, trivial⟩
            · obtain rfl : mid = 437 := by omega
              exact ⟨⟨17, 214, mo_437⟩, trivial⟩
          · rcases Nat.lt_or_ge mid 439 with h1 | h1
            · obtain rfl : mid = 438 := by omega
              exact ⟨⟨17, 218, mo_438⟩, trivial⟩
            · obtain rfl : mid = 439 := by omega
              exact ⟨⟨17, 210, mo_439⟩, trivial⟩
      · rcases Nat.lt_or_ge mid 444 with h1 | h1
        · rcases Nat.lt_or_ge mid 442 with h1 | h1
          · rcases Nat.lt_or_ge mid 441 with h1 | h1
            · obtain rfl : mid = 440 := by omega
              exact ⟨⟨17, 206, mo_440⟩, trivial⟩
            · obtain rfl : mid = 441 := by omega
              exact ⟨⟨17, 222, mo_441⟩, trivial⟩
          · rcases Nat.lt_or_ge mid 443 with h1 | h1
            · obtain rfl : mid = 442 := by omega
              exact ⟨⟨17, 202, mo_442⟩, trivial⟩
            · obtain rfl : mid = 443 := by omega
              exact ⟨⟨17, 182, mo_443⟩, trivial⟩
        · rcases Nat.lt_or_ge mid 446 with h1 | h1
          · rcases Nat.lt_or_ge mid 445 with h1 | h1
            · obtain rfl : mid = 444 := by omega
              exact ⟨⟨17, 174, mo_444⟩, trivial⟩
            · obtain rfl : mid = 445 := by omega
              exact ⟨⟨17, 190, mo_445⟩, trivial⟩
          · rcases Nat.lt_or_ge mid 447 with h1 | h1
            · obtain rfl : mid = 446 := by omega
              exact ⟨⟨17, 186, mo_446⟩, trivial⟩
            · obtain rfl : mid = 447 := by omega
              exact ⟨⟨17, 194, mo_447⟩, trivial⟩
theorem mo_t7 {sc : Nat × (Nat → Int)} {mid : Nat} (h0 : 448 ≤ mid) (h : mid < 512) : (∃ k i : Nat, (tb_K k)[i]? = some (sm_cw (mt_P sc) (mt_M sc) mid)) ∧ sm_hok (mt_i mid).1 (mt_hr mid) (mt_hs mid) := by
  rcases Nat.lt_or_ge mid 480 with h1 | h1
  · rcases Nat.lt_or_ge mid 464 with h1 | h1
    · rcases Nat.lt_or_ge mid 456 with h1 | h1
      · rcases Nat.lt_or_ge mid 452 with h1 | h1
        · rcases Nat.lt_or_ge mid 450 with h1 | h1
          · rcases Nat.lt_or_ge mid 449 with h1 | h1
            · obtain rfl : mid = 448 := by omega
              exact ⟨⟨17, 226, mo_448⟩, trivial⟩
            · obtain rfl : mid = 449 := by omega
              exact ⟨⟨17, 198, mo_449⟩, trivial⟩
          · rcases Nat.lt_or_ge mid 451 with h1 | h1
            · obtain rfl : mid = 450 := by omega
              exact ⟨⟨17, 234, mo_450⟩, trivial⟩
            · obtain rfl : mid = 451 := by omega
              exact ⟨⟨17, 230, mo_451⟩, trivial⟩
        · rcases Nat.lt_or_ge mid 454 with h1 | h1
          · rcases Nat.lt_or_ge mid 453 with h1 | h1
            · obtain rfl : mid = 452 := by omega
              exact ⟨⟨18, 10, mo_452⟩, trivial⟩
            · obtain rfl : mid = 453 := by omega
              exact ⟨⟨18, 34, mo_453⟩, trivial⟩
          · rcases Nat.lt_or_ge mid 455 with h1 | h1
            · obtain rfl : mid = 454 := by omega
              exact ⟨⟨18, 26, mo_454⟩, trivial⟩
            · obtain rfl : mid = 455 := by omega
              exact ⟨⟨18, 38, mo_455⟩, trivial⟩
      · rcases Nat.lt_or_ge mid 460 with h1 | h1
        · rcases Nat.lt_or_ge mid 458 with h1 | h1
          · rcases Nat.lt_or_ge mid 457 with h1 | h1
            · obtain rfl : mid = 456 := by omega
              exact ⟨⟨18, 30, mo_456⟩, trivial⟩
            · obtain rfl : mid = 457 := by omega
              exact ⟨⟨18, 50, mo_457⟩, trivial⟩
          · rcases Nat.lt_or_ge mid 459 with h1 | h1
            · obtain rfl : mid = 458 := by omega
              exact ⟨⟨18, 46, mo_458⟩, trivial⟩
            · obtain rfl : mid = 459 := by omega
              exact ⟨⟨18, 22, mo_459⟩, trivial⟩
        · rcases Nat.lt_or_ge mid 462 with h1 | h1
          · rcases Nat.lt_or_ge mid 461 with h1 | h1
            · obtain rfl : mid = 460 := by omega
              exact ⟨⟨18, 42, mo_460⟩, trivial⟩
            · obtain rfl : mid = 461 := by omega
              exact ⟨⟨18, 18, mo_461⟩, trivial⟩
          · rcases Nat.lt_or_ge mid 463 with h1 | h1
            · obtain rfl : mid = 462 := by omega
              exact ⟨⟨18, 6, mo_462⟩, trivial⟩
            · obtain rfl : mid = 463 := by omega
              exact ⟨⟨18, 2, mo_463⟩, trivial⟩
    · rcases Nat.lt_or_ge mid 472 with h1 | h1
      · rcases Nat.lt_or_ge mid 468 with h1 | h1
        · rcases Nat.lt_or_ge mid 466 with h1 | h1
          · rcases Nat.lt_or_ge mid 465 with h1 | h1
            · obtain rfl : mid = 464 := by omega
              exact ⟨⟨18, 54, mo_464⟩, trivial⟩
            · obtain rfl : mid = 465 := by omega
              exact ⟨⟨18, 14, mo_465⟩, trivial⟩
          · rcases Nat.lt_or_ge mid 467 with h1 | h1
            · obtain rfl : mid = 466 := by omega
              exact ⟨⟨17, 238, mo_466⟩, trivial⟩
            · obtain rfl : mid = 467 := by omega
              exact ⟨⟨18, 58, mo_467⟩, trivial⟩
        · rcases Nat.lt_or_ge mid 470 with h1 | h1
          · rcases Nat.lt_or_ge mid 469 with h1 | h1
            · obtain rfl : mid = 468 := by omega
              exact ⟨⟨18, 62, mo_468⟩, trivial⟩
            · obtain rfl : mid = 469 := by omega
              exact ⟨⟨18, 82, mo_469⟩, trivial⟩
          · rcases Nat.lt_or_ge mid 471 with h1 | h1
            · obtain rfl : mid = 470 := by omega
              exact ⟨⟨18, 78, mo_470⟩, trivial⟩
            · obtain rfl : mid = 471 := by omega
              exact ⟨⟨18, 74, mo_471⟩, trivial⟩
      · rcases Nat.lt_or_ge mid 476 with h1 | h1
        · rcases Nat.lt_or_ge mid 474 with h1 | h1
          · rcases Nat.lt_or_ge mid 473 with h1 | h1
            · obtain rfl : mid = 472 := by omega
              exact ⟨⟨18, 86, mo_472⟩, trivial⟩
            · obtain rfl : mid = 473 := by omega
              exact ⟨⟨18, 70, mo_473⟩, trivial⟩
          · rcases Nat.lt_or_ge mid 475 with h1 | h1
            · obtain rfl : mid = 474 := by omega
              exact ⟨⟨18, 66, mo_474⟩, trivial⟩
            · obtain rfl : mid = 475 := by omega
              exact ⟨⟨18, 94, mo_475⟩, trivial⟩
        · rcases Nat.lt_or_ge mid 478 with h1 | h1
          · rcases Nat.lt_or_ge mid 477 with h1 | h1
            · obtain rfl : mid = 476 := by omega
              exact ⟨⟨18, 98, mo_476⟩, trivial⟩
            · obtain rfl : mid = 477 := by omega
              exact ⟨⟨18, 90, mo_477⟩, trivial⟩
          · rcases Nat.lt_or_ge mid 479 with h1 | h1
            · obtain rfl : mid = 478 := by omega
              exact ⟨⟨18, 105, mo_478⟩, trivial⟩
            · obtain rfl : mid = 479 := by omega
              exact ⟨⟨18, 102, mo_479⟩, trivial⟩
  · rcases Nat.lt_or_ge mid 496 with h1 | h1
    · rcases Nat.lt_or_ge mid 488 with h1 | h1
      · rcases Nat.lt_or_ge mid 484 with h1 | h1
        · rcases Nat.lt_or_ge mid 482 with h1 | h1
          · rcases Nat.lt_or_ge mid 481 with h1 | h1
            · obtain rfl : mid = 480 := by omega
              exact ⟨⟨18, 109, mo_480⟩, trivial⟩
            · obtain rfl : mid = 481 := by omega
              exact ⟨⟨18, 134, mo_481⟩, trivial⟩
          · rcases Nat.lt_or_ge mid 483 with h1 | h1
            · obtain rfl : mid = 482 := by omega
              exact ⟨⟨18, 130, mo_482⟩, trivial⟩
            · obtain rfl : mid = 483 := by omega
              exact ⟨⟨18, 126, mo_483⟩, trivial⟩
        · rcases Nat.lt_or_ge mid 486 with h1 | h1
          · rcases Nat.lt_or_ge mid 485 with h1 | h1
            · obtain rfl : mid = 484 := by omega
              exact ⟨⟨18, 122, mo_484⟩, trivial⟩
            · obtain rfl : mid = 485 := by omega
              exact ⟨⟨18, 118, mo_485⟩, trivial⟩
          · rcases Nat.lt_or_ge mid 487 with h1 | h1
            · obtain rfl : mid = 486 := by omega
              exact ⟨⟨18, 113, mo_486⟩, trivial⟩
            · obtain rfl : mid = 487 := by omega
              exact ⟨⟨18, 138, mo_487⟩, trivial⟩
      · rcases Nat.lt_or_ge mid 492 with h1 | h1
        · rcases Nat.lt_or_ge mid 490 with h1 | h1
          · rcases Nat.lt_or_ge mid 489 with h1 | h1
            · obtain rfl : mid = 488 := by omega
              exact ⟨⟨18, 158, mo_488⟩, trivial⟩
            · obtain rfl : mid = 489 := by omega
              exact ⟨⟨18, 154, mo_489⟩, trivial⟩
          · rcases Nat.lt_or_ge mid 491 with h1 | h1
            · obtain rfl : mid = 490 := by omega
              exact ⟨⟨18, 150, mo_490⟩, trivial⟩
            · obtain rfl : mid = 491 := by omega
              exact ⟨⟨18, 162, mo_491⟩, trivial⟩
        · rcases Nat.lt_or_ge mid 494 with h1 | h1
          · rcases Nat.lt_or_ge mid 493 with h1 | h1
            · obtain rfl : mid = 492 := by omega
              exact ⟨⟨18, 146, mo_492⟩, trivial⟩
            · obtain rfl : mid = 493 := by omega
              exact ⟨⟨18, 166, mo_493⟩, trivial⟩
          · rcases Nat.lt_or_ge mid 495 with h1 | h1
            · obtain rfl : mid = 494 := by omega
              exact ⟨⟨18, 142, mo_494⟩, trivial⟩
            · obtain rfl : mid = 495 := by omega
              exact ⟨⟨18, 178, mo_495⟩, trivial⟩
    · rcases Nat.lt_or_ge mid 504 with h1 | h1
      · rcases Nat.lt_or_ge mid 500 with h1 | h1
        · rcases Nat.lt_or_ge mid 498 with h1 | h1
          · rcases Nat.lt_or_ge mid 497 with h1 | h1
            · obtain rfl : mid = 496 := by omega
              exact ⟨⟨18, 174, mo_496⟩, trivial⟩
            · obtain rfl : mid = 497 := by omega
              exact ⟨⟨18, 170, mo_497⟩, trivial⟩
          · rcases Nat.lt_or_ge mid 499 with h1 | h1
            · obtain rfl : mid = 498 := by omega
              exact ⟨⟨18, 186, mo_498⟩, trivial⟩
            · obtain rfl : mid = 499 := by omega
              exact ⟨⟨18, 190, mo_499⟩, trivial⟩
        · rcases Nat.lt_or_ge mid 502 with h1 | h1
          · rcases Nat.lt_or_ge mid 501 with h1 | h1
            · obtain rfl : mid = 500 := by omega
              exact ⟨⟨18, 182, mo_500⟩, trivial⟩
            · obtain rfl : mid = 501 := by omega
              exact ⟨⟨18, 206, mo_501⟩, trivial⟩
          · rcases Nat.lt_or_ge mid 503 with h1 | h1
            · obtain rfl : mid = 502 := by omega
              exact ⟨⟨18, 202, mo_502⟩, trivial⟩
            · obtain rfl : mid = 503 := by omega
              exact ⟨⟨18, 214, mo_503⟩, trivial⟩
      · rcases Nat.lt_or_ge mid 508 with h1 | h1
        · rcases Nat.lt_or_ge mid 506 with h1 | h1
          · rcases Nat.lt_or_ge mid 505 with h1 | h1
            · obtain rfl : mid = 504 := by omega
              exact ⟨⟨18, 210, mo_504⟩, trivial⟩
            · obtain rfl : mid = 505 := by omega
              exact ⟨⟨18, 198, mo_505⟩, trivial⟩
          · rcases Nat.lt_or_ge mid 507 with h1 | h1
            · obtain rfl : mid = 506 := by omega
              exact ⟨⟨18, 194, mo_506⟩, trivial⟩
            · obtain rfl : mid = 507 := by omega
              exact ⟨⟨18, 235, mo_507⟩, trivial⟩
        · rcases Nat.lt_or_ge mid 510 with h1 | h1
          · rcases Nat.lt_or_ge mid 509 with h1 | h1
            · obtain rfl : mid = 508 := by omega
              exact ⟨⟨18, 239, mo_508⟩, trivial⟩
            · obtain rfl : mid = 509 := by omega
              exact ⟨⟨18, 231, mo_509⟩, trivial⟩
          · rcases Nat.lt_or_ge mid 511 with h1 | h1
            · obtain rfl : mid = 510 := by omega
              exact ⟨⟨18, 227, mo_510⟩, trivial⟩
            · obtain rfl : mid = 511 := by omega
              exact ⟨⟨18, 222, mo_511⟩, trivial⟩
theorem mo_t8 {sc : Nat × (Nat → Int)} {mid : Nat} (h0 : 512 ≤ mid) (h : mid < 576) : (∃ k i : Nat, (tb_K k)[i]? = some (sm_cw (mt_P sc) (mt_M sc) mid)) ∧ sm_hok (mt_i mid).1 (mt_hr mid) (mt_hs mid) := by
  rcases Nat.lt_or_ge mid 544 with h1 | h1
  · rcases Nat.lt_or_ge mid 528 with h1 | h1
    · rcases Nat.lt_or_ge mid 520 with h1 | h1
      · rcases Nat.lt_or_ge mid 516 with h1 | h1
        · rcases Nat.lt_or_ge mid 514 with h1 | h1
          · rcases Nat.lt_or_ge mid 513 with h1 | h1
            · obtain rfl : mid = 512 := by omega
              exact ⟨⟨18, 218, mo_512⟩, trivial⟩
            · obtain rfl : mid = 513 := by omega
              exact ⟨⟨19, 3, mo_513⟩, trivial⟩
          · rcases Nat.lt_or_ge mid 515 with h1 | h1
            · obtain rfl : mid = 514 := by omega
              exact ⟨⟨19, 11, mo_514⟩, trivial⟩
            · obtain rfl : mid = 515 := by omega
              exact ⟨⟨19, 34, mo_515⟩, trivial⟩
        · rcases Nat.lt_or_ge mid 518 with h1 | h1
          · rcases Nat.lt_or_ge mid 517 with h1 | h1
            · obtain rfl : mid = 516 := by omega
              exact ⟨⟨19, 26, mo_516⟩, trivial⟩
            · obtain rfl : mid = 517 := by omega
              exact ⟨⟨19, 23, mo_517⟩, trivial⟩
          · rcases Nat.lt_or_ge mid 519 with h1 | h1
            · obtain rfl : mid = 518 := by omega
              exact ⟨⟨19, 30, mo_518⟩, trivial⟩
            · obtain rfl : mid = 519 := by omega
              exact ⟨⟨17, 111, mo_519⟩, trivial⟩
      · rcases Nat.lt_or_ge mid 524 with h1 | h1
        · rcases Nat.lt_or_ge mid 522 with h1 | h1
          · rcases Nat.lt_or_ge mid 521 with h1 | h1
            · obtain rfl : mid = 520 := by omega
              exact ⟨⟨19, 15, mo_520⟩, trivial⟩
            · obtain rfl : mid = 521 := by omega
              exact ⟨⟨19, 19, mo_521⟩, trivial⟩
          · rcases Nat.lt_or_ge mid 523 with h1 | h1
            · obtain rfl : mid = 522 := by omega
              exact ⟨⟨19, 7, mo_522⟩, trivial⟩
            · obtain rfl : mid = 523 := by omega
              exact ⟨⟨19, 38, mo_523⟩, trivial⟩
        · rcases Nat.lt_or_ge mid 526 with h1 | h1
          · rcases Nat.lt_or_ge mid 525 with h1 | h1
            · obtain rfl : mid = 524 := by omega
              exact ⟨⟨19, 50, mo_524⟩, trivial⟩
            · obtain rfl : mid = 525 := by omega
              exact ⟨⟨19, 54, mo_525⟩, trivial⟩
          · rcases Nat.lt_or_ge mid 527 with h1 | h1
            · obtain rfl : mid = 526 := by omega
              exact ⟨⟨19, 46, mo_526⟩, trivial⟩
            · obtain rfl : mid = 527 := by omega
              exact ⟨⟨19, 58, mo_527⟩, trivial⟩
    · rcases Nat.lt_or_ge mid 536 with h1 | h1
      · rcases Nat.lt_or_ge mid 532 with h1 | h1
        · rcases Nat.lt_or_ge mid 530 with h1 | h1
          · rcases Nat.lt_or_ge mid 529 with h1 | h1
            · obtain rfl : mid = 528 := by omega
              exact ⟨⟨19, 42, mo_528⟩, trivial⟩
            · obtain rfl : mid = 529 := by omega
              exact ⟨⟨19, 66, mo_529⟩, trivial⟩
          · rcases Nat.lt_or_ge mid 531 with h1 | h1
            · obtain rfl : mid = 530 := by omega
              exact ⟨⟨19, 62, mo_530⟩, trivial⟩
            · obtain rfl : mid = 531 := by omega
              exact ⟨⟨19, 70, mo_531⟩, trivial⟩
        · rcases Nat.lt_or_ge mid 534 with h1 | h1
          · rcases Nat.lt_or_ge mid 533 with h1 | h1
            · obtain rfl : mid = 532 := by omega
              exact ⟨⟨19, 78, mo_532⟩, trivial⟩
            · obtain rfl : mid = 533 := by omega
              exact ⟨⟨19, 74, mo_533⟩, trivial⟩
          · rcases Nat.lt_or_ge mid 535 with h1 | h1
            · obtain rfl : mid = 534 := by omega
              exact ⟨⟨19, 82, mo_534⟩, trivial⟩
            · obtain rfl : mid = 535 := by omega
              exact ⟨⟨4, 194, mo_535⟩, mh_535⟩
      · rcases Nat.lt_or_ge mid 540 with h1 | h1
        · rcases Nat.lt_or_ge mid 538 with h1 | h1
          · rcases Nat.lt_or_ge mid 537 with h1 | h1
            · obtain rfl : mid = 536 := by omega
              exact ⟨⟨5, 36, mo_536⟩, mh_536⟩
            · obtain rfl : mid = 537 := by omega
              exact ⟨⟨5, 62, mo_537⟩, mh_537⟩
          · rcases Nat.lt_or_ge mid 539 with h1 | h1
            · obtain rfl : mid = 538 := by omega
              exact ⟨⟨7, 6, mo_538⟩, mh_538⟩
            · obtain rfl : mid = 539 := by omega
              exact ⟨⟨7, 37, mo_539⟩, mh_539⟩
        · rcases Nat.lt_or_ge mid 542 with h1 | h1
          · rcases Nat.lt_or_ge mid 541 with h1 | h1
            · obtain rfl : mid = 540 := by omega
              exact ⟨⟨7, 75, mo_540⟩, mh_540⟩
            · obtain rfl : mid = 541 := by omega
              exact ⟨⟨7, 82, mo_541⟩, mh_541⟩
          · rcases Nat.lt_or_ge mid 543 with h1 | h1
            · obtain rfl : mid = 542 := by omega
              exact ⟨⟨7, 90, mo_542⟩, mh_542⟩
            · obtain rfl : mid = 543 := by omega
              exact ⟨⟨7, 97, mo_543⟩, mh_543⟩
  · rcases Nat.lt_or_ge mid 560 with h1 | h1
    · rcases Nat.lt_or_ge mid 552 with h1 | h1
      · rcases Nat.lt_or_ge mid 548 with h1 | h1
        · rcases Nat.lt_or_ge mid 546 with h1 | h1
          · rcases Nat.lt_or_ge mid 545 with h1 | h1
            · obtain rfl : mid = 544 := by omega
              exact ⟨⟨7, 104, mo_544⟩, mh_544⟩
            · obtain rfl : mid = 545 := by omega
              exact ⟨⟨7, 111, mo_545⟩, mh_545⟩
          · rcases Nat.lt_or_ge mid 547 with h1 | h1
            · obtain rfl : mid = 546 := by omega
              exact ⟨⟨7, 118, mo_546⟩, mh_546⟩
            · obtain rfl : mid = 547 := by omega
              exact ⟨⟨7, 126, mo_547⟩, mh_547⟩
        · rcases Nat.lt_or_ge mid 550 with h1 | h1
          · rcases Nat.lt_or_ge mid 549 with h1 | h1
            · obtain rfl : mid = 548 := by omega
              exact ⟨⟨7, 133, mo_548⟩, mh_548⟩
            · obtain rfl : mid = 549 := by omega
              exact ⟨⟨7, 140, mo_549⟩, mh_549⟩
          · rcases Nat.lt_or_ge mid 551 with h1 | h1
            · obtain rfl : mid = 550 := by omega
              exact ⟨⟨7, 156, mo_550⟩, mh_550⟩
            · obtain rfl : mid = 551 := by omega
              exact ⟨⟨7, 163, mo_551⟩, mh_551⟩
      · rcases Nat.lt_or_ge mid 556 with h1 | h1
        · rcases Nat.lt_or_ge mid 554 with h1 | h1
          · rcases Nat.lt_or_ge mid 553 with h1 | h1
            · obtain rfl : mid = 552 := by omega
              exact ⟨⟨7, 170, mo_552⟩, mh_552⟩
            · obtain rfl : mid = 553 := by omega
              exact ⟨⟨8, 121, mo_553⟩, mh_553⟩
          · rcases Nat.lt_or_ge mid 555 with h1 | h1
            · obtain rfl : mid = 554 := by omega
              exact ⟨⟨8, 140, mo_554⟩, mh_554⟩
            · obtain rfl : mid = 555 := by omega
              exact ⟨⟨8, 149, mo_555⟩, mh_555⟩
        · rcases Nat.lt_or_ge mid 558 with h1 | h1
          · rcases Nat.lt_or_ge mid 557 with h1 | h1
            · obtain rfl : mid = 556 := by omega
              exact ⟨⟨8, 156, mo_556⟩, mh_556⟩
            · obtain rfl : mid = 557 := by omega
              exact ⟨⟨8, 163, mo_557⟩, mh_557⟩
          · rcases Nat.lt_or_ge mid 559 with h1 | h1
            · obtain rfl : mid = 558 := by omega
              exact ⟨⟨8, 170, mo_558⟩, mh_558⟩
            · obtain rfl : mid = 559 := by omega
              exact ⟨⟨8, 177, mo_559⟩, mh_559⟩
    · rcases Nat.lt_or_ge mid 568 with h1 | h1
      · rcases Nat.lt_or_ge mid 564 with h1 | h1
        · rcases Nat.lt_or_ge mid 562 with h1 | h1
          · rcases Nat.lt_or_ge mid 561 with h1 | h1
            · obtain rfl : mid = 560 := by omega
              exact ⟨⟨8, 184, mo_560⟩, mh_560⟩
            · obtain rfl : mid = 561 := by omega
              exact ⟨⟨8, 223, mo_561⟩, mh_561⟩
          · rcases Nat.lt_or_ge mid 563 with h1 | h1
            · obtain rfl : mid = 562 := by omega
              exact ⟨⟨8, 235, mo_562⟩, mh_562⟩
            · obtain rfl : mid = 563 := by omega
              exact ⟨⟨9, 6, mo_563⟩, mh_563⟩
        · rcases Nat.lt_or_ge mid 566 with h1 | h1
          · rcases Nat.lt_or_ge mid 565 with h1 | h1
            · obtain rfl : mid = 564 := by omega
              exact ⟨⟨9, 33, mo_564⟩, mh_564⟩
            · obtain rfl : mid = 565 := by omega
              exact ⟨⟨9, 40, mo_565⟩, mh_565⟩
          · rcases Nat.lt_or_ge mid 567 with h1 | h1
            · obtain rfl : mid = 566 := by omega
              exact ⟨⟨10, 123, mo_566⟩, mh_566⟩
            · obtain rfl : mid = 567 := by omega
              exact ⟨⟨10, 134, mo_567⟩, mh_567⟩
      · rcases Nat.lt_or_ge mid 572 with h1 | h1
        · rcases Nat.lt_or_ge mid 570 with h1 | h1
          · rcases Nat.lt_or_ge mid 569 with h1 | h1
            · obtain rfl : mid = 568 := by omega
              exact ⟨⟨10, 152, mo_568⟩, mh_568⟩
            · obtain rfl : mid = 569 := by omega
              exact ⟨⟨10, 188, mo_569⟩, mh_569⟩
          · rcases Nat.lt_or_ge mid 571 with h1 | h1
            · obtain rfl : mid = 570 := by omega
              exact ⟨⟨10, 195, mo_570⟩, mh_570⟩
            · obtain rfl : mid = 571 := by omega
              exact ⟨⟨10, 204, mo_571⟩, mh_571⟩
        · rcases Nat.lt_or_ge mid 574 with h1 | h1
          · rcases Nat.lt_or_ge mid 573 with h1 | h1
            · obtain rfl : mid = 572 := by omega
              exact ⟨⟨10, 216, mo_572⟩, mh_572⟩
            · obtain rfl : mid = 573 := by omega
              exact ⟨⟨10, 236, mo_573⟩, mh_573⟩
          · rcases Nat.lt_or_ge mid 575 with h1 | h1
            · obtain rfl : mid = 574 := by omega
              exact ⟨⟨11, 11, mo_574⟩, mh_574⟩
            · obtain rfl : mid = 575 := by omega
              exact ⟨⟨11, 59, mo_575⟩, mh_575⟩
theorem mo_t9 {sc : Nat × (Nat → Int)} {mid : Nat} (h0 : 576 ≤ mid) (h : mid < 588) : (∃ k i : Nat, (tb_K k)[i]? = some (sm_cw (mt_P sc) (mt_M sc) mid)) ∧ sm_hok (mt_i mid).1 (mt_hr mid) (mt_hs mid) := by
  rcases Nat.lt_or_ge mid 582 with h1 | h1
  · rcases Nat.lt_or_ge mid 579 with h1 | h1
    · rcases Nat.lt_or_ge mid 577 with h1 | h1
      · obtain rfl : mid = 576 := by omega
        exact ⟨⟨11, 79, mo_576⟩, mh_576⟩
      · rcases Nat.lt_or_ge mid 578 with h1 | h1
        · obtain rfl : mid = 577 := by omega
          exact ⟨⟨11, 88, mo_577⟩, mh_577⟩
        · obtain rfl : mid = 578 := by omega
          exact ⟨⟨11, 128, mo_578⟩, mh_578⟩
    · rcases Nat.lt_or_ge mid 580 with h1 | h1
      · obtain rfl : mid = 579 := by omega
        exact ⟨⟨11, 158, mo_579⟩, mh_579⟩
      · rcases Nat.lt_or_ge mid 581 with h1 | h1
        · obtain rfl : mid = 580 := by omega
          exact ⟨⟨11, 173, mo_580⟩, mh_580⟩
        · obtain rfl : mid = 581 := by omega
          exact ⟨⟨11, 210, mo_581⟩, mh_581⟩
  · rcases Nat.lt_or_ge mid 585 with h1 | h1
    · rcases Nat.lt_or_ge mid 583 with h1 | h1
      · obtain rfl : mid = 582 := by omega
        exact ⟨⟨11, 222, mo_582⟩, mh_582⟩
      · rcases Nat.lt_or_ge mid 584 with h1 | h1
        · obtain rfl : mid = 583 := by omega
          exact ⟨⟨12, 8, mo_583⟩, mh_583⟩
        · obtain rfl : mid = 584 := by omega
          exact ⟨⟨12, 18, mo_584⟩, mh_584⟩
    · rcases Nat.lt_or_ge mid 586 with h1 | h1
      · obtain rfl : mid = 585 := by omega
        exact ⟨⟨12, 25, mo_585⟩, mh_585⟩
      · rcases Nat.lt_or_ge mid 587 with h1 | h1
        · obtain rfl : mid = 586 := by omega
          exact ⟨⟨12, 36, mo_586⟩, mh_586⟩
        · obtain rfl : mid = 587 := by omega
          exact ⟨⟨12, 52, mo_587⟩, trivial⟩
