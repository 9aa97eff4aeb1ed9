/-! calls -/
set_option maxRecDepth 100000 in
theorem ck_c0 : (List.range' 0 96).all ck_c = true := by decide +kernel
set_option maxRecDepth 100000 in
theorem ck_c1 : (List.range' 96 47).all ck_c = true := by decide +kernel
set_option maxRecDepth 100000 in
theorem ck_c2 : (List.range' 143 63).all ck_c = true := by decide +kernel
set_option maxRecDepth 100000 in
theorem ck_c3 : (List.range' 206 50).all ck_c = true := by decide +kernel
set_option maxRecDepth 100000 in
theorem ck_c4 : (List.range' 256 67).all ck_c = true := by decide +kernel
set_option maxRecDepth 100000 in
theorem ck_c5 : (List.range' 323 27).all ck_c = true := by decide +kernel
set_option maxRecDepth 100000 in
theorem ck_c6 : (List.range' 350 81).all ck_c = true := by decide +kernel
set_option maxRecDepth 100000 in
theorem ck_c7 : (List.range' 431 57).all ck_c = true := by decide +kernel
set_option maxRecDepth 100000 in
theorem ck_c8 : (List.range' 488 91).all ck_c = true := by decide +kernel
set_option maxRecDepth 100000 in
theorem ck_c9 : (List.range' 579 9).all ck_c = true := by decide +kernel
