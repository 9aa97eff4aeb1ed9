set_option maxRecDepth 100000 in
theorem ck_s8 : (List.range' 233 47).all (fun mid => ck_s mid && ck_r mid) = true := by decide +kernel
