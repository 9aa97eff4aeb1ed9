set_option maxRecDepth 100000 in
theorem ck_s1 : (List.range' 37 26).all (fun mid => ck_s mid && ck_r mid) = true := by decide +kernel
