set_option maxRecDepth 100000 in
theorem ck_s18 : (List.range' 469 25).all (fun mid => ck_s mid && ck_r mid) = true := by decide +kernel
