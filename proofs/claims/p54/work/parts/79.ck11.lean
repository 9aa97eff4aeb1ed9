set_option maxRecDepth 100000 in
theorem ck_s11 : (List.range' 341 23).all (fun mid => ck_s mid && ck_r mid) = true := by decide +kernel
