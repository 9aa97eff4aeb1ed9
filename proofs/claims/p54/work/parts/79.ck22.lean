set_option maxRecDepth 100000 in
theorem ck_s22 : (List.range' 563 25).all (fun mid => ck_s mid && ck_r mid) = true := by decide +kernel
