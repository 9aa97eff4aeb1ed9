set_option maxRecDepth 100000 in
theorem ck_s0 : (List.range' 0 37).all (fun mid => ck_s mid && ck_r mid) = true := by decide +kernel
