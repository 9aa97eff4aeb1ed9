set_option maxRecDepth 100000 in
theorem ck_s7 : (List.range' 201 32).all (fun mid => ck_s mid && ck_r mid) = true := by decide +kernel
