set_option maxRecDepth 100000 in
theorem ck_s9 : (List.range' 280 40).all (fun mid => ck_s mid && ck_r mid) = true := by decide +kernel
