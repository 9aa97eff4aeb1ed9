set_option maxRecDepth 100000 in
theorem ck_s17 : (List.range' 457 12).all (fun mid => ck_s mid && ck_r mid) = true := by decide +kernel
