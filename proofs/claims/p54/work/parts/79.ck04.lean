set_option maxRecDepth 100000 in
theorem ck_s4 : (List.range' 115 31).all (fun mid => ck_s mid && ck_r mid) = true := by decide +kernel
