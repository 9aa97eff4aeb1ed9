set_option maxRecDepth 100000 in
theorem ck_s15 : (List.range' 421 19).all (fun mid => ck_s mid && ck_r mid) = true := by decide +kernel
