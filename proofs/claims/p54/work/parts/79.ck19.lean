set_option maxRecDepth 100000 in
theorem ck_s19 : (List.range' 494 12).all (fun mid => ck_s mid && ck_r mid) = true := by decide +kernel
