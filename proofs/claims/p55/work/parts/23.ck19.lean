set_option maxRecDepth 100000 in
theorem ck_s19 : (List.range' 559 28).all (fun mid => ck_s mid && ck_r mid) = true := by decide +kernel
