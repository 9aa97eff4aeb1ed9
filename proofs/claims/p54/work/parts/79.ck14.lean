set_option maxRecDepth 100000 in
theorem ck_s14 : (List.range' 408 13).all (fun mid => ck_s mid && ck_r mid) = true := by decide +kernel
