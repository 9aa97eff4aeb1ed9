set_option maxRecDepth 100000 in
theorem ck_s10 : (List.range' 320 21).all (fun mid => ck_s mid && ck_r mid) = true := by decide +kernel
