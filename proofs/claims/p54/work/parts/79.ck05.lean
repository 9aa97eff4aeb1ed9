set_option maxRecDepth 100000 in
theorem ck_s5 : (List.range' 146 27).all (fun mid => ck_s mid && ck_r mid) = true := by decide +kernel
