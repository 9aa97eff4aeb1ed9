set_option maxRecDepth 100000 in
theorem ck_s6 : (List.range' 173 28).all (fun mid => ck_s mid && ck_r mid) = true := by decide +kernel
