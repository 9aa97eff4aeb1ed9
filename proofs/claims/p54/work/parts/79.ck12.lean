set_option maxRecDepth 100000 in
theorem ck_s12 : (List.range' 364 31).all (fun mid => ck_s mid && ck_r mid) = true := by decide +kernel
