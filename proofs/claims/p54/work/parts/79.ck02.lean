set_option maxRecDepth 100000 in
theorem ck_s2 : (List.range' 63 29).all (fun mid => ck_s mid && ck_r mid) = true := by decide +kernel
