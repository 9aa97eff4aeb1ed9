set_option maxRecDepth 100000 in
theorem ck_s20 : (List.range' 506 14).all (fun mid => ck_s mid && ck_r mid) = true := by decide +kernel
