set_option maxRecDepth 100000 in
theorem ck_s3 : (List.range' 92 23).all (fun mid => ck_s mid && ck_r mid) = true := by decide +kernel
