set_option maxRecDepth 100000 in
theorem ck_s16 : (List.range' 440 17).all (fun mid => ck_s mid && ck_r mid) = true := by decide +kernel
