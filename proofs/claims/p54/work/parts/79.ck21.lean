set_option maxRecDepth 100000 in
theorem ck_s21 : (List.range' 520 43).all (fun mid => ck_s mid && ck_r mid) = true := by decide +kernel
