set_option maxRecDepth 100000 in
theorem lw_k24 : ((mt_cd 587).drop 1440 |>.take 60).all (fun q => ck_sI 587 q && ck_rI 587 q && ck_cI 587 q && ck_nI 587 q) = true := by decide +kernel
set_option maxRecDepth 100000 in
theorem lw_k25 : ((mt_cd 587).drop 1500 |>.take 60).all (fun q => ck_sI 587 q && ck_rI 587 q && ck_cI 587 q && ck_nI 587 q) = true := by decide +kernel
set_option maxRecDepth 100000 in
theorem lw_k26 : ((mt_cd 587).drop 1560 |>.take 60).all (fun q => ck_sI 587 q && ck_rI 587 q && ck_cI 587 q && ck_nI 587 q) = true := by decide +kernel
