set_option maxRecDepth 100000 in
theorem lw_k15 : ((mt_cd 587).drop 900 |>.take 60).all (fun q => ck_sI 587 q && ck_rI 587 q && ck_cI 587 q && ck_nI 587 q) = true := by decide +kernel
set_option maxRecDepth 100000 in
theorem lw_k16 : ((mt_cd 587).drop 960 |>.take 60).all (fun q => ck_sI 587 q && ck_rI 587 q && ck_cI 587 q && ck_nI 587 q) = true := by decide +kernel
set_option maxRecDepth 100000 in
theorem lw_k17 : ((mt_cd 587).drop 1020 |>.take 60).all (fun q => ck_sI 587 q && ck_rI 587 q && ck_cI 587 q && ck_nI 587 q) = true := by decide +kernel
