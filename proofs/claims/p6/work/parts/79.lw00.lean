set_option maxRecDepth 100000 in
theorem lw_k0 : ((mt_cd 587).drop 0 |>.take 60).all (fun q => ck_sI 587 q && ck_rI 587 q && ck_cI 587 q && ck_nI 587 q) = true := by decide +kernel
set_option maxRecDepth 100000 in
theorem lw_k1 : ((mt_cd 587).drop 60 |>.take 60).all (fun q => ck_sI 587 q && ck_rI 587 q && ck_cI 587 q && ck_nI 587 q) = true := by decide +kernel
set_option maxRecDepth 100000 in
theorem lw_k2 : ((mt_cd 587).drop 120 |>.take 60).all (fun q => ck_sI 587 q && ck_rI 587 q && ck_cI 587 q && ck_nI 587 q) = true := by decide +kernel
