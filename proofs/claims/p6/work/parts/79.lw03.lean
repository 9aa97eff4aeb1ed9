set_option maxRecDepth 100000 in
theorem lw_k9 : ((mt_cd 587).drop 540 |>.take 60).all (fun q => ck_sI 587 q && ck_rI 587 q && ck_cI 587 q && ck_nI 587 q) = true := by decide +kernel
set_option maxRecDepth 100000 in
theorem lw_k10 : ((mt_cd 587).drop 600 |>.take 60).all (fun q => ck_sI 587 q && ck_rI 587 q && ck_cI 587 q && ck_nI 587 q) = true := by decide +kernel
set_option maxRecDepth 100000 in
theorem lw_k11 : ((mt_cd 587).drop 660 |>.take 60).all (fun q => ck_sI 587 q && ck_rI 587 q && ck_cI 587 q && ck_nI 587 q) = true := by decide +kernel
