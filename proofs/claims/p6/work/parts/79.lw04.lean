set_option maxRecDepth 100000 in
theorem lw_k12 : ((mt_cd 587).drop 720 |>.take 60).all (fun q => ck_sI 587 q && ck_rI 587 q && ck_cI 587 q && ck_nI 587 q) = true := by decide +kernel
set_option maxRecDepth 100000 in
theorem lw_k13 : ((mt_cd 587).drop 780 |>.take 60).all (fun q => ck_sI 587 q && ck_rI 587 q && ck_cI 587 q && ck_nI 587 q) = true := by decide +kernel
set_option maxRecDepth 100000 in
theorem lw_k14 : ((mt_cd 587).drop 840 |>.take 60).all (fun q => ck_sI 587 q && ck_rI 587 q && ck_cI 587 q && ck_nI 587 q) = true := by decide +kernel
