set_option maxRecDepth 100000 in
theorem lw_k3 : ((mt_cd 588).drop 180 |>.take 60).all (fun q => ck_sI 588 q && ck_rI 588 q && ck_cI 588 q && ck_nI 588 q) = true := by decide +kernel
set_option maxRecDepth 100000 in
theorem lw_k4 : ((mt_cd 588).drop 240 |>.take 60).all (fun q => ck_sI 588 q && ck_rI 588 q && ck_cI 588 q && ck_nI 588 q) = true := by decide +kernel
set_option maxRecDepth 100000 in
theorem lw_k5 : ((mt_cd 588).drop 300 |>.take 60).all (fun q => ck_sI 588 q && ck_rI 588 q && ck_cI 588 q && ck_nI 588 q) = true := by decide +kernel
