set_option maxRecDepth 100000 in
theorem lw_k6 : ((mt_cd 588).drop 360 |>.take 60).all (fun q => ck_sI 588 q && ck_rI 588 q && ck_cI 588 q && ck_nI 588 q) = true := by decide +kernel
set_option maxRecDepth 100000 in
theorem lw_k7 : ((mt_cd 588).drop 420 |>.take 60).all (fun q => ck_sI 588 q && ck_rI 588 q && ck_cI 588 q && ck_nI 588 q) = true := by decide +kernel
set_option maxRecDepth 100000 in
theorem lw_k8 : ((mt_cd 588).drop 480 |>.take 60).all (fun q => ck_sI 588 q && ck_rI 588 q && ck_cI 588 q && ck_nI 588 q) = true := by decide +kernel
