set_option maxRecDepth 100000 in
theorem lw_k24 : ((mt_cd 588).drop 1440 |>.take 60).all (fun q => ck_sI 588 q && ck_rI 588 q && ck_cI 588 q && ck_nI 588 q) = true := by decide +kernel
set_option maxRecDepth 100000 in
theorem lw_k25 : ((mt_cd 588).drop 1500 |>.take 60).all (fun q => ck_sI 588 q && ck_rI 588 q && ck_cI 588 q && ck_nI 588 q) = true := by decide +kernel
set_option maxRecDepth 100000 in
theorem lw_k26 : ((mt_cd 588).drop 1560 |>.take 60).all (fun q => ck_sI 588 q && ck_rI 588 q && ck_cI 588 q && ck_nI 588 q) = true := by decide +kernel
