set_option maxRecDepth 100000 in
theorem lw_k15 : ((mt_cd 588).drop 900 |>.take 60).all (fun q => ck_sI 588 q && ck_rI 588 q && ck_cI 588 q && ck_nI 588 q) = true := by decide +kernel
set_option maxRecDepth 100000 in
theorem lw_k16 : ((mt_cd 588).drop 960 |>.take 60).all (fun q => ck_sI 588 q && ck_rI 588 q && ck_cI 588 q && ck_nI 588 q) = true := by decide +kernel
set_option maxRecDepth 100000 in
theorem lw_k17 : ((mt_cd 588).drop 1020 |>.take 60).all (fun q => ck_sI 588 q && ck_rI 588 q && ck_cI 588 q && ck_nI 588 q) = true := by decide +kernel
