set_option maxRecDepth 100000 in
theorem lw_k12 : ((mt_cd 588).drop 720 |>.take 60).all (fun q => ck_sI 588 q && ck_rI 588 q && ck_cI 588 q && ck_nI 588 q) = true := by decide +kernel
set_option maxRecDepth 100000 in
theorem lw_k13 : ((mt_cd 588).drop 780 |>.take 60).all (fun q => ck_sI 588 q && ck_rI 588 q && ck_cI 588 q && ck_nI 588 q) = true := by decide +kernel
set_option maxRecDepth 100000 in
theorem lw_k14 : ((mt_cd 588).drop 840 |>.take 60).all (fun q => ck_sI 588 q && ck_rI 588 q && ck_cI 588 q && ck_nI 588 q) = true := by decide +kernel
