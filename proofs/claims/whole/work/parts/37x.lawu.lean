set_option maxRecDepth 20000 in
theorem gk_wsX2_unboxed_r1 : GoodIn lw_tbl wsX2_unboxed_r1 := goodIn_r _ [93, 296, 297, 94, 455, 456, 51, 532, 533, 52, 95, 434, 436, 24, 40, 437, 96, 114, 115, 116, 41, 117, 78, 239] (by decide +kernel) (by decide +kernel)
set_option maxRecDepth 20000 in
theorem gk_wsX2_unboxed_r2 : GoodIn lw_tbl wsX2_unboxed_r2 := goodIn_r _ [240, 241] (by decide +kernel) (by decide +kernel)
set_option maxRecDepth 20000 in
theorem gg_X2_unboxed : GoodIn lw_tbl wsX2_unboxed := goodIn_cc (goodIn_r [_] [454] (by decide +kernel) (by decide +kernel)) (goodIn_app (goodIn_app (goodIn_app (goodIn_app (goodIn_app (goodIn_app gk_wsX2_unboxed_r1 gk_wsX2_unboxed_r2) gk_X20) gk_J5) gk_J3) gk_X10) gk_atN)
set_option maxRecDepth 20000 in
theorem gk_L1 : GoodIn lw_tbl wt_L1 := goodIn_r _ [449, 450, 451, 452, 453, 40] (by decide +kernel) (by decide +kernel)
set_option maxRecDepth 20000 in
theorem gg_L_unboxed : GoodIn lw_tbl wt_L := goodIn_cc (goodIn_r [_] [448] (by decide +kernel) (by decide +kernel)) (goodIn_app gk_L1 (goodIn_app gg_X2_unboxed gk_extra))
set_option maxRecDepth 20000 in
theorem gl_L_unboxed : GoodIn lw_tbl (va_wsS RL 90 yL_unboxed wt_L) := goodIn_app (goodIn_r _ [446, 447, 39] (by decide +kernel) (by decide +kernel)) gg_L_unboxed
