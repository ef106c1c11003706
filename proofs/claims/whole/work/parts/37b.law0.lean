set_option maxRecDepth 20000 in
theorem gk_wsX2_init_r1 : GoodIn lw_tbl wsX2_init_r1 := goodIn_r _ [58, 59, 60, 61, 62, 41, 93, 90, 94, 92, 95, 96, 63, 64, 65, 66, 74, 91, 75, 76, 77, 78, 67, 69] (by decide +kernel) (by decide +kernel)
set_option maxRecDepth 20000 in
theorem gk_wsX2_init_r2 : GoodIn lw_tbl wsX2_init_r2 := goodIn_r _ [0, 70, 71, 72, 73] (by decide +kernel) (by decide +kernel)
set_option maxRecDepth 20000 in
theorem gg_X2_init : GoodIn lw_tbl wsX2_init := goodIn_cc (goodIn_r [_] [57] (by decide +kernel) (by decide +kernel)) (goodIn_app (goodIn_app (goodIn_app (goodIn_app gk_wsX2_init_r1 gk_wsX2_init_r2) gk_X10) gk_X20) gk_atN)
set_option maxRecDepth 20000 in
theorem gk_wsX3_init_r1 : GoodIn lw_tbl wsX3_init_r1 := goodIn_r _ [552, 59, 60, 90, 571, 91, 572, 573, 574, 575, 577, 92, 578, 553, 555, 27, 42, 556, 570, 557, 559, 28, 560, 561] (by decide +kernel) (by decide +kernel)
set_option maxRecDepth 20000 in
theorem gk_wsX3_init_r2 : GoodIn lw_tbl wsX3_init_r2 := goodIn_r _ [563, 29, 564, 565, 567, 30, 568] (by decide +kernel) (by decide +kernel)
set_option maxRecDepth 20000 in
theorem gg_X3_init : GoodIn lw_tbl wsX3_init := goodIn_cc (goodIn_r [_] [551] (by decide +kernel) (by decide +kernel)) (goodIn_app (goodIn_app (goodIn_app gk_wsX3_init_r1 gk_wsX3_init_r2) gk_X30) gk_atN)
set_option maxRecDepth 20000 in
theorem gk_wsX2_newClass_r1 : GoodIn lw_tbl wsX2_newClass_r1 := goodIn_r _ [93, 110, 112, 1, 40, 113, 114, 115, 116, 41, 117, 78, 118, 119, 120, 121, 74, 75, 122, 124, 2, 125, 126, 127] (by decide +kernel) (by decide +kernel)
set_option maxRecDepth 20000 in
theorem gk_wsX2_newClass_r2 : GoodIn lw_tbl wsX2_newClass_r2 := goodIn_r _ [128, 129, 130, 131, 132, 133, 134, 135, 136, 137, 77, 138, 140, 3, 141, 142, 144, 4, 145, 67, 69, 0, 70, 76] (by decide +kernel) (by decide +kernel)
set_option maxRecDepth 20000 in
theorem gk_wsX2_newClass_r3 : GoodIn lw_tbl wsX2_newClass_r3 := goodIn_r _ [71, 72, 73] (by decide +kernel) (by decide +kernel)
set_option maxRecDepth 20000 in
theorem gg_X2_newClass : GoodIn lw_tbl wsX2_newClass := goodIn_cc (goodIn_r [_] [109] (by decide +kernel) (by decide +kernel)) (goodIn_app (goodIn_app (goodIn_app (goodIn_app gk_wsX2_newClass_r1 (goodIn_app gk_wsX2_newClass_r2 gk_wsX2_newClass_r3)) gk_X20) gk_X10) gk_atN)
set_option maxRecDepth 20000 in
theorem gl_X2_newClass : GoodIn lw_tbl (wsV RL 21 RX2 yX2_newClass wsX2_newClass) := goodIn_app (goodIn_r _ [106, 107, 108, 40] (by decide +kernel) (by decide +kernel)) gg_X2_newClass
set_option maxRecDepth 20000 in
theorem gk_wsX3_newClass_r1 : GoodIn lw_tbl wsX3_newClass_r1 := goodIn_r _ [569, 571, 572, 570, 608, 610, 31, 42, 611, 612, 613, 614, 615, 617, 32, 618, 553, 555, 27, 556, 573, 574, 557, 559] (by decide +kernel) (by decide +kernel)
set_option maxRecDepth 20000 in
theorem gk_wsX3_newClass_r2 : GoodIn lw_tbl wsX3_newClass_r2 := goodIn_r _ [28, 560, 575, 561, 563, 29, 564, 565, 567, 30, 568] (by decide +kernel) (by decide +kernel)
set_option maxRecDepth 20000 in
theorem gg_X3_newClass : GoodIn lw_tbl wsX3_newClass := goodIn_cc (goodIn_r [_] [607] (by decide +kernel) (by decide +kernel)) (goodIn_app (goodIn_app (goodIn_app gk_wsX3_newClass_r1 gk_wsX3_newClass_r2) gk_X30) gk_atN)
set_option maxRecDepth 20000 in
theorem gl_X3_newClass : GoodIn lw_tbl (wsV RL 25 RX3 yX3_newClass wsX3_newClass) := goodIn_app (goodIn_r _ [604, 605, 606, 42] (by decide +kernel) (by decide +kernel)) gg_X3_newClass
set_option maxRecDepth 20000 in
theorem gk_wsX2_newInterface_r1 : GoodIn lw_tbl wsX2_newInterface_r1 := goodIn_r _ [93, 110, 112, 1, 40, 113, 114, 115, 116, 41, 117, 78, 122, 124, 2, 125, 126, 127, 128, 129, 74, 130, 131, 132] (by decide +kernel) (by decide +kernel)
set_option maxRecDepth 20000 in
theorem gk_wsX2_newInterface_r2 : GoodIn lw_tbl wsX2_newInterface_r2 := goodIn_r _ [133, 150, 151, 152, 153, 77, 138, 140, 3, 141, 142, 144, 4, 145, 67, 69, 0, 70, 75, 76, 71, 72, 73] (by decide +kernel) (by decide +kernel)
set_option maxRecDepth 20000 in
theorem gg_X2_newInterface : GoodIn lw_tbl wsX2_newInterface := goodIn_cc (goodIn_r [_] [149] (by decide +kernel) (by decide +kernel)) (goodIn_app (goodIn_app (goodIn_app (goodIn_app gk_wsX2_newInterface_r1 gk_wsX2_newInterface_r2) gk_X20) gk_X10) gk_atN)
set_option maxRecDepth 20000 in
theorem gl_X2_newInterface : GoodIn lw_tbl (wsV RL 26 RX2 yX2_newInterface wsX2_newInterface) := goodIn_app (goodIn_r _ [146, 147, 148, 40] (by decide +kernel) (by decide +kernel)) gg_X2_newInterface
set_option maxRecDepth 20000 in
theorem gk_wsX3_newInterface_r1 : GoodIn lw_tbl wsX3_newInterface_r1 := goodIn_r _ [569, 570, 608, 610, 31, 42, 611, 612, 613, 614, 615, 617, 32, 618, 571, 553, 555, 27, 556, 572, 573, 574, 557, 559] (by decide +kernel) (by decide +kernel)
set_option maxRecDepth 20000 in
theorem gk_wsX3_newInterface_r2 : GoodIn lw_tbl wsX3_newInterface_r2 := goodIn_r _ [28, 560, 575, 561, 563, 29, 564, 565, 567, 30, 568] (by decide +kernel) (by decide +kernel)
set_option maxRecDepth 20000 in
theorem gg_X3_newInterface : GoodIn lw_tbl wsX3_newInterface := goodIn_cc (goodIn_r [_] [622] (by decide +kernel) (by decide +kernel)) (goodIn_app (goodIn_app (goodIn_app gk_wsX3_newInterface_r1 gk_wsX3_newInterface_r2) gk_X30) gk_atN)
set_option maxRecDepth 20000 in
theorem gl_X3_newInterface : GoodIn lw_tbl (wsV RL 30 RX3 yX3_newInterface wsX3_newInterface) := goodIn_app (goodIn_r _ [619, 620, 621, 42] (by decide +kernel) (by decide +kernel)) gg_X3_newInterface
set_option maxRecDepth 20000 in
theorem gk_wsX2_array_r1 : GoodIn lw_tbl wsX2_array_r1 := goodIn_r _ [93, 114, 115, 116, 41, 117, 78, 158, 159, 160, 161, 74, 76, 130, 131, 132, 133, 162, 163, 164, 165, 77, 142, 144] (by decide +kernel) (by decide +kernel)
set_option maxRecDepth 20000 in
theorem gk_wsX2_array_r2 : GoodIn lw_tbl wsX2_array_r2 := goodIn_r _ [4, 145, 67, 69, 0, 70, 75, 71, 72, 73, 166, 168, 5, 169, 170, 171, 172, 173] (by decide +kernel) (by decide +kernel)
set_option maxRecDepth 20000 in
theorem gg_X2_array : GoodIn lw_tbl wsX2_array := goodIn_cc (goodIn_r [_] [157] (by decide +kernel) (by decide +kernel)) (goodIn_app (goodIn_app (goodIn_app (goodIn_app gk_wsX2_array_r1 gk_wsX2_array_r2) gk_X20) gk_X10) gk_atN)
set_option maxRecDepth 20000 in
theorem gl_X2_array : GoodIn lw_tbl (wsV RL 31 RX2 yX2_array wsX2_array) := goodIn_app (goodIn_r _ [154, 155, 156, 40] (by decide +kernel) (by decide +kernel)) gg_X2_array
set_option maxRecDepth 20000 in
theorem gk_wsX3_array_r1 : GoodIn lw_tbl wsX3_array_r1 := goodIn_r _ [569, 571, 570, 573, 608, 610, 31, 42, 611, 612, 613, 614, 553, 555, 27, 556, 572, 574, 557, 559, 28, 560, 575, 561] (by decide +kernel) (by decide +kernel)
set_option maxRecDepth 20000 in
theorem gk_wsX3_array_r2 : GoodIn lw_tbl wsX3_array_r2 := goodIn_r _ [563, 29, 564, 565, 567, 30, 568] (by decide +kernel) (by decide +kernel)
set_option maxRecDepth 20000 in
theorem gg_X3_array : GoodIn lw_tbl wsX3_array := goodIn_cc (goodIn_r [_] [626] (by decide +kernel) (by decide +kernel)) (goodIn_app (goodIn_app (goodIn_app gk_wsX3_array_r1 gk_wsX3_array_r2) gk_X30) gk_atN)
set_option maxRecDepth 20000 in
theorem gl_X3_array : GoodIn lw_tbl (wsV RL 35 RX3 yX3_array wsX3_array) := goodIn_app (goodIn_r _ [623, 624, 625, 42] (by decide +kernel) (by decide +kernel)) gg_X3_array
set_option maxRecDepth 20000 in
theorem gk_wsX2_type_r1 : GoodIn lw_tbl wsX2_type_r1 := goodIn_r _ [93, 114, 115, 116, 41, 117, 78, 126, 127, 128, 129, 74, 178, 179, 180, 181, 75, 182, 183, 184, 185, 76, 186, 187] (by decide +kernel) (by decide +kernel)
set_option maxRecDepth 20000 in
theorem gk_wsX2_type_r2 : GoodIn lw_tbl wsX2_type_r2 := goodIn_r _ [188, 189, 77, 190, 191, 43, 192, 193, 194, 195] (by decide +kernel) (by decide +kernel)
set_option maxRecDepth 20000 in
theorem gg_X2_type : GoodIn lw_tbl wsX2_type := goodIn_cc (goodIn_r [_] [177] (by decide +kernel) (by decide +kernel)) (goodIn_app (goodIn_app (goodIn_app (goodIn_app gk_wsX2_type_r1 gk_wsX2_type_r2) gk_X20) gk_X10) gk_atN)
set_option maxRecDepth 20000 in
theorem gl_X2_type : GoodIn lw_tbl (wsV RL 36 RX2 yX2_type wsX2_type) := goodIn_app (goodIn_r _ [174, 175, 176, 40] (by decide +kernel) (by decide +kernel)) gg_X2_type
set_option maxRecDepth 20000 in
theorem gg_X3_type : GoodIn lw_tbl wsX3_type := goodIn_cc (goodIn_r [_] [630] (by decide +kernel) (by decide +kernel)) (goodIn_app (goodIn_app (goodIn_r _ [569, 571, 572, 573, 570, 575, 608, 610, 31, 42, 611, 612, 613, 614, 565, 567, 30, 568] (by decide +kernel) (by decide +kernel)) gk_X30) gk_atN)
