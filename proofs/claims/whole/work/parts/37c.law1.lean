set_option maxRecDepth 20000 in
theorem gl_X3_type : GoodIn lw_tbl (wsV RL 39 RX3 yX3_type wsX3_type) := goodIn_app (goodIn_r _ [627, 628, 629, 42] (by decide +kernel) (by decide +kernel)) gg_X3_type
set_option maxRecDepth 20000 in
theorem gg_X2_under : GoodIn lw_tbl wsX2_under := goodIn_cc (goodIn_r [_] [199] (by decide +kernel) (by decide +kernel)) (goodIn_app (goodIn_app (goodIn_app (goodIn_r _ [93, 114, 115, 116, 41, 117, 78, 200, 201, 40, 202, 203, 171, 172, 173, 77, 71, 72, 73] (by decide +kernel) (by decide +kernel)) gk_X20) gk_X10) gk_atN)
set_option maxRecDepth 20000 in
theorem gl_X2_under : GoodIn lw_tbl (wsV RL 40 RX2 yX2_under wsX2_under) := goodIn_app (goodIn_r _ [196, 197, 198, 40] (by decide +kernel) (by decide +kernel)) gg_X2_under
set_option maxRecDepth 20000 in
theorem gg_X3_under : GoodIn lw_tbl wsX3_under := goodIn_cc (goodIn_r [_] [634] (by decide +kernel) (by decide +kernel)) (goodIn_app (goodIn_app (goodIn_r _ [569, 575, 608, 610, 31, 42, 611, 570, 612, 613, 614, 565, 567, 30, 568] (by decide +kernel) (by decide +kernel)) gk_X30) gk_atN)
set_option maxRecDepth 20000 in
theorem gl_X3_under : GoodIn lw_tbl (wsV RL 43 RX3 yX3_under wsX3_under) := goodIn_app (goodIn_r _ [631, 632, 633, 42] (by decide +kernel) (by decide +kernel)) gg_X3_under
set_option maxRecDepth 20000 in
theorem gk_wsX2_kind_r1 : GoodIn lw_tbl wsX2_kind_r1 := goodIn_r _ [93, 114, 115, 116, 41, 117, 78, 208, 209, 40, 210, 211, 213, 6, 214, 265, 215, 216, 217, 218, 220, 7, 221, 200] (by decide +kernel) (by decide +kernel)
set_option maxRecDepth 20000 in
theorem gk_wsX2_kind_r2 : GoodIn lw_tbl wsX2_kind_r2 := goodIn_r _ [201, 202, 222, 223, 224, 225, 226, 227, 228, 230, 8, 231, 232, 233, 234, 203, 171, 172, 173, 77, 71, 72, 73, 235] (by decide +kernel) (by decide +kernel)
set_option maxRecDepth 20000 in
theorem gk_wsX2_kind_r3 : GoodIn lw_tbl wsX2_kind_r3 := goodIn_r _ [237, 9, 238, 239, 240, 241, 242, 243, 244, 245, 76, 246, 248, 10, 249, 74, 170, 250, 252, 11, 253, 254, 256, 12] (by decide +kernel) (by decide +kernel)
set_option maxRecDepth 20000 in
theorem gk_wsX2_kind_r4 : GoodIn lw_tbl wsX2_kind_r4 := goodIn_r _ [257, 75, 258, 259, 260, 261, 263, 13, 264] (by decide +kernel) (by decide +kernel)
set_option maxRecDepth 20000 in
theorem gg_X2_kind : GoodIn lw_tbl wsX2_kind := goodIn_cc (goodIn_r [_] [207] (by decide +kernel) (by decide +kernel)) (goodIn_app (goodIn_app (goodIn_app (goodIn_app gk_wsX2_kind_r1 (goodIn_app gk_wsX2_kind_r2 (goodIn_app gk_wsX2_kind_r3 gk_wsX2_kind_r4))) gk_X20) gk_X10) gk_atN)
set_option maxRecDepth 20000 in
theorem gl_X2_kind : GoodIn lw_tbl (wsV RL 44 RX2 yX2_kind wsX2_kind) := goodIn_app (goodIn_r _ [204, 205, 206, 40] (by decide +kernel) (by decide +kernel)) gg_X2_kind
set_option maxRecDepth 20000 in
theorem gk_wsX3_kind_r1 : GoodIn lw_tbl wsX3_kind_r1 := goodIn_r _ [569, 608, 610, 31, 42, 611, 570, 612, 613, 614, 639, 641, 33, 642, 643, 644, 645, 646, 647, 648, 649, 651, 34, 652] (by decide +kernel) (by decide +kernel)
set_option maxRecDepth 20000 in
theorem gk_wsX3_kind_r2 : GoodIn lw_tbl wsX3_kind_r2 := goodIn_r _ [653, 654, 655, 656, 658, 35, 659, 575, 565, 567, 30, 568, 660, 661, 662, 663, 665, 36, 666, 571, 572, 573] (by decide +kernel) (by decide +kernel)
set_option maxRecDepth 20000 in
theorem gg_X3_kind : GoodIn lw_tbl wsX3_kind := goodIn_cc (goodIn_r [_] [638] (by decide +kernel) (by decide +kernel)) (goodIn_app (goodIn_app (goodIn_app gk_wsX3_kind_r1 gk_wsX3_kind_r2) gk_X30) gk_atN)
set_option maxRecDepth 20000 in
theorem gl_X3_kind : GoodIn lw_tbl (wsV RL 48 RX3 yX3_kind wsX3_kind) := goodIn_app (goodIn_r _ [635, 636, 637, 42] (by decide +kernel) (by decide +kernel)) gg_X3_kind
set_option maxRecDepth 20000 in
theorem gk_wsX2_given_r1 : GoodIn lw_tbl wsX2_given_r1 := goodIn_r _ [93, 114, 115, 116, 41, 117, 78, 271, 272, 40, 273, 274, 275, 276, 277, 279, 211, 213, 6, 214, 265, 215, 216, 217] (by decide +kernel) (by decide +kernel)
set_option maxRecDepth 20000 in
theorem gk_wsX2_given_r2 : GoodIn lw_tbl wsX2_given_r2 := goodIn_r _ [218, 220, 7, 221, 200, 201, 202, 222, 223, 224, 225, 226, 227, 228, 230, 8, 231, 232, 233, 234, 203, 171, 172, 173] (by decide +kernel) (by decide +kernel)
set_option maxRecDepth 20000 in
theorem gk_wsX2_given_r3 : GoodIn lw_tbl wsX2_given_r3 := goodIn_r _ [77, 71, 72, 73, 235, 237, 9, 238, 239, 240, 241, 242, 243, 244, 245, 76, 246, 248, 10, 249, 74, 170, 250, 252] (by decide +kernel) (by decide +kernel)
set_option maxRecDepth 20000 in
theorem gk_wsX2_given_r4 : GoodIn lw_tbl wsX2_given_r4 := goodIn_r _ [11, 253, 254, 256, 12, 257, 75, 258, 259, 260, 261, 263, 13, 264, 281, 282, 283] (by decide +kernel) (by decide +kernel)
set_option maxRecDepth 20000 in
theorem gg_X2_given : GoodIn lw_tbl wsX2_given := goodIn_cc (goodIn_r [_] [270] (by decide +kernel) (by decide +kernel)) (goodIn_app (goodIn_app (goodIn_app (goodIn_app gk_wsX2_given_r1 (goodIn_app gk_wsX2_given_r2 (goodIn_app gk_wsX2_given_r3 gk_wsX2_given_r4))) gk_X20) gk_X10) gk_atN)
set_option maxRecDepth 20000 in
theorem gl_X2_given : GoodIn lw_tbl (wsV RL 51 RX2 yX2_given wsX2_given) := goodIn_app (goodIn_r _ [267, 268, 269, 40] (by decide +kernel) (by decide +kernel)) gg_X2_given
set_option maxRecDepth 20000 in
theorem gk_wsX3_given_r1 : GoodIn lw_tbl wsX3_given_r1 := goodIn_r _ [569, 608, 610, 31, 42, 611, 570, 612, 613, 614, 671, 672, 673, 674, 675, 676, 677, 678, 679, 680, 660, 661, 662, 639] (by decide +kernel) (by decide +kernel)
set_option maxRecDepth 20000 in
theorem gk_wsX3_given_r2 : GoodIn lw_tbl wsX3_given_r2 := goodIn_r _ [641, 33, 642, 643, 644, 645, 646, 647, 648, 649, 651, 34, 652, 653, 654, 655, 656, 658, 35, 659, 575, 565, 567, 30] (by decide +kernel) (by decide +kernel)
set_option maxRecDepth 20000 in
theorem gk_wsX3_given_r3 : GoodIn lw_tbl wsX3_given_r3 := goodIn_r _ [568, 663, 665, 36, 666, 571, 572, 573] (by decide +kernel) (by decide +kernel)
set_option maxRecDepth 20000 in
theorem gg_X3_given : GoodIn lw_tbl wsX3_given := goodIn_cc (goodIn_r [_] [670] (by decide +kernel) (by decide +kernel)) (goodIn_app (goodIn_app (goodIn_app gk_wsX3_given_r1 (goodIn_app gk_wsX3_given_r2 gk_wsX3_given_r3)) gk_X30) gk_atN)
set_option maxRecDepth 20000 in
theorem gl_X3_given : GoodIn lw_tbl (wsV RL 55 RX3 yX3_given wsX3_given) := goodIn_app (goodIn_r _ [667, 668, 669, 42] (by decide +kernel) (by decide +kernel)) gg_X3_given
set_option maxRecDepth 20000 in
theorem gk_wsX2_targets_r1 : GoodIn lw_tbl wsX2_targets_r1 := goodIn_r _ [93, 114, 115, 116, 41, 117, 78, 208, 209, 40, 210, 288, 289, 290, 291, 211, 213, 6, 214, 265, 215, 216, 217, 218] (by decide +kernel) (by decide +kernel)
set_option maxRecDepth 20000 in
theorem gk_wsX2_targets_r2 : GoodIn lw_tbl wsX2_targets_r2 := goodIn_r _ [220, 7, 221, 200, 201, 202, 222, 223, 224, 225, 226, 227, 228, 230, 8, 231, 232, 233, 234, 203, 171, 172, 173, 77] (by decide +kernel) (by decide +kernel)
set_option maxRecDepth 20000 in
theorem gk_wsX2_targets_r3 : GoodIn lw_tbl wsX2_targets_r3 := goodIn_r _ [71, 72, 73, 235, 237, 9, 238, 239, 240, 241, 242, 243, 244, 245, 76, 246, 248, 10, 249, 74, 170, 250, 252, 11] (by decide +kernel) (by decide +kernel)
set_option maxRecDepth 20000 in
theorem gk_wsX2_targets_r4 : GoodIn lw_tbl wsX2_targets_r4 := goodIn_r _ [253, 254, 256, 12, 257, 75, 258, 259, 260, 261, 263, 13, 264] (by decide +kernel) (by decide +kernel)
set_option maxRecDepth 20000 in
theorem gg_X2_targets : GoodIn lw_tbl wsX2_targets := goodIn_cc (goodIn_r [_] [287] (by decide +kernel) (by decide +kernel)) (goodIn_app (goodIn_app (goodIn_app (goodIn_app gk_wsX2_targets_r1 (goodIn_app gk_wsX2_targets_r2 (goodIn_app gk_wsX2_targets_r3 gk_wsX2_targets_r4))) gk_X20) gk_X10) gk_atN)
set_option maxRecDepth 20000 in
theorem gl_X2_targets : GoodIn lw_tbl (wsV RL 56 RX2 yX2_targets wsX2_targets) := goodIn_app (goodIn_r _ [284, 285, 286, 40] (by decide +kernel) (by decide +kernel)) gg_X2_targets
set_option maxRecDepth 20000 in
theorem gk_wsX3_targets_r1 : GoodIn lw_tbl wsX3_targets_r1 := goodIn_r _ [569, 570, 608, 610, 31, 42, 611, 612, 613, 614, 639, 641, 33, 642, 643, 644, 645, 646, 647, 648, 649, 651, 34, 652] (by decide +kernel) (by decide +kernel)
set_option maxRecDepth 20000 in
theorem gk_wsX3_targets_r2 : GoodIn lw_tbl wsX3_targets_r2 := goodIn_r _ [653, 654, 655, 656, 658, 35, 659, 575, 565, 567, 30, 568, 660, 661, 662, 663, 665, 36, 666, 571, 572, 573] (by decide +kernel) (by decide +kernel)
set_option maxRecDepth 20000 in
theorem gg_X3_targets : GoodIn lw_tbl wsX3_targets := goodIn_cc (goodIn_r [_] [684] (by decide +kernel) (by decide +kernel)) (goodIn_app (goodIn_app (goodIn_app gk_wsX3_targets_r1 gk_wsX3_targets_r2) gk_X30) gk_atN)
set_option maxRecDepth 20000 in
theorem gl_X3_targets : GoodIn lw_tbl (wsV RL 59 RX3 yX3_targets wsX3_targets) := goodIn_app (goodIn_r _ [681, 682, 683, 42] (by decide +kernel) (by decide +kernel)) gg_X3_targets
