set_option maxRecDepth 20000 in
theorem gk_wsX2_turned_r1 : GoodIn lw_tbl wsX2_turned_r1 := goodIn_r _ [296, 297, 215, 216, 40, 217, 274, 275, 276, 277, 279, 271, 272, 273, 298, 299, 300, 301, 302, 303, 304, 305, 306, 307] (by decide +kernel) (by decide +kernel)
set_option maxRecDepth 20000 in
theorem gk_wsX2_turned_r2 : GoodIn lw_tbl wsX2_turned_r2 := goodIn_r _ [309, 311, 312, 313, 45, 314, 778, 346, 347, 315, 317, 14, 319, 777, 320, 321, 323, 15, 324, 779, 325, 327, 16, 328] (by decide +kernel) (by decide +kernel)
set_option maxRecDepth 20000 in
theorem gk_wsX2_turned_r3 : GoodIn lw_tbl wsX2_turned_r3 := goodIn_r _ [329, 331, 17, 332, 780, 333, 334, 46, 335, 336, 337, 338, 339, 340, 43, 341, 342, 343, 47, 344, 345, 348, 349, 350] (by decide +kernel) (by decide +kernel)
set_option maxRecDepth 20000 in
theorem gk_wsX2_turned_r4 : GoodIn lw_tbl wsX2_turned_r4 := goodIn_r _ [351, 352, 353, 354, 355, 356, 357, 358, 359, 360, 361, 362, 363, 364, 365, 367, 18, 368, 369, 370, 371, 375, 372, 373] (by decide +kernel) (by decide +kernel)
set_option maxRecDepth 20000 in
theorem gk_wsX2_turned_r5 : GoodIn lw_tbl wsX2_turned_r5 := goodIn_r _ [374, 376, 378, 19, 379, 380, 381, 382, 383, 781] (by decide +kernel) (by decide +kernel)
set_option maxRecDepth 20000 in
theorem gg_X2_turned : GoodIn lw_tbl wsX2_turned := goodIn_cc (goodIn_r [_] [295] (by decide +kernel) (by decide +kernel)) (goodIn_app (goodIn_app gk_wsX2_turned_r1 (goodIn_app gk_wsX2_turned_r2 (goodIn_app gk_wsX2_turned_r3 (goodIn_app gk_wsX2_turned_r4 gk_wsX2_turned_r5)))) gk_atN)
set_option maxRecDepth 20000 in
theorem gl_X2_turned : GoodIn lw_tbl (wsV RL 60 RX2 yX2_turned wsX2_turned) := goodIn_app (goodIn_r _ [292, 293, 294, 40] (by decide +kernel) (by decide +kernel)) gg_X2_turned
set_option maxRecDepth 20000 in
theorem gk_wsX3_turned_r1 : GoodIn lw_tbl wsX3_turned_r1 := goodIn_r _ [569, 689, 693, 679, 705, 699, 680, 608, 610, 31, 42, 611, 570, 612, 613, 614, 646, 647, 648, 690, 691, 692, 671, 672] (by decide +kernel) (by decide +kernel)
set_option maxRecDepth 20000 in
theorem gk_wsX3_turned_r2 : GoodIn lw_tbl wsX3_turned_r2 := goodIn_r _ [673, 674, 675, 676, 677, 678, 694, 695, 696, 697, 698, 700, 701, 702, 703, 704, 706, 707, 708, 709, 710, 711, 712, 713] (by decide +kernel) (by decide +kernel)
set_option maxRecDepth 20000 in
theorem gk_wsX3_turned_r3 : GoodIn lw_tbl wsX3_turned_r3 := goodIn_r _ [714, 715, 716, 717, 718, 719, 720, 721] (by decide +kernel) (by decide +kernel)
set_option maxRecDepth 20000 in
theorem gg_X3_turned : GoodIn lw_tbl wsX3_turned := goodIn_cc (goodIn_r [_] [688] (by decide +kernel) (by decide +kernel)) (goodIn_app (goodIn_app (goodIn_app gk_wsX3_turned_r1 (goodIn_app gk_wsX3_turned_r2 gk_wsX3_turned_r3)) gk_X30) gk_atN)
set_option maxRecDepth 20000 in
theorem gl_X3_turned : GoodIn lw_tbl (wsV RL 64 RX3 yX3_turned wsX3_turned) := goodIn_app (goodIn_r _ [685, 686, 687, 42] (by decide +kernel) (by decide +kernel)) gg_X3_turned
set_option maxRecDepth 20000 in
theorem gg_X2_promoted : GoodIn lw_tbl wsX2_promoted := goodIn_cc (goodIn_r [_] [387] (by decide +kernel) (by decide +kernel)) (goodIn_app (goodIn_app (goodIn_app (goodIn_r _ [93, 388, 370, 46, 371, 114, 115, 116, 41, 117, 78, 258, 259, 40, 260, 239, 240, 241, 215, 216, 217] (by decide +kernel) (by decide +kernel)) gk_X20) gk_X10) gk_atN)
set_option maxRecDepth 20000 in
theorem gl_X2_promoted : GoodIn lw_tbl (wsV RL 65 RX2 yX2_promoted wsX2_promoted) := goodIn_app (goodIn_r _ [384, 385, 386, 40] (by decide +kernel) (by decide +kernel)) gg_X2_promoted
set_option maxRecDepth 20000 in
theorem gg_X3_promoted : GoodIn lw_tbl wsX3_promoted := goodIn_cc (goodIn_r [_] [725] (by decide +kernel) (by decide +kernel)) (goodIn_app (goodIn_app (goodIn_r _ [569, 608, 610, 31, 42, 611, 570, 612, 613, 614, 726, 727, 728, 660, 661, 662, 646, 647, 648, 729, 730, 731] (by decide +kernel) (by decide +kernel)) gk_X30) gk_atN)
set_option maxRecDepth 20000 in
theorem gl_X3_promoted : GoodIn lw_tbl (wsV RL 68 RX3 yX3_promoted wsX3_promoted) := goodIn_app (goodIn_r _ [722, 723, 724, 42] (by decide +kernel) (by decide +kernel)) gg_X3_promoted
set_option maxRecDepth 20000 in
theorem gg_X2_both : GoodIn lw_tbl wsX2_both := goodIn_cc (goodIn_r [_] [392] (by decide +kernel) (by decide +kernel)) (goodIn_app (goodIn_app (goodIn_app (goodIn_r _ [93, 114, 115, 116, 41, 117, 78, 258, 259, 40, 260, 239, 240, 241, 215, 216, 217, 393, 394, 395, 388, 370, 46, 371] (by decide +kernel) (by decide +kernel)) gk_X20) gk_X10) gk_atN)
set_option maxRecDepth 20000 in
theorem gl_X2_both : GoodIn lw_tbl (wsV RL 69 RX2 yX2_both wsX2_both) := goodIn_app (goodIn_r _ [389, 390, 391, 40] (by decide +kernel) (by decide +kernel)) gg_X2_both
set_option maxRecDepth 20000 in
theorem gk_wsX3_both_r1 : GoodIn lw_tbl wsX3_both_r1 := goodIn_r _ [569, 608, 610, 31, 42, 611, 570, 612, 613, 614, 726, 727, 728, 660, 661, 662, 646, 647, 648, 736, 737, 738, 729, 730] (by decide +kernel) (by decide +kernel)
set_option maxRecDepth 20000 in
theorem gk_wsX3_both_r2 : GoodIn lw_tbl wsX3_both_r2 := goodIn_r _ [731] (by decide +kernel) (by decide +kernel)
set_option maxRecDepth 20000 in
theorem gg_X3_both : GoodIn lw_tbl wsX3_both := goodIn_cc (goodIn_r [_] [735] (by decide +kernel) (by decide +kernel)) (goodIn_app (goodIn_app (goodIn_app gk_wsX3_both_r1 gk_wsX3_both_r2) gk_X30) gk_atN)
set_option maxRecDepth 20000 in
theorem gl_X3_both : GoodIn lw_tbl (wsV RL 72 RX3 yX3_both wsX3_both) := goodIn_app (goodIn_r _ [732, 733, 734, 42] (by decide +kernel) (by decide +kernel)) gg_X3_both
set_option maxRecDepth 20000 in
theorem gk_wsX2_conditional_r1 : GoodIn lw_tbl wsX2_conditional_r1 := goodIn_r _ [93, 114, 115, 116, 41, 117, 78, 258, 259, 40, 260, 239, 240, 241, 215, 216, 217, 400, 401, 402, 393, 394, 395, 388] (by decide +kernel) (by decide +kernel)
set_option maxRecDepth 20000 in
theorem gk_wsX2_conditional_r2 : GoodIn lw_tbl wsX2_conditional_r2 := goodIn_r _ [370, 46, 371, 232, 233, 234, 200, 201, 202, 403, 405, 20, 406, 203, 171, 172, 173, 77, 71, 72, 73] (by decide +kernel) (by decide +kernel)
set_option maxRecDepth 20000 in
theorem gg_X2_conditional : GoodIn lw_tbl wsX2_conditional := goodIn_cc (goodIn_r [_] [399] (by decide +kernel) (by decide +kernel)) (goodIn_app (goodIn_app (goodIn_app (goodIn_app gk_wsX2_conditional_r1 gk_wsX2_conditional_r2) gk_X20) gk_X10) gk_atN)
set_option maxRecDepth 20000 in
theorem gl_X2_conditional : GoodIn lw_tbl (wsV RL 73 RX2 yX2_conditional wsX2_conditional) := goodIn_app (goodIn_r _ [396, 397, 398, 40] (by decide +kernel) (by decide +kernel)) gg_X2_conditional
set_option maxRecDepth 20000 in
theorem gk_wsX3_conditional_r1 : GoodIn lw_tbl wsX3_conditional_r1 := goodIn_r _ [569, 575, 608, 610, 31, 42, 611, 570, 612, 613, 614, 726, 727, 728, 660, 661, 662, 646, 647, 648, 736, 737, 738, 729] (by decide +kernel) (by decide +kernel)
set_option maxRecDepth 20000 in
theorem gk_wsX3_conditional_r2 : GoodIn lw_tbl wsX3_conditional_r2 := goodIn_r _ [730, 731] (by decide +kernel) (by decide +kernel)
set_option maxRecDepth 20000 in
theorem gg_X3_conditional : GoodIn lw_tbl wsX3_conditional := goodIn_cc (goodIn_r [_] [742] (by decide +kernel) (by decide +kernel)) (goodIn_app (goodIn_app (goodIn_app gk_wsX3_conditional_r1 gk_wsX3_conditional_r2) gk_X30) gk_atN)
set_option maxRecDepth 20000 in
theorem gl_X3_conditional : GoodIn lw_tbl (wsV RL 76 RX3 yX3_conditional wsX3_conditional) := goodIn_app (goodIn_r _ [739, 740, 741, 42] (by decide +kernel) (by decide +kernel)) gg_X3_conditional
set_option maxRecDepth 20000 in
theorem gk_wsX2_box_r1 : GoodIn lw_tbl wsX2_box_r1 := goodIn_r _ [93, 114, 115, 116, 41, 117, 78, 239, 240, 40, 241, 258, 259, 260, 274, 275, 276, 277, 279, 411, 413, 21, 414, 96] (by decide +kernel) (by decide +kernel)
set_option maxRecDepth 20000 in
theorem gk_wsX2_box_r2 : GoodIn lw_tbl wsX2_box_r2 := goodIn_r _ [415, 416, 417, 304, 305, 306, 307, 309, 380, 381, 382, 45, 383, 778, 781, 315, 317, 14, 319, 777, 320, 376, 378, 19] (by decide +kernel) (by decide +kernel)
set_option maxRecDepth 20000 in
theorem gk_wsX2_box_r3 : GoodIn lw_tbl wsX2_box_r3 := goodIn_r _ [379, 321, 323, 15, 324, 779, 325, 327, 16, 328, 329, 331, 17, 332, 780, 333, 334, 46, 335, 365, 367, 18, 368, 369] (by decide +kernel) (by decide +kernel)
set_option maxRecDepth 20000 in
theorem gk_wsX2_box_r4 : GoodIn lw_tbl wsX2_box_r4 := goodIn_r _ [370, 371, 375, 355, 356, 336, 337, 338, 339, 340, 43, 341, 342, 343, 47, 344, 345, 372, 373, 374, 418, 420, 22, 421] (by decide +kernel) (by decide +kernel)
set_option maxRecDepth 20000 in
theorem gk_wsX2_box_r5 : GoodIn lw_tbl wsX2_box_r5 := goodIn_r _ [94, 95] (by decide +kernel) (by decide +kernel)
set_option maxRecDepth 20000 in
theorem gg_X2_box : GoodIn lw_tbl wsX2_box := goodIn_cc (goodIn_r [_] [410] (by decide +kernel) (by decide +kernel)) (goodIn_app (goodIn_app (goodIn_app (goodIn_app gk_wsX2_box_r1 (goodIn_app gk_wsX2_box_r2 (goodIn_app gk_wsX2_box_r3 (goodIn_app gk_wsX2_box_r4 gk_wsX2_box_r5)))) gk_X20) gk_X10) gk_atN)
