set_option maxRecDepth 20000 in
theorem gl_X2_box : GoodIn lw_tbl (wsV RL 77 RX2 yX2_box wsX2_box) := goodIn_app (goodIn_r _ [407, 408, 409, 40] (by decide +kernel) (by decide +kernel)) gg_X2_box
set_option maxRecDepth 20000 in
theorem gk_wsX3_box_r1 : GoodIn lw_tbl wsX3_box_r1 := goodIn_r _ [569, 576, 608, 610, 31, 42, 611, 570, 612, 613, 614, 660, 661, 662, 690, 691, 692, 671, 672, 673, 674, 675, 676, 677] (by decide +kernel) (by decide +kernel)
set_option maxRecDepth 20000 in
theorem gk_wsX3_box_r2 : GoodIn lw_tbl wsX3_box_r2 := goodIn_r _ [678, 679, 680, 694, 695, 696, 697, 698, 699, 700, 701, 747, 749, 37, 750, 577, 578] (by decide +kernel) (by decide +kernel)
set_option maxRecDepth 20000 in
theorem gg_X3_box : GoodIn lw_tbl wsX3_box := goodIn_cc (goodIn_r [_] [746] (by decide +kernel) (by decide +kernel)) (goodIn_app (goodIn_app (goodIn_app gk_wsX3_box_r1 gk_wsX3_box_r2) gk_X30) gk_atN)
set_option maxRecDepth 20000 in
theorem gl_X3_box : GoodIn lw_tbl (wsV RL 81 RX3 yX3_box wsX3_box) := goodIn_app (goodIn_r _ [743, 744, 745, 42] (by decide +kernel) (by decide +kernel)) gg_X3_box
set_option maxRecDepth 20000 in
theorem gk_wsX2_make_r1 : GoodIn lw_tbl wsX2_make_r1 := goodIn_r _ [93, 114, 115, 116, 41, 117, 78, 426, 428, 23, 40, 429, 126, 127, 128, 129, 74, 411, 413, 21, 414, 96, 418, 420] (by decide +kernel) (by decide +kernel)
set_option maxRecDepth 20000 in
theorem gk_wsX2_make_r2 : GoodIn lw_tbl wsX2_make_r2 := goodIn_r _ [22, 421, 94, 95] (by decide +kernel) (by decide +kernel)
set_option maxRecDepth 20000 in
theorem gg_X2_make : GoodIn lw_tbl wsX2_make := goodIn_cc (goodIn_r [_] [425] (by decide +kernel) (by decide +kernel)) (goodIn_app (goodIn_app (goodIn_app (goodIn_app gk_wsX2_make_r1 gk_wsX2_make_r2) gk_X20) gk_X10) gk_atN)
set_option maxRecDepth 20000 in
theorem gl_X2_make : GoodIn lw_tbl (wsV RL 82 RX2 yX2_make wsX2_make) := goodIn_app (goodIn_r _ [422, 423, 424, 40] (by decide +kernel) (by decide +kernel)) gg_X2_make
set_option maxRecDepth 20000 in
theorem gg_X3_make : GoodIn lw_tbl wsX3_make := goodIn_cc (goodIn_r [_] [754] (by decide +kernel) (by decide +kernel)) (goodIn_app (goodIn_app (goodIn_r _ [569, 571, 576, 608, 610, 31, 42, 611, 570, 612, 613, 614, 747, 749, 37, 750, 577, 578] (by decide +kernel) (by decide +kernel)) gk_X30) gk_atN)
set_option maxRecDepth 20000 in
theorem gl_X3_make : GoodIn lw_tbl (wsV RL 85 RX3 yX3_make wsX3_make) := goodIn_app (goodIn_r _ [751, 752, 753, 42] (by decide +kernel) (by decide +kernel)) gg_X3_make
set_option maxRecDepth 20000 in
theorem gg_X2_typeOf : GoodIn lw_tbl wsX2_typeOf := goodIn_cc (goodIn_r [_] [433] (by decide +kernel) (by decide +kernel)) (goodIn_app (goodIn_app (goodIn_r _ [94, 434, 436, 24, 40, 437, 96] (by decide +kernel) (by decide +kernel)) gk_X20) gk_atN)
set_option maxRecDepth 20000 in
theorem gl_X2_typeOf : GoodIn lw_tbl (wsV RL 86 RX2 yX2_typeOf wsX2_typeOf) := goodIn_app (goodIn_r _ [430, 431, 432, 40] (by decide +kernel) (by decide +kernel)) gg_X2_typeOf
set_option maxRecDepth 20000 in
theorem gg_X3_typeOf : GoodIn lw_tbl wsX3_typeOf := goodIn_cc (goodIn_r [_] [758] (by decide +kernel) (by decide +kernel)) (goodIn_app (goodIn_app (goodIn_r _ [569, 577, 759, 761, 38, 42, 762, 576, 612, 613, 614] (by decide +kernel) (by decide +kernel)) gk_X30) gk_atN)
set_option maxRecDepth 20000 in
theorem gl_X3_typeOf : GoodIn lw_tbl (wsV RL 89 RX3 yX3_typeOf wsX3_typeOf) := goodIn_app (goodIn_r _ [755, 756, 757, 42] (by decide +kernel) (by decide +kernel)) gg_X3_typeOf
set_option maxRecDepth 20000 in
theorem gg_X3_unboxed : GoodIn lw_tbl wsX3_unboxed := goodIn_cc (goodIn_r [_] [766] (by decide +kernel) (by decide +kernel)) (goodIn_app (goodIn_app (goodIn_r _ [569, 689, 693, 577, 578, 759, 761, 38, 42, 762, 576, 612, 613, 614, 608, 610, 31, 611, 570, 660, 661, 662] (by decide +kernel) (by decide +kernel)) gk_X30) gk_atN)
set_option maxRecDepth 20000 in
theorem gl_X3_unboxed : GoodIn lw_tbl (wsV RL 95 RX3 yX3_unboxed wsX3_unboxed) := goodIn_app (goodIn_r _ [763, 764, 765, 42] (by decide +kernel) (by decide +kernel)) gg_X3_unboxed
set_option maxRecDepth 20000 in
theorem gk_wsX2_cast_r1 : GoodIn lw_tbl wsX2_cast_r1 := goodIn_r _ [93, 94, 434, 436, 24, 40, 437, 96, 114, 115, 116, 41, 117, 78, 200, 201, 202, 203, 171, 172, 173, 77, 71, 72] (by decide +kernel) (by decide +kernel)
set_option maxRecDepth 20000 in
theorem gk_wsX2_cast_r2 : GoodIn lw_tbl wsX2_cast_r2 := goodIn_r _ [73, 211, 213, 6, 214, 265, 215, 216, 217, 218, 220, 7, 221, 222, 223, 224, 225, 226, 227, 228, 230, 8, 231, 232] (by decide +kernel) (by decide +kernel)
set_option maxRecDepth 20000 in
theorem gk_wsX2_cast_r3 : GoodIn lw_tbl wsX2_cast_r3 := goodIn_r _ [233, 234, 235, 237, 9, 238, 239, 240, 241, 242, 243, 244, 245, 76, 246, 248, 10, 249, 74, 170, 250, 252, 11, 253] (by decide +kernel) (by decide +kernel)
set_option maxRecDepth 20000 in
theorem gk_wsX2_cast_r4 : GoodIn lw_tbl wsX2_cast_r4 := goodIn_r _ [254, 256, 12, 257, 75, 258, 259, 260, 261, 263, 13, 264] (by decide +kernel) (by decide +kernel)
set_option maxRecDepth 20000 in
theorem gg_X2_cast : GoodIn lw_tbl wsX2_cast := goodIn_cc (goodIn_r [_] [441] (by decide +kernel) (by decide +kernel)) (goodIn_app (goodIn_app (goodIn_app (goodIn_app gk_wsX2_cast_r1 (goodIn_app gk_wsX2_cast_r2 (goodIn_app gk_wsX2_cast_r3 gk_wsX2_cast_r4))) gk_X20) gk_X10) gk_atN)
set_option maxRecDepth 20000 in
theorem gl_X2_cast : GoodIn lw_tbl (wsV RL 100 RX2 yX2_cast wsX2_cast) := goodIn_app (goodIn_r _ [438, 439, 440, 40] (by decide +kernel) (by decide +kernel)) gg_X2_cast
set_option maxRecDepth 20000 in
theorem gk_wsX3_cast_r1 : GoodIn lw_tbl wsX3_cast_r1 := goodIn_r _ [569, 577, 575, 759, 761, 38, 42, 762, 576, 612, 613, 614, 608, 610, 31, 611, 570, 565, 567, 30, 568, 639, 641, 33] (by decide +kernel) (by decide +kernel)
set_option maxRecDepth 20000 in
theorem gk_wsX3_cast_r2 : GoodIn lw_tbl wsX3_cast_r2 := goodIn_r _ [642, 643, 644, 645, 646, 647, 648, 649, 651, 34, 652, 653, 654, 655, 656, 658, 35, 659, 660, 661, 662, 663, 665, 36] (by decide +kernel) (by decide +kernel)
set_option maxRecDepth 20000 in
theorem gk_wsX3_cast_r3 : GoodIn lw_tbl wsX3_cast_r3 := goodIn_r _ [666, 571, 572, 573] (by decide +kernel) (by decide +kernel)
set_option maxRecDepth 20000 in
theorem gg_X3_cast : GoodIn lw_tbl wsX3_cast := goodIn_cc (goodIn_r [_] [770] (by decide +kernel) (by decide +kernel)) (goodIn_app (goodIn_app (goodIn_app gk_wsX3_cast_r1 (goodIn_app gk_wsX3_cast_r2 gk_wsX3_cast_r3)) gk_X30) gk_atN)
set_option maxRecDepth 20000 in
theorem gl_X3_cast : GoodIn lw_tbl (wsV RL 103 RX3 yX3_cast wsX3_cast) := goodIn_app (goodIn_r _ [767, 768, 769, 42] (by decide +kernel) (by decide +kernel)) gg_X3_cast
set_option maxRecDepth 20000 in
theorem gg_X2_count : GoodIn lw_tbl wsX2_count := goodIn_cc (goodIn_r [_] [445] (by decide +kernel) (by decide +kernel)) (goodIn_app (goodIn_app (goodIn_app (goodIn_r _ [93, 96, 288, 289, 290, 41, 291, 78] (by decide +kernel) (by decide +kernel)) gk_X20) gk_X10) gk_atN)
set_option maxRecDepth 20000 in
theorem gl_X2_count : GoodIn lw_tbl (wsV RL 104 RX2 yX2_count wsX2_count) := goodIn_app (goodIn_r _ [442, 443, 444, 40] (by decide +kernel) (by decide +kernel)) gg_X2_count
set_option maxRecDepth 20000 in
theorem gg_X3_count : GoodIn lw_tbl wsX3_count := goodIn_cc (goodIn_r [_] [774] (by decide +kernel) (by decide +kernel)) (goodIn_app (goodIn_r _ [569, 570, 576] (by decide +kernel) (by decide +kernel)) gk_X30)
set_option maxRecDepth 20000 in
theorem gl_X3_count : GoodIn lw_tbl (wsV RL 107 RX3 yX3_count wsX3_count) := goodIn_app (goodIn_r _ [771, 772, 773, 42] (by decide +kernel) (by decide +kernel)) gg_X3_count
set_option maxRecDepth 20000 in
theorem gg_X3_thrown : GoodIn lw_tbl wsX3_thrown := goodIn_cc (goodIn_r [_] [603] (by decide +kernel) (by decide +kernel)) (goodIn_app (goodIn_r _ [569] (by decide +kernel) (by decide +kernel)) gk_X30)
set_option maxRecDepth 20000 in
theorem gl_X3_thrown : GoodIn lw_tbl (wsV RL 96 RX3 yX3_thrown wsX3_thrown) := goodIn_app (goodIn_r _ [600, 601, 602, 42] (by decide +kernel) (by decide +kernel)) gg_X3_thrown
