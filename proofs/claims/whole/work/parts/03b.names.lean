theorem dX0_withoutSign_0 : decode cX0_withoutSign 0 = .ok (.lload_n 1, 1) := by decide +kernel
theorem dX0_withoutSign_1 : decode cX0_withoutSign 1 = .ok (.aload_n 0, 1) := by decide +kernel
theorem dX0_withoutSign_2 : decode cX0_withoutSign 2 = .ok (.getfield 43, 3) := by decide +kernel
theorem dX0_withoutSign_5 : decode cX0_withoutSign 5 = .ok (.ldc2_w 46, 3) := by decide +kernel
theorem dX0_withoutSign_8 : decode cX0_withoutSign 8 = .ok (.lxor, 1) := by decide +kernel
theorem dX0_withoutSign_9 : decode cX0_withoutSign 9 = .ok (.land, 1) := by decide +kernel
theorem dX0_withoutSign_10 : decode cX0_withoutSign 10 = .ok (.lreturn, 1) := by decide +kernel
theorem dX0_withSign_0 : decode cX0_withSign 0 = .ok (.iload_n 1, 1) := by decide +kernel
theorem dX0_withSign_1 : decode cX0_withSign 1 = .ok (.ifCond .eq 12, 3) := by decide +kernel
theorem dX0_withSign_4 : decode cX0_withSign 4 = .ok (.lload_n 2, 1) := by decide +kernel
theorem dX0_withSign_5 : decode cX0_withSign 5 = .ok (.aload_n 0, 1) := by decide +kernel
theorem dX0_withSign_6 : decode cX0_withSign 6 = .ok (.getfield 43, 3) := by decide +kernel
theorem dX0_withSign_9 : decode cX0_withSign 9 = .ok (.lor, 1) := by decide +kernel
theorem dX0_withSign_10 : decode cX0_withSign 10 = .ok (.goto 4, 3) := by decide +kernel
theorem dX0_withSign_13 : decode cX0_withSign 13 = .ok (.lload_n 2, 1) := by decide +kernel
theorem dX0_withSign_14 : decode cX0_withSign 14 = .ok (.lreturn, 1) := by decide +kernel
set_option maxRecDepth 20000 in
theorem ggX0_exponentField_X0_withoutSign : GoodIn wsX0_exponentField wsX0_withoutSign := goodIn_r _ [6, 7, 8] (by decide +kernel) (by decide +kernel)
set_option maxRecDepth 20000 in
theorem gX0_exponentField_X0_withoutSign : GoodIn wsX0_exponentField (wsV RX0 48 RX0 yX0_withoutSign wsX0_withoutSign) := goodIn_app (goodIn_of _ (by decide +kernel)) ggX0_exponentField_X0_withoutSign
theorem dX0_exponentField_0 : decode cX0_exponentField 0 = .ok (.aload_n 0, 1) := by decide +kernel
theorem dX0_exponentField_1 : decode cX0_exponentField 1 = .ok (.lload_n 1, 1) := by decide +kernel
theorem dX0_exponentField_2 : decode cX0_exponentField 2 = .ok (.invokevirtual 48, 3) := by decide +kernel
theorem dX0_exponentField_5 : decode cX0_exponentField 5 = .ok (.aload_n 0, 1) := by decide +kernel
theorem dX0_exponentField_6 : decode cX0_exponentField 6 = .ok (.getfield 29, 3) := by decide +kernel
theorem dX0_exponentField_9 : decode cX0_exponentField 9 = .ok (.iconst 1, 1) := by decide +kernel
theorem dX0_exponentField_10 : decode cX0_exponentField 10 = .ok (.isub, 1) := by decide +kernel
theorem dX0_exponentField_11 : decode cX0_exponentField 11 = .ok (.lushr, 1) := by decide +kernel
theorem dX0_exponentField_12 : decode cX0_exponentField 12 = .ok (.lreturn, 1) := by decide +kernel
set_option maxRecDepth 20000 in
theorem ggX0_significand_X0_withoutSign : GoodIn wsX0_significand wsX0_withoutSign := goodIn_r _ [6, 7, 8] (by decide +kernel) (by decide +kernel)
set_option maxRecDepth 20000 in
theorem gX0_significand_X0_withoutSign : GoodIn wsX0_significand (wsV RX0 48 RX0 yX0_withoutSign wsX0_withoutSign) := goodIn_app (goodIn_of _ (by decide +kernel)) ggX0_significand_X0_withoutSign
set_option maxRecDepth 20000 in
theorem ggX0_significand_X0_exponentField : GoodIn wsX0_significand wsX0_exponentField := goodIn_ca (goodIn_r _ [12, 1, 2, 3, 4, 5, 6, 7, 8] (by decide +kernel) (by decide +kernel)) (goodIn_sub (fun _ h => List.mem_cons_of_mem _ (List.mem_append_right _ h)) (by decide +kernel))
set_option maxRecDepth 20000 in
theorem gX0_significand_X0_exponentField : GoodIn wsX0_significand (wsV RX0 52 RX0 yX0_exponentField wsX0_exponentField) := goodIn_app (goodIn_of _ (by decide +kernel)) ggX0_significand_X0_exponentField
theorem dX0_significand_0 : decode cX0_significand 0 = .ok (.lconst 1, 1) := by decide +kernel
theorem dX0_significand_1 : decode cX0_significand 1 = .ok (.aload_n 0, 1) := by decide +kernel
theorem dX0_significand_2 : decode cX0_significand 2 = .ok (.getfield 29, 3) := by decide +kernel
theorem dX0_significand_5 : decode cX0_significand 5 = .ok (.iconst 1, 1) := by decide +kernel
theorem dX0_significand_6 : decode cX0_significand 6 = .ok (.isub, 1) := by decide +kernel
theorem dX0_significand_7 : decode cX0_significand 7 = .ok (.lshl, 1) := by decide +kernel
theorem dX0_significand_8 : decode cX0_significand 8 = .ok (.lstore_n 3, 1) := by decide +kernel
theorem dX0_significand_9 : decode cX0_significand 9 = .ok (.aload_n 0, 1) := by decide +kernel
theorem dX0_significand_10 : decode cX0_significand 10 = .ok (.lload_n 1, 1) := by decide +kernel
theorem dX0_significand_11 : decode cX0_significand 11 = .ok (.invokevirtual 48, 3) := by decide +kernel
theorem dX0_significand_14 : decode cX0_significand 14 = .ok (.lload_n 3, 1) := by decide +kernel
theorem dX0_significand_15 : decode cX0_significand 15 = .ok (.lconst 1, 1) := by decide +kernel
theorem dX0_significand_16 : decode cX0_significand 16 = .ok (.lsub, 1) := by decide +kernel
theorem dX0_significand_17 : decode cX0_significand 17 = .ok (.land, 1) := by decide +kernel
theorem dX0_significand_18 : decode cX0_significand 18 = .ok (.lstore 5, 2) := by decide +kernel
theorem dX0_significand_20 : decode cX0_significand 20 = .ok (.aload_n 0, 1) := by decide +kernel
theorem dX0_significand_21 : decode cX0_significand 21 = .ok (.lload_n 1, 1) := by decide +kernel
theorem dX0_significand_22 : decode cX0_significand 22 = .ok (.invokevirtual 52, 3) := by decide +kernel
theorem dX0_significand_25 : decode cX0_significand 25 = .ok (.lconst 0, 1) := by decide +kernel
theorem dX0_significand_26 : decode cX0_significand 26 = .ok (.lcmp, 1) := by decide +kernel
theorem dX0_significand_27 : decode cX0_significand 27 = .ok (.ifCond .ne 8, 3) := by decide +kernel
theorem dX0_significand_30 : decode cX0_significand 30 = .ok (.lload 5, 2) := by decide +kernel
theorem dX0_significand_32 : decode cX0_significand 32 = .ok (.goto 7, 3) := by decide +kernel
theorem dX0_significand_35 : decode cX0_significand 35 = .ok (.lload 5, 2) := by decide +kernel
theorem dX0_significand_37 : decode cX0_significand 37 = .ok (.lload_n 3, 1) := by decide +kernel
theorem dX0_significand_38 : decode cX0_significand 38 = .ok (.lor, 1) := by decide +kernel
theorem dX0_significand_39 : decode cX0_significand 39 = .ok (.lreturn, 1) := by decide +kernel
set_option maxRecDepth 20000 in
theorem ggX0_exponent_X0_exponentField : GoodIn wsX0_exponent wsX0_exponentField := goodIn_ca (goodIn_r _ [10, 11, 12, 13, 14, 9, 15, 16, 17] (by decide +kernel) (by decide +kernel)) (goodIn_sub (fun _ h => List.mem_cons_of_mem _ (List.mem_append_right _ h)) (by decide +kernel))
set_option maxRecDepth 20000 in
theorem gX0_exponent_X0_exponentField : GoodIn wsX0_exponent (wsV RX0 52 RX0 yX0_exponentField wsX0_exponentField) := goodIn_app (goodIn_of _ (by decide +kernel)) ggX0_exponent_X0_exponentField
theorem dX0_exponent_0 : decode cX0_exponent 0 = .ok (.aload_n 0, 1) := by decide +kernel
theorem dX0_exponent_1 : decode cX0_exponent 1 = .ok (.getfield 33, 3) := by decide +kernel
theorem dX0_exponent_4 : decode cX0_exponent 4 = .ok (.aload_n 0, 1) := by decide +kernel
theorem dX0_exponent_5 : decode cX0_exponent 5 = .ok (.lload_n 1, 1) := by decide +kernel
theorem dX0_exponent_6 : decode cX0_exponent 6 = .ok (.invokevirtual 52, 3) := by decide +kernel
theorem dX0_exponent_9 : decode cX0_exponent 9 = .ok (.lconst 1, 1) := by decide +kernel
theorem dX0_exponent_10 : decode cX0_exponent 10 = .ok (.invokestatic 55, 3) := by decide +kernel
theorem dX0_exponent_13 : decode cX0_exponent 13 = .ok (.l2i, 1) := by decide +kernel
theorem dX0_exponent_14 : decode cX0_exponent 14 = .ok (.iadd, 1) := by decide +kernel
theorem dX0_exponent_15 : decode cX0_exponent 15 = .ok (.iconst 1, 1) := by decide +kernel
theorem dX0_exponent_16 : decode cX0_exponent 16 = .ok (.isub, 1) := by decide +kernel
theorem dX0_exponent_17 : decode cX0_exponent 17 = .ok (.ireturn, 1) := by decide +kernel
set_option maxRecDepth 20000 in
theorem ggX0_fromLong_X0_nearest : GoodIn wsX0_fromLong wsX0_nearest := goodIn_r _ [5, 6, 7, 8, 9, 10, 11, 12, 13, 14, 15, 16, 17, 4, 18, 19, 20, 21, 22, 23, 24, 25, 26, 27, 28, 29, 30] (by decide +kernel) (by decide +kernel)
set_option maxRecDepth 20000 in
theorem gX0_fromLong_X0_nearest : GoodIn wsX0_fromLong (wsV RX0 61 RX0 yX0_nearest wsX0_nearest) := goodIn_app (goodIn_of _ (by decide +kernel)) ggX0_fromLong_X0_nearest
set_option maxRecDepth 20000 in
theorem ggX0_fromLong_X0_withSign : GoodIn wsX0_fromLong wsX0_withSign := goodIn_r _ [34, 35] (by decide +kernel) (by decide +kernel)
set_option maxRecDepth 20000 in
theorem gX0_fromLong_X0_withSign : GoodIn wsX0_fromLong (wsV RX0 65 RX0 yX0_withSign wsX0_withSign) := goodIn_app (goodIn_of _ (by decide +kernel)) ggX0_fromLong_X0_withSign
theorem dX0_fromLong_0 : decode cX0_fromLong 0 = .ok (.lload_n 1, 1) := by decide +kernel
theorem dX0_fromLong_1 : decode cX0_fromLong 1 = .ok (.lconst 0, 1) := by decide +kernel
theorem dX0_fromLong_2 : decode cX0_fromLong 2 = .ok (.lcmp, 1) := by decide +kernel
theorem dX0_fromLong_3 : decode cX0_fromLong 3 = .ok (.ifCond .ge 7, 3) := by decide +kernel
theorem dX0_fromLong_6 : decode cX0_fromLong 6 = .ok (.iconst 1, 1) := by decide +kernel
theorem dX0_fromLong_7 : decode cX0_fromLong 7 = .ok (.goto 4, 3) := by decide +kernel
theorem dX0_fromLong_10 : decode cX0_fromLong 10 = .ok (.iconst 0, 1) := by decide +kernel
theorem dX0_fromLong_11 : decode cX0_fromLong 11 = .ok (.istore_n 3, 1) := by decide +kernel
theorem dX0_fromLong_12 : decode cX0_fromLong 12 = .ok (.aload_n 0, 1) := by decide +kernel
theorem dX0_fromLong_13 : decode cX0_fromLong 13 = .ok (.iload_n 3, 1) := by decide +kernel
theorem dX0_fromLong_14 : decode cX0_fromLong 14 = .ok (.aload_n 0, 1) := by decide +kernel
theorem dX0_fromLong_15 : decode cX0_fromLong 15 = .ok (.iload_n 3, 1) := by decide +kernel
theorem dX0_fromLong_16 : decode cX0_fromLong 16 = .ok (.ifCond .eq 8, 3) := by decide +kernel
theorem dX0_fromLong_19 : decode cX0_fromLong 19 = .ok (.lload_n 1, 1) := by decide +kernel
theorem dX0_fromLong_20 : decode cX0_fromLong 20 = .ok (.lneg, 1) := by decide +kernel
theorem dX0_fromLong_21 : decode cX0_fromLong 21 = .ok (.goto 4, 3) := by decide +kernel
theorem dX0_fromLong_24 : decode cX0_fromLong 24 = .ok (.lload_n 1, 1) := by decide +kernel
theorem dX0_fromLong_25 : decode cX0_fromLong 25 = .ok (.iconst 0, 1) := by decide +kernel
theorem dX0_fromLong_26 : decode cX0_fromLong 26 = .ok (.invokevirtual 61, 3) := by decide +kernel
theorem dX0_fromLong_29 : decode cX0_fromLong 29 = .ok (.invokevirtual 65, 3) := by decide +kernel
theorem dX0_fromLong_32 : decode cX0_fromLong 32 = .ok (.lreturn, 1) := by decide +kernel
set_option maxRecDepth 20000 in
theorem ggX0_fromFormat_X0_withoutSign : GoodIn wsX0_fromFormat wsX0_withoutSign := goodIn_r _ [7, 8, 9] (by decide +kernel) (by decide +kernel)
set_option maxRecDepth 20000 in
theorem gX0_fromFormat_X0_withoutSign : GoodIn wsX0_fromFormat (wsV RX0 48 RX0 yX0_withoutSign wsX0_withoutSign) := goodIn_app (goodIn_of _ (by decide +kernel)) ggX0_fromFormat_X0_withoutSign
set_option maxRecDepth 20000 in
theorem ggX0_fromFormat_X0_withSign : GoodIn wsX0_fromFormat wsX0_withSign := goodIn_r _ [13, 8] (by decide +kernel) (by decide +kernel)
set_option maxRecDepth 20000 in
theorem gX0_fromFormat_X0_withSign : GoodIn wsX0_fromFormat (wsV RX0 65 RX0 yX0_withSign wsX0_withSign) := goodIn_app (goodIn_of _ (by decide +kernel)) ggX0_fromFormat_X0_withSign
set_option maxRecDepth 20000 in
theorem ggX0_fromFormat_X0_significand : GoodIn wsX0_fromFormat wsX0_significand := goodIn_ca (goodIn_r _ [17, 18, 3, 4, 5, 6, 7, 8, 9, 19, 20, 21, 22] (by decide +kernel) (by decide +kernel)) (goodIn_sub (fun _ h => List.mem_cons_of_mem _ (List.mem_append_right _ h)) (by decide +kernel))
set_option maxRecDepth 20000 in
theorem gX0_fromFormat_X0_significand : GoodIn wsX0_fromFormat (wsV RX0 69 RX0 yX0_significand wsX0_significand) := goodIn_app (goodIn_of _ (by decide +kernel)) ggX0_fromFormat_X0_significand
set_option maxRecDepth 20000 in
theorem ggX0_fromFormat_X0_exponent : GoodIn wsX0_fromFormat wsX0_exponent := goodIn_ca (goodIn_r _ [26, 27, 28, 29, 30, 31, 19, 20, 21, 6, 22, 18, 3, 4, 5, 7, 8, 9] (by decide +kernel) (by decide +kernel)) (goodIn_sub (fun _ h => List.mem_cons_of_mem _ (List.mem_append_right _ h)) (by decide +kernel))
set_option maxRecDepth 20000 in
theorem gX0_fromFormat_X0_exponent : GoodIn wsX0_fromFormat (wsV RX0 72 RX0 yX0_exponent wsX0_exponent) := goodIn_app (goodIn_of _ (by decide +kernel)) ggX0_fromFormat_X0_exponent
set_option maxRecDepth 20000 in
theorem ggX0_fromFormat_X0_nearest : GoodIn wsX0_fromFormat wsX0_nearest := goodIn_r _ [35, 18, 27, 36, 37, 30, 38, 1, 39, 40, 41, 42, 43, 6, 44, 45, 46, 47, 48, 49, 50, 51, 52, 53, 54, 55, 56] (by decide +kernel) (by decide +kernel)
set_option maxRecDepth 20000 in
theorem gX0_fromFormat_X0_nearest : GoodIn wsX0_fromFormat (wsV RX0 61 RX0 yX0_nearest wsX0_nearest) := goodIn_app (goodIn_of _ (by decide +kernel)) ggX0_fromFormat_X0_nearest
theorem dX0_fromFormat_0 : decode cX0_fromFormat 0 = .ok (.aload_n 1, 1) := by decide +kernel
theorem dX0_fromFormat_1 : decode cX0_fromFormat 1 = .ok (.lload_n 2, 1) := by decide +kernel
theorem dX0_fromFormat_2 : decode cX0_fromFormat 2 = .ok (.invokevirtual 48, 3) := by decide +kernel
theorem dX0_fromFormat_5 : decode cX0_fromFormat 5 = .ok (.lstore 4, 2) := by decide +kernel
theorem dX0_fromFormat_7 : decode cX0_fromFormat 7 = .ok (.lload 4, 2) := by decide +kernel
theorem dX0_fromFormat_9 : decode cX0_fromFormat 9 = .ok (.aload_n 1, 1) := by decide +kernel
theorem dX0_fromFormat_10 : decode cX0_fromFormat 10 = .ok (.getfield 36, 3) := by decide +kernel
theorem dX0_fromFormat_13 : decode cX0_fromFormat 13 = .ok (.lcmp, 1) := by decide +kernel
theorem dX0_fromFormat_14 : decode cX0_fromFormat 14 = .ok (.ifCond .le 8, 3) := by decide +kernel
theorem dX0_fromFormat_17 : decode cX0_fromFormat 17 = .ok (.aload_n 0, 1) := by decide +kernel
theorem dX0_fromFormat_18 : decode cX0_fromFormat 18 = .ok (.getfield 40, 3) := by decide +kernel
theorem dX0_fromFormat_21 : decode cX0_fromFormat 21 = .ok (.lreturn, 1) := by decide +kernel
theorem dX0_fromFormat_22 : decode cX0_fromFormat 22 = .ok (.lload_n 2, 1) := by decide +kernel
theorem dX0_fromFormat_23 : decode cX0_fromFormat 23 = .ok (.lconst 0, 1) := by decide +kernel
theorem dX0_fromFormat_24 : decode cX0_fromFormat 24 = .ok (.lcmp, 1) := by decide +kernel
theorem dX0_fromFormat_25 : decode cX0_fromFormat 25 = .ok (.ifCond .ge 7, 3) := by decide +kernel
theorem dX0_fromFormat_28 : decode cX0_fromFormat 28 = .ok (.iconst 1, 1) := by decide +kernel
theorem dX0_fromFormat_29 : decode cX0_fromFormat 29 = .ok (.goto 4, 3) := by decide +kernel
theorem dX0_fromFormat_32 : decode cX0_fromFormat 32 = .ok (.iconst 0, 1) := by decide +kernel
theorem dX0_fromFormat_33 : decode cX0_fromFormat 33 = .ok (.istore 6, 2) := by decide +kernel
theorem dX0_fromFormat_35 : decode cX0_fromFormat 35 = .ok (.lload 4, 2) := by decide +kernel
theorem dX0_fromFormat_37 : decode cX0_fromFormat 37 = .ok (.aload_n 1, 1) := by decide +kernel
theorem dX0_fromFormat_38 : decode cX0_fromFormat 38 = .ok (.getfield 36, 3) := by decide +kernel
theorem dX0_fromFormat_41 : decode cX0_fromFormat 41 = .ok (.lcmp, 1) := by decide +kernel
theorem dX0_fromFormat_42 : decode cX0_fromFormat 42 = .ok (.ifCond .ne 14, 3) := by decide +kernel
theorem dX0_fromFormat_45 : decode cX0_fromFormat 45 = .ok (.aload_n 0, 1) := by decide +kernel
theorem dX0_fromFormat_46 : decode cX0_fromFormat 46 = .ok (.iload 6, 2) := by decide +kernel
theorem dX0_fromFormat_48 : decode cX0_fromFormat 48 = .ok (.aload_n 0, 1) := by decide +kernel
theorem dX0_fromFormat_49 : decode cX0_fromFormat 49 = .ok (.getfield 36, 3) := by decide +kernel
theorem dX0_fromFormat_52 : decode cX0_fromFormat 52 = .ok (.invokevirtual 65, 3) := by decide +kernel
theorem dX0_fromFormat_55 : decode cX0_fromFormat 55 = .ok (.lreturn, 1) := by decide +kernel
theorem dX0_fromFormat_56 : decode cX0_fromFormat 56 = .ok (.aload_n 0, 1) := by decide +kernel
theorem dX0_fromFormat_57 : decode cX0_fromFormat 57 = .ok (.iload 6, 2) := by decide +kernel
theorem dX0_fromFormat_59 : decode cX0_fromFormat 59 = .ok (.aload_n 0, 1) := by decide +kernel
theorem dX0_fromFormat_60 : decode cX0_fromFormat 60 = .ok (.aload_n 1, 1) := by decide +kernel
theorem dX0_fromFormat_61 : decode cX0_fromFormat 61 = .ok (.lload_n 2, 1) := by decide +kernel
theorem dX0_fromFormat_62 : decode cX0_fromFormat 62 = .ok (.invokevirtual 69, 3) := by decide +kernel
theorem dX0_fromFormat_65 : decode cX0_fromFormat 65 = .ok (.aload_n 1, 1) := by decide +kernel
theorem dX0_fromFormat_66 : decode cX0_fromFormat 66 = .ok (.lload_n 2, 1) := by decide +kernel
theorem dX0_fromFormat_67 : decode cX0_fromFormat 67 = .ok (.invokevirtual 72, 3) := by decide +kernel
theorem dX0_fromFormat_70 : decode cX0_fromFormat 70 = .ok (.invokevirtual 61, 3) := by decide +kernel
theorem dX0_fromFormat_73 : decode cX0_fromFormat 73 = .ok (.invokevirtual 65, 3) := by decide +kernel
theorem dX0_fromFormat_76 : decode cX0_fromFormat 76 = .ok (.lreturn, 1) := by decide +kernel
set_option maxRecDepth 20000 in
theorem ggX0_toLong_X0_withoutSign : GoodIn wsX0_toLong wsX0_withoutSign := goodIn_r _ [8, 9, 10] (by decide +kernel) (by decide +kernel)
set_option maxRecDepth 20000 in
theorem gX0_toLong_X0_withoutSign : GoodIn wsX0_toLong (wsV RX0 48 RX0 yX0_withoutSign wsX0_withoutSign) := goodIn_app (goodIn_of _ (by decide +kernel)) ggX0_toLong_X0_withoutSign
set_option maxRecDepth 20000 in
theorem ggX0_toLong_X0_significand : GoodIn wsX0_toLong wsX0_significand := goodIn_ca (goodIn_r _ [14, 15, 4, 5, 6, 7, 8, 9, 10, 16, 17, 18, 19] (by decide +kernel) (by decide +kernel)) (goodIn_sub (fun _ h => List.mem_cons_of_mem _ (List.mem_append_right _ h)) (by decide +kernel))
set_option maxRecDepth 20000 in
theorem gX0_toLong_X0_significand : GoodIn wsX0_toLong (wsV RX0 69 RX0 yX0_significand wsX0_significand) := goodIn_app (goodIn_of _ (by decide +kernel)) ggX0_toLong_X0_significand
set_option maxRecDepth 20000 in
theorem ggX0_toLong_X0_exponent : GoodIn wsX0_toLong wsX0_exponent := goodIn_ca (goodIn_r _ [23, 24, 25, 26, 27, 28, 16, 17, 18, 7, 19, 15, 4, 5, 6, 8, 9, 10] (by decide +kernel) (by decide +kernel)) (goodIn_sub (fun _ h => List.mem_cons_of_mem _ (List.mem_append_right _ h)) (by decide +kernel))
set_option maxRecDepth 20000 in
theorem gX0_toLong_X0_exponent : GoodIn wsX0_toLong (wsV RX0 72 RX0 yX0_exponent wsX0_exponent) := goodIn_app (goodIn_of _ (by decide +kernel)) ggX0_toLong_X0_exponent
set_option maxRecDepth 20000 in
theorem ggX0_toLong_X0_widthOf : GoodIn wsX0_toLong wsX0_widthOf := goodIn_r _ [31, 32, 33, 34, 35, 36, 37, 38, 39, 40] (by decide +kernel) (by decide +kernel)
set_option maxRecDepth 20000 in
theorem gX0_toLong_X0_widthOf : GoodIn wsX0_toLong (va_wsS RX0 76 yX0_widthOf wsX0_widthOf) := goodIn_app (goodIn_of _ (by decide +kernel)) ggX0_toLong_X0_widthOf
set_option maxRecDepth 20000 in
theorem ggX0_toLong_X0_shifted : GoodIn wsX0_toLong wsX0_shifted := goodIn_r _ [43] (by decide +kernel) (by decide +kernel)
set_option maxRecDepth 20000 in
theorem gX0_toLong_X0_shifted : GoodIn wsX0_toLong (va_wsS RX0 83 yX0_shifted wsX0_shifted) := goodIn_app (goodIn_of _ (by decide +kernel)) ggX0_toLong_X0_shifted
theorem dX0_toLong_0 : decode cX0_toLong 0 = .ok (.aload_n 0, 1) := by decide +kernel
theorem dX0_toLong_1 : decode cX0_toLong 1 = .ok (.lload_n 1, 1) := by decide +kernel
theorem dX0_toLong_2 : decode cX0_toLong 2 = .ok (.invokevirtual 48, 3) := by decide +kernel
theorem dX0_toLong_5 : decode cX0_toLong 5 = .ok (.aload_n 0, 1) := by decide +kernel
theorem dX0_toLong_6 : decode cX0_toLong 6 = .ok (.getfield 36, 3) := by decide +kernel
theorem dX0_toLong_9 : decode cX0_toLong 9 = .ok (.lcmp, 1) := by decide +kernel
theorem dX0_toLong_10 : decode cX0_toLong 10 = .ok (.ifCond .le 5, 3) := by decide +kernel
theorem dX0_toLong_13 : decode cX0_toLong 13 = .ok (.lconst 0, 1) := by decide +kernel
theorem dX0_toLong_14 : decode cX0_toLong 14 = .ok (.lreturn, 1) := by decide +kernel
theorem dX0_toLong_15 : decode cX0_toLong 15 = .ok (.lload_n 1, 1) := by decide +kernel
theorem dX0_toLong_16 : decode cX0_toLong 16 = .ok (.lconst 0, 1) := by decide +kernel
theorem dX0_toLong_17 : decode cX0_toLong 17 = .ok (.lcmp, 1) := by decide +kernel
theorem dX0_toLong_18 : decode cX0_toLong 18 = .ok (.ifCond .ge 7, 3) := by decide +kernel
theorem dX0_toLong_21 : decode cX0_toLong 21 = .ok (.iconst 1, 1) := by decide +kernel
theorem dX0_toLong_22 : decode cX0_toLong 22 = .ok (.goto 4, 3) := by decide +kernel
theorem dX0_toLong_25 : decode cX0_toLong 25 = .ok (.iconst 0, 1) := by decide +kernel
theorem dX0_toLong_26 : decode cX0_toLong 26 = .ok (.istore_n 3, 1) := by decide +kernel
theorem dX0_toLong_27 : decode cX0_toLong 27 = .ok (.aload_n 0, 1) := by decide +kernel
theorem dX0_toLong_28 : decode cX0_toLong 28 = .ok (.lload_n 1, 1) := by decide +kernel
theorem dX0_toLong_29 : decode cX0_toLong 29 = .ok (.invokevirtual 69, 3) := by decide +kernel
theorem dX0_toLong_32 : decode cX0_toLong 32 = .ok (.lstore 4, 2) := by decide +kernel
theorem dX0_toLong_34 : decode cX0_toLong 34 = .ok (.aload_n 0, 1) := by decide +kernel
theorem dX0_toLong_35 : decode cX0_toLong 35 = .ok (.lload_n 1, 1) := by decide +kernel
theorem dX0_toLong_36 : decode cX0_toLong 36 = .ok (.invokevirtual 72, 3) := by decide +kernel
theorem dX0_toLong_39 : decode cX0_toLong 39 = .ok (.istore 6, 2) := by decide +kernel
theorem dX0_toLong_41 : decode cX0_toLong 41 = .ok (.iload 6, 2) := by decide +kernel
theorem dX0_toLong_43 : decode cX0_toLong 43 = .ok (.lload 4, 2) := by decide +kernel
theorem dX0_toLong_45 : decode cX0_toLong 45 = .ok (.invokestatic 76, 3) := by decide +kernel
theorem dX0_toLong_48 : decode cX0_toLong 48 = .ok (.iadd, 1) := by decide +kernel
theorem dX0_toLong_49 : decode cX0_toLong 49 = .ok (.bipush 63, 2) := by decide +kernel
theorem dX0_toLong_51 : decode cX0_toLong 51 = .ok (.if_icmp .le 17, 3) := by decide +kernel
theorem dX0_toLong_54 : decode cX0_toLong 54 = .ok (.iload_n 3, 1) := by decide +kernel
theorem dX0_toLong_55 : decode cX0_toLong 55 = .ok (.ifCond .eq 9, 3) := by decide +kernel
theorem dX0_toLong_58 : decode cX0_toLong 58 = .ok (.ldc2_w 79, 3) := by decide +kernel
theorem dX0_toLong_61 : decode cX0_toLong 61 = .ok (.goto 6, 3) := by decide +kernel
theorem dX0_toLong_64 : decode cX0_toLong 64 = .ok (.ldc2_w 81, 3) := by decide +kernel
theorem dX0_toLong_67 : decode cX0_toLong 67 = .ok (.lreturn, 1) := by decide +kernel
theorem dX0_toLong_68 : decode cX0_toLong 68 = .ok (.lload 4, 2) := by decide +kernel
theorem dX0_toLong_70 : decode cX0_toLong 70 = .ok (.iload 6, 2) := by decide +kernel
theorem dX0_toLong_72 : decode cX0_toLong 72 = .ok (.invokestatic 83, 3) := by decide +kernel
theorem dX0_toLong_75 : decode cX0_toLong 75 = .ok (.lstore 7, 2) := by decide +kernel
theorem dX0_toLong_77 : decode cX0_toLong 77 = .ok (.iload_n 3, 1) := by decide +kernel
theorem dX0_toLong_78 : decode cX0_toLong 78 = .ok (.ifCond .eq 9, 3) := by decide +kernel
theorem dX0_toLong_81 : decode cX0_toLong 81 = .ok (.lload 7, 2) := by decide +kernel
theorem dX0_toLong_83 : decode cX0_toLong 83 = .ok (.lneg, 1) := by decide +kernel
theorem dX0_toLong_84 : decode cX0_toLong 84 = .ok (.goto 5, 3) := by decide +kernel
theorem dX0_toLong_87 : decode cX0_toLong 87 = .ok (.lload 7, 2) := by decide +kernel
theorem dX0_toLong_89 : decode cX0_toLong 89 = .ok (.lreturn, 1) := by decide +kernel
set_option maxRecDepth 20000 in
theorem ggX0_widthOf_J13_numberOfLeadingZeros_95d88 : GoodIn wsX0_widthOf wsJ13_numberOfLeadingZeros_95d88 := goodIn_r _ [4, 5, 6, 7, 8, 9] (by decide +kernel) (by decide +kernel)
set_option maxRecDepth 20000 in
theorem gX0_widthOf_J13_numberOfLeadingZeros_95d88 : GoodIn wsX0_widthOf (va_wsS RX0 86 yJ13_numberOfLeadingZeros_95d88 wsJ13_numberOfLeadingZeros_95d88) := goodIn_app (goodIn_of _ (by decide +kernel)) ggX0_widthOf_J13_numberOfLeadingZeros_95d88
theorem dX0_widthOf_0 : decode cX0_widthOf 0 = .ok (.bipush 64, 2) := by decide +kernel
theorem dX0_widthOf_2 : decode cX0_widthOf 2 = .ok (.lload_n 0, 1) := by decide +kernel
theorem dX0_widthOf_3 : decode cX0_widthOf 3 = .ok (.invokestatic 86, 3) := by decide +kernel
theorem dX0_widthOf_6 : decode cX0_widthOf 6 = .ok (.isub, 1) := by decide +kernel
theorem dX0_widthOf_7 : decode cX0_widthOf 7 = .ok (.ireturn, 1) := by decide +kernel
theorem dX0_shifted_0 : decode cX0_shifted 0 = .ok (.iload_n 2, 1) := by decide +kernel
theorem dX0_shifted_1 : decode cX0_shifted 1 = .ok (.ifCond .lt 7, 3) := by decide +kernel
theorem dX0_shifted_4 : decode cX0_shifted 4 = .ok (.lload_n 0, 1) := by decide +kernel
theorem dX0_shifted_5 : decode cX0_shifted 5 = .ok (.iload_n 2, 1) := by decide +kernel
theorem dX0_shifted_6 : decode cX0_shifted 6 = .ok (.lshl, 1) := by decide +kernel
theorem dX0_shifted_7 : decode cX0_shifted 7 = .ok (.lreturn, 1) := by decide +kernel
theorem dX0_shifted_8 : decode cX0_shifted 8 = .ok (.iload_n 2, 1) := by decide +kernel
theorem dX0_shifted_9 : decode cX0_shifted 9 = .ok (.bipush (-63), 2) := by decide +kernel
theorem dX0_shifted_11 : decode cX0_shifted 11 = .ok (.if_icmp .ge 7, 3) := by decide +kernel
theorem dX0_shifted_14 : decode cX0_shifted 14 = .ok (.lconst 0, 1) := by decide +kernel
theorem dX0_shifted_15 : decode cX0_shifted 15 = .ok (.goto 7, 3) := by decide +kernel
theorem dX0_shifted_18 : decode cX0_shifted 18 = .ok (.lload_n 0, 1) := by decide +kernel
theorem dX0_shifted_19 : decode cX0_shifted 19 = .ok (.iload_n 2, 1) := by decide +kernel
theorem dX0_shifted_20 : decode cX0_shifted 20 = .ok (.ineg, 1) := by decide +kernel
theorem dX0_shifted_21 : decode cX0_shifted 21 = .ok (.lushr, 1) := by decide +kernel
theorem dX0_shifted_22 : decode cX0_shifted 22 = .ok (.lreturn, 1) := by decide +kernel
set_option maxRecDepth 20000 in
theorem ggX0_nearest_X0_widthOf : GoodIn wsX0_nearest wsX0_widthOf := goodIn_r _ [14, 15, 16, 17, 18, 19, 20, 21, 22, 23] (by decide +kernel) (by decide +kernel)
set_option maxRecDepth 20000 in
theorem gX0_nearest_X0_widthOf : GoodIn wsX0_nearest (va_wsS RX0 76 yX0_widthOf wsX0_widthOf) := goodIn_app (goodIn_of _ (by decide +kernel)) ggX0_nearest_X0_widthOf
set_option maxRecDepth 20000 in
theorem ggX0_nearest_X0_rounded : GoodIn wsX0_nearest wsX0_rounded := goodIn_r _ [26] (by decide +kernel) (by decide +kernel)
set_option maxRecDepth 20000 in
theorem gX0_nearest_X0_rounded : GoodIn wsX0_nearest (va_wsS RX0 94 yX0_rounded wsX0_rounded) := goodIn_app (goodIn_of _ (by decide +kernel)) ggX0_nearest_X0_rounded
theorem dX0_nearest_0 : decode cX0_nearest 0 = .ok (.lload_n 1, 1) := by decide +kernel
theorem dX0_nearest_1 : decode cX0_nearest 1 = .ok (.lconst 0, 1) := by decide +kernel
theorem dX0_nearest_2 : decode cX0_nearest 2 = .ok (.lcmp, 1) := by decide +kernel
theorem dX0_nearest_3 : decode cX0_nearest 3 = .ok (.ifCond .ne 5, 3) := by decide +kernel
theorem dX0_nearest_6 : decode cX0_nearest 6 = .ok (.lconst 0, 1) := by decide +kernel
theorem dX0_nearest_7 : decode cX0_nearest 7 = .ok (.lreturn, 1) := by decide +kernel
theorem dX0_nearest_8 : decode cX0_nearest 8 = .ok (.iload_n 3, 1) := by decide +kernel
theorem dX0_nearest_9 : decode cX0_nearest 9 = .ok (.lload_n 1, 1) := by decide +kernel
theorem dX0_nearest_10 : decode cX0_nearest 10 = .ok (.invokestatic 76, 3) := by decide +kernel
theorem dX0_nearest_13 : decode cX0_nearest 13 = .ok (.iadd, 1) := by decide +kernel
theorem dX0_nearest_14 : decode cX0_nearest 14 = .ok (.aload_n 0, 1) := by decide +kernel
theorem dX0_nearest_15 : decode cX0_nearest 15 = .ok (.getfield 29, 3) := by decide +kernel
theorem dX0_nearest_18 : decode cX0_nearest 18 = .ok (.isub, 1) := by decide +kernel
theorem dX0_nearest_19 : decode cX0_nearest 19 = .ok (.aload_n 0, 1) := by decide +kernel
theorem dX0_nearest_20 : decode cX0_nearest 20 = .ok (.getfield 33, 3) := by decide +kernel
theorem dX0_nearest_23 : decode cX0_nearest 23 = .ok (.invokestatic 91, 3) := by decide +kernel
theorem dX0_nearest_26 : decode cX0_nearest 26 = .ok (.istore 4, 2) := by decide +kernel
theorem dX0_nearest_28 : decode cX0_nearest 28 = .ok (.lload_n 1, 1) := by decide +kernel
theorem dX0_nearest_29 : decode cX0_nearest 29 = .ok (.iload 4, 2) := by decide +kernel
theorem dX0_nearest_31 : decode cX0_nearest 31 = .ok (.iload_n 3, 1) := by decide +kernel
theorem dX0_nearest_32 : decode cX0_nearest 32 = .ok (.isub, 1) := by decide +kernel
theorem dX0_nearest_33 : decode cX0_nearest 33 = .ok (.invokestatic 94, 3) := by decide +kernel
theorem dX0_nearest_36 : decode cX0_nearest 36 = .ok (.lstore 5, 2) := by decide +kernel
theorem dX0_nearest_38 : decode cX0_nearest 38 = .ok (.iload 4, 2) := by decide +kernel
theorem dX0_nearest_40 : decode cX0_nearest 40 = .ok (.aload_n 0, 1) := by decide +kernel
theorem dX0_nearest_41 : decode cX0_nearest 41 = .ok (.getfield 33, 3) := by decide +kernel
theorem dX0_nearest_44 : decode cX0_nearest 44 = .ok (.isub, 1) := by decide +kernel
theorem dX0_nearest_45 : decode cX0_nearest 45 = .ok (.i2l, 1) := by decide +kernel
theorem dX0_nearest_46 : decode cX0_nearest 46 = .ok (.lstore 7, 2) := by decide +kernel
theorem dX0_nearest_48 : decode cX0_nearest 48 = .ok (.lload 7, 2) := by decide +kernel
theorem dX0_nearest_50 : decode cX0_nearest 50 = .ok (.aload_n 0, 1) := by decide +kernel
theorem dX0_nearest_51 : decode cX0_nearest 51 = .ok (.getfield 29, 3) := by decide +kernel
theorem dX0_nearest_54 : decode cX0_nearest 54 = .ok (.iconst 1, 1) := by decide +kernel
theorem dX0_nearest_55 : decode cX0_nearest 55 = .ok (.isub, 1) := by decide +kernel
theorem dX0_nearest_56 : decode cX0_nearest 56 = .ok (.lshl, 1) := by decide +kernel
theorem dX0_nearest_57 : decode cX0_nearest 57 = .ok (.lload 5, 2) := by decide +kernel
theorem dX0_nearest_59 : decode cX0_nearest 59 = .ok (.ladd, 1) := by decide +kernel
theorem dX0_nearest_60 : decode cX0_nearest 60 = .ok (.aload_n 0, 1) := by decide +kernel
theorem dX0_nearest_61 : decode cX0_nearest 61 = .ok (.getfield 36, 3) := by decide +kernel
theorem dX0_nearest_64 : decode cX0_nearest 64 = .ok (.invokestatic 97, 3) := by decide +kernel
theorem dX0_nearest_67 : decode cX0_nearest 67 = .ok (.lreturn, 1) := by decide +kernel
theorem dX0_rounded_0 : decode cX0_rounded 0 = .ok (.iload_n 2, 1) := by decide +kernel
theorem dX0_rounded_1 : decode cX0_rounded 1 = .ok (.ifCond .gt 8, 3) := by decide +kernel
theorem dX0_rounded_4 : decode cX0_rounded 4 = .ok (.lload_n 0, 1) := by decide +kernel
theorem dX0_rounded_5 : decode cX0_rounded 5 = .ok (.iload_n 2, 1) := by decide +kernel
theorem dX0_rounded_6 : decode cX0_rounded 6 = .ok (.ineg, 1) := by decide +kernel
theorem dX0_rounded_7 : decode cX0_rounded 7 = .ok (.lshl, 1) := by decide +kernel
theorem dX0_rounded_8 : decode cX0_rounded 8 = .ok (.lreturn, 1) := by decide +kernel
theorem dX0_rounded_9 : decode cX0_rounded 9 = .ok (.iload_n 2, 1) := by decide +kernel
theorem dX0_rounded_10 : decode cX0_rounded 10 = .ok (.bipush 60, 2) := by decide +kernel
theorem dX0_rounded_12 : decode cX0_rounded 12 = .ok (.if_icmp .le 5, 3) := by decide +kernel
theorem dX0_rounded_15 : decode cX0_rounded 15 = .ok (.lconst 0, 1) := by decide +kernel
theorem dX0_rounded_16 : decode cX0_rounded 16 = .ok (.lreturn, 1) := by decide +kernel
theorem dX0_rounded_17 : decode cX0_rounded 17 = .ok (.lload_n 0, 1) := by decide +kernel
theorem dX0_rounded_18 : decode cX0_rounded 18 = .ok (.iload_n 2, 1) := by decide +kernel
theorem dX0_rounded_19 : decode cX0_rounded 19 = .ok (.lushr, 1) := by decide +kernel
theorem dX0_rounded_20 : decode cX0_rounded 20 = .ok (.lstore_n 3, 1) := by decide +kernel
theorem dX0_rounded_21 : decode cX0_rounded 21 = .ok (.lload_n 0, 1) := by decide +kernel
theorem dX0_rounded_22 : decode cX0_rounded 22 = .ok (.lconst 1, 1) := by decide +kernel
theorem dX0_rounded_23 : decode cX0_rounded 23 = .ok (.iload_n 2, 1) := by decide +kernel
theorem dX0_rounded_24 : decode cX0_rounded 24 = .ok (.lshl, 1) := by decide +kernel
theorem dX0_rounded_25 : decode cX0_rounded 25 = .ok (.lconst 1, 1) := by decide +kernel
theorem dX0_rounded_26 : decode cX0_rounded 26 = .ok (.lsub, 1) := by decide +kernel
theorem dX0_rounded_27 : decode cX0_rounded 27 = .ok (.land, 1) := by decide +kernel
theorem dX0_rounded_28 : decode cX0_rounded 28 = .ok (.lstore 5, 2) := by decide +kernel
theorem dX0_rounded_30 : decode cX0_rounded 30 = .ok (.lconst 1, 1) := by decide +kernel
theorem dX0_rounded_31 : decode cX0_rounded 31 = .ok (.iload_n 2, 1) := by decide +kernel
theorem dX0_rounded_32 : decode cX0_rounded 32 = .ok (.iconst 1, 1) := by decide +kernel
theorem dX0_rounded_33 : decode cX0_rounded 33 = .ok (.isub, 1) := by decide +kernel
theorem dX0_rounded_34 : decode cX0_rounded 34 = .ok (.lshl, 1) := by decide +kernel
theorem dX0_rounded_35 : decode cX0_rounded 35 = .ok (.lstore 7, 2) := by decide +kernel
theorem dX0_rounded_37 : decode cX0_rounded 37 = .ok (.lload 5, 2) := by decide +kernel
theorem dX0_rounded_39 : decode cX0_rounded 39 = .ok (.lload 7, 2) := by decide +kernel
theorem dX0_rounded_41 : decode cX0_rounded 41 = .ok (.lcmp, 1) := by decide +kernel
theorem dX0_rounded_42 : decode cX0_rounded 42 = .ok (.ifCond .gt 19, 3) := by decide +kernel
theorem dX0_rounded_45 : decode cX0_rounded 45 = .ok (.lload 5, 2) := by decide +kernel
theorem dX0_rounded_47 : decode cX0_rounded 47 = .ok (.lload 7, 2) := by decide +kernel
theorem dX0_rounded_49 : decode cX0_rounded 49 = .ok (.lcmp, 1) := by decide +kernel
theorem dX0_rounded_50 : decode cX0_rounded 50 = .ok (.ifCond .ne 15, 3) := by decide +kernel
theorem dX0_rounded_53 : decode cX0_rounded 53 = .ok (.lload_n 3, 1) := by decide +kernel
theorem dX0_rounded_54 : decode cX0_rounded 54 = .ok (.lconst 1, 1) := by decide +kernel
theorem dX0_rounded_55 : decode cX0_rounded 55 = .ok (.land, 1) := by decide +kernel
theorem dX0_rounded_56 : decode cX0_rounded 56 = .ok (.lconst 1, 1) := by decide +kernel
theorem dX0_rounded_57 : decode cX0_rounded 57 = .ok (.lcmp, 1) := by decide +kernel
theorem dX0_rounded_58 : decode cX0_rounded 58 = .ok (.ifCond .ne 7, 3) := by decide +kernel
theorem dX0_rounded_61 : decode cX0_rounded 61 = .ok (.iconst 1, 1) := by decide +kernel
theorem dX0_rounded_62 : decode cX0_rounded 62 = .ok (.goto 4, 3) := by decide +kernel
theorem dX0_rounded_65 : decode cX0_rounded 65 = .ok (.iconst 0, 1) := by decide +kernel
theorem dX0_rounded_66 : decode cX0_rounded 66 = .ok (.istore 9, 2) := by decide +kernel
theorem dX0_rounded_68 : decode cX0_rounded 68 = .ok (.iload 9, 2) := by decide +kernel
theorem dX0_rounded_70 : decode cX0_rounded 70 = .ok (.ifCond .eq 9, 3) := by decide +kernel
theorem dX0_rounded_73 : decode cX0_rounded 73 = .ok (.lload_n 3, 1) := by decide +kernel
theorem dX0_rounded_74 : decode cX0_rounded 74 = .ok (.lconst 1, 1) := by decide +kernel
theorem dX0_rounded_75 : decode cX0_rounded 75 = .ok (.ladd, 1) := by decide +kernel
theorem dX0_rounded_76 : decode cX0_rounded 76 = .ok (.goto 4, 3) := by decide +kernel
theorem dX0_rounded_79 : decode cX0_rounded 79 = .ok (.lload_n 3, 1) := by decide +kernel
theorem dX0_rounded_80 : decode cX0_rounded 80 = .ok (.lreturn, 1) := by decide +kernel
set_option maxRecDepth 20000 in
theorem ggX1_init_X1_setKnown : GoodIn wsX1_init wsX1_setKnown := goodIn_ca (goodIn_r _ [16, 5, 7, 8, 10, 17, 18, 15, 19, 20, 21, 22, 23, 24] (by decide +kernel) (by decide +kernel)) (goodIn_sub (fun _ h => List.mem_cons_of_mem _ (List.mem_append_right _ h)) (by decide +kernel))
set_option maxRecDepth 20000 in
theorem gX1_init_X1_setKnown : GoodIn wsX1_init (wsV RX1 30 RX1 yX1_setKnown wsX1_setKnown) := goodIn_app (goodIn_of _ (by decide +kernel)) ggX1_init_X1_setKnown
set_option maxRecDepth 20000 in
theorem ggX1_init_X1_bit : GoodIn wsX1_init wsX1_bit := goodIn_r _ [19] (by decide +kernel) (by decide +kernel)
set_option maxRecDepth 20000 in
theorem gX1_init_X1_bit : GoodIn wsX1_init (va_wsS RX1 34 yX1_bit wsX1_bit) := goodIn_app (goodIn_of _ (by decide +kernel)) ggX1_init_X1_bit
theorem dX1_init_0 : decode cX1_init 0 = .ok (.aload_n 0, 1) := by decide +kernel
theorem dX1_init_1 : decode cX1_init 1 = .ok (.invokespecial 3, 3) := by decide +kernel
theorem dX1_init_4 : decode cX1_init 4 = .ok (.aload_n 0, 1) := by decide +kernel
theorem dX1_init_5 : decode cX1_init 5 = .ok (.bipush 40, 2) := by decide +kernel
theorem dX1_init_7 : decode cX1_init 7 = .ok (.newarray .int, 2) := by decide +kernel
theorem dX1_init_9 : decode cX1_init 9 = .ok (.putfield 9, 3) := by decide +kernel
theorem dX1_init_12 : decode cX1_init 12 = .ok (.aload_n 0, 1) := by decide +kernel
theorem dX1_init_13 : decode cX1_init 13 = .ok (.bipush 40, 2) := by decide +kernel
theorem dX1_init_15 : decode cX1_init 15 = .ok (.newarray .boolean, 2) := by decide +kernel
theorem dX1_init_17 : decode cX1_init 17 = .ok (.putfield 15, 3) := by decide +kernel
theorem dX1_init_20 : decode cX1_init 20 = .ok (.aload_n 0, 1) := by decide +kernel
theorem dX1_init_21 : decode cX1_init 21 = .ok (.bipush 40, 2) := by decide +kernel
theorem dX1_init_23 : decode cX1_init 23 = .ok (.newarray .int, 2) := by decide +kernel
theorem dX1_init_25 : decode cX1_init 25 = .ok (.putfield 19, 3) := by decide +kernel
theorem dX1_init_28 : decode cX1_init 28 = .ok (.aload_n 0, 1) := by decide +kernel
theorem dX1_init_29 : decode cX1_init 29 = .ok (.bipush 40, 2) := by decide +kernel
theorem dX1_init_31 : decode cX1_init 31 = .ok (.newarray .long, 2) := by decide +kernel
theorem dX1_init_33 : decode cX1_init 33 = .ok (.putfield 22, 3) := by decide +kernel
theorem dX1_init_36 : decode cX1_init 36 = .ok (.aload_n 0, 1) := by decide +kernel
theorem dX1_init_37 : decode cX1_init 37 = .ok (.iconst 0, 1) := by decide +kernel
theorem dX1_init_38 : decode cX1_init 38 = .ok (.putfield 26, 3) := by decide +kernel
theorem dX1_init_41 : decode cX1_init 41 = .ok (.iconst 0, 1) := by decide +kernel
theorem dX1_init_42 : decode cX1_init 42 = .ok (.istore_n 1, 1) := by decide +kernel
theorem dX1_init_43 : decode cX1_init 43 = .ok (.iload_n 1, 1) := by decide +kernel
theorem dX1_init_44 : decode cX1_init 44 = .ok (.bipush 7, 2) := by decide +kernel
theorem dX1_init_46 : decode cX1_init 46 = .ok (.if_icmp .gt 23, 3) := by decide +kernel
theorem dX1_init_49 : decode cX1_init 49 = .ok (.aload_n 0, 1) := by decide +kernel
theorem dX1_init_50 : decode cX1_init 50 = .ok (.getfield 9, 3) := by decide +kernel
theorem dX1_init_53 : decode cX1_init 53 = .ok (.iload_n 1, 1) := by decide +kernel
theorem dX1_init_54 : decode cX1_init 54 = .ok (.iconst 0, 1) := by decide +kernel
theorem dX1_init_55 : decode cX1_init 55 = .ok (.iastore, 1) := by decide +kernel
theorem dX1_init_56 : decode cX1_init 56 = .ok (.aload_n 0, 1) := by decide +kernel
theorem dX1_init_57 : decode cX1_init 57 = .ok (.getfield 19, 3) := by decide +kernel
theorem dX1_init_60 : decode cX1_init 60 = .ok (.iload_n 1, 1) := by decide +kernel
theorem dX1_init_61 : decode cX1_init 61 = .ok (.iconst (-1), 1) := by decide +kernel
theorem dX1_init_62 : decode cX1_init 62 = .ok (.iastore, 1) := by decide +kernel
theorem dX1_init_63 : decode cX1_init 63 = .ok (.iinc 1 1, 3) := by decide +kernel
theorem dX1_init_66 : decode cX1_init 66 = .ok (.goto (-23), 3) := by decide +kernel
theorem dX1_init_69 : decode cX1_init 69 = .ok (.aload_n 0, 1) := by decide +kernel
theorem dX1_init_70 : decode cX1_init 70 = .ok (.bipush 16, 2) := by decide +kernel
theorem dX1_init_72 : decode cX1_init 72 = .ok (.iconst 1, 1) := by decide +kernel
theorem dX1_init_73 : decode cX1_init 73 = .ok (.iconst 0, 1) := by decide +kernel
theorem dX1_init_74 : decode cX1_init 74 = .ok (.lconst 0, 1) := by decide +kernel
theorem dX1_init_75 : decode cX1_init 75 = .ok (.invokevirtual 30, 3) := by decide +kernel
theorem dX1_init_78 : decode cX1_init 78 = .ok (.aload_n 0, 1) := by decide +kernel
theorem dX1_init_79 : decode cX1_init 79 = .ok (.bipush 18, 2) := by decide +kernel
theorem dX1_init_81 : decode cX1_init 81 = .ok (.iconst 2, 1) := by decide +kernel
theorem dX1_init_82 : decode cX1_init 82 = .ok (.iconst 0, 1) := by decide +kernel
theorem dX1_init_83 : decode cX1_init 83 = .ok (.aload_n 0, 1) := by decide +kernel
theorem dX1_init_84 : decode cX1_init 84 = .ok (.getfield 22, 3) := by decide +kernel
theorem dX1_init_87 : decode cX1_init 87 = .ok (.bipush 16, 2) := by decide +kernel
theorem dX1_init_89 : decode cX1_init 89 = .ok (.laload, 1) := by decide +kernel
theorem dX1_init_90 : decode cX1_init 90 = .ok (.invokevirtual 30, 3) := by decide +kernel
theorem dX1_init_93 : decode cX1_init 93 = .ok (.aload_n 0, 1) := by decide +kernel
theorem dX1_init_94 : decode cX1_init 94 = .ok (.bipush 19, 2) := by decide +kernel
theorem dX1_init_96 : decode cX1_init 96 = .ok (.iconst 2, 1) := by decide +kernel
theorem dX1_init_97 : decode cX1_init 97 = .ok (.iconst 0, 1) := by decide +kernel
theorem dX1_init_98 : decode cX1_init 98 = .ok (.aload_n 0, 1) := by decide +kernel
theorem dX1_init_99 : decode cX1_init 99 = .ok (.getfield 22, 3) := by decide +kernel
theorem dX1_init_102 : decode cX1_init 102 = .ok (.bipush 16, 2) := by decide +kernel
theorem dX1_init_104 : decode cX1_init 104 = .ok (.laload, 1) := by decide +kernel
theorem dX1_init_105 : decode cX1_init 105 = .ok (.invokevirtual 30, 3) := by decide +kernel
theorem dX1_init_108 : decode cX1_init 108 = .ok (.aload_n 0, 1) := by decide +kernel
theorem dX1_init_109 : decode cX1_init 109 = .ok (.bipush 20, 2) := by decide +kernel
theorem dX1_init_111 : decode cX1_init 111 = .ok (.iconst 2, 1) := by decide +kernel
theorem dX1_init_112 : decode cX1_init 112 = .ok (.iconst 0, 1) := by decide +kernel
theorem dX1_init_113 : decode cX1_init 113 = .ok (.aload_n 0, 1) := by decide +kernel
theorem dX1_init_114 : decode cX1_init 114 = .ok (.getfield 22, 3) := by decide +kernel
theorem dX1_init_117 : decode cX1_init 117 = .ok (.bipush 16, 2) := by decide +kernel
theorem dX1_init_119 : decode cX1_init 119 = .ok (.laload, 1) := by decide +kernel
theorem dX1_init_120 : decode cX1_init 120 = .ok (.invokevirtual 30, 3) := by decide +kernel
theorem dX1_init_123 : decode cX1_init 123 = .ok (.aload_n 0, 1) := by decide +kernel
theorem dX1_init_124 : decode cX1_init 124 = .ok (.bipush 17, 2) := by decide +kernel
theorem dX1_init_126 : decode cX1_init 126 = .ok (.iconst 1, 1) := by decide +kernel
theorem dX1_init_127 : decode cX1_init 127 = .ok (.iconst 0, 1) := by decide +kernel
theorem dX1_init_128 : decode cX1_init 128 = .ok (.aload_n 0, 1) := by decide +kernel
theorem dX1_init_129 : decode cX1_init 129 = .ok (.getfield 22, 3) := by decide +kernel
theorem dX1_init_132 : decode cX1_init 132 = .ok (.bipush 19, 2) := by decide +kernel
theorem dX1_init_134 : decode cX1_init 134 = .ok (.laload, 1) := by decide +kernel
theorem dX1_init_135 : decode cX1_init 135 = .ok (.invokevirtual 30, 3) := by decide +kernel
theorem dX1_init_138 : decode cX1_init 138 = .ok (.aload_n 0, 1) := by decide +kernel
theorem dX1_init_139 : decode cX1_init 139 = .ok (.getfield 22, 3) := by decide +kernel
theorem dX1_init_142 : decode cX1_init 142 = .ok (.bipush 18, 2) := by decide +kernel
theorem dX1_init_144 : decode cX1_init 144 = .ok (.laload, 1) := by decide +kernel
theorem dX1_init_145 : decode cX1_init 145 = .ok (.aload_n 0, 1) := by decide +kernel
theorem dX1_init_146 : decode cX1_init 146 = .ok (.getfield 22, 3) := by decide +kernel
theorem dX1_init_149 : decode cX1_init 149 = .ok (.bipush 19, 2) := by decide +kernel
theorem dX1_init_151 : decode cX1_init 151 = .ok (.laload, 1) := by decide +kernel
theorem dX1_init_152 : decode cX1_init 152 = .ok (.lor, 1) := by decide +kernel
theorem dX1_init_153 : decode cX1_init 153 = .ok (.lstore_n 1, 1) := by decide +kernel
theorem dX1_init_154 : decode cX1_init 154 = .ok (.aload_n 0, 1) := by decide +kernel
theorem dX1_init_155 : decode cX1_init 155 = .ok (.getfield 22, 3) := by decide +kernel
theorem dX1_init_158 : decode cX1_init 158 = .ok (.bipush 17, 2) := by decide +kernel
theorem dX1_init_160 : decode cX1_init 160 = .ok (.laload, 1) := by decide +kernel
theorem dX1_init_161 : decode cX1_init 161 = .ok (.aload_n 0, 1) := by decide +kernel
theorem dX1_init_162 : decode cX1_init 162 = .ok (.getfield 22, 3) := by decide +kernel
theorem dX1_init_165 : decode cX1_init 165 = .ok (.bipush 18, 2) := by decide +kernel
theorem dX1_init_167 : decode cX1_init 167 = .ok (.laload, 1) := by decide +kernel
theorem dX1_init_168 : decode cX1_init 168 = .ok (.lor, 1) := by decide +kernel
theorem dX1_init_169 : decode cX1_init 169 = .ok (.lstore_n 3, 1) := by decide +kernel
theorem dX1_init_170 : decode cX1_init 170 = .ok (.bipush 8, 2) := by decide +kernel
theorem dX1_init_172 : decode cX1_init 172 = .ok (.istore 5, 2) := by decide +kernel
theorem dX1_init_174 : decode cX1_init 174 = .ok (.iload 5, 2) := by decide +kernel
theorem dX1_init_176 : decode cX1_init 176 = .ok (.bipush 15, 2) := by decide +kernel
theorem dX1_init_178 : decode cX1_init 178 = .ok (.if_icmp .gt 41, 3) := by decide +kernel
theorem dX1_init_181 : decode cX1_init 181 = .ok (.iload 5, 2) := by decide +kernel
theorem dX1_init_183 : decode cX1_init 183 = .ok (.bipush 10, 2) := by decide +kernel
theorem dX1_init_185 : decode cX1_init 185 = .ok (.if_icmp .lt 7, 3) := by decide +kernel
theorem dX1_init_188 : decode cX1_init 188 = .ok (.iconst 1, 1) := by decide +kernel
theorem dX1_init_189 : decode cX1_init 189 = .ok (.goto 4, 3) := by decide +kernel
theorem dX1_init_192 : decode cX1_init 192 = .ok (.iconst 0, 1) := by decide +kernel
theorem dX1_init_193 : decode cX1_init 193 = .ok (.istore 6, 2) := by decide +kernel
theorem dX1_init_195 : decode cX1_init 195 = .ok (.aload_n 0, 1) := by decide +kernel
theorem dX1_init_196 : decode cX1_init 196 = .ok (.iload 5, 2) := by decide +kernel
theorem dX1_init_198 : decode cX1_init 198 = .ok (.iconst 1, 1) := by decide +kernel
theorem dX1_init_199 : decode cX1_init 199 = .ok (.iconst 1, 1) := by decide +kernel
theorem dX1_init_200 : decode cX1_init 200 = .ok (.iload 6, 2) := by decide +kernel
theorem dX1_init_202 : decode cX1_init 202 = .ok (.ifCond .eq 7, 3) := by decide +kernel
theorem dX1_init_205 : decode cX1_init 205 = .ok (.lload_n 3, 1) := by decide +kernel
theorem dX1_init_206 : decode cX1_init 206 = .ok (.goto 4, 3) := by decide +kernel
theorem dX1_init_209 : decode cX1_init 209 = .ok (.lload_n 1, 1) := by decide +kernel
theorem dX1_init_210 : decode cX1_init 210 = .ok (.invokevirtual 30, 3) := by decide +kernel
theorem dX1_init_213 : decode cX1_init 213 = .ok (.iinc 5 1, 3) := by decide +kernel
theorem dX1_init_216 : decode cX1_init 216 = .ok (.goto (-42), 3) := by decide +kernel
theorem dX1_init_219 : decode cX1_init 219 = .ok (.aload_n 0, 1) := by decide +kernel
theorem dX1_init_220 : decode cX1_init 220 = .ok (.bipush 21, 2) := by decide +kernel
theorem dX1_init_222 : decode cX1_init 222 = .ok (.iconst 1, 1) := by decide +kernel
theorem dX1_init_223 : decode cX1_init 223 = .ok (.iconst 1, 1) := by decide +kernel
theorem dX1_init_224 : decode cX1_init 224 = .ok (.lload_n 1, 1) := by decide +kernel
theorem dX1_init_225 : decode cX1_init 225 = .ok (.invokevirtual 30, 3) := by decide +kernel
theorem dX1_init_228 : decode cX1_init 228 = .ok (.aload_n 0, 1) := by decide +kernel
theorem dX1_init_229 : decode cX1_init 229 = .ok (.bipush 22, 2) := by decide +kernel
theorem dX1_init_231 : decode cX1_init 231 = .ok (.iconst 4, 1) := by decide +kernel
theorem dX1_init_232 : decode cX1_init 232 = .ok (.iconst 0, 1) := by decide +kernel
theorem dX1_init_233 : decode cX1_init 233 = .ok (.lconst 0, 1) := by decide +kernel
theorem dX1_init_234 : decode cX1_init 234 = .ok (.invokevirtual 30, 3) := by decide +kernel
theorem dX1_init_237 : decode cX1_init 237 = .ok (.bipush 8, 2) := by decide +kernel
theorem dX1_init_239 : decode cX1_init 239 = .ok (.istore 5, 2) := by decide +kernel
theorem dX1_init_241 : decode cX1_init 241 = .ok (.iload 5, 2) := by decide +kernel
theorem dX1_init_243 : decode cX1_init 243 = .ok (.bipush 22, 2) := by decide +kernel
theorem dX1_init_245 : decode cX1_init 245 = .ok (.if_icmp .ge 24, 3) := by decide +kernel
theorem dX1_init_248 : decode cX1_init 248 = .ok (.aload_n 0, 1) := by decide +kernel
theorem dX1_init_249 : decode cX1_init 249 = .ok (.getfield 22, 3) := by decide +kernel
theorem dX1_init_252 : decode cX1_init 252 = .ok (.bipush 22, 2) := by decide +kernel
theorem dX1_init_254 : decode cX1_init 254 = .ok (.dup2, 1) := by decide +kernel
theorem dX1_init_255 : decode cX1_init 255 = .ok (.laload, 1) := by decide +kernel
theorem dX1_init_256 : decode cX1_init 256 = .ok (.iload 5, 2) := by decide +kernel
theorem dX1_init_258 : decode cX1_init 258 = .ok (.invokestatic 34, 3) := by decide +kernel
theorem dX1_init_261 : decode cX1_init 261 = .ok (.lor, 1) := by decide +kernel
theorem dX1_init_262 : decode cX1_init 262 = .ok (.lastore, 1) := by decide +kernel
theorem dX1_init_263 : decode cX1_init 263 = .ok (.iinc 5 1, 3) := by decide +kernel
theorem dX1_init_266 : decode cX1_init 266 = .ok (.goto (-25), 3) := by decide +kernel
theorem dX1_init_269 : decode cX1_init 269 = .ok (.aload_n 0, 1) := by decide +kernel
theorem dX1_init_270 : decode cX1_init 270 = .ok (.bipush 23, 2) := by decide +kernel
theorem dX1_init_272 : decode cX1_init 272 = .ok (.putfield 26, 3) := by decide +kernel
theorem dX1_init_275 : decode cX1_init 275 = .ok (.return_, 1) := by decide +kernel
set_option maxRecDepth 20000 in
theorem ggX1_setKnown_X1_bit : GoodIn wsX1_setKnown wsX1_bit := goodIn_r _ [8] (by decide +kernel) (by decide +kernel)
set_option maxRecDepth 20000 in
theorem gX1_setKnown_X1_bit : GoodIn wsX1_setKnown (va_wsS RX1 34 yX1_bit wsX1_bit) := goodIn_app (goodIn_of _ (by decide +kernel)) ggX1_setKnown_X1_bit
theorem dX1_setKnown_0 : decode cX1_setKnown 0 = .ok (.aload_n 0, 1) := by decide +kernel
theorem dX1_setKnown_1 : decode cX1_setKnown 1 = .ok (.getfield 9, 3) := by decide +kernel
theorem dX1_setKnown_4 : decode cX1_setKnown 4 = .ok (.iload_n 1, 1) := by decide +kernel
theorem dX1_setKnown_5 : decode cX1_setKnown 5 = .ok (.iload_n 2, 1) := by decide +kernel
theorem dX1_setKnown_6 : decode cX1_setKnown 6 = .ok (.iastore, 1) := by decide +kernel
theorem dX1_setKnown_7 : decode cX1_setKnown 7 = .ok (.aload_n 0, 1) := by decide +kernel
theorem dX1_setKnown_8 : decode cX1_setKnown 8 = .ok (.getfield 15, 3) := by decide +kernel
theorem dX1_setKnown_11 : decode cX1_setKnown 11 = .ok (.iload_n 1, 1) := by decide +kernel
theorem dX1_setKnown_12 : decode cX1_setKnown 12 = .ok (.iload_n 3, 1) := by decide +kernel
theorem dX1_setKnown_13 : decode cX1_setKnown 13 = .ok (.bastore, 1) := by decide +kernel
theorem dX1_setKnown_14 : decode cX1_setKnown 14 = .ok (.aload_n 0, 1) := by decide +kernel
theorem dX1_setKnown_15 : decode cX1_setKnown 15 = .ok (.getfield 19, 3) := by decide +kernel
theorem dX1_setKnown_18 : decode cX1_setKnown 18 = .ok (.iload_n 1, 1) := by decide +kernel
theorem dX1_setKnown_19 : decode cX1_setKnown 19 = .ok (.iconst (-1), 1) := by decide +kernel
theorem dX1_setKnown_20 : decode cX1_setKnown 20 = .ok (.iastore, 1) := by decide +kernel
theorem dX1_setKnown_21 : decode cX1_setKnown 21 = .ok (.aload_n 0, 1) := by decide +kernel
theorem dX1_setKnown_22 : decode cX1_setKnown 22 = .ok (.getfield 22, 3) := by decide +kernel
theorem dX1_setKnown_25 : decode cX1_setKnown 25 = .ok (.iload_n 1, 1) := by decide +kernel
theorem dX1_setKnown_26 : decode cX1_setKnown 26 = .ok (.lload 4, 2) := by decide +kernel
theorem dX1_setKnown_28 : decode cX1_setKnown 28 = .ok (.iload_n 1, 1) := by decide +kernel
theorem dX1_setKnown_29 : decode cX1_setKnown 29 = .ok (.invokestatic 34, 3) := by decide +kernel
theorem dX1_setKnown_32 : decode cX1_setKnown 32 = .ok (.lor, 1) := by decide +kernel
theorem dX1_setKnown_33 : decode cX1_setKnown 33 = .ok (.lastore, 1) := by decide +kernel
theorem dX1_setKnown_34 : decode cX1_setKnown 34 = .ok (.return_, 1) := by decide +kernel
theorem dX1_bit_0 : decode cX1_bit 0 = .ok (.lconst 1, 1) := by decide +kernel
theorem dX1_bit_1 : decode cX1_bit 1 = .ok (.iload_n 0, 1) := by decide +kernel
theorem dX1_bit_2 : decode cX1_bit 2 = .ok (.lshl, 1) := by decide +kernel
theorem dX1_bit_3 : decode cX1_bit 3 = .ok (.lreturn, 1) := by decide +kernel
theorem dX1_size_0 : decode cX1_size 0 = .ok (.aload_n 0, 1) := by decide +kernel
theorem dX1_size_1 : decode cX1_size 1 = .ok (.getfield 26, 3) := by decide +kernel
theorem dX1_size_4 : decode cX1_size 4 = .ok (.ireturn, 1) := by decide +kernel
theorem dX1_isFull_0 : decode cX1_isFull 0 = .ok (.aload_n 0, 1) := by decide +kernel
theorem dX1_isFull_1 : decode cX1_isFull 1 = .ok (.getfield 26, 3) := by decide +kernel
theorem dX1_isFull_4 : decode cX1_isFull 4 = .ok (.bipush 40, 2) := by decide +kernel
theorem dX1_isFull_6 : decode cX1_isFull 6 = .ok (.if_icmp .lt 7, 3) := by decide +kernel
theorem dX1_isFull_9 : decode cX1_isFull 9 = .ok (.iconst 1, 1) := by decide +kernel
theorem dX1_isFull_10 : decode cX1_isFull 10 = .ok (.goto 4, 3) := by decide +kernel
theorem dX1_isFull_13 : decode cX1_isFull 13 = .ok (.iconst 0, 1) := by decide +kernel
theorem dX1_isFull_14 : decode cX1_isFull 14 = .ok (.ireturn, 1) := by decide +kernel
theorem dX1_has_0 : decode cX1_has 0 = .ok (.iload_n 1, 1) := by decide +kernel
theorem dX1_has_1 : decode cX1_has 1 = .ok (.ifCond .lt 15, 3) := by decide +kernel
theorem dX1_has_4 : decode cX1_has 4 = .ok (.iload_n 1, 1) := by decide +kernel
theorem dX1_has_5 : decode cX1_has 5 = .ok (.aload_n 0, 1) := by decide +kernel
theorem dX1_has_6 : decode cX1_has 6 = .ok (.getfield 26, 3) := by decide +kernel
theorem dX1_has_9 : decode cX1_has 9 = .ok (.if_icmp .ge 7, 3) := by decide +kernel
theorem dX1_has_12 : decode cX1_has 12 = .ok (.iconst 1, 1) := by decide +kernel
theorem dX1_has_13 : decode cX1_has 13 = .ok (.goto 4, 3) := by decide +kernel
theorem dX1_has_16 : decode cX1_has 16 = .ok (.iconst 0, 1) := by decide +kernel
theorem dX1_has_17 : decode cX1_has 17 = .ok (.ireturn, 1) := by decide +kernel
theorem dX1_sortOf_0 : decode cX1_sortOf 0 = .ok (.aload_n 0, 1) := by decide +kernel
theorem dX1_sortOf_1 : decode cX1_sortOf 1 = .ok (.getfield 9, 3) := by decide +kernel
theorem dX1_sortOf_4 : decode cX1_sortOf 4 = .ok (.iload_n 1, 1) := by decide +kernel
theorem dX1_sortOf_5 : decode cX1_sortOf 5 = .ok (.iaload, 1) := by decide +kernel
theorem dX1_sortOf_6 : decode cX1_sortOf 6 = .ok (.ireturn, 1) := by decide +kernel
theorem dX1_isFinal_0 : decode cX1_isFinal 0 = .ok (.aload_n 0, 1) := by decide +kernel
theorem dX1_isFinal_1 : decode cX1_isFinal 1 = .ok (.getfield 15, 3) := by decide +kernel
theorem dX1_isFinal_4 : decode cX1_isFinal 4 = .ok (.iload_n 1, 1) := by decide +kernel
theorem dX1_isFinal_5 : decode cX1_isFinal 5 = .ok (.baload, 1) := by decide +kernel
theorem dX1_isFinal_6 : decode cX1_isFinal 6 = .ok (.ireturn, 1) := by decide +kernel
theorem dX1_elementOf_0 : decode cX1_elementOf 0 = .ok (.aload_n 0, 1) := by decide +kernel
theorem dX1_elementOf_1 : decode cX1_elementOf 1 = .ok (.getfield 19, 3) := by decide +kernel
theorem dX1_elementOf_4 : decode cX1_elementOf 4 = .ok (.iload_n 1, 1) := by decide +kernel
theorem dX1_elementOf_5 : decode cX1_elementOf 5 = .ok (.iaload, 1) := by decide +kernel
theorem dX1_elementOf_6 : decode cX1_elementOf 6 = .ok (.ireturn, 1) := by decide +kernel
set_option maxRecDepth 20000 in
theorem ggX1_countAbove_J13_bitCount_95d88 : GoodIn wsX1_countAbove wsJ13_bitCount_95d88 := goodIn_r _ [5, 6, 7, 8] (by decide +kernel) (by decide +kernel)
set_option maxRecDepth 20000 in
theorem gX1_countAbove_J13_bitCount_95d88 : GoodIn wsX1_countAbove (va_wsS RX1 38 yJ13_bitCount_95d88 wsJ13_bitCount_95d88) := goodIn_app (goodIn_of _ (by decide +kernel)) ggX1_countAbove_J13_bitCount_95d88
theorem dX1_countAbove_0 : decode cX1_countAbove 0 = .ok (.aload_n 0, 1) := by decide +kernel
theorem dX1_countAbove_1 : decode cX1_countAbove 1 = .ok (.getfield 22, 3) := by decide +kernel
theorem dX1_countAbove_4 : decode cX1_countAbove 4 = .ok (.iload_n 1, 1) := by decide +kernel
theorem dX1_countAbove_5 : decode cX1_countAbove 5 = .ok (.laload, 1) := by decide +kernel
theorem dX1_countAbove_6 : decode cX1_countAbove 6 = .ok (.invokestatic 38, 3) := by decide +kernel
theorem dX1_countAbove_9 : decode cX1_countAbove 9 = .ok (.ireturn, 1) := by decide +kernel
set_option maxRecDepth 20000 in
theorem ggX1_isUnder_X1_bit : GoodIn wsX1_isUnder wsX1_bit := goodIn_r _ [5] (by decide +kernel) (by decide +kernel)
set_option maxRecDepth 20000 in
theorem gX1_isUnder_X1_bit : GoodIn wsX1_isUnder (va_wsS RX1 34 yX1_bit wsX1_bit) := goodIn_app (goodIn_of _ (by decide +kernel)) ggX1_isUnder_X1_bit
theorem dX1_isUnder_0 : decode cX1_isUnder 0 = .ok (.aload_n 0, 1) := by decide +kernel
theorem dX1_isUnder_1 : decode cX1_isUnder 1 = .ok (.getfield 22, 3) := by decide +kernel
theorem dX1_isUnder_4 : decode cX1_isUnder 4 = .ok (.iload_n 1, 1) := by decide +kernel
theorem dX1_isUnder_5 : decode cX1_isUnder 5 = .ok (.laload, 1) := by decide +kernel
theorem dX1_isUnder_6 : decode cX1_isUnder 6 = .ok (.iload_n 2, 1) := by decide +kernel
theorem dX1_isUnder_7 : decode cX1_isUnder 7 = .ok (.invokestatic 34, 3) := by decide +kernel
theorem dX1_isUnder_10 : decode cX1_isUnder 10 = .ok (.land, 1) := by decide +kernel
theorem dX1_isUnder_11 : decode cX1_isUnder 11 = .ok (.lconst 0, 1) := by decide +kernel
theorem dX1_isUnder_12 : decode cX1_isUnder 12 = .ok (.lcmp, 1) := by decide +kernel
theorem dX1_isUnder_13 : decode cX1_isUnder 13 = .ok (.ifCond .eq 7, 3) := by decide +kernel
theorem dX1_isUnder_16 : decode cX1_isUnder 16 = .ok (.iconst 1, 1) := by decide +kernel
theorem dX1_isUnder_17 : decode cX1_isUnder 17 = .ok (.goto 4, 3) := by decide +kernel
theorem dX1_isUnder_20 : decode cX1_isUnder 20 = .ok (.iconst 0, 1) := by decide +kernel
theorem dX1_isUnder_21 : decode cX1_isUnder 21 = .ok (.ireturn, 1) := by decide +kernel
theorem dX1_mayHaveSubclass_0 : decode cX1_mayHaveSubclass 0 = .ok (.aload_n 0, 1) := by decide +kernel
theorem dX1_mayHaveSubclass_1 : decode cX1_mayHaveSubclass 1 = .ok (.getfield 9, 3) := by decide +kernel
theorem dX1_mayHaveSubclass_4 : decode cX1_mayHaveSubclass 4 = .ok (.iload_n 1, 1) := by decide +kernel
theorem dX1_mayHaveSubclass_5 : decode cX1_mayHaveSubclass 5 = .ok (.iaload, 1) := by decide +kernel
theorem dX1_mayHaveSubclass_6 : decode cX1_mayHaveSubclass 6 = .ok (.iconst 1, 1) := by decide +kernel
theorem dX1_mayHaveSubclass_7 : decode cX1_mayHaveSubclass 7 = .ok (.if_icmp .ne 22, 3) := by decide +kernel
theorem dX1_mayHaveSubclass_10 : decode cX1_mayHaveSubclass 10 = .ok (.aload_n 0, 1) := by decide +kernel
theorem dX1_mayHaveSubclass_11 : decode cX1_mayHaveSubclass 11 = .ok (.getfield 15, 3) := by decide +kernel
theorem dX1_mayHaveSubclass_14 : decode cX1_mayHaveSubclass 14 = .ok (.iload_n 1, 1) := by decide +kernel
theorem dX1_mayHaveSubclass_15 : decode cX1_mayHaveSubclass 15 = .ok (.baload, 1) := by decide +kernel
theorem dX1_mayHaveSubclass_16 : decode cX1_mayHaveSubclass 16 = .ok (.ifCond .ne 13, 3) := by decide +kernel
theorem dX1_mayHaveSubclass_19 : decode cX1_mayHaveSubclass 19 = .ok (.iload_n 1, 1) := by decide +kernel
theorem dX1_mayHaveSubclass_20 : decode cX1_mayHaveSubclass 20 = .ok (.bipush 17, 2) := by decide +kernel
theorem dX1_mayHaveSubclass_22 : decode cX1_mayHaveSubclass 22 = .ok (.if_icmp .eq 7, 3) := by decide +kernel
theorem dX1_mayHaveSubclass_25 : decode cX1_mayHaveSubclass 25 = .ok (.iconst 1, 1) := by decide +kernel
theorem dX1_mayHaveSubclass_26 : decode cX1_mayHaveSubclass 26 = .ok (.goto 4, 3) := by decide +kernel
theorem dX1_mayHaveSubclass_29 : decode cX1_mayHaveSubclass 29 = .ok (.iconst 0, 1) := by decide +kernel
theorem dX1_mayHaveSubclass_30 : decode cX1_mayHaveSubclass 30 = .ok (.ireturn, 1) := by decide +kernel
theorem dX1_arrayOf_0 : decode cX1_arrayOf 0 = .ok (.bipush 23, 2) := by decide +kernel
theorem dX1_arrayOf_2 : decode cX1_arrayOf 2 = .ok (.istore_n 2, 1) := by decide +kernel
theorem dX1_arrayOf_3 : decode cX1_arrayOf 3 = .ok (.iload_n 2, 1) := by decide +kernel
theorem dX1_arrayOf_4 : decode cX1_arrayOf 4 = .ok (.aload_n 0, 1) := by decide +kernel
theorem dX1_arrayOf_5 : decode cX1_arrayOf 5 = .ok (.getfield 26, 3) := by decide +kernel
theorem dX1_arrayOf_8 : decode cX1_arrayOf 8 = .ok (.if_icmp .ge 31, 3) := by decide +kernel
theorem dX1_arrayOf_11 : decode cX1_arrayOf 11 = .ok (.aload_n 0, 1) := by decide +kernel
theorem dX1_arrayOf_12 : decode cX1_arrayOf 12 = .ok (.getfield 9, 3) := by decide +kernel
theorem dX1_arrayOf_15 : decode cX1_arrayOf 15 = .ok (.iload_n 2, 1) := by decide +kernel
theorem dX1_arrayOf_16 : decode cX1_arrayOf 16 = .ok (.iaload, 1) := by decide +kernel
theorem dX1_arrayOf_17 : decode cX1_arrayOf 17 = .ok (.iconst 3, 1) := by decide +kernel
theorem dX1_arrayOf_18 : decode cX1_arrayOf 18 = .ok (.if_icmp .ne 15, 3) := by decide +kernel
theorem dX1_arrayOf_21 : decode cX1_arrayOf 21 = .ok (.aload_n 0, 1) := by decide +kernel
theorem dX1_arrayOf_22 : decode cX1_arrayOf 22 = .ok (.getfield 19, 3) := by decide +kernel
theorem dX1_arrayOf_25 : decode cX1_arrayOf 25 = .ok (.iload_n 2, 1) := by decide +kernel
theorem dX1_arrayOf_26 : decode cX1_arrayOf 26 = .ok (.iaload, 1) := by decide +kernel
theorem dX1_arrayOf_27 : decode cX1_arrayOf 27 = .ok (.iload_n 1, 1) := by decide +kernel
theorem dX1_arrayOf_28 : decode cX1_arrayOf 28 = .ok (.if_icmp .ne 5, 3) := by decide +kernel
theorem dX1_arrayOf_31 : decode cX1_arrayOf 31 = .ok (.iload_n 2, 1) := by decide +kernel
theorem dX1_arrayOf_32 : decode cX1_arrayOf 32 = .ok (.ireturn, 1) := by decide +kernel
theorem dX1_arrayOf_33 : decode cX1_arrayOf 33 = .ok (.iinc 2 1, 3) := by decide +kernel
theorem dX1_arrayOf_36 : decode cX1_arrayOf 36 = .ok (.goto (-33), 3) := by decide +kernel
theorem dX1_arrayOf_39 : decode cX1_arrayOf 39 = .ok (.iconst (-1), 1) := by decide +kernel
theorem dX1_arrayOf_40 : decode cX1_arrayOf 40 = .ok (.ireturn, 1) := by decide +kernel
set_option maxRecDepth 20000 in
theorem ggX1_addClass_X1_aboveOrNothing : GoodIn wsX1_addClass wsX1_aboveOrNothing := goodIn_ca (goodIn_r _ [6, 1, 22, 23, 24, 25, 26] (by decide +kernel) (by decide +kernel)) (goodIn_sub (fun _ h => List.mem_cons_of_mem _ (List.mem_append_right _ h)) (by decide +kernel))
set_option maxRecDepth 20000 in
theorem gX1_addClass_X1_aboveOrNothing : GoodIn wsX1_addClass (wsV RX1 44 RX1 yX1_aboveOrNothing wsX1_aboveOrNothing) := goodIn_app (goodIn_of _ (by decide +kernel)) ggX1_addClass_X1_aboveOrNothing
set_option maxRecDepth 20000 in
theorem ggX1_addClass_X1_add : GoodIn wsX1_addClass wsX1_add := goodIn_ca (goodIn_r _ [10, 11, 1, 12, 13, 14, 5, 15, 16, 17, 18, 19, 20, 21, 22, 23, 24, 25, 26] (by decide +kernel) (by decide +kernel)) (goodIn_sub (fun _ h => List.mem_cons_of_mem _ (List.mem_append_right _ h)) (by decide +kernel))
set_option maxRecDepth 20000 in
theorem gX1_addClass_X1_add : GoodIn wsX1_addClass (wsV RX1 47 RX1 yX1_add wsX1_add) := goodIn_app (goodIn_of _ (by decide +kernel)) ggX1_addClass_X1_add
theorem dX1_addClass_0 : decode cX1_addClass 0 = .ok (.aload_n 0, 1) := by decide +kernel
theorem dX1_addClass_1 : decode cX1_addClass 1 = .ok (.iconst 1, 1) := by decide +kernel
theorem dX1_addClass_2 : decode cX1_addClass 2 = .ok (.iload_n 3, 1) := by decide +kernel
theorem dX1_addClass_3 : decode cX1_addClass 3 = .ok (.aload_n 0, 1) := by decide +kernel
theorem dX1_addClass_4 : decode cX1_addClass 4 = .ok (.getfield 22, 3) := by decide +kernel
theorem dX1_addClass_7 : decode cX1_addClass 7 = .ok (.iload_n 1, 1) := by decide +kernel
theorem dX1_addClass_8 : decode cX1_addClass 8 = .ok (.laload, 1) := by decide +kernel
theorem dX1_addClass_9 : decode cX1_addClass 9 = .ok (.aload_n 0, 1) := by decide +kernel
theorem dX1_addClass_10 : decode cX1_addClass 10 = .ok (.iload_n 2, 1) := by decide +kernel
theorem dX1_addClass_11 : decode cX1_addClass 11 = .ok (.invokevirtual 44, 3) := by decide +kernel
theorem dX1_addClass_14 : decode cX1_addClass 14 = .ok (.lor, 1) := by decide +kernel
theorem dX1_addClass_15 : decode cX1_addClass 15 = .ok (.invokevirtual 47, 3) := by decide +kernel
theorem dX1_addClass_18 : decode cX1_addClass 18 = .ok (.ireturn, 1) := by decide +kernel
set_option maxRecDepth 20000 in
theorem ggX1_addInterface_X1_aboveOrNothing : GoodIn wsX1_addInterface wsX1_aboveOrNothing := goodIn_ca (goodIn_r _ [6, 1, 22, 23, 24, 25, 26] (by decide +kernel) (by decide +kernel)) (goodIn_sub (fun _ h => List.mem_cons_of_mem _ (List.mem_append_right _ h)) (by decide +kernel))
set_option maxRecDepth 20000 in
theorem gX1_addInterface_X1_aboveOrNothing : GoodIn wsX1_addInterface (wsV RX1 44 RX1 yX1_aboveOrNothing wsX1_aboveOrNothing) := goodIn_app (goodIn_of _ (by decide +kernel)) ggX1_addInterface_X1_aboveOrNothing
set_option maxRecDepth 20000 in
theorem ggX1_addInterface_X1_add : GoodIn wsX1_addInterface wsX1_add := goodIn_ca (goodIn_r _ [10, 11, 1, 12, 13, 14, 5, 15, 16, 17, 18, 19, 20, 21, 22, 23, 24, 25, 26] (by decide +kernel) (by decide +kernel)) (goodIn_sub (fun _ h => List.mem_cons_of_mem _ (List.mem_append_right _ h)) (by decide +kernel))
set_option maxRecDepth 20000 in
theorem gX1_addInterface_X1_add : GoodIn wsX1_addInterface (wsV RX1 47 RX1 yX1_add wsX1_add) := goodIn_app (goodIn_of _ (by decide +kernel)) ggX1_addInterface_X1_add
theorem dX1_addInterface_0 : decode cX1_addInterface 0 = .ok (.aload_n 0, 1) := by decide +kernel
theorem dX1_addInterface_1 : decode cX1_addInterface 1 = .ok (.getfield 22, 3) := by decide +kernel
theorem dX1_addInterface_4 : decode cX1_addInterface 4 = .ok (.bipush 16, 2) := by decide +kernel
theorem dX1_addInterface_6 : decode cX1_addInterface 6 = .ok (.laload, 1) := by decide +kernel
theorem dX1_addInterface_7 : decode cX1_addInterface 7 = .ok (.aload_n 0, 1) := by decide +kernel
theorem dX1_addInterface_8 : decode cX1_addInterface 8 = .ok (.iload_n 1, 1) := by decide +kernel
theorem dX1_addInterface_9 : decode cX1_addInterface 9 = .ok (.invokevirtual 44, 3) := by decide +kernel
theorem dX1_addInterface_12 : decode cX1_addInterface 12 = .ok (.lor, 1) := by decide +kernel
theorem dX1_addInterface_13 : decode cX1_addInterface 13 = .ok (.aload_n 0, 1) := by decide +kernel
theorem dX1_addInterface_14 : decode cX1_addInterface 14 = .ok (.iload_n 2, 1) := by decide +kernel
theorem dX1_addInterface_15 : decode cX1_addInterface 15 = .ok (.invokevirtual 44, 3) := by decide +kernel
theorem dX1_addInterface_18 : decode cX1_addInterface 18 = .ok (.lor, 1) := by decide +kernel
theorem dX1_addInterface_19 : decode cX1_addInterface 19 = .ok (.lstore_n 3, 1) := by decide +kernel
theorem dX1_addInterface_20 : decode cX1_addInterface 20 = .ok (.aload_n 0, 1) := by decide +kernel
theorem dX1_addInterface_21 : decode cX1_addInterface 21 = .ok (.iconst 2, 1) := by decide +kernel
theorem dX1_addInterface_22 : decode cX1_addInterface 22 = .ok (.iconst 0, 1) := by decide +kernel
theorem dX1_addInterface_23 : decode cX1_addInterface 23 = .ok (.lload_n 3, 1) := by decide +kernel
theorem dX1_addInterface_24 : decode cX1_addInterface 24 = .ok (.invokevirtual 47, 3) := by decide +kernel
theorem dX1_addInterface_27 : decode cX1_addInterface 27 = .ok (.ireturn, 1) := by decide +kernel
set_option maxRecDepth 20000 in
theorem ggX1_addArray_X1_add : GoodIn wsX1_addArray wsX1_add := goodIn_ca (goodIn_r _ [8, 9, 1, 10, 11, 12, 7, 13, 3, 14, 2, 15, 16, 17, 26, 27, 28, 29, 30] (by decide +kernel) (by decide +kernel)) (goodIn_sub (fun _ h => List.mem_cons_of_mem _ (List.mem_append_right _ h)) (by decide +kernel))
set_option maxRecDepth 20000 in
theorem gX1_addArray_X1_add : GoodIn wsX1_addArray (wsV RX1 47 RX1 yX1_add wsX1_add) := goodIn_app (goodIn_of _ (by decide +kernel)) ggX1_addArray_X1_add
set_option maxRecDepth 20000 in
theorem ggX1_addArray_X1_placeArrays : GoodIn wsX1_addArray wsX1_placeArrays := goodIn_ca (goodIn_r _ [21, 2, 1, 22, 23, 24, 7, 25, 15, 16, 17, 26, 27, 28, 29, 30] (by decide +kernel) (by decide +kernel)) (goodIn_sub (fun _ h => List.mem_cons_of_mem _ (List.mem_append_right _ h)) (by decide +kernel))
set_option maxRecDepth 20000 in
theorem gX1_addArray_X1_placeArrays : GoodIn wsX1_addArray (wsV RX1 51 RX1 yX1_placeArrays wsX1_placeArrays) := goodIn_app (goodIn_of _ (by decide +kernel)) ggX1_addArray_X1_placeArrays
theorem dX1_addArray_0 : decode cX1_addArray 0 = .ok (.aload_n 0, 1) := by decide +kernel
theorem dX1_addArray_1 : decode cX1_addArray 1 = .ok (.iconst 3, 1) := by decide +kernel
theorem dX1_addArray_2 : decode cX1_addArray 2 = .ok (.iconst 0, 1) := by decide +kernel
theorem dX1_addArray_3 : decode cX1_addArray 3 = .ok (.aload_n 0, 1) := by decide +kernel
theorem dX1_addArray_4 : decode cX1_addArray 4 = .ok (.getfield 22, 3) := by decide +kernel
theorem dX1_addArray_7 : decode cX1_addArray 7 = .ok (.bipush 20, 2) := by decide +kernel
theorem dX1_addArray_9 : decode cX1_addArray 9 = .ok (.laload, 1) := by decide +kernel
theorem dX1_addArray_10 : decode cX1_addArray 10 = .ok (.aload_n 0, 1) := by decide +kernel
theorem dX1_addArray_11 : decode cX1_addArray 11 = .ok (.getfield 22, 3) := by decide +kernel
theorem dX1_addArray_14 : decode cX1_addArray 14 = .ok (.bipush 19, 2) := by decide +kernel
theorem dX1_addArray_16 : decode cX1_addArray 16 = .ok (.laload, 1) := by decide +kernel
theorem dX1_addArray_17 : decode cX1_addArray 17 = .ok (.lor, 1) := by decide +kernel
theorem dX1_addArray_18 : decode cX1_addArray 18 = .ok (.invokevirtual 47, 3) := by decide +kernel
theorem dX1_addArray_21 : decode cX1_addArray 21 = .ok (.istore_n 2, 1) := by decide +kernel
theorem dX1_addArray_22 : decode cX1_addArray 22 = .ok (.aload_n 0, 1) := by decide +kernel
theorem dX1_addArray_23 : decode cX1_addArray 23 = .ok (.getfield 19, 3) := by decide +kernel
theorem dX1_addArray_26 : decode cX1_addArray 26 = .ok (.iload_n 2, 1) := by decide +kernel
theorem dX1_addArray_27 : decode cX1_addArray 27 = .ok (.iload_n 1, 1) := by decide +kernel
theorem dX1_addArray_28 : decode cX1_addArray 28 = .ok (.iastore, 1) := by decide +kernel
theorem dX1_addArray_29 : decode cX1_addArray 29 = .ok (.bipush 23, 2) := by decide +kernel
theorem dX1_addArray_31 : decode cX1_addArray 31 = .ok (.istore_n 3, 1) := by decide +kernel
theorem dX1_addArray_32 : decode cX1_addArray 32 = .ok (.iload_n 3, 1) := by decide +kernel
theorem dX1_addArray_33 : decode cX1_addArray 33 = .ok (.iload_n 2, 1) := by decide +kernel
theorem dX1_addArray_34 : decode cX1_addArray 34 = .ok (.if_icmp .ge 25, 3) := by decide +kernel
theorem dX1_addArray_37 : decode cX1_addArray 37 = .ok (.aload_n 0, 1) := by decide +kernel
theorem dX1_addArray_38 : decode cX1_addArray 38 = .ok (.getfield 9, 3) := by decide +kernel
theorem dX1_addArray_41 : decode cX1_addArray 41 = .ok (.iload_n 3, 1) := by decide +kernel
theorem dX1_addArray_42 : decode cX1_addArray 42 = .ok (.iaload, 1) := by decide +kernel
theorem dX1_addArray_43 : decode cX1_addArray 43 = .ok (.iconst 3, 1) := by decide +kernel
theorem dX1_addArray_44 : decode cX1_addArray 44 = .ok (.if_icmp .ne 9, 3) := by decide +kernel
theorem dX1_addArray_47 : decode cX1_addArray 47 = .ok (.aload_n 0, 1) := by decide +kernel
theorem dX1_addArray_48 : decode cX1_addArray 48 = .ok (.iload_n 2, 1) := by decide +kernel
theorem dX1_addArray_49 : decode cX1_addArray 49 = .ok (.iload_n 3, 1) := by decide +kernel
theorem dX1_addArray_50 : decode cX1_addArray 50 = .ok (.invokevirtual 51, 3) := by decide +kernel
theorem dX1_addArray_53 : decode cX1_addArray 53 = .ok (.iinc 3 1, 3) := by decide +kernel
theorem dX1_addArray_56 : decode cX1_addArray 56 = .ok (.goto (-24), 3) := by decide +kernel
theorem dX1_addArray_59 : decode cX1_addArray 59 = .ok (.iload_n 2, 1) := by decide +kernel
theorem dX1_addArray_60 : decode cX1_addArray 60 = .ok (.ireturn, 1) := by decide +kernel
set_option maxRecDepth 20000 in
theorem ggX1_placeArrays_X1_isUnder : GoodIn wsX1_placeArrays wsX1_isUnder := goodIn_ca (goodIn_r _ [7, 2, 8, 9, 6, 10, 11, 12, 13, 14, 15] (by decide +kernel) (by decide +kernel)) (goodIn_sub (fun _ h => List.mem_cons_of_mem _ (List.mem_append_right _ h)) (by decide +kernel))
set_option maxRecDepth 20000 in
theorem gX1_placeArrays_X1_isUnder : GoodIn wsX1_placeArrays (wsV RX1 55 RX1 yX1_isUnder wsX1_isUnder) := goodIn_app (goodIn_of _ (by decide +kernel)) ggX1_placeArrays_X1_isUnder
set_option maxRecDepth 20000 in
theorem ggX1_placeArrays_X1_bit : GoodIn wsX1_placeArrays wsX1_bit := goodIn_r _ [10] (by decide +kernel) (by decide +kernel)
set_option maxRecDepth 20000 in
theorem gX1_placeArrays_X1_bit : GoodIn wsX1_placeArrays (va_wsS RX1 34 yX1_bit wsX1_bit) := goodIn_app (goodIn_of _ (by decide +kernel)) ggX1_placeArrays_X1_bit
theorem dX1_placeArrays_0 : decode cX1_placeArrays 0 = .ok (.aload_n 0, 1) := by decide +kernel
theorem dX1_placeArrays_1 : decode cX1_placeArrays 1 = .ok (.aload_n 0, 1) := by decide +kernel
theorem dX1_placeArrays_2 : decode cX1_placeArrays 2 = .ok (.getfield 19, 3) := by decide +kernel
theorem dX1_placeArrays_5 : decode cX1_placeArrays 5 = .ok (.iload_n 1, 1) := by decide +kernel
theorem dX1_placeArrays_6 : decode cX1_placeArrays 6 = .ok (.iaload, 1) := by decide +kernel
theorem dX1_placeArrays_7 : decode cX1_placeArrays 7 = .ok (.aload_n 0, 1) := by decide +kernel
theorem dX1_placeArrays_8 : decode cX1_placeArrays 8 = .ok (.getfield 19, 3) := by decide +kernel
theorem dX1_placeArrays_11 : decode cX1_placeArrays 11 = .ok (.iload_n 2, 1) := by decide +kernel
theorem dX1_placeArrays_12 : decode cX1_placeArrays 12 = .ok (.iaload, 1) := by decide +kernel
theorem dX1_placeArrays_13 : decode cX1_placeArrays 13 = .ok (.invokevirtual 55, 3) := by decide +kernel
theorem dX1_placeArrays_16 : decode cX1_placeArrays 16 = .ok (.ifCond .eq 16, 3) := by decide +kernel
theorem dX1_placeArrays_19 : decode cX1_placeArrays 19 = .ok (.aload_n 0, 1) := by decide +kernel
theorem dX1_placeArrays_20 : decode cX1_placeArrays 20 = .ok (.getfield 22, 3) := by decide +kernel
theorem dX1_placeArrays_23 : decode cX1_placeArrays 23 = .ok (.iload_n 1, 1) := by decide +kernel
theorem dX1_placeArrays_24 : decode cX1_placeArrays 24 = .ok (.dup2, 1) := by decide +kernel
theorem dX1_placeArrays_25 : decode cX1_placeArrays 25 = .ok (.laload, 1) := by decide +kernel
theorem dX1_placeArrays_26 : decode cX1_placeArrays 26 = .ok (.iload_n 2, 1) := by decide +kernel
theorem dX1_placeArrays_27 : decode cX1_placeArrays 27 = .ok (.invokestatic 34, 3) := by decide +kernel
theorem dX1_placeArrays_30 : decode cX1_placeArrays 30 = .ok (.lor, 1) := by decide +kernel
theorem dX1_placeArrays_31 : decode cX1_placeArrays 31 = .ok (.lastore, 1) := by decide +kernel
theorem dX1_placeArrays_32 : decode cX1_placeArrays 32 = .ok (.aload_n 0, 1) := by decide +kernel
theorem dX1_placeArrays_33 : decode cX1_placeArrays 33 = .ok (.aload_n 0, 1) := by decide +kernel
theorem dX1_placeArrays_34 : decode cX1_placeArrays 34 = .ok (.getfield 19, 3) := by decide +kernel
theorem dX1_placeArrays_37 : decode cX1_placeArrays 37 = .ok (.iload_n 2, 1) := by decide +kernel
theorem dX1_placeArrays_38 : decode cX1_placeArrays 38 = .ok (.iaload, 1) := by decide +kernel
theorem dX1_placeArrays_39 : decode cX1_placeArrays 39 = .ok (.aload_n 0, 1) := by decide +kernel
theorem dX1_placeArrays_40 : decode cX1_placeArrays 40 = .ok (.getfield 19, 3) := by decide +kernel
theorem dX1_placeArrays_43 : decode cX1_placeArrays 43 = .ok (.iload_n 1, 1) := by decide +kernel
theorem dX1_placeArrays_44 : decode cX1_placeArrays 44 = .ok (.iaload, 1) := by decide +kernel
theorem dX1_placeArrays_45 : decode cX1_placeArrays 45 = .ok (.invokevirtual 55, 3) := by decide +kernel
theorem dX1_placeArrays_48 : decode cX1_placeArrays 48 = .ok (.ifCond .eq 16, 3) := by decide +kernel
theorem dX1_placeArrays_51 : decode cX1_placeArrays 51 = .ok (.aload_n 0, 1) := by decide +kernel
theorem dX1_placeArrays_52 : decode cX1_placeArrays 52 = .ok (.getfield 22, 3) := by decide +kernel
theorem dX1_placeArrays_55 : decode cX1_placeArrays 55 = .ok (.iload_n 2, 1) := by decide +kernel
theorem dX1_placeArrays_56 : decode cX1_placeArrays 56 = .ok (.dup2, 1) := by decide +kernel
theorem dX1_placeArrays_57 : decode cX1_placeArrays 57 = .ok (.laload, 1) := by decide +kernel
theorem dX1_placeArrays_58 : decode cX1_placeArrays 58 = .ok (.iload_n 1, 1) := by decide +kernel
theorem dX1_placeArrays_59 : decode cX1_placeArrays 59 = .ok (.invokestatic 34, 3) := by decide +kernel
theorem dX1_placeArrays_62 : decode cX1_placeArrays 62 = .ok (.lor, 1) := by decide +kernel
theorem dX1_placeArrays_63 : decode cX1_placeArrays 63 = .ok (.lastore, 1) := by decide +kernel
theorem dX1_placeArrays_64 : decode cX1_placeArrays 64 = .ok (.return_, 1) := by decide +kernel
set_option maxRecDepth 20000 in
theorem ggX1_add_X1_setKnown : GoodIn wsX1_add wsX1_setKnown := goodIn_ca (goodIn_r _ [7, 8, 9, 10, 2, 11, 12, 6, 13, 14, 15, 16, 17, 18] (by decide +kernel) (by decide +kernel)) (goodIn_sub (fun _ h => List.mem_cons_of_mem _ (List.mem_append_right _ h)) (by decide +kernel))
set_option maxRecDepth 20000 in
theorem gX1_add_X1_setKnown : GoodIn wsX1_add (wsV RX1 30 RX1 yX1_setKnown wsX1_setKnown) := goodIn_app (goodIn_of _ (by decide +kernel)) ggX1_add_X1_setKnown
set_option maxRecDepth 20000 in
theorem ggX1_add_X1_bit : GoodIn wsX1_add wsX1_bit := goodIn_r _ [13] (by decide +kernel) (by decide +kernel)
set_option maxRecDepth 20000 in
theorem gX1_add_X1_bit : GoodIn wsX1_add (va_wsS RX1 34 yX1_bit wsX1_bit) := goodIn_app (goodIn_of _ (by decide +kernel)) ggX1_add_X1_bit
theorem dX1_add_0 : decode cX1_add 0 = .ok (.aload_n 0, 1) := by decide +kernel
theorem dX1_add_1 : decode cX1_add 1 = .ok (.getfield 26, 3) := by decide +kernel
theorem dX1_add_4 : decode cX1_add 4 = .ok (.istore 5, 2) := by decide +kernel
theorem dX1_add_6 : decode cX1_add 6 = .ok (.aload_n 0, 1) := by decide +kernel
theorem dX1_add_7 : decode cX1_add 7 = .ok (.iload 5, 2) := by decide +kernel
theorem dX1_add_9 : decode cX1_add 9 = .ok (.iload_n 1, 1) := by decide +kernel
theorem dX1_add_10 : decode cX1_add 10 = .ok (.iload_n 2, 1) := by decide +kernel
theorem dX1_add_11 : decode cX1_add 11 = .ok (.lload_n 3, 1) := by decide +kernel
theorem dX1_add_12 : decode cX1_add 12 = .ok (.invokevirtual 30, 3) := by decide +kernel
theorem dX1_add_15 : decode cX1_add 15 = .ok (.aload_n 0, 1) := by decide +kernel
theorem dX1_add_16 : decode cX1_add 16 = .ok (.getfield 22, 3) := by decide +kernel
theorem dX1_add_19 : decode cX1_add 19 = .ok (.bipush 22, 2) := by decide +kernel
theorem dX1_add_21 : decode cX1_add 21 = .ok (.dup2, 1) := by decide +kernel
theorem dX1_add_22 : decode cX1_add 22 = .ok (.laload, 1) := by decide +kernel
theorem dX1_add_23 : decode cX1_add 23 = .ok (.iload 5, 2) := by decide +kernel
theorem dX1_add_25 : decode cX1_add 25 = .ok (.invokestatic 34, 3) := by decide +kernel
theorem dX1_add_28 : decode cX1_add 28 = .ok (.lor, 1) := by decide +kernel
theorem dX1_add_29 : decode cX1_add 29 = .ok (.lastore, 1) := by decide +kernel
theorem dX1_add_30 : decode cX1_add 30 = .ok (.aload_n 0, 1) := by decide +kernel
theorem dX1_add_31 : decode cX1_add 31 = .ok (.dup, 1) := by decide +kernel
theorem dX1_add_32 : decode cX1_add 32 = .ok (.getfield 26, 3) := by decide +kernel
theorem dX1_add_35 : decode cX1_add 35 = .ok (.iconst 1, 1) := by decide +kernel
theorem dX1_add_36 : decode cX1_add 36 = .ok (.iadd, 1) := by decide +kernel
theorem dX1_add_37 : decode cX1_add 37 = .ok (.putfield 26, 3) := by decide +kernel
theorem dX1_add_40 : decode cX1_add 40 = .ok (.iload 5, 2) := by decide +kernel
theorem dX1_add_42 : decode cX1_add 42 = .ok (.ireturn, 1) := by decide +kernel
theorem dX1_aboveOrNothing_0 : decode cX1_aboveOrNothing 0 = .ok (.iload_n 1, 1) := by decide +kernel
theorem dX1_aboveOrNothing_1 : decode cX1_aboveOrNothing 1 = .ok (.iconst (-1), 1) := by decide +kernel
theorem dX1_aboveOrNothing_2 : decode cX1_aboveOrNothing 2 = .ok (.if_icmp .ne 7, 3) := by decide +kernel
theorem dX1_aboveOrNothing_5 : decode cX1_aboveOrNothing 5 = .ok (.lconst 0, 1) := by decide +kernel
theorem dX1_aboveOrNothing_6 : decode cX1_aboveOrNothing 6 = .ok (.goto 9, 3) := by decide +kernel
theorem dX1_aboveOrNothing_9 : decode cX1_aboveOrNothing 9 = .ok (.aload_n 0, 1) := by decide +kernel
theorem dX1_aboveOrNothing_10 : decode cX1_aboveOrNothing 10 = .ok (.getfield 22, 3) := by decide +kernel
theorem dX1_aboveOrNothing_13 : decode cX1_aboveOrNothing 13 = .ok (.iload_n 1, 1) := by decide +kernel
theorem dX1_aboveOrNothing_14 : decode cX1_aboveOrNothing 14 = .ok (.laload, 1) := by decide +kernel
theorem dX1_aboveOrNothing_15 : decode cX1_aboveOrNothing 15 = .ok (.lreturn, 1) := by decide +kernel
set_option maxRecDepth 20000 in
theorem ggX1_goesDown_X1_isArrayOfReferences : GoodIn wsX1_goesDown wsX1_isArrayOfReferences := goodIn_ca (goodIn_r _ [6, 7, 1, 25, 26, 27, 28, 29] (by decide +kernel) (by decide +kernel)) (goodIn_sub (fun _ h => List.mem_cons_of_mem _ (List.mem_append_right _ h)) (by decide +kernel))
set_option maxRecDepth 20000 in
theorem gX1_goesDown_X1_isArrayOfReferences : GoodIn wsX1_goesDown (wsV RX1 59 RX1 yX1_isArrayOfReferences wsX1_isArrayOfReferences) := goodIn_app (goodIn_of _ (by decide +kernel)) ggX1_goesDown_X1_isArrayOfReferences
set_option maxRecDepth 20000 in
theorem ggX1_goesDown_X1_isUnder : GoodIn wsX1_goesDown wsX1_isUnder := goodIn_ca (goodIn_r _ [11, 12, 13, 14, 5, 15, 25, 26, 27, 28, 29] (by decide +kernel) (by decide +kernel)) (goodIn_sub (fun _ h => List.mem_cons_of_mem _ (List.mem_append_right _ h)) (by decide +kernel))
set_option maxRecDepth 20000 in
theorem gX1_goesDown_X1_isUnder : GoodIn wsX1_goesDown (wsV RX1 55 RX1 yX1_isUnder wsX1_isUnder) := goodIn_app (goodIn_of _ (by decide +kernel)) ggX1_goesDown_X1_isUnder
set_option maxRecDepth 20000 in
theorem ggX1_goesDown_X1_mayShareObjects : GoodIn wsX1_goesDown wsX1_mayShareObjects := goodIn_ca (goodIn_r _ [19, 7, 20, 21, 22, 5, 23, 24, 25, 26, 27, 28, 29] (by decide +kernel) (by decide +kernel)) (goodIn_sub (fun _ h => List.mem_cons_of_mem _ (List.mem_append_right _ h)) (by decide +kernel))
set_option maxRecDepth 20000 in
theorem gX1_goesDown_X1_mayShareObjects : GoodIn wsX1_goesDown (wsV RX1 63 RX1 yX1_mayShareObjects wsX1_mayShareObjects) := goodIn_app (goodIn_of _ (by decide +kernel)) ggX1_goesDown_X1_mayShareObjects
theorem dX1_goesDown_0 : decode cX1_goesDown 0 = .ok (.iload_n 1, 1) := by decide +kernel
theorem dX1_goesDown_1 : decode cX1_goesDown 1 = .ok (.istore_n 3, 1) := by decide +kernel
theorem dX1_goesDown_2 : decode cX1_goesDown 2 = .ok (.iload_n 2, 1) := by decide +kernel
theorem dX1_goesDown_3 : decode cX1_goesDown 3 = .ok (.istore 4, 2) := by decide +kernel
theorem dX1_goesDown_5 : decode cX1_goesDown 5 = .ok (.iconst 0, 1) := by decide +kernel
theorem dX1_goesDown_6 : decode cX1_goesDown 6 = .ok (.istore 5, 2) := by decide +kernel
theorem dX1_goesDown_8 : decode cX1_goesDown 8 = .ok (.iload 5, 2) := by decide +kernel
theorem dX1_goesDown_10 : decode cX1_goesDown 10 = .ok (.bipush 40, 2) := by decide +kernel
theorem dX1_goesDown_12 : decode cX1_goesDown 12 = .ok (.if_icmp .ge 45, 3) := by decide +kernel
theorem dX1_goesDown_15 : decode cX1_goesDown 15 = .ok (.aload_n 0, 1) := by decide +kernel
theorem dX1_goesDown_16 : decode cX1_goesDown 16 = .ok (.iload_n 3, 1) := by decide +kernel
theorem dX1_goesDown_17 : decode cX1_goesDown 17 = .ok (.invokevirtual 59, 3) := by decide +kernel
theorem dX1_goesDown_20 : decode cX1_goesDown 20 = .ok (.ifCond .eq 37, 3) := by decide +kernel
theorem dX1_goesDown_23 : decode cX1_goesDown 23 = .ok (.aload_n 0, 1) := by decide +kernel
theorem dX1_goesDown_24 : decode cX1_goesDown 24 = .ok (.iload 4, 2) := by decide +kernel
theorem dX1_goesDown_26 : decode cX1_goesDown 26 = .ok (.invokevirtual 59, 3) := by decide +kernel
theorem dX1_goesDown_29 : decode cX1_goesDown 29 = .ok (.ifCond .ne 6, 3) := by decide +kernel
theorem dX1_goesDown_32 : decode cX1_goesDown 32 = .ok (.goto 25, 3) := by decide +kernel
theorem dX1_goesDown_35 : decode cX1_goesDown 35 = .ok (.aload_n 0, 1) := by decide +kernel
theorem dX1_goesDown_36 : decode cX1_goesDown 36 = .ok (.getfield 19, 3) := by decide +kernel
theorem dX1_goesDown_39 : decode cX1_goesDown 39 = .ok (.iload_n 3, 1) := by decide +kernel
theorem dX1_goesDown_40 : decode cX1_goesDown 40 = .ok (.iaload, 1) := by decide +kernel
theorem dX1_goesDown_41 : decode cX1_goesDown 41 = .ok (.istore_n 3, 1) := by decide +kernel
theorem dX1_goesDown_42 : decode cX1_goesDown 42 = .ok (.aload_n 0, 1) := by decide +kernel
theorem dX1_goesDown_43 : decode cX1_goesDown 43 = .ok (.getfield 19, 3) := by decide +kernel
theorem dX1_goesDown_46 : decode cX1_goesDown 46 = .ok (.iload 4, 2) := by decide +kernel
theorem dX1_goesDown_48 : decode cX1_goesDown 48 = .ok (.iaload, 1) := by decide +kernel
theorem dX1_goesDown_49 : decode cX1_goesDown 49 = .ok (.istore 4, 2) := by decide +kernel
theorem dX1_goesDown_51 : decode cX1_goesDown 51 = .ok (.iinc 5 1, 3) := by decide +kernel
theorem dX1_goesDown_54 : decode cX1_goesDown 54 = .ok (.goto (-46), 3) := by decide +kernel
theorem dX1_goesDown_57 : decode cX1_goesDown 57 = .ok (.iload_n 3, 1) := by decide +kernel
theorem dX1_goesDown_58 : decode cX1_goesDown 58 = .ok (.bipush 22, 2) := by decide +kernel
theorem dX1_goesDown_60 : decode cX1_goesDown 60 = .ok (.if_icmp .eq 20, 3) := by decide +kernel
theorem dX1_goesDown_63 : decode cX1_goesDown 63 = .ok (.iload 4, 2) := by decide +kernel
theorem dX1_goesDown_65 : decode cX1_goesDown 65 = .ok (.bipush 22, 2) := by decide +kernel
theorem dX1_goesDown_67 : decode cX1_goesDown 67 = .ok (.if_icmp .eq 13, 3) := by decide +kernel
theorem dX1_goesDown_70 : decode cX1_goesDown 70 = .ok (.aload_n 0, 1) := by decide +kernel
theorem dX1_goesDown_71 : decode cX1_goesDown 71 = .ok (.iload_n 3, 1) := by decide +kernel
theorem dX1_goesDown_72 : decode cX1_goesDown 72 = .ok (.iload 4, 2) := by decide +kernel
theorem dX1_goesDown_74 : decode cX1_goesDown 74 = .ok (.invokevirtual 55, 3) := by decide +kernel
theorem dX1_goesDown_77 : decode cX1_goesDown 77 = .ok (.ifCond .eq 5, 3) := by decide +kernel
theorem dX1_goesDown_80 : decode cX1_goesDown 80 = .ok (.iconst 0, 1) := by decide +kernel
theorem dX1_goesDown_81 : decode cX1_goesDown 81 = .ok (.ireturn, 1) := by decide +kernel
theorem dX1_goesDown_82 : decode cX1_goesDown 82 = .ok (.aload_n 0, 1) := by decide +kernel
theorem dX1_goesDown_83 : decode cX1_goesDown 83 = .ok (.iload 4, 2) := by decide +kernel
theorem dX1_goesDown_85 : decode cX1_goesDown 85 = .ok (.iload_n 3, 1) := by decide +kernel
theorem dX1_goesDown_86 : decode cX1_goesDown 86 = .ok (.invokevirtual 55, 3) := by decide +kernel
theorem dX1_goesDown_89 : decode cX1_goesDown 89 = .ok (.ifCond .ne 13, 3) := by decide +kernel
theorem dX1_goesDown_92 : decode cX1_goesDown 92 = .ok (.aload_n 0, 1) := by decide +kernel
theorem dX1_goesDown_93 : decode cX1_goesDown 93 = .ok (.iload_n 3, 1) := by decide +kernel
theorem dX1_goesDown_94 : decode cX1_goesDown 94 = .ok (.iload 4, 2) := by decide +kernel
theorem dX1_goesDown_96 : decode cX1_goesDown 96 = .ok (.invokevirtual 63, 3) := by decide +kernel
theorem dX1_goesDown_99 : decode cX1_goesDown 99 = .ok (.ifCond .eq 7, 3) := by decide +kernel
theorem dX1_goesDown_102 : decode cX1_goesDown 102 = .ok (.iconst 1, 1) := by decide +kernel
theorem dX1_goesDown_103 : decode cX1_goesDown 103 = .ok (.goto 4, 3) := by decide +kernel
theorem dX1_goesDown_106 : decode cX1_goesDown 106 = .ok (.iconst 0, 1) := by decide +kernel
theorem dX1_goesDown_107 : decode cX1_goesDown 107 = .ok (.ireturn, 1) := by decide +kernel
theorem dX1_isArrayOfReferences_0 : decode cX1_isArrayOfReferences 0 = .ok (.aload_n 0, 1) := by decide +kernel
theorem dX1_isArrayOfReferences_1 : decode cX1_isArrayOfReferences 1 = .ok (.getfield 9, 3) := by decide +kernel
theorem dX1_isArrayOfReferences_4 : decode cX1_isArrayOfReferences 4 = .ok (.iload_n 1, 1) := by decide +kernel
theorem dX1_isArrayOfReferences_5 : decode cX1_isArrayOfReferences 5 = .ok (.iaload, 1) := by decide +kernel
theorem dX1_isArrayOfReferences_6 : decode cX1_isArrayOfReferences 6 = .ok (.iconst 3, 1) := by decide +kernel
theorem dX1_isArrayOfReferences_7 : decode cX1_isArrayOfReferences 7 = .ok (.if_icmp .ne 18, 3) := by decide +kernel
theorem dX1_isArrayOfReferences_10 : decode cX1_isArrayOfReferences 10 = .ok (.aload_n 0, 1) := by decide +kernel
theorem dX1_isArrayOfReferences_11 : decode cX1_isArrayOfReferences 11 = .ok (.getfield 19, 3) := by decide +kernel
theorem dX1_isArrayOfReferences_14 : decode cX1_isArrayOfReferences 14 = .ok (.iload_n 1, 1) := by decide +kernel
theorem dX1_isArrayOfReferences_15 : decode cX1_isArrayOfReferences 15 = .ok (.iaload, 1) := by decide +kernel
theorem dX1_isArrayOfReferences_16 : decode cX1_isArrayOfReferences 16 = .ok (.bipush 7, 2) := by decide +kernel
theorem dX1_isArrayOfReferences_18 : decode cX1_isArrayOfReferences 18 = .ok (.if_icmp .le 7, 3) := by decide +kernel
theorem dX1_isArrayOfReferences_21 : decode cX1_isArrayOfReferences 21 = .ok (.iconst 1, 1) := by decide +kernel
theorem dX1_isArrayOfReferences_22 : decode cX1_isArrayOfReferences 22 = .ok (.goto 4, 3) := by decide +kernel
theorem dX1_isArrayOfReferences_25 : decode cX1_isArrayOfReferences 25 = .ok (.iconst 0, 1) := by decide +kernel
theorem dX1_isArrayOfReferences_26 : decode cX1_isArrayOfReferences 26 = .ok (.ireturn, 1) := by decide +kernel
set_option maxRecDepth 20000 in
theorem ggX1_mayShareObjects_X1_isOpenClass : GoodIn wsX1_mayShareObjects wsX1_isOpenClass := goodIn_ca (goodIn_r _ [6, 1, 7, 8, 9, 10, 11, 12] (by decide +kernel) (by decide +kernel)) (goodIn_sub (fun _ h => List.mem_cons_of_mem _ (List.mem_append_right _ h)) (by decide +kernel))
set_option maxRecDepth 20000 in
theorem gX1_mayShareObjects_X1_isOpenClass : GoodIn wsX1_mayShareObjects (wsV RX1 66 RX1 yX1_isOpenClass wsX1_isOpenClass) := goodIn_app (goodIn_of _ (by decide +kernel)) ggX1_mayShareObjects_X1_isOpenClass
theorem dX1_mayShareObjects_0 : decode cX1_mayShareObjects 0 = .ok (.aload_n 0, 1) := by decide +kernel
theorem dX1_mayShareObjects_1 : decode cX1_mayShareObjects 1 = .ok (.getfield 9, 3) := by decide +kernel
theorem dX1_mayShareObjects_4 : decode cX1_mayShareObjects 4 = .ok (.iload_n 1, 1) := by decide +kernel
theorem dX1_mayShareObjects_5 : decode cX1_mayShareObjects 5 = .ok (.iaload, 1) := by decide +kernel
theorem dX1_mayShareObjects_6 : decode cX1_mayShareObjects 6 = .ok (.iconst 2, 1) := by decide +kernel
theorem dX1_mayShareObjects_7 : decode cX1_mayShareObjects 7 = .ok (.if_icmp .ne 27, 3) := by decide +kernel
theorem dX1_mayShareObjects_10 : decode cX1_mayShareObjects 10 = .ok (.aload_n 0, 1) := by decide +kernel
theorem dX1_mayShareObjects_11 : decode cX1_mayShareObjects 11 = .ok (.getfield 9, 3) := by decide +kernel
theorem dX1_mayShareObjects_14 : decode cX1_mayShareObjects 14 = .ok (.iload_n 2, 1) := by decide +kernel
theorem dX1_mayShareObjects_15 : decode cX1_mayShareObjects 15 = .ok (.iaload, 1) := by decide +kernel
theorem dX1_mayShareObjects_16 : decode cX1_mayShareObjects 16 = .ok (.iconst 2, 1) := by decide +kernel
theorem dX1_mayShareObjects_17 : decode cX1_mayShareObjects 17 = .ok (.if_icmp .eq 11, 3) := by decide +kernel
theorem dX1_mayShareObjects_20 : decode cX1_mayShareObjects 20 = .ok (.aload_n 0, 1) := by decide +kernel
theorem dX1_mayShareObjects_21 : decode cX1_mayShareObjects 21 = .ok (.iload_n 2, 1) := by decide +kernel
theorem dX1_mayShareObjects_22 : decode cX1_mayShareObjects 22 = .ok (.invokevirtual 66, 3) := by decide +kernel
theorem dX1_mayShareObjects_25 : decode cX1_mayShareObjects 25 = .ok (.ifCond .eq 7, 3) := by decide +kernel
theorem dX1_mayShareObjects_28 : decode cX1_mayShareObjects 28 = .ok (.iconst 1, 1) := by decide +kernel
theorem dX1_mayShareObjects_29 : decode cX1_mayShareObjects 29 = .ok (.goto 4, 3) := by decide +kernel
theorem dX1_mayShareObjects_32 : decode cX1_mayShareObjects 32 = .ok (.iconst 0, 1) := by decide +kernel
theorem dX1_mayShareObjects_33 : decode cX1_mayShareObjects 33 = .ok (.ireturn, 1) := by decide +kernel
theorem dX1_mayShareObjects_34 : decode cX1_mayShareObjects 34 = .ok (.aload_n 0, 1) := by decide +kernel
theorem dX1_mayShareObjects_35 : decode cX1_mayShareObjects 35 = .ok (.getfield 9, 3) := by decide +kernel
theorem dX1_mayShareObjects_38 : decode cX1_mayShareObjects 38 = .ok (.iload_n 2, 1) := by decide +kernel
theorem dX1_mayShareObjects_39 : decode cX1_mayShareObjects 39 = .ok (.iaload, 1) := by decide +kernel
theorem dX1_mayShareObjects_40 : decode cX1_mayShareObjects 40 = .ok (.iconst 2, 1) := by decide +kernel
theorem dX1_mayShareObjects_41 : decode cX1_mayShareObjects 41 = .ok (.if_icmp .ne 15, 3) := by decide +kernel
theorem dX1_mayShareObjects_44 : decode cX1_mayShareObjects 44 = .ok (.aload_n 0, 1) := by decide +kernel
theorem dX1_mayShareObjects_45 : decode cX1_mayShareObjects 45 = .ok (.iload_n 1, 1) := by decide +kernel
theorem dX1_mayShareObjects_46 : decode cX1_mayShareObjects 46 = .ok (.invokevirtual 66, 3) := by decide +kernel
theorem dX1_mayShareObjects_49 : decode cX1_mayShareObjects 49 = .ok (.ifCond .eq 7, 3) := by decide +kernel
theorem dX1_mayShareObjects_52 : decode cX1_mayShareObjects 52 = .ok (.iconst 1, 1) := by decide +kernel
theorem dX1_mayShareObjects_53 : decode cX1_mayShareObjects 53 = .ok (.goto 4, 3) := by decide +kernel
theorem dX1_mayShareObjects_56 : decode cX1_mayShareObjects 56 = .ok (.iconst 0, 1) := by decide +kernel
theorem dX1_mayShareObjects_57 : decode cX1_mayShareObjects 57 = .ok (.ireturn, 1) := by decide +kernel
theorem dX1_isOpenClass_0 : decode cX1_isOpenClass 0 = .ok (.aload_n 0, 1) := by decide +kernel
theorem dX1_isOpenClass_1 : decode cX1_isOpenClass 1 = .ok (.getfield 9, 3) := by decide +kernel
theorem dX1_isOpenClass_4 : decode cX1_isOpenClass 4 = .ok (.iload_n 1, 1) := by decide +kernel
theorem dX1_isOpenClass_5 : decode cX1_isOpenClass 5 = .ok (.iaload, 1) := by decide +kernel
theorem dX1_isOpenClass_6 : decode cX1_isOpenClass 6 = .ok (.iconst 1, 1) := by decide +kernel
theorem dX1_isOpenClass_7 : decode cX1_isOpenClass 7 = .ok (.if_icmp .ne 16, 3) := by decide +kernel
theorem dX1_isOpenClass_10 : decode cX1_isOpenClass 10 = .ok (.aload_n 0, 1) := by decide +kernel
theorem dX1_isOpenClass_11 : decode cX1_isOpenClass 11 = .ok (.getfield 15, 3) := by decide +kernel
theorem dX1_isOpenClass_14 : decode cX1_isOpenClass 14 = .ok (.iload_n 1, 1) := by decide +kernel
theorem dX1_isOpenClass_15 : decode cX1_isOpenClass 15 = .ok (.baload, 1) := by decide +kernel
theorem dX1_isOpenClass_16 : decode cX1_isOpenClass 16 = .ok (.ifCond .ne 7, 3) := by decide +kernel
theorem dX1_isOpenClass_19 : decode cX1_isOpenClass 19 = .ok (.iconst 1, 1) := by decide +kernel
theorem dX1_isOpenClass_20 : decode cX1_isOpenClass 20 = .ok (.goto 4, 3) := by decide +kernel
theorem dX1_isOpenClass_23 : decode cX1_isOpenClass 23 = .ok (.iconst 0, 1) := by decide +kernel
theorem dX1_isOpenClass_24 : decode cX1_isOpenClass 24 = .ok (.ireturn, 1) := by decide +kernel
set_option maxRecDepth 20000 in
theorem ggX2_init_X1_init : GoodIn wsX2_init wsX1_init := goodIn_ca (goodIn_r _ [15, 16, 2, 3, 8, 17, 18, 19, 20, 10, 21, 22, 23, 24, 25, 6, 26, 27, 28, 29, 30, 31, 32, 33, 34] (by decide +kernel) (by decide +kernel)) (goodIn_sub (fun _ h => List.mem_cons_of_mem _ (List.mem_append_right _ h)) (by decide +kernel))
set_option maxRecDepth 20000 in
theorem gX2_init_X1_init : GoodIn wsX2_init (wsX1_init) := ggX2_init_X1_init
theorem dX2_init_0 : decode cX2_init 0 = .ok (.aload_n 0, 1) := by decide +kernel
theorem dX2_init_1 : decode cX2_init 1 = .ok (.invokespecial 3, 3) := by decide +kernel
theorem dX2_init_4 : decode cX2_init 4 = .ok (.aload_n 0, 1) := by decide +kernel
theorem dX2_init_5 : decode cX2_init 5 = .ok (.new 9, 3) := by decide +kernel
theorem dX2_init_8 : decode cX2_init 8 = .ok (.dup, 1) := by decide +kernel
theorem dX2_init_9 : decode cX2_init 9 = .ok (.invokespecial 11, 3) := by decide +kernel
theorem dX2_init_12 : decode cX2_init 12 = .ok (.putfield 12, 3) := by decide +kernel
theorem dX2_init_15 : decode cX2_init 15 = .ok (.aload_n 0, 1) := by decide +kernel
theorem dX2_init_16 : decode cX2_init 16 = .ok (.bipush 60, 2) := by decide +kernel
theorem dX2_init_18 : decode cX2_init 18 = .ok (.newarray .int, 2) := by decide +kernel
theorem dX2_init_20 : decode cX2_init 20 = .ok (.putfield 16, 3) := by decide +kernel
theorem dX2_init_23 : decode cX2_init 23 = .ok (.aload_n 0, 1) := by decide +kernel
theorem dX2_init_24 : decode cX2_init 24 = .ok (.bipush 60, 2) := by decide +kernel
theorem dX2_init_26 : decode cX2_init 26 = .ok (.newarray .long, 2) := by decide +kernel
theorem dX2_init_28 : decode cX2_init 28 = .ok (.putfield 20, 3) := by decide +kernel
theorem dX2_init_31 : decode cX2_init 31 = .ok (.aload_n 0, 1) := by decide +kernel
theorem dX2_init_32 : decode cX2_init 32 = .ok (.iconst 0, 1) := by decide +kernel
theorem dX2_init_33 : decode cX2_init 33 = .ok (.putfield 24, 3) := by decide +kernel
theorem dX2_init_36 : decode cX2_init 36 = .ok (.return_, 1) := by decide +kernel
set_option maxRecDepth 20000 in
theorem ggX2_newClass_X2_isTypeOrNone : GoodIn wsX2_newClass wsX2_isTypeOrNone := goodIn_ca (goodIn_r _ [6, 1, 7, 8, 9, 10, 11, 12, 52, 53, 54, 55, 56, 57, 58, 59, 60] (by decide +kernel) (by decide +kernel)) (goodIn_sub (fun _ h => List.mem_cons_of_mem _ (List.mem_append_right _ h)) (by decide +kernel))
set_option maxRecDepth 20000 in
theorem gX2_newClass_X2_isTypeOrNone : GoodIn wsX2_newClass (wsV RX2 28 RX2 yX2_isTypeOrNone wsX2_isTypeOrNone) := goodIn_app (goodIn_of _ (by decide +kernel)) ggX2_newClass_X2_isTypeOrNone
set_option maxRecDepth 20000 in
theorem ggX2_newClass_X1_mayHaveSubclass : GoodIn wsX2_newClass wsX1_mayHaveSubclass := goodIn_ca (goodIn_r _ [16, 17, 18, 56, 57, 58, 59, 60] (by decide +kernel) (by decide +kernel)) (goodIn_sub (fun _ h => List.mem_cons_of_mem _ (List.mem_append_right _ h)) (by decide +kernel))
set_option maxRecDepth 20000 in
theorem gX2_newClass_X1_mayHaveSubclass : GoodIn wsX2_newClass (wsV RX2 32 RX1 yX1_mayHaveSubclass wsX1_mayHaveSubclass) := goodIn_app (goodIn_of _ (by decide +kernel)) ggX2_newClass_X1_mayHaveSubclass
set_option maxRecDepth 20000 in
theorem ggX2_newClass_X2_isInterfaceOrNone : GoodIn wsX2_newClass wsX2_isInterfaceOrNone := goodIn_ca (goodIn_r _ [22, 1, 23, 24, 25, 10, 26, 17, 52, 53, 54, 55, 56, 57, 58, 59, 60] (by decide +kernel) (by decide +kernel)) (goodIn_sub (fun _ h => List.mem_cons_of_mem _ (List.mem_append_right _ h)) (by decide +kernel))
set_option maxRecDepth 20000 in
theorem gX2_newClass_X2_isInterfaceOrNone : GoodIn wsX2_newClass (wsV RX2 35 RX2 yX2_isInterfaceOrNone wsX2_isInterfaceOrNone) := goodIn_app (goodIn_of _ (by decide +kernel)) ggX2_newClass_X2_isInterfaceOrNone
set_option maxRecDepth 20000 in
theorem ggX2_newClass_X1_isFull : GoodIn wsX2_newClass wsX1_isFull := goodIn_r _ [30, 12, 56, 57, 58, 59, 60] (by decide +kernel) (by decide +kernel)
set_option maxRecDepth 20000 in
theorem gX2_newClass_X1_isFull : GoodIn wsX2_newClass (wsV RX2 38 RX1 yX1_isFull wsX1_isFull) := goodIn_app (goodIn_of _ (by decide +kernel)) ggX2_newClass_X1_isFull
set_option maxRecDepth 20000 in
theorem ggX2_newClass_X1_addClass : GoodIn wsX2_newClass wsX1_addClass := goodIn_ca (goodIn_r _ [34, 35, 36, 37, 38, 10, 39, 40, 41, 42, 43, 12, 44, 45, 46, 47, 17, 18, 48, 49, 50, 51, 56, 57, 58, 59, 60] (by decide +kernel) (by decide +kernel)) (goodIn_sub (fun _ h => List.mem_cons_of_mem _ (List.mem_append_right _ h)) (by decide +kernel))
set_option maxRecDepth 20000 in
theorem gX2_newClass_X1_addClass : GoodIn wsX2_newClass (wsV RX2 42 RX1 yX1_addClass wsX1_addClass) := goodIn_app (goodIn_of _ (by decide +kernel)) ggX2_newClass_X1_addClass
theorem dX2_newClass_0 : decode cX2_newClass 0 = .ok (.aload_n 0, 1) := by decide +kernel
theorem dX2_newClass_1 : decode cX2_newClass 1 = .ok (.iload_n 1, 1) := by decide +kernel
theorem dX2_newClass_2 : decode cX2_newClass 2 = .ok (.invokevirtual 28, 3) := by decide +kernel
theorem dX2_newClass_5 : decode cX2_newClass 5 = .ok (.ifCond .eq 11, 3) := by decide +kernel
theorem dX2_newClass_8 : decode cX2_newClass 8 = .ok (.aload_n 0, 1) := by decide +kernel
theorem dX2_newClass_9 : decode cX2_newClass 9 = .ok (.iload_n 2, 1) := by decide +kernel
theorem dX2_newClass_10 : decode cX2_newClass 10 = .ok (.invokevirtual 28, 3) := by decide +kernel
theorem dX2_newClass_13 : decode cX2_newClass 13 = .ok (.ifCond .ne 5, 3) := by decide +kernel
theorem dX2_newClass_16 : decode cX2_newClass 16 = .ok (.iconst (-1), 1) := by decide +kernel
theorem dX2_newClass_17 : decode cX2_newClass 17 = .ok (.ireturn, 1) := by decide +kernel
theorem dX2_newClass_18 : decode cX2_newClass 18 = .ok (.iload_n 1, 1) := by decide +kernel
theorem dX2_newClass_19 : decode cX2_newClass 19 = .ok (.iconst (-1), 1) := by decide +kernel
theorem dX2_newClass_20 : decode cX2_newClass 20 = .ok (.if_icmp .ne 8, 3) := by decide +kernel
theorem dX2_newClass_23 : decode cX2_newClass 23 = .ok (.bipush 16, 2) := by decide +kernel
theorem dX2_newClass_25 : decode cX2_newClass 25 = .ok (.goto 4, 3) := by decide +kernel
theorem dX2_newClass_28 : decode cX2_newClass 28 = .ok (.iload_n 1, 1) := by decide +kernel
theorem dX2_newClass_29 : decode cX2_newClass 29 = .ok (.istore 4, 2) := by decide +kernel
theorem dX2_newClass_31 : decode cX2_newClass 31 = .ok (.aload_n 0, 1) := by decide +kernel
theorem dX2_newClass_32 : decode cX2_newClass 32 = .ok (.getfield 12, 3) := by decide +kernel
theorem dX2_newClass_35 : decode cX2_newClass 35 = .ok (.iload 4, 2) := by decide +kernel
theorem dX2_newClass_37 : decode cX2_newClass 37 = .ok (.invokevirtual 32, 3) := by decide +kernel
theorem dX2_newClass_40 : decode cX2_newClass 40 = .ok (.ifCond .eq 11, 3) := by decide +kernel
theorem dX2_newClass_43 : decode cX2_newClass 43 = .ok (.aload_n 0, 1) := by decide +kernel
theorem dX2_newClass_44 : decode cX2_newClass 44 = .ok (.iload_n 2, 1) := by decide +kernel
theorem dX2_newClass_45 : decode cX2_newClass 45 = .ok (.invokevirtual 35, 3) := by decide +kernel
theorem dX2_newClass_48 : decode cX2_newClass 48 = .ok (.ifCond .ne 6, 3) := by decide +kernel
theorem dX2_newClass_51 : decode cX2_newClass 51 = .ok (.bipush (-2), 2) := by decide +kernel
theorem dX2_newClass_53 : decode cX2_newClass 53 = .ok (.ireturn, 1) := by decide +kernel
theorem dX2_newClass_54 : decode cX2_newClass 54 = .ok (.aload_n 0, 1) := by decide +kernel
theorem dX2_newClass_55 : decode cX2_newClass 55 = .ok (.getfield 12, 3) := by decide +kernel
theorem dX2_newClass_58 : decode cX2_newClass 58 = .ok (.invokevirtual 38, 3) := by decide +kernel
theorem dX2_newClass_61 : decode cX2_newClass 61 = .ok (.ifCond .eq 8, 3) := by decide +kernel
theorem dX2_newClass_64 : decode cX2_newClass 64 = .ok (.bipush (-3), 2) := by decide +kernel
theorem dX2_newClass_66 : decode cX2_newClass 66 = .ok (.goto 14, 3) := by decide +kernel
theorem dX2_newClass_69 : decode cX2_newClass 69 = .ok (.aload_n 0, 1) := by decide +kernel
theorem dX2_newClass_70 : decode cX2_newClass 70 = .ok (.getfield 12, 3) := by decide +kernel
theorem dX2_newClass_73 : decode cX2_newClass 73 = .ok (.iload 4, 2) := by decide +kernel
theorem dX2_newClass_75 : decode cX2_newClass 75 = .ok (.iload_n 2, 1) := by decide +kernel
theorem dX2_newClass_76 : decode cX2_newClass 76 = .ok (.iload_n 3, 1) := by decide +kernel
theorem dX2_newClass_77 : decode cX2_newClass 77 = .ok (.invokevirtual 42, 3) := by decide +kernel
theorem dX2_newClass_80 : decode cX2_newClass 80 = .ok (.ireturn, 1) := by decide +kernel
set_option maxRecDepth 20000 in
theorem ggX2_newInterface_X2_isTypeOrNone : GoodIn wsX2_newInterface wsX2_isTypeOrNone := goodIn_ca (goodIn_r _ [6, 1, 7, 8, 9, 10, 11, 12, 48, 49, 50, 51, 52, 53, 54, 55, 56] (by decide +kernel) (by decide +kernel)) (goodIn_sub (fun _ h => List.mem_cons_of_mem _ (List.mem_append_right _ h)) (by decide +kernel))
set_option maxRecDepth 20000 in
theorem gX2_newInterface_X2_isTypeOrNone : GoodIn wsX2_newInterface (wsV RX2 28 RX2 yX2_isTypeOrNone wsX2_isTypeOrNone) := goodIn_app (goodIn_of _ (by decide +kernel)) ggX2_newInterface_X2_isTypeOrNone
set_option maxRecDepth 20000 in
theorem ggX2_newInterface_X2_isInterfaceOrNone : GoodIn wsX2_newInterface wsX2_isInterfaceOrNone := goodIn_ca (goodIn_r _ [16, 1, 17, 18, 19, 10, 20, 21, 48, 49, 50, 51, 52, 53, 54, 55, 56] (by decide +kernel) (by decide +kernel)) (goodIn_sub (fun _ h => List.mem_cons_of_mem _ (List.mem_append_right _ h)) (by decide +kernel))
set_option maxRecDepth 20000 in
theorem gX2_newInterface_X2_isInterfaceOrNone : GoodIn wsX2_newInterface (wsV RX2 35 RX2 yX2_isInterfaceOrNone wsX2_isInterfaceOrNone) := goodIn_app (goodIn_of _ (by decide +kernel)) ggX2_newInterface_X2_isInterfaceOrNone
set_option maxRecDepth 20000 in
theorem ggX2_newInterface_X1_isFull : GoodIn wsX2_newInterface wsX1_isFull := goodIn_r _ [25, 12, 52, 53, 54, 55, 56] (by decide +kernel) (by decide +kernel)
set_option maxRecDepth 20000 in
theorem gX2_newInterface_X1_isFull : GoodIn wsX2_newInterface (wsV RX2 38 RX1 yX1_isFull wsX1_isFull) := goodIn_app (goodIn_of _ (by decide +kernel)) ggX2_newInterface_X1_isFull
set_option maxRecDepth 20000 in
theorem ggX2_newInterface_X1_addInterface : GoodIn wsX2_newInterface wsX1_addInterface := goodIn_ca (goodIn_r _ [29, 30, 31, 32, 33, 10, 34, 35, 36, 37, 38, 12, 39, 40, 41, 42, 21, 43, 44, 45, 46, 47, 52, 53, 54, 55, 56] (by decide +kernel) (by decide +kernel)) (goodIn_sub (fun _ h => List.mem_cons_of_mem _ (List.mem_append_right _ h)) (by decide +kernel))
set_option maxRecDepth 20000 in
theorem gX2_newInterface_X1_addInterface : GoodIn wsX2_newInterface (wsV RX2 46 RX1 yX1_addInterface wsX1_addInterface) := goodIn_app (goodIn_of _ (by decide +kernel)) ggX2_newInterface_X1_addInterface
theorem dX2_newInterface_0 : decode cX2_newInterface 0 = .ok (.aload_n 0, 1) := by decide +kernel
theorem dX2_newInterface_1 : decode cX2_newInterface 1 = .ok (.iload_n 1, 1) := by decide +kernel
theorem dX2_newInterface_2 : decode cX2_newInterface 2 = .ok (.invokevirtual 28, 3) := by decide +kernel
theorem dX2_newInterface_5 : decode cX2_newInterface 5 = .ok (.ifCond .eq 11, 3) := by decide +kernel
theorem dX2_newInterface_8 : decode cX2_newInterface 8 = .ok (.aload_n 0, 1) := by decide +kernel
theorem dX2_newInterface_9 : decode cX2_newInterface 9 = .ok (.iload_n 2, 1) := by decide +kernel
theorem dX2_newInterface_10 : decode cX2_newInterface 10 = .ok (.invokevirtual 28, 3) := by decide +kernel
theorem dX2_newInterface_13 : decode cX2_newInterface 13 = .ok (.ifCond .ne 5, 3) := by decide +kernel
theorem dX2_newInterface_16 : decode cX2_newInterface 16 = .ok (.iconst (-1), 1) := by decide +kernel
theorem dX2_newInterface_17 : decode cX2_newInterface 17 = .ok (.ireturn, 1) := by decide +kernel
theorem dX2_newInterface_18 : decode cX2_newInterface 18 = .ok (.aload_n 0, 1) := by decide +kernel
theorem dX2_newInterface_19 : decode cX2_newInterface 19 = .ok (.iload_n 1, 1) := by decide +kernel
theorem dX2_newInterface_20 : decode cX2_newInterface 20 = .ok (.invokevirtual 35, 3) := by decide +kernel
theorem dX2_newInterface_23 : decode cX2_newInterface 23 = .ok (.ifCond .eq 11, 3) := by decide +kernel
theorem dX2_newInterface_26 : decode cX2_newInterface 26 = .ok (.aload_n 0, 1) := by decide +kernel
theorem dX2_newInterface_27 : decode cX2_newInterface 27 = .ok (.iload_n 2, 1) := by decide +kernel
theorem dX2_newInterface_28 : decode cX2_newInterface 28 = .ok (.invokevirtual 35, 3) := by decide +kernel
theorem dX2_newInterface_31 : decode cX2_newInterface 31 = .ok (.ifCond .ne 6, 3) := by decide +kernel
theorem dX2_newInterface_34 : decode cX2_newInterface 34 = .ok (.bipush (-2), 2) := by decide +kernel
theorem dX2_newInterface_36 : decode cX2_newInterface 36 = .ok (.ireturn, 1) := by decide +kernel
theorem dX2_newInterface_37 : decode cX2_newInterface 37 = .ok (.aload_n 0, 1) := by decide +kernel
theorem dX2_newInterface_38 : decode cX2_newInterface 38 = .ok (.getfield 12, 3) := by decide +kernel
theorem dX2_newInterface_41 : decode cX2_newInterface 41 = .ok (.invokevirtual 38, 3) := by decide +kernel
theorem dX2_newInterface_44 : decode cX2_newInterface 44 = .ok (.ifCond .eq 8, 3) := by decide +kernel
theorem dX2_newInterface_47 : decode cX2_newInterface 47 = .ok (.bipush (-3), 2) := by decide +kernel
theorem dX2_newInterface_49 : decode cX2_newInterface 49 = .ok (.goto 12, 3) := by decide +kernel
theorem dX2_newInterface_52 : decode cX2_newInterface 52 = .ok (.aload_n 0, 1) := by decide +kernel
theorem dX2_newInterface_53 : decode cX2_newInterface 53 = .ok (.getfield 12, 3) := by decide +kernel
theorem dX2_newInterface_56 : decode cX2_newInterface 56 = .ok (.iload_n 1, 1) := by decide +kernel
theorem dX2_newInterface_57 : decode cX2_newInterface 57 = .ok (.iload_n 2, 1) := by decide +kernel
theorem dX2_newInterface_58 : decode cX2_newInterface 58 = .ok (.invokevirtual 46, 3) := by decide +kernel
theorem dX2_newInterface_61 : decode cX2_newInterface 61 = .ok (.ireturn, 1) := by decide +kernel
set_option maxRecDepth 20000 in
theorem ggX2_array_X1_has : GoodIn wsX2_array wsX1_has := goodIn_r _ [6, 7, 47, 48, 49, 50, 51] (by decide +kernel) (by decide +kernel)
set_option maxRecDepth 20000 in
theorem gX2_array_X1_has : GoodIn wsX2_array (wsV RX2 50 RX1 yX1_has wsX1_has) := goodIn_app (goodIn_of _ (by decide +kernel)) ggX2_array_X1_has
set_option maxRecDepth 20000 in
theorem ggX2_array_X1_arrayOf : GoodIn wsX2_array wsX1_arrayOf := goodIn_ca (goodIn_r _ [11, 7, 12, 13, 47, 48, 49, 50, 51] (by decide +kernel) (by decide +kernel)) (goodIn_sub (fun _ h => List.mem_cons_of_mem _ (List.mem_append_right _ h)) (by decide +kernel))
set_option maxRecDepth 20000 in
theorem gX2_array_X1_arrayOf : GoodIn wsX2_array (wsV RX2 53 RX1 yX1_arrayOf wsX1_arrayOf) := goodIn_app (goodIn_of _ (by decide +kernel)) ggX2_array_X1_arrayOf
set_option maxRecDepth 20000 in
theorem ggX2_array_X1_isFull : GoodIn wsX2_array wsX1_isFull := goodIn_r _ [17, 7, 47, 48, 49, 50, 51] (by decide +kernel) (by decide +kernel)
set_option maxRecDepth 20000 in
theorem gX2_array_X1_isFull : GoodIn wsX2_array (wsV RX2 38 RX1 yX1_isFull wsX1_isFull) := goodIn_app (goodIn_of _ (by decide +kernel)) ggX2_array_X1_isFull
set_option maxRecDepth 20000 in
theorem ggX2_array_X1_addArray : GoodIn wsX2_array wsX1_addArray := goodIn_ca (goodIn_r _ [21, 22, 13, 12, 23, 24, 25, 5, 26, 7, 27, 28, 29, 30, 31, 32, 33, 34, 35, 36, 37, 38, 39, 40, 41, 42, 47, 48, 49, 50, 51] (by decide +kernel) (by decide +kernel)) (goodIn_sub (fun _ h => List.mem_cons_of_mem _ (List.mem_append_right _ h)) (by decide +kernel))
set_option maxRecDepth 20000 in
theorem gX2_array_X1_addArray : GoodIn wsX2_array (wsV RX2 57 RX1 yX1_addArray wsX1_addArray) := goodIn_app (goodIn_of _ (by decide +kernel)) ggX2_array_X1_addArray
theorem dX2_array_0 : decode cX2_array 0 = .ok (.aload_n 0, 1) := by decide +kernel
theorem dX2_array_1 : decode cX2_array 1 = .ok (.getfield 12, 3) := by decide +kernel
theorem dX2_array_4 : decode cX2_array 4 = .ok (.iload_n 1, 1) := by decide +kernel
theorem dX2_array_5 : decode cX2_array 5 = .ok (.invokevirtual 50, 3) := by decide +kernel
theorem dX2_array_8 : decode cX2_array 8 = .ok (.ifCond .ne 5, 3) := by decide +kernel
theorem dX2_array_11 : decode cX2_array 11 = .ok (.iconst (-1), 1) := by decide +kernel
theorem dX2_array_12 : decode cX2_array 12 = .ok (.ireturn, 1) := by decide +kernel
theorem dX2_array_13 : decode cX2_array 13 = .ok (.iload_n 1, 1) := by decide +kernel
theorem dX2_array_14 : decode cX2_array 14 = .ok (.bipush 22, 2) := by decide +kernel
theorem dX2_array_16 : decode cX2_array 16 = .ok (.if_icmp .ne 6, 3) := by decide +kernel
theorem dX2_array_19 : decode cX2_array 19 = .ok (.bipush (-2), 2) := by decide +kernel
theorem dX2_array_21 : decode cX2_array 21 = .ok (.ireturn, 1) := by decide +kernel
theorem dX2_array_22 : decode cX2_array 22 = .ok (.aload_n 0, 1) := by decide +kernel
theorem dX2_array_23 : decode cX2_array 23 = .ok (.getfield 12, 3) := by decide +kernel
theorem dX2_array_26 : decode cX2_array 26 = .ok (.iload_n 1, 1) := by decide +kernel
theorem dX2_array_27 : decode cX2_array 27 = .ok (.invokevirtual 53, 3) := by decide +kernel
theorem dX2_array_30 : decode cX2_array 30 = .ok (.istore_n 2, 1) := by decide +kernel
theorem dX2_array_31 : decode cX2_array 31 = .ok (.iload_n 2, 1) := by decide +kernel
theorem dX2_array_32 : decode cX2_array 32 = .ok (.iconst (-1), 1) := by decide +kernel
theorem dX2_array_33 : decode cX2_array 33 = .ok (.if_icmp .eq 5, 3) := by decide +kernel
theorem dX2_array_36 : decode cX2_array 36 = .ok (.iload_n 2, 1) := by decide +kernel
theorem dX2_array_37 : decode cX2_array 37 = .ok (.ireturn, 1) := by decide +kernel
theorem dX2_array_38 : decode cX2_array 38 = .ok (.aload_n 0, 1) := by decide +kernel
theorem dX2_array_39 : decode cX2_array 39 = .ok (.getfield 12, 3) := by decide +kernel
theorem dX2_array_42 : decode cX2_array 42 = .ok (.invokevirtual 38, 3) := by decide +kernel
theorem dX2_array_45 : decode cX2_array 45 = .ok (.ifCond .eq 8, 3) := by decide +kernel
theorem dX2_array_48 : decode cX2_array 48 = .ok (.bipush (-3), 2) := by decide +kernel
theorem dX2_array_50 : decode cX2_array 50 = .ok (.goto 11, 3) := by decide +kernel
theorem dX2_array_53 : decode cX2_array 53 = .ok (.aload_n 0, 1) := by decide +kernel
theorem dX2_array_54 : decode cX2_array 54 = .ok (.getfield 12, 3) := by decide +kernel
theorem dX2_array_57 : decode cX2_array 57 = .ok (.iload_n 1, 1) := by decide +kernel
theorem dX2_array_58 : decode cX2_array 58 = .ok (.invokevirtual 57, 3) := by decide +kernel
theorem dX2_array_61 : decode cX2_array 61 = .ok (.ireturn, 1) := by decide +kernel
set_option maxRecDepth 20000 in
theorem ggX2_type_X1_has : GoodIn wsX2_type wsX1_has := goodIn_r _ [6, 7, 39, 40, 41, 42, 43] (by decide +kernel) (by decide +kernel)
set_option maxRecDepth 20000 in
theorem gX2_type_X1_has : GoodIn wsX2_type (wsV RX2 50 RX1 yX1_has wsX1_has) := goodIn_app (goodIn_of _ (by decide +kernel)) ggX2_type_X1_has
set_option maxRecDepth 20000 in
theorem ggX2_type_X1_sortOf : GoodIn wsX2_type wsX1_sortOf := goodIn_ca (goodIn_r _ [11, 12, 39, 40, 41, 42, 43] (by decide +kernel) (by decide +kernel)) (goodIn_sub (fun _ h => List.mem_cons_of_mem _ (List.mem_append_right _ h)) (by decide +kernel))
set_option maxRecDepth 20000 in
theorem gX2_type_X1_sortOf : GoodIn wsX2_type (wsV RX2 60 RX1 yX1_sortOf wsX1_sortOf) := goodIn_app (goodIn_of _ (by decide +kernel)) ggX2_type_X1_sortOf
set_option maxRecDepth 20000 in
theorem ggX2_type_X1_isFinal : GoodIn wsX2_type wsX1_isFinal := goodIn_ca (goodIn_r _ [16, 17, 39, 40, 41, 42, 43] (by decide +kernel) (by decide +kernel)) (goodIn_sub (fun _ h => List.mem_cons_of_mem _ (List.mem_append_right _ h)) (by decide +kernel))
set_option maxRecDepth 20000 in
theorem gX2_type_X1_isFinal : GoodIn wsX2_type (wsV RX2 63 RX1 yX1_isFinal wsX1_isFinal) := goodIn_app (goodIn_of _ (by decide +kernel)) ggX2_type_X1_isFinal
set_option maxRecDepth 20000 in
theorem ggX2_type_X1_elementOf : GoodIn wsX2_type wsX1_elementOf := goodIn_ca (goodIn_r _ [21, 22, 39, 40, 41, 42, 43] (by decide +kernel) (by decide +kernel)) (goodIn_sub (fun _ h => List.mem_cons_of_mem _ (List.mem_append_right _ h)) (by decide +kernel))
set_option maxRecDepth 20000 in
theorem gX2_type_X1_elementOf : GoodIn wsX2_type (wsV RX2 66 RX1 yX1_elementOf wsX1_elementOf) := goodIn_app (goodIn_of _ (by decide +kernel)) ggX2_type_X1_elementOf
set_option maxRecDepth 20000 in
theorem ggX2_type_X1_countAbove : GoodIn wsX2_type wsX1_countAbove := goodIn_ca (goodIn_r _ [26, 27, 28, 29, 30, 31, 32, 33, 34, 39, 40, 41, 42, 43] (by decide +kernel) (by decide +kernel)) (goodIn_sub (fun _ h => List.mem_cons_of_mem _ (List.mem_append_right _ h)) (by decide +kernel))
set_option maxRecDepth 20000 in
theorem gX2_type_X1_countAbove : GoodIn wsX2_type (wsV RX2 69 RX1 yX1_countAbove wsX1_countAbove) := goodIn_app (goodIn_of _ (by decide +kernel)) ggX2_type_X1_countAbove
theorem dX2_type_0 : decode cX2_type 0 = .ok (.aload_n 0, 1) := by decide +kernel
theorem dX2_type_1 : decode cX2_type 1 = .ok (.getfield 12, 3) := by decide +kernel
theorem dX2_type_4 : decode cX2_type 4 = .ok (.iload_n 1, 1) := by decide +kernel
theorem dX2_type_5 : decode cX2_type 5 = .ok (.invokevirtual 50, 3) := by decide +kernel
theorem dX2_type_8 : decode cX2_type 8 = .ok (.ifCond .ne 5, 3) := by decide +kernel
theorem dX2_type_11 : decode cX2_type 11 = .ok (.iconst (-1), 1) := by decide +kernel
theorem dX2_type_12 : decode cX2_type 12 = .ok (.ireturn, 1) := by decide +kernel
theorem dX2_type_13 : decode cX2_type 13 = .ok (.iload_n 2, 1) := by decide +kernel
theorem dX2_type_14 : decode cX2_type 14 = .ok (.tableswitch 91 0 3 #[30, 39, 56, 82], 30) := by decide +kernel
theorem dX2_type_44 : decode cX2_type 44 = .ok (.aload_n 0, 1) := by decide +kernel
theorem dX2_type_45 : decode cX2_type 45 = .ok (.getfield 12, 3) := by decide +kernel
theorem dX2_type_48 : decode cX2_type 48 = .ok (.iload_n 1, 1) := by decide +kernel
theorem dX2_type_49 : decode cX2_type 49 = .ok (.invokevirtual 60, 3) := by decide +kernel
theorem dX2_type_52 : decode cX2_type 52 = .ok (.ireturn, 1) := by decide +kernel
theorem dX2_type_53 : decode cX2_type 53 = .ok (.aload_n 0, 1) := by decide +kernel
theorem dX2_type_54 : decode cX2_type 54 = .ok (.getfield 12, 3) := by decide +kernel
theorem dX2_type_57 : decode cX2_type 57 = .ok (.iload_n 1, 1) := by decide +kernel
theorem dX2_type_58 : decode cX2_type 58 = .ok (.invokevirtual 63, 3) := by decide +kernel
theorem dX2_type_61 : decode cX2_type 61 = .ok (.ifCond .eq 7, 3) := by decide +kernel
theorem dX2_type_64 : decode cX2_type 64 = .ok (.iconst 1, 1) := by decide +kernel
theorem dX2_type_65 : decode cX2_type 65 = .ok (.goto 4, 3) := by decide +kernel
theorem dX2_type_68 : decode cX2_type 68 = .ok (.iconst 0, 1) := by decide +kernel
theorem dX2_type_69 : decode cX2_type 69 = .ok (.ireturn, 1) := by decide +kernel
theorem dX2_type_70 : decode cX2_type 70 = .ok (.aload_n 0, 1) := by decide +kernel
theorem dX2_type_71 : decode cX2_type 71 = .ok (.getfield 12, 3) := by decide +kernel
theorem dX2_type_74 : decode cX2_type 74 = .ok (.iload_n 1, 1) := by decide +kernel
theorem dX2_type_75 : decode cX2_type 75 = .ok (.invokevirtual 60, 3) := by decide +kernel
theorem dX2_type_78 : decode cX2_type 78 = .ok (.iconst 3, 1) := by decide +kernel
theorem dX2_type_79 : decode cX2_type 79 = .ok (.if_icmp .ne 14, 3) := by decide +kernel
theorem dX2_type_82 : decode cX2_type 82 = .ok (.aload_n 0, 1) := by decide +kernel
theorem dX2_type_83 : decode cX2_type 83 = .ok (.getfield 12, 3) := by decide +kernel
theorem dX2_type_86 : decode cX2_type 86 = .ok (.iload_n 1, 1) := by decide +kernel
theorem dX2_type_87 : decode cX2_type 87 = .ok (.invokevirtual 66, 3) := by decide +kernel
theorem dX2_type_90 : decode cX2_type 90 = .ok (.goto 5, 3) := by decide +kernel
theorem dX2_type_93 : decode cX2_type 93 = .ok (.bipush (-2), 2) := by decide +kernel
theorem dX2_type_95 : decode cX2_type 95 = .ok (.ireturn, 1) := by decide +kernel
theorem dX2_type_96 : decode cX2_type 96 = .ok (.aload_n 0, 1) := by decide +kernel
theorem dX2_type_97 : decode cX2_type 97 = .ok (.getfield 12, 3) := by decide +kernel
theorem dX2_type_100 : decode cX2_type 100 = .ok (.iload_n 1, 1) := by decide +kernel
theorem dX2_type_101 : decode cX2_type 101 = .ok (.invokevirtual 69, 3) := by decide +kernel
theorem dX2_type_104 : decode cX2_type 104 = .ok (.ireturn, 1) := by decide +kernel
theorem dX2_type_105 : decode cX2_type 105 = .ok (.bipush (-2), 2) := by decide +kernel
theorem dX2_type_107 : decode cX2_type 107 = .ok (.ireturn, 1) := by decide +kernel
set_option maxRecDepth 20000 in
theorem ggX2_under_X1_has : GoodIn wsX2_under wsX1_has := goodIn_r _ [6, 7, 24, 25, 26, 27, 28] (by decide +kernel) (by decide +kernel)
set_option maxRecDepth 20000 in
theorem gX2_under_X1_has : GoodIn wsX2_under (wsV RX2 50 RX1 yX1_has wsX1_has) := goodIn_app (goodIn_of _ (by decide +kernel)) ggX2_under_X1_has
set_option maxRecDepth 20000 in
theorem ggX2_under_X2_isPrimitive : GoodIn wsX2_under wsX2_isPrimitive := goodIn_r _ [11] (by decide +kernel) (by decide +kernel)
set_option maxRecDepth 20000 in
theorem gX2_under_X2_isPrimitive : GoodIn wsX2_under (va_wsS RX2 72 yX2_isPrimitive wsX2_isPrimitive) := goodIn_app (goodIn_of _ (by decide +kernel)) ggX2_under_X2_isPrimitive
set_option maxRecDepth 20000 in
theorem ggX2_under_X1_isUnder : GoodIn wsX2_under wsX1_isUnder := goodIn_ca (goodIn_r _ [15, 16, 17, 18, 5, 19, 24, 25, 26, 27, 28] (by decide +kernel) (by decide +kernel)) (goodIn_sub (fun _ h => List.mem_cons_of_mem _ (List.mem_append_right _ h)) (by decide +kernel))
set_option maxRecDepth 20000 in
theorem gX2_under_X1_isUnder : GoodIn wsX2_under (wsV RX2 75 RX1 yX1_isUnder wsX1_isUnder) := goodIn_app (goodIn_of _ (by decide +kernel)) ggX2_under_X1_isUnder
theorem dX2_under_0 : decode cX2_under 0 = .ok (.aload_n 0, 1) := by decide +kernel
theorem dX2_under_1 : decode cX2_under 1 = .ok (.getfield 12, 3) := by decide +kernel
theorem dX2_under_4 : decode cX2_under 4 = .ok (.iload_n 1, 1) := by decide +kernel
theorem dX2_under_5 : decode cX2_under 5 = .ok (.invokevirtual 50, 3) := by decide +kernel
theorem dX2_under_8 : decode cX2_under 8 = .ok (.ifCond .eq 14, 3) := by decide +kernel
theorem dX2_under_11 : decode cX2_under 11 = .ok (.aload_n 0, 1) := by decide +kernel
theorem dX2_under_12 : decode cX2_under 12 = .ok (.getfield 12, 3) := by decide +kernel
theorem dX2_under_15 : decode cX2_under 15 = .ok (.iload_n 2, 1) := by decide +kernel
theorem dX2_under_16 : decode cX2_under 16 = .ok (.invokevirtual 50, 3) := by decide +kernel
theorem dX2_under_19 : decode cX2_under 19 = .ok (.ifCond .ne 5, 3) := by decide +kernel
theorem dX2_under_22 : decode cX2_under 22 = .ok (.iconst (-1), 1) := by decide +kernel
theorem dX2_under_23 : decode cX2_under 23 = .ok (.ireturn, 1) := by decide +kernel
theorem dX2_under_24 : decode cX2_under 24 = .ok (.iload_n 1, 1) := by decide +kernel
theorem dX2_under_25 : decode cX2_under 25 = .ok (.invokestatic 72, 3) := by decide +kernel
theorem dX2_under_28 : decode cX2_under 28 = .ok (.ifCond .ne 10, 3) := by decide +kernel
theorem dX2_under_31 : decode cX2_under 31 = .ok (.iload_n 2, 1) := by decide +kernel
theorem dX2_under_32 : decode cX2_under 32 = .ok (.invokestatic 72, 3) := by decide +kernel
theorem dX2_under_35 : decode cX2_under 35 = .ok (.ifCond .eq 6, 3) := by decide +kernel
theorem dX2_under_38 : decode cX2_under 38 = .ok (.bipush (-2), 2) := by decide +kernel
theorem dX2_under_40 : decode cX2_under 40 = .ok (.ireturn, 1) := by decide +kernel
theorem dX2_under_41 : decode cX2_under 41 = .ok (.aload_n 0, 1) := by decide +kernel
theorem dX2_under_42 : decode cX2_under 42 = .ok (.getfield 12, 3) := by decide +kernel
theorem dX2_under_45 : decode cX2_under 45 = .ok (.iload_n 1, 1) := by decide +kernel
theorem dX2_under_46 : decode cX2_under 46 = .ok (.iload_n 2, 1) := by decide +kernel
theorem dX2_under_47 : decode cX2_under 47 = .ok (.invokevirtual 75, 3) := by decide +kernel
theorem dX2_under_50 : decode cX2_under 50 = .ok (.ifCond .eq 7, 3) := by decide +kernel
theorem dX2_under_53 : decode cX2_under 53 = .ok (.iconst 1, 1) := by decide +kernel
theorem dX2_under_54 : decode cX2_under 54 = .ok (.goto 4, 3) := by decide +kernel
theorem dX2_under_57 : decode cX2_under 57 = .ok (.iconst 0, 1) := by decide +kernel
theorem dX2_under_58 : decode cX2_under 58 = .ok (.ireturn, 1) := by decide +kernel
set_option maxRecDepth 20000 in
theorem ggX2_isTypeOrNone_X1_has : GoodIn wsX2_isTypeOrNone wsX1_has := goodIn_r _ [6, 7, 12, 13, 14, 15, 16] (by decide +kernel) (by decide +kernel)
set_option maxRecDepth 20000 in
theorem gX2_isTypeOrNone_X1_has : GoodIn wsX2_isTypeOrNone (wsV RX2 50 RX1 yX1_has wsX1_has) := goodIn_app (goodIn_of _ (by decide +kernel)) ggX2_isTypeOrNone_X1_has
theorem dX2_isTypeOrNone_0 : decode cX2_isTypeOrNone 0 = .ok (.iload_n 1, 1) := by decide +kernel
theorem dX2_isTypeOrNone_1 : decode cX2_isTypeOrNone 1 = .ok (.iconst (-1), 1) := by decide +kernel
theorem dX2_isTypeOrNone_2 : decode cX2_isTypeOrNone 2 = .ok (.if_icmp .eq 14, 3) := by decide +kernel
theorem dX2_isTypeOrNone_5 : decode cX2_isTypeOrNone 5 = .ok (.aload_n 0, 1) := by decide +kernel
theorem dX2_isTypeOrNone_6 : decode cX2_isTypeOrNone 6 = .ok (.getfield 12, 3) := by decide +kernel
theorem dX2_isTypeOrNone_9 : decode cX2_isTypeOrNone 9 = .ok (.iload_n 1, 1) := by decide +kernel
theorem dX2_isTypeOrNone_10 : decode cX2_isTypeOrNone 10 = .ok (.invokevirtual 50, 3) := by decide +kernel
theorem dX2_isTypeOrNone_13 : decode cX2_isTypeOrNone 13 = .ok (.ifCond .eq 7, 3) := by decide +kernel
theorem dX2_isTypeOrNone_16 : decode cX2_isTypeOrNone 16 = .ok (.iconst 1, 1) := by decide +kernel
theorem dX2_isTypeOrNone_17 : decode cX2_isTypeOrNone 17 = .ok (.goto 4, 3) := by decide +kernel
theorem dX2_isTypeOrNone_20 : decode cX2_isTypeOrNone 20 = .ok (.iconst 0, 1) := by decide +kernel
theorem dX2_isTypeOrNone_21 : decode cX2_isTypeOrNone 21 = .ok (.ireturn, 1) := by decide +kernel
set_option maxRecDepth 20000 in
theorem ggX2_isInterfaceOrNone_X1_sortOf : GoodIn wsX2_isInterfaceOrNone wsX1_sortOf := goodIn_ca (goodIn_r _ [6, 7, 12, 13, 14, 15, 16] (by decide +kernel) (by decide +kernel)) (goodIn_sub (fun _ h => List.mem_cons_of_mem _ (List.mem_append_right _ h)) (by decide +kernel))
set_option maxRecDepth 20000 in
theorem gX2_isInterfaceOrNone_X1_sortOf : GoodIn wsX2_isInterfaceOrNone (wsV RX2 60 RX1 yX1_sortOf wsX1_sortOf) := goodIn_app (goodIn_of _ (by decide +kernel)) ggX2_isInterfaceOrNone_X1_sortOf
theorem dX2_isInterfaceOrNone_0 : decode cX2_isInterfaceOrNone 0 = .ok (.iload_n 1, 1) := by decide +kernel
theorem dX2_isInterfaceOrNone_1 : decode cX2_isInterfaceOrNone 1 = .ok (.iconst (-1), 1) := by decide +kernel
theorem dX2_isInterfaceOrNone_2 : decode cX2_isInterfaceOrNone 2 = .ok (.if_icmp .eq 15, 3) := by decide +kernel
theorem dX2_isInterfaceOrNone_5 : decode cX2_isInterfaceOrNone 5 = .ok (.aload_n 0, 1) := by decide +kernel
theorem dX2_isInterfaceOrNone_6 : decode cX2_isInterfaceOrNone 6 = .ok (.getfield 12, 3) := by decide +kernel
theorem dX2_isInterfaceOrNone_9 : decode cX2_isInterfaceOrNone 9 = .ok (.iload_n 1, 1) := by decide +kernel
theorem dX2_isInterfaceOrNone_10 : decode cX2_isInterfaceOrNone 10 = .ok (.invokevirtual 60, 3) := by decide +kernel
theorem dX2_isInterfaceOrNone_13 : decode cX2_isInterfaceOrNone 13 = .ok (.iconst 2, 1) := by decide +kernel
theorem dX2_isInterfaceOrNone_14 : decode cX2_isInterfaceOrNone 14 = .ok (.if_icmp .ne 7, 3) := by decide +kernel
theorem dX2_isInterfaceOrNone_17 : decode cX2_isInterfaceOrNone 17 = .ok (.iconst 1, 1) := by decide +kernel
theorem dX2_isInterfaceOrNone_18 : decode cX2_isInterfaceOrNone 18 = .ok (.goto 4, 3) := by decide +kernel
theorem dX2_isInterfaceOrNone_21 : decode cX2_isInterfaceOrNone 21 = .ok (.iconst 0, 1) := by decide +kernel
theorem dX2_isInterfaceOrNone_22 : decode cX2_isInterfaceOrNone 22 = .ok (.ireturn, 1) := by decide +kernel
set_option maxRecDepth 20000 in
theorem ggX2_kind_X1_has : GoodIn wsX2_kind wsX1_has := goodIn_r _ [6, 7, 86, 87, 88, 89, 90] (by decide +kernel) (by decide +kernel)
set_option maxRecDepth 20000 in
theorem gX2_kind_X1_has : GoodIn wsX2_kind (wsV RX2 50 RX1 yX1_has wsX1_has) := goodIn_app (goodIn_of _ (by decide +kernel)) ggX2_kind_X1_has
set_option maxRecDepth 20000 in
theorem ggX2_kind_X2_isContext : GoodIn wsX2_kind wsX2_isContext := goodIn_r _ [11] (by decide +kernel) (by decide +kernel)
set_option maxRecDepth 20000 in
theorem gX2_kind_X2_isContext : GoodIn wsX2_kind (va_wsS RX2 79 yX2_isContext wsX2_isContext) := goodIn_app (goodIn_of _ (by decide +kernel)) ggX2_kind_X2_isContext
set_option maxRecDepth 20000 in
theorem ggX2_kind_X2_allowedKind : GoodIn wsX2_kind wsX2_allowedKind := goodIn_ca (goodIn_r _ [15, 16, 17, 18, 10, 19, 20, 21, 22, 23, 24, 25, 26, 27, 28, 29, 30, 31, 32, 33, 34, 35, 36, 1, 37, 38, 39, 40, 41, 42, 5, 43, 44, 45, 46, 47, 48, 49, 50, 51, 52, 53, 54, 55, 56, 57, 58, 59, 60, 61, 62, 63, 64, 65, 66, 67, 68, 69, 70, 71, 72, 73, 74, 75, 76, 77, 78, 79, 80, 81, 82, 83, 84, 85, 86, 87, 88, 89, 90] (by decide +kernel) (by decide +kernel)) (goodIn_sub (fun _ h => List.mem_cons_of_mem _ (List.mem_append_right _ h)) (by decide +kernel))
set_option maxRecDepth 20000 in
theorem gX2_kind_X2_allowedKind : GoodIn wsX2_kind (wsV RX2 82 RX2 yX2_allowedKind wsX2_allowedKind) := goodIn_app (goodIn_of _ (by decide +kernel)) ggX2_kind_X2_allowedKind
theorem dX2_kind_0 : decode cX2_kind 0 = .ok (.aload_n 0, 1) := by decide +kernel
theorem dX2_kind_1 : decode cX2_kind 1 = .ok (.getfield 12, 3) := by decide +kernel
theorem dX2_kind_4 : decode cX2_kind 4 = .ok (.iload_n 1, 1) := by decide +kernel
theorem dX2_kind_5 : decode cX2_kind 5 = .ok (.invokevirtual 50, 3) := by decide +kernel
theorem dX2_kind_8 : decode cX2_kind 8 = .ok (.ifCond .eq 21, 3) := by decide +kernel
theorem dX2_kind_11 : decode cX2_kind 11 = .ok (.aload_n 0, 1) := by decide +kernel
theorem dX2_kind_12 : decode cX2_kind 12 = .ok (.getfield 12, 3) := by decide +kernel
theorem dX2_kind_15 : decode cX2_kind 15 = .ok (.iload_n 2, 1) := by decide +kernel
theorem dX2_kind_16 : decode cX2_kind 16 = .ok (.invokevirtual 50, 3) := by decide +kernel
theorem dX2_kind_19 : decode cX2_kind 19 = .ok (.ifCond .eq 10, 3) := by decide +kernel
theorem dX2_kind_22 : decode cX2_kind 22 = .ok (.iload_n 3, 1) := by decide +kernel
theorem dX2_kind_23 : decode cX2_kind 23 = .ok (.invokestatic 79, 3) := by decide +kernel
theorem dX2_kind_26 : decode cX2_kind 26 = .ok (.ifCond .ne 5, 3) := by decide +kernel
theorem dX2_kind_29 : decode cX2_kind 29 = .ok (.iconst (-1), 1) := by decide +kernel
theorem dX2_kind_30 : decode cX2_kind 30 = .ok (.ireturn, 1) := by decide +kernel
theorem dX2_kind_31 : decode cX2_kind 31 = .ok (.aload_n 0, 1) := by decide +kernel
theorem dX2_kind_32 : decode cX2_kind 32 = .ok (.iload_n 1, 1) := by decide +kernel
theorem dX2_kind_33 : decode cX2_kind 33 = .ok (.iload_n 2, 1) := by decide +kernel
theorem dX2_kind_34 : decode cX2_kind 34 = .ok (.iload_n 3, 1) := by decide +kernel
theorem dX2_kind_35 : decode cX2_kind 35 = .ok (.invokevirtual 82, 3) := by decide +kernel
theorem dX2_kind_38 : decode cX2_kind 38 = .ok (.ireturn, 1) := by decide +kernel
set_option maxRecDepth 20000 in
theorem ggX2_given_X1_has : GoodIn wsX2_given wsX1_has := goodIn_r _ [6, 7, 94, 95, 96, 97, 98] (by decide +kernel) (by decide +kernel)
set_option maxRecDepth 20000 in
theorem gX2_given_X1_has : GoodIn wsX2_given (wsV RX2 50 RX1 yX1_has wsX1_has) := goodIn_app (goodIn_of _ (by decide +kernel)) ggX2_given_X1_has
set_option maxRecDepth 20000 in
theorem ggX2_given_X2_isWhole : GoodIn wsX2_given wsX2_isWhole := goodIn_r _ [11] (by decide +kernel) (by decide +kernel)
set_option maxRecDepth 20000 in
theorem gX2_given_X2_isWhole : GoodIn wsX2_given (va_wsS RX2 86 yX2_isWhole wsX2_isWhole) := goodIn_app (goodIn_of _ (by decide +kernel)) ggX2_given_X2_isWhole
set_option maxRecDepth 20000 in
theorem ggX2_given_X2_areBitsOf : GoodIn wsX2_given wsX2_areBitsOf := goodIn_ca (goodIn_r _ [14, 15, 16] (by decide +kernel) (by decide +kernel)) (goodIn_sub (fun _ h => List.mem_cons_of_mem _ (List.mem_append_right _ h)) (by decide +kernel))
set_option maxRecDepth 20000 in
theorem gX2_given_X2_areBitsOf : GoodIn wsX2_given (va_wsS RX2 89 yX2_areBitsOf wsX2_areBitsOf) := goodIn_app (goodIn_of _ (by decide +kernel)) ggX2_given_X2_areBitsOf
set_option maxRecDepth 20000 in
theorem ggX2_given_X2_allowedKind : GoodIn wsX2_given wsX2_allowedKind := goodIn_ca (goodIn_r _ [20, 21, 22, 23, 10, 24, 25, 26, 27, 28, 29, 30, 31, 32, 33, 34, 35, 36, 37, 38, 39, 40, 41, 1, 42, 43, 44, 45, 46, 47, 5, 48, 49, 50, 51, 52, 53, 54, 55, 56, 57, 58, 59, 60, 61, 62, 63, 64, 65, 66, 67, 68, 69, 70, 71, 72, 73, 74, 75, 76, 77, 78, 79, 80, 81, 82, 83, 84, 85, 86, 90, 91, 92, 93, 94, 95, 96, 97, 98] (by decide +kernel) (by decide +kernel)) (goodIn_sub (fun _ h => List.mem_cons_of_mem _ (List.mem_append_right _ h)) (by decide +kernel))
set_option maxRecDepth 20000 in
theorem gX2_given_X2_allowedKind : GoodIn wsX2_given (wsV RX2 82 RX2 yX2_allowedKind wsX2_allowedKind) := goodIn_app (goodIn_of _ (by decide +kernel)) ggX2_given_X2_allowedKind
set_option maxRecDepth 20000 in
theorem ggX2_given_X2_constantFits : GoodIn wsX2_given wsX2_constantFits := goodIn_ca (goodIn_r _ [89, 80, 81, 10, 82, 57, 58, 59, 12, 13, 14, 15, 16] (by decide +kernel) (by decide +kernel)) (goodIn_sub (fun _ h => List.mem_cons_of_mem _ (List.mem_append_right _ h)) (by decide +kernel))
set_option maxRecDepth 20000 in
theorem gX2_given_X2_constantFits : GoodIn wsX2_given (va_wsS RX2 93 yX2_constantFits wsX2_constantFits) := goodIn_app (goodIn_of _ (by decide +kernel)) ggX2_given_X2_constantFits
theorem dX2_given_0 : decode cX2_given 0 = .ok (.aload_n 0, 1) := by decide +kernel
theorem dX2_given_1 : decode cX2_given 1 = .ok (.getfield 12, 3) := by decide +kernel
theorem dX2_given_4 : decode cX2_given 4 = .ok (.iload_n 3, 1) := by decide +kernel
theorem dX2_given_5 : decode cX2_given 5 = .ok (.invokevirtual 50, 3) := by decide +kernel
theorem dX2_given_8 : decode cX2_given 8 = .ok (.ifCond .eq 15, 3) := by decide +kernel
theorem dX2_given_11 : decode cX2_given 11 = .ok (.aload_n 0, 1) := by decide +kernel
theorem dX2_given_12 : decode cX2_given 12 = .ok (.getfield 12, 3) := by decide +kernel
theorem dX2_given_15 : decode cX2_given 15 = .ok (.iload 4, 2) := by decide +kernel
theorem dX2_given_17 : decode cX2_given 17 = .ok (.invokevirtual 50, 3) := by decide +kernel
theorem dX2_given_20 : decode cX2_given 20 = .ok (.ifCond .ne 5, 3) := by decide +kernel
theorem dX2_given_23 : decode cX2_given 23 = .ok (.iconst (-1), 1) := by decide +kernel
theorem dX2_given_24 : decode cX2_given 24 = .ok (.ireturn, 1) := by decide +kernel
theorem dX2_given_25 : decode cX2_given 25 = .ok (.iload_n 3, 1) := by decide +kernel
theorem dX2_given_26 : decode cX2_given 26 = .ok (.invokestatic 86, 3) := by decide +kernel
theorem dX2_given_29 : decode cX2_given 29 = .ok (.ifCond .eq 11, 3) := by decide +kernel
theorem dX2_given_32 : decode cX2_given 32 = .ok (.lload_n 1, 1) := by decide +kernel
theorem dX2_given_33 : decode cX2_given 33 = .ok (.iload_n 3, 1) := by decide +kernel
theorem dX2_given_34 : decode cX2_given 34 = .ok (.invokestatic 89, 3) := by decide +kernel
theorem dX2_given_37 : decode cX2_given 37 = .ok (.ifCond .ne 6, 3) := by decide +kernel
theorem dX2_given_40 : decode cX2_given 40 = .ok (.bipush (-2), 2) := by decide +kernel
theorem dX2_given_42 : decode cX2_given 42 = .ok (.ireturn, 1) := by decide +kernel
theorem dX2_given_43 : decode cX2_given 43 = .ok (.aload_n 0, 1) := by decide +kernel
theorem dX2_given_44 : decode cX2_given 44 = .ok (.iload_n 3, 1) := by decide +kernel
theorem dX2_given_45 : decode cX2_given 45 = .ok (.iload 4, 2) := by decide +kernel
theorem dX2_given_47 : decode cX2_given 47 = .ok (.iconst 2, 1) := by decide +kernel
theorem dX2_given_48 : decode cX2_given 48 = .ok (.invokevirtual 82, 3) := by decide +kernel
theorem dX2_given_51 : decode cX2_given 51 = .ok (.ifCond .ne 13, 3) := by decide +kernel
theorem dX2_given_54 : decode cX2_given 54 = .ok (.lload_n 1, 1) := by decide +kernel
theorem dX2_given_55 : decode cX2_given 55 = .ok (.iload_n 3, 1) := by decide +kernel
theorem dX2_given_56 : decode cX2_given 56 = .ok (.iload 4, 2) := by decide +kernel
theorem dX2_given_58 : decode cX2_given 58 = .ok (.invokestatic 93, 3) := by decide +kernel
theorem dX2_given_61 : decode cX2_given 61 = .ok (.ifCond .eq 7, 3) := by decide +kernel
theorem dX2_given_64 : decode cX2_given 64 = .ok (.iconst 1, 1) := by decide +kernel
theorem dX2_given_65 : decode cX2_given 65 = .ok (.goto 4, 3) := by decide +kernel
theorem dX2_given_68 : decode cX2_given 68 = .ok (.iconst 0, 1) := by decide +kernel
theorem dX2_given_69 : decode cX2_given 69 = .ok (.istore 5, 2) := by decide +kernel
theorem dX2_given_71 : decode cX2_given 71 = .ok (.iload 5, 2) := by decide +kernel
theorem dX2_given_73 : decode cX2_given 73 = .ok (.ifCond .eq 7, 3) := by decide +kernel
theorem dX2_given_76 : decode cX2_given 76 = .ok (.iconst 1, 1) := by decide +kernel
theorem dX2_given_77 : decode cX2_given 77 = .ok (.goto 4, 3) := by decide +kernel
theorem dX2_given_80 : decode cX2_given 80 = .ok (.iconst 0, 1) := by decide +kernel
theorem dX2_given_81 : decode cX2_given 81 = .ok (.ireturn, 1) := by decide +kernel
set_option maxRecDepth 20000 in
theorem ggX2_targets_X1_has : GoodIn wsX2_targets wsX1_has := goodIn_r _ [6, 7, 90, 91, 92, 93, 94] (by decide +kernel) (by decide +kernel)
set_option maxRecDepth 20000 in
theorem gX2_targets_X1_has : GoodIn wsX2_targets (wsV RX2 50 RX1 yX1_has wsX1_has) := goodIn_app (goodIn_of _ (by decide +kernel)) ggX2_targets_X1_has
set_option maxRecDepth 20000 in
theorem ggX2_targets_X2_isContext : GoodIn wsX2_targets wsX2_isContext := goodIn_r _ [11] (by decide +kernel) (by decide +kernel)
set_option maxRecDepth 20000 in
theorem gX2_targets_X2_isContext : GoodIn wsX2_targets (va_wsS RX2 79 yX2_isContext wsX2_isContext) := goodIn_app (goodIn_of _ (by decide +kernel)) ggX2_targets_X2_isContext
set_option maxRecDepth 20000 in
theorem ggX2_targets_X1_size : GoodIn wsX2_targets wsX1_size := goodIn_r _ [15, 7, 90, 91, 92, 93, 94] (by decide +kernel) (by decide +kernel)
set_option maxRecDepth 20000 in
theorem gX2_targets_X1_size : GoodIn wsX2_targets (wsV RX2 97 RX1 yX1_size wsX1_size) := goodIn_app (goodIn_of _ (by decide +kernel)) ggX2_targets_X1_size
set_option maxRecDepth 20000 in
theorem ggX2_targets_X2_allowedKind : GoodIn wsX2_targets wsX2_allowedKind := goodIn_ca (goodIn_r _ [19, 20, 21, 22, 10, 23, 24, 25, 26, 27, 28, 29, 30, 31, 32, 33, 34, 35, 36, 37, 38, 39, 40, 1, 41, 42, 43, 44, 45, 46, 5, 47, 48, 49, 50, 51, 52, 53, 54, 55, 56, 57, 58, 59, 60, 61, 62, 63, 64, 65, 66, 67, 68, 69, 70, 71, 72, 73, 74, 75, 76, 77, 78, 79, 80, 81, 82, 83, 84, 85, 86, 87, 88, 89, 90, 91, 92, 93, 94] (by decide +kernel) (by decide +kernel)) (goodIn_sub (fun _ h => List.mem_cons_of_mem _ (List.mem_append_right _ h)) (by decide +kernel))
set_option maxRecDepth 20000 in
theorem gX2_targets_X2_allowedKind : GoodIn wsX2_targets (wsV RX2 82 RX2 yX2_allowedKind wsX2_allowedKind) := goodIn_app (goodIn_of _ (by decide +kernel)) ggX2_targets_X2_allowedKind
theorem dX2_targets_0 : decode cX2_targets 0 = .ok (.aload_n 0, 1) := by decide +kernel
theorem dX2_targets_1 : decode cX2_targets 1 = .ok (.getfield 12, 3) := by decide +kernel
theorem dX2_targets_4 : decode cX2_targets 4 = .ok (.iload_n 1, 1) := by decide +kernel
theorem dX2_targets_5 : decode cX2_targets 5 = .ok (.invokevirtual 50, 3) := by decide +kernel
theorem dX2_targets_8 : decode cX2_targets 8 = .ok (.ifCond .eq 10, 3) := by decide +kernel
theorem dX2_targets_11 : decode cX2_targets 11 = .ok (.iload_n 2, 1) := by decide +kernel
theorem dX2_targets_12 : decode cX2_targets 12 = .ok (.invokestatic 79, 3) := by decide +kernel
theorem dX2_targets_15 : decode cX2_targets 15 = .ok (.ifCond .ne 5, 3) := by decide +kernel
theorem dX2_targets_18 : decode cX2_targets 18 = .ok (.iconst (-1), 1) := by decide +kernel
theorem dX2_targets_19 : decode cX2_targets 19 = .ok (.ireturn, 1) := by decide +kernel
theorem dX2_targets_20 : decode cX2_targets 20 = .ok (.iconst 0, 1) := by decide +kernel
theorem dX2_targets_21 : decode cX2_targets 21 = .ok (.istore_n 3, 1) := by decide +kernel
theorem dX2_targets_22 : decode cX2_targets 22 = .ok (.iconst 0, 1) := by decide +kernel
theorem dX2_targets_23 : decode cX2_targets 23 = .ok (.istore 4, 2) := by decide +kernel
theorem dX2_targets_25 : decode cX2_targets 25 = .ok (.iload 4, 2) := by decide +kernel
theorem dX2_targets_27 : decode cX2_targets 27 = .ok (.aload_n 0, 1) := by decide +kernel
theorem dX2_targets_28 : decode cX2_targets 28 = .ok (.getfield 12, 3) := by decide +kernel
theorem dX2_targets_31 : decode cX2_targets 31 = .ok (.invokevirtual 97, 3) := by decide +kernel
theorem dX2_targets_34 : decode cX2_targets 34 = .ok (.if_icmp .ge 23, 3) := by decide +kernel
theorem dX2_targets_37 : decode cX2_targets 37 = .ok (.aload_n 0, 1) := by decide +kernel
theorem dX2_targets_38 : decode cX2_targets 38 = .ok (.iload_n 1, 1) := by decide +kernel
theorem dX2_targets_39 : decode cX2_targets 39 = .ok (.iload 4, 2) := by decide +kernel
theorem dX2_targets_41 : decode cX2_targets 41 = .ok (.iload_n 2, 1) := by decide +kernel
theorem dX2_targets_42 : decode cX2_targets 42 = .ok (.invokevirtual 82, 3) := by decide +kernel
theorem dX2_targets_45 : decode cX2_targets 45 = .ok (.ifCond .eq 6, 3) := by decide +kernel
theorem dX2_targets_48 : decode cX2_targets 48 = .ok (.iinc 3 1, 3) := by decide +kernel
theorem dX2_targets_51 : decode cX2_targets 51 = .ok (.iinc 4 1, 3) := by decide +kernel
theorem dX2_targets_54 : decode cX2_targets 54 = .ok (.goto (-29), 3) := by decide +kernel
theorem dX2_targets_57 : decode cX2_targets 57 = .ok (.iload_n 3, 1) := by decide +kernel
theorem dX2_targets_58 : decode cX2_targets 58 = .ok (.ireturn, 1) := by decide +kernel
set_option maxRecDepth 20000 in
theorem ggX2_turned_X2_isNumber : GoodIn wsX2_turned wsX2_isNumber := goodIn_r _ [6] (by decide +kernel) (by decide +kernel)
set_option maxRecDepth 20000 in
theorem gX2_turned_X2_isNumber : GoodIn wsX2_turned (va_wsS RX2 101 yX2_isNumber wsX2_isNumber) := goodIn_app (goodIn_of _ (by decide +kernel)) ggX2_turned_X2_isNumber
set_option maxRecDepth 20000 in
theorem ggX2_turned_X2_areBitsOf : GoodIn wsX2_turned wsX2_areBitsOf := goodIn_ca (goodIn_r _ [9, 10, 11] (by decide +kernel) (by decide +kernel)) (goodIn_sub (fun _ h => List.mem_cons_of_mem _ (List.mem_append_right _ h)) (by decide +kernel))
set_option maxRecDepth 20000 in
theorem gX2_turned_X2_areBitsOf : GoodIn wsX2_turned (va_wsS RX2 89 yX2_areBitsOf wsX2_areBitsOf) := goodIn_app (goodIn_of _ (by decide +kernel)) ggX2_turned_X2_areBitsOf
set_option maxRecDepth 20000 in
theorem ggX2_turned_X2_isWhole : GoodIn wsX2_turned wsX2_isWhole := goodIn_r _ [14] (by decide +kernel) (by decide +kernel)
set_option maxRecDepth 20000 in
theorem gX2_turned_X2_isWhole : GoodIn wsX2_turned (va_wsS RX2 86 yX2_isWhole wsX2_isWhole) := goodIn_app (goodIn_of _ (by decide +kernel)) ggX2_turned_X2_isWhole
set_option maxRecDepth 20000 in
theorem ggX2_turned_X2_turnedToWhole : GoodIn wsX2_turned wsX2_turnedToWhole := goodIn_ca (goodIn_r _ [17, 12, 13, 5, 14, 18, 19, 20, 21, 22, 23, 24, 25, 26, 27, 28, 29, 30, 31, 32, 33, 34, 35, 36, 37, 38, 39, 40, 41, 42, 43, 44, 45, 46, 47, 48, 49, 50, 51, 52, 53, 54, 55, 56, 57, 58, 59, 60, 61, 62, 63, 64, 65, 66, 67, 68, 69, 70, 71, 72, 73, 74, 75, 10, 11, 76, 77, 78, 79] (by decide +kernel) (by decide +kernel)) (goodIn_sub (fun _ h => List.mem_cons_of_mem _ (List.mem_append_right _ h)) (by decide +kernel))
set_option maxRecDepth 20000 in
theorem gX2_turned_X2_turnedToWhole : GoodIn wsX2_turned (va_wsS RX2 108 yX2_turnedToWhole wsX2_turnedToWhole) := goodIn_app (goodIn_of _ (by decide +kernel)) ggX2_turned_X2_turnedToWhole
set_option maxRecDepth 20000 in
theorem ggX2_turned_X2_turnedToFloating : GoodIn wsX2_turned wsX2_turnedToFloating := goodIn_ca (goodIn_r _ [82, 12, 13, 5, 14, 21, 22, 23, 24, 25, 83, 84, 85, 29, 86, 87, 88, 89, 90, 44, 53, 91, 92, 56, 93, 31, 94, 77, 78, 58, 59, 60, 61, 62, 63, 64, 65, 66, 67, 68, 69, 95, 96, 97, 98, 99, 100, 101, 38, 102, 103, 104, 105, 106, 34, 35, 36, 37, 39, 40, 41, 42, 43, 45, 46, 47, 48, 49, 50, 51, 52, 54, 55, 57] (by decide +kernel) (by decide +kernel)) (goodIn_sub (fun _ h => List.mem_cons_of_mem _ (List.mem_append_right _ h)) (by decide +kernel))
set_option maxRecDepth 20000 in
theorem gX2_turned_X2_turnedToFloating : GoodIn wsX2_turned (va_wsS RX2 112 yX2_turnedToFloating wsX2_turnedToFloating) := goodIn_app (goodIn_of _ (by decide +kernel)) ggX2_turned_X2_turnedToFloating
theorem dX2_turned_0 : decode cX2_turned 0 = .ok (.iload_n 1, 1) := by decide +kernel
theorem dX2_turned_1 : decode cX2_turned 1 = .ok (.invokestatic 101, 3) := by decide +kernel
theorem dX2_turned_4 : decode cX2_turned 4 = .ok (.ifCond .eq 11, 3) := by decide +kernel
theorem dX2_turned_7 : decode cX2_turned 7 = .ok (.iload 4, 2) := by decide +kernel
theorem dX2_turned_9 : decode cX2_turned 9 = .ok (.invokestatic 101, 3) := by decide +kernel
theorem dX2_turned_12 : decode cX2_turned 12 = .ok (.ifCond .ne 7, 3) := by decide +kernel
theorem dX2_turned_15 : decode cX2_turned 15 = .ok (.ldc2_w 104, 3) := by decide +kernel
theorem dX2_turned_18 : decode cX2_turned 18 = .ok (.lreturn, 1) := by decide +kernel
theorem dX2_turned_19 : decode cX2_turned 19 = .ok (.lload_n 2, 1) := by decide +kernel
theorem dX2_turned_20 : decode cX2_turned 20 = .ok (.iload_n 1, 1) := by decide +kernel
theorem dX2_turned_21 : decode cX2_turned 21 = .ok (.invokestatic 89, 3) := by decide +kernel
theorem dX2_turned_24 : decode cX2_turned 24 = .ok (.ifCond .ne 7, 3) := by decide +kernel
theorem dX2_turned_27 : decode cX2_turned 27 = .ok (.ldc2_w 106, 3) := by decide +kernel
theorem dX2_turned_30 : decode cX2_turned 30 = .ok (.lreturn, 1) := by decide +kernel
theorem dX2_turned_31 : decode cX2_turned 31 = .ok (.iload 4, 2) := by decide +kernel
theorem dX2_turned_33 : decode cX2_turned 33 = .ok (.invokestatic 86, 3) := by decide +kernel
theorem dX2_turned_36 : decode cX2_turned 36 = .ok (.ifCond .eq 13, 3) := by decide +kernel
theorem dX2_turned_39 : decode cX2_turned 39 = .ok (.iload_n 1, 1) := by decide +kernel
theorem dX2_turned_40 : decode cX2_turned 40 = .ok (.lload_n 2, 1) := by decide +kernel
theorem dX2_turned_41 : decode cX2_turned 41 = .ok (.iload 4, 2) := by decide +kernel
theorem dX2_turned_43 : decode cX2_turned 43 = .ok (.invokestatic 108, 3) := by decide +kernel
theorem dX2_turned_46 : decode cX2_turned 46 = .ok (.goto 10, 3) := by decide +kernel
theorem dX2_turned_49 : decode cX2_turned 49 = .ok (.iload_n 1, 1) := by decide +kernel
