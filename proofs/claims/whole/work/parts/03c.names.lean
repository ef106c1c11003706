theorem dX2_turned_50 : decode cX2_turned 50 = .ok (.lload_n 2, 1) := by decide +kernel
theorem dX2_turned_51 : decode cX2_turned 51 = .ok (.iload 4, 2) := by decide +kernel
theorem dX2_turned_53 : decode cX2_turned 53 = .ok (.invokestatic 112, 3) := by decide +kernel
theorem dX2_turned_56 : decode cX2_turned 56 = .ok (.lreturn, 1) := by decide +kernel
set_option maxRecDepth 20000 in
theorem ggX2_promoted_X1_has : GoodIn wsX2_promoted wsX1_has := goodIn_r _ [10, 11, 26, 27, 28, 29, 30] (by decide +kernel) (by decide +kernel)
set_option maxRecDepth 20000 in
theorem gX2_promoted_X1_has : GoodIn wsX2_promoted (wsV RX2 50 RX1 yX1_has wsX1_has) := goodIn_app (goodIn_of _ (by decide +kernel)) ggX2_promoted_X1_has
set_option maxRecDepth 20000 in
theorem ggX2_promoted_X2_withoutBox : GoodIn wsX2_promoted wsX2_withoutBox := goodIn_r _ [15, 16, 17, 14, 18] (by decide +kernel) (by decide +kernel)
set_option maxRecDepth 20000 in
theorem gX2_promoted_X2_withoutBox : GoodIn wsX2_promoted (va_wsS RX2 115 yX2_withoutBox wsX2_withoutBox) := goodIn_app (goodIn_of _ (by decide +kernel)) ggX2_promoted_X2_withoutBox
set_option maxRecDepth 20000 in
theorem ggX2_promoted_X2_isNumber : GoodIn wsX2_promoted wsX2_isNumber := goodIn_r _ [21] (by decide +kernel) (by decide +kernel)
set_option maxRecDepth 20000 in
theorem gX2_promoted_X2_isNumber : GoodIn wsX2_promoted (va_wsS RX2 101 yX2_isNumber wsX2_isNumber) := goodIn_app (goodIn_of _ (by decide +kernel)) ggX2_promoted_X2_isNumber
theorem dX2_promoted_0 : decode cX2_promoted 0 = .ok (.aload_n 0, 1) := by decide +kernel
theorem dX2_promoted_1 : decode cX2_promoted 1 = .ok (.getfield 12, 3) := by decide +kernel
theorem dX2_promoted_4 : decode cX2_promoted 4 = .ok (.iload_n 1, 1) := by decide +kernel
theorem dX2_promoted_5 : decode cX2_promoted 5 = .ok (.invokevirtual 50, 3) := by decide +kernel
theorem dX2_promoted_8 : decode cX2_promoted 8 = .ok (.ifCond .ne 5, 3) := by decide +kernel
theorem dX2_promoted_11 : decode cX2_promoted 11 = .ok (.iconst (-1), 1) := by decide +kernel
theorem dX2_promoted_12 : decode cX2_promoted 12 = .ok (.ireturn, 1) := by decide +kernel
theorem dX2_promoted_13 : decode cX2_promoted 13 = .ok (.iload_n 1, 1) := by decide +kernel
theorem dX2_promoted_14 : decode cX2_promoted 14 = .ok (.invokestatic 115, 3) := by decide +kernel
theorem dX2_promoted_17 : decode cX2_promoted 17 = .ok (.istore_n 2, 1) := by decide +kernel
theorem dX2_promoted_18 : decode cX2_promoted 18 = .ok (.iload_n 2, 1) := by decide +kernel
theorem dX2_promoted_19 : decode cX2_promoted 19 = .ok (.invokestatic 101, 3) := by decide +kernel
theorem dX2_promoted_22 : decode cX2_promoted 22 = .ok (.ifCond .eq 11, 3) := by decide +kernel
theorem dX2_promoted_25 : decode cX2_promoted 25 = .ok (.iload_n 2, 1) := by decide +kernel
theorem dX2_promoted_26 : decode cX2_promoted 26 = .ok (.iconst 4, 1) := by decide +kernel
theorem dX2_promoted_27 : decode cX2_promoted 27 = .ok (.invokestatic 118, 3) := by decide +kernel
theorem dX2_promoted_30 : decode cX2_promoted 30 = .ok (.goto 5, 3) := by decide +kernel
theorem dX2_promoted_33 : decode cX2_promoted 33 = .ok (.bipush (-2), 2) := by decide +kernel
theorem dX2_promoted_35 : decode cX2_promoted 35 = .ok (.ireturn, 1) := by decide +kernel
set_option maxRecDepth 20000 in
theorem ggX2_both_X1_has : GoodIn wsX2_both wsX1_has := goodIn_r _ [6, 7, 29, 30, 31, 32, 33] (by decide +kernel) (by decide +kernel)
set_option maxRecDepth 20000 in
theorem gX2_both_X1_has : GoodIn wsX2_both (wsV RX2 50 RX1 yX1_has wsX1_has) := goodIn_app (goodIn_of _ (by decide +kernel)) ggX2_both_X1_has
set_option maxRecDepth 20000 in
theorem ggX2_both_X2_withoutBox : GoodIn wsX2_both wsX2_withoutBox := goodIn_r _ [11, 12, 13, 10, 14] (by decide +kernel) (by decide +kernel)
set_option maxRecDepth 20000 in
theorem gX2_both_X2_withoutBox : GoodIn wsX2_both (va_wsS RX2 115 yX2_withoutBox wsX2_withoutBox) := goodIn_app (goodIn_of _ (by decide +kernel)) ggX2_both_X2_withoutBox
set_option maxRecDepth 20000 in
theorem ggX2_both_X2_isNumber : GoodIn wsX2_both wsX2_isNumber := goodIn_r _ [17] (by decide +kernel) (by decide +kernel)
set_option maxRecDepth 20000 in
theorem gX2_both_X2_isNumber : GoodIn wsX2_both (va_wsS RX2 101 yX2_isNumber wsX2_isNumber) := goodIn_app (goodIn_of _ (by decide +kernel)) ggX2_both_X2_isNumber
set_option maxRecDepth 20000 in
theorem ggX2_both_X2_promotedOfTwo : GoodIn wsX2_both wsX2_promotedOfTwo := goodIn_r _ [20, 21, 22, 23, 24] (by decide +kernel) (by decide +kernel)
set_option maxRecDepth 20000 in
theorem gX2_both_X2_promotedOfTwo : GoodIn wsX2_both (va_wsS RX2 123 yX2_promotedOfTwo wsX2_promotedOfTwo) := goodIn_app (goodIn_of _ (by decide +kernel)) ggX2_both_X2_promotedOfTwo
theorem dX2_both_0 : decode cX2_both 0 = .ok (.aload_n 0, 1) := by decide +kernel
theorem dX2_both_1 : decode cX2_both 1 = .ok (.getfield 12, 3) := by decide +kernel
theorem dX2_both_4 : decode cX2_both 4 = .ok (.iload_n 1, 1) := by decide +kernel
theorem dX2_both_5 : decode cX2_both 5 = .ok (.invokevirtual 50, 3) := by decide +kernel
theorem dX2_both_8 : decode cX2_both 8 = .ok (.ifCond .eq 14, 3) := by decide +kernel
theorem dX2_both_11 : decode cX2_both 11 = .ok (.aload_n 0, 1) := by decide +kernel
theorem dX2_both_12 : decode cX2_both 12 = .ok (.getfield 12, 3) := by decide +kernel
theorem dX2_both_15 : decode cX2_both 15 = .ok (.iload_n 2, 1) := by decide +kernel
theorem dX2_both_16 : decode cX2_both 16 = .ok (.invokevirtual 50, 3) := by decide +kernel
theorem dX2_both_19 : decode cX2_both 19 = .ok (.ifCond .ne 5, 3) := by decide +kernel
theorem dX2_both_22 : decode cX2_both 22 = .ok (.iconst (-1), 1) := by decide +kernel
theorem dX2_both_23 : decode cX2_both 23 = .ok (.ireturn, 1) := by decide +kernel
theorem dX2_both_24 : decode cX2_both 24 = .ok (.iload_n 1, 1) := by decide +kernel
theorem dX2_both_25 : decode cX2_both 25 = .ok (.invokestatic 115, 3) := by decide +kernel
theorem dX2_both_28 : decode cX2_both 28 = .ok (.istore_n 3, 1) := by decide +kernel
theorem dX2_both_29 : decode cX2_both 29 = .ok (.iload_n 2, 1) := by decide +kernel
theorem dX2_both_30 : decode cX2_both 30 = .ok (.invokestatic 115, 3) := by decide +kernel
theorem dX2_both_33 : decode cX2_both 33 = .ok (.istore 4, 2) := by decide +kernel
theorem dX2_both_35 : decode cX2_both 35 = .ok (.iload_n 3, 1) := by decide +kernel
theorem dX2_both_36 : decode cX2_both 36 = .ok (.invokestatic 101, 3) := by decide +kernel
theorem dX2_both_39 : decode cX2_both 39 = .ok (.ifCond .eq 20, 3) := by decide +kernel
theorem dX2_both_42 : decode cX2_both 42 = .ok (.iload 4, 2) := by decide +kernel
theorem dX2_both_44 : decode cX2_both 44 = .ok (.invokestatic 101, 3) := by decide +kernel
theorem dX2_both_47 : decode cX2_both 47 = .ok (.ifCond .eq 12, 3) := by decide +kernel
theorem dX2_both_50 : decode cX2_both 50 = .ok (.iload_n 3, 1) := by decide +kernel
theorem dX2_both_51 : decode cX2_both 51 = .ok (.iload 4, 2) := by decide +kernel
theorem dX2_both_53 : decode cX2_both 53 = .ok (.invokestatic 123, 3) := by decide +kernel
theorem dX2_both_56 : decode cX2_both 56 = .ok (.goto 5, 3) := by decide +kernel
theorem dX2_both_59 : decode cX2_both 59 = .ok (.bipush (-2), 2) := by decide +kernel
theorem dX2_both_61 : decode cX2_both 61 = .ok (.ireturn, 1) := by decide +kernel
set_option maxRecDepth 20000 in
theorem ggX2_conditional_X1_has : GoodIn wsX2_conditional wsX1_has := goodIn_r _ [6, 7, 50, 51, 52, 53, 54] (by decide +kernel) (by decide +kernel)
set_option maxRecDepth 20000 in
theorem gX2_conditional_X1_has : GoodIn wsX2_conditional (wsV RX2 50 RX1 yX1_has wsX1_has) := goodIn_app (goodIn_of _ (by decide +kernel)) ggX2_conditional_X1_has
set_option maxRecDepth 20000 in
theorem ggX2_conditional_X2_withoutBox : GoodIn wsX2_conditional wsX2_withoutBox := goodIn_r _ [11, 12, 13, 10, 14] (by decide +kernel) (by decide +kernel)
set_option maxRecDepth 20000 in
theorem gX2_conditional_X2_withoutBox : GoodIn wsX2_conditional (va_wsS RX2 115 yX2_withoutBox wsX2_withoutBox) := goodIn_app (goodIn_of _ (by decide +kernel)) ggX2_conditional_X2_withoutBox
set_option maxRecDepth 20000 in
theorem ggX2_conditional_X2_isNumber : GoodIn wsX2_conditional wsX2_isNumber := goodIn_r _ [17] (by decide +kernel) (by decide +kernel)
set_option maxRecDepth 20000 in
theorem gX2_conditional_X2_isNumber : GoodIn wsX2_conditional (va_wsS RX2 101 yX2_isNumber wsX2_isNumber) := goodIn_app (goodIn_of _ (by decide +kernel)) ggX2_conditional_X2_isNumber
set_option maxRecDepth 20000 in
theorem ggX2_conditional_X2_isByteAndShort : GoodIn wsX2_conditional wsX2_isByteAndShort := goodIn_r _ [20] (by decide +kernel) (by decide +kernel)
set_option maxRecDepth 20000 in
theorem gX2_conditional_X2_isByteAndShort : GoodIn wsX2_conditional (va_wsS RX2 126 yX2_isByteAndShort wsX2_isByteAndShort) := goodIn_app (goodIn_of _ (by decide +kernel)) ggX2_conditional_X2_isByteAndShort
set_option maxRecDepth 20000 in
theorem ggX2_conditional_X2_promotedOfTwo : GoodIn wsX2_conditional wsX2_promotedOfTwo := goodIn_r _ [23, 24, 25, 26, 27] (by decide +kernel) (by decide +kernel)
set_option maxRecDepth 20000 in
theorem gX2_conditional_X2_promotedOfTwo : GoodIn wsX2_conditional (va_wsS RX2 123 yX2_promotedOfTwo wsX2_promotedOfTwo) := goodIn_app (goodIn_of _ (by decide +kernel)) ggX2_conditional_X2_promotedOfTwo
set_option maxRecDepth 20000 in
theorem ggX2_conditional_X2_boxed : GoodIn wsX2_conditional wsX2_boxed := goodIn_r _ [30, 31, 32, 10, 33] (by decide +kernel) (by decide +kernel)
set_option maxRecDepth 20000 in
theorem gX2_conditional_X2_boxed : GoodIn wsX2_conditional (va_wsS RX2 129 yX2_boxed wsX2_boxed) := goodIn_app (goodIn_of _ (by decide +kernel)) ggX2_conditional_X2_boxed
set_option maxRecDepth 20000 in
theorem ggX2_conditional_X2_conditionalOfReferences : GoodIn wsX2_conditional wsX2_conditionalOfReferences := goodIn_ca (goodIn_r _ [37, 1, 38, 39, 40, 5, 41, 42, 43, 44, 45, 46, 47, 48, 49, 50, 51, 52, 53, 54] (by decide +kernel) (by decide +kernel)) (goodIn_sub (fun _ h => List.mem_cons_of_mem _ (List.mem_append_right _ h)) (by decide +kernel))
set_option maxRecDepth 20000 in
theorem gX2_conditional_X2_conditionalOfReferences : GoodIn wsX2_conditional (wsV RX2 132 RX2 yX2_conditionalOfReferences wsX2_conditionalOfReferences) := goodIn_app (goodIn_of _ (by decide +kernel)) ggX2_conditional_X2_conditionalOfReferences
theorem dX2_conditional_0 : decode cX2_conditional 0 = .ok (.aload_n 0, 1) := by decide +kernel
theorem dX2_conditional_1 : decode cX2_conditional 1 = .ok (.getfield 12, 3) := by decide +kernel
theorem dX2_conditional_4 : decode cX2_conditional 4 = .ok (.iload_n 1, 1) := by decide +kernel
theorem dX2_conditional_5 : decode cX2_conditional 5 = .ok (.invokevirtual 50, 3) := by decide +kernel
theorem dX2_conditional_8 : decode cX2_conditional 8 = .ok (.ifCond .eq 14, 3) := by decide +kernel
theorem dX2_conditional_11 : decode cX2_conditional 11 = .ok (.aload_n 0, 1) := by decide +kernel
theorem dX2_conditional_12 : decode cX2_conditional 12 = .ok (.getfield 12, 3) := by decide +kernel
theorem dX2_conditional_15 : decode cX2_conditional 15 = .ok (.iload_n 2, 1) := by decide +kernel
theorem dX2_conditional_16 : decode cX2_conditional 16 = .ok (.invokevirtual 50, 3) := by decide +kernel
theorem dX2_conditional_19 : decode cX2_conditional 19 = .ok (.ifCond .ne 5, 3) := by decide +kernel
theorem dX2_conditional_22 : decode cX2_conditional 22 = .ok (.iconst (-1), 1) := by decide +kernel
theorem dX2_conditional_23 : decode cX2_conditional 23 = .ok (.ireturn, 1) := by decide +kernel
theorem dX2_conditional_24 : decode cX2_conditional 24 = .ok (.iload_n 1, 1) := by decide +kernel
theorem dX2_conditional_25 : decode cX2_conditional 25 = .ok (.iload_n 2, 1) := by decide +kernel
theorem dX2_conditional_26 : decode cX2_conditional 26 = .ok (.if_icmp .ne 5, 3) := by decide +kernel
theorem dX2_conditional_29 : decode cX2_conditional 29 = .ok (.iload_n 1, 1) := by decide +kernel
theorem dX2_conditional_30 : decode cX2_conditional 30 = .ok (.ireturn, 1) := by decide +kernel
theorem dX2_conditional_31 : decode cX2_conditional 31 = .ok (.iload_n 1, 1) := by decide +kernel
theorem dX2_conditional_32 : decode cX2_conditional 32 = .ok (.invokestatic 115, 3) := by decide +kernel
theorem dX2_conditional_35 : decode cX2_conditional 35 = .ok (.istore_n 3, 1) := by decide +kernel
theorem dX2_conditional_36 : decode cX2_conditional 36 = .ok (.iload_n 2, 1) := by decide +kernel
theorem dX2_conditional_37 : decode cX2_conditional 37 = .ok (.invokestatic 115, 3) := by decide +kernel
theorem dX2_conditional_40 : decode cX2_conditional 40 = .ok (.istore 4, 2) := by decide +kernel
theorem dX2_conditional_42 : decode cX2_conditional 42 = .ok (.iload_n 3, 1) := by decide +kernel
theorem dX2_conditional_43 : decode cX2_conditional 43 = .ok (.iload 4, 2) := by decide +kernel
theorem dX2_conditional_45 : decode cX2_conditional 45 = .ok (.if_icmp .ne 5, 3) := by decide +kernel
theorem dX2_conditional_48 : decode cX2_conditional 48 = .ok (.iload_n 3, 1) := by decide +kernel
theorem dX2_conditional_49 : decode cX2_conditional 49 = .ok (.ireturn, 1) := by decide +kernel
theorem dX2_conditional_50 : decode cX2_conditional 50 = .ok (.iload_n 3, 1) := by decide +kernel
theorem dX2_conditional_51 : decode cX2_conditional 51 = .ok (.invokestatic 101, 3) := by decide +kernel
theorem dX2_conditional_54 : decode cX2_conditional 54 = .ok (.ifCond .eq 31, 3) := by decide +kernel
theorem dX2_conditional_57 : decode cX2_conditional 57 = .ok (.iload 4, 2) := by decide +kernel
theorem dX2_conditional_59 : decode cX2_conditional 59 = .ok (.invokestatic 101, 3) := by decide +kernel
theorem dX2_conditional_62 : decode cX2_conditional 62 = .ok (.ifCond .eq 23, 3) := by decide +kernel
theorem dX2_conditional_65 : decode cX2_conditional 65 = .ok (.iload_n 3, 1) := by decide +kernel
theorem dX2_conditional_66 : decode cX2_conditional 66 = .ok (.iload 4, 2) := by decide +kernel
theorem dX2_conditional_68 : decode cX2_conditional 68 = .ok (.invokestatic 126, 3) := by decide +kernel
theorem dX2_conditional_71 : decode cX2_conditional 71 = .ok (.ifCond .eq 7, 3) := by decide +kernel
theorem dX2_conditional_74 : decode cX2_conditional 74 = .ok (.iconst 3, 1) := by decide +kernel
theorem dX2_conditional_75 : decode cX2_conditional 75 = .ok (.goto 9, 3) := by decide +kernel
theorem dX2_conditional_78 : decode cX2_conditional 78 = .ok (.iload_n 3, 1) := by decide +kernel
theorem dX2_conditional_79 : decode cX2_conditional 79 = .ok (.iload 4, 2) := by decide +kernel
theorem dX2_conditional_81 : decode cX2_conditional 81 = .ok (.invokestatic 123, 3) := by decide +kernel
theorem dX2_conditional_84 : decode cX2_conditional 84 = .ok (.ireturn, 1) := by decide +kernel
theorem dX2_conditional_85 : decode cX2_conditional 85 = .ok (.aload_n 0, 1) := by decide +kernel
theorem dX2_conditional_86 : decode cX2_conditional 86 = .ok (.iload_n 1, 1) := by decide +kernel
theorem dX2_conditional_87 : decode cX2_conditional 87 = .ok (.invokestatic 129, 3) := by decide +kernel
theorem dX2_conditional_90 : decode cX2_conditional 90 = .ok (.iload_n 2, 1) := by decide +kernel
theorem dX2_conditional_91 : decode cX2_conditional 91 = .ok (.invokestatic 129, 3) := by decide +kernel
theorem dX2_conditional_94 : decode cX2_conditional 94 = .ok (.invokevirtual 132, 3) := by decide +kernel
theorem dX2_conditional_97 : decode cX2_conditional 97 = .ok (.ireturn, 1) := by decide +kernel
theorem dX2_isPrimitive_0 : decode cX2_isPrimitive 0 = .ok (.iload_n 0, 1) := by decide +kernel
theorem dX2_isPrimitive_1 : decode cX2_isPrimitive 1 = .ok (.ifCond .lt 13, 3) := by decide +kernel
theorem dX2_isPrimitive_4 : decode cX2_isPrimitive 4 = .ok (.iload_n 0, 1) := by decide +kernel
theorem dX2_isPrimitive_5 : decode cX2_isPrimitive 5 = .ok (.bipush 7, 2) := by decide +kernel
theorem dX2_isPrimitive_7 : decode cX2_isPrimitive 7 = .ok (.if_icmp .gt 7, 3) := by decide +kernel
theorem dX2_isPrimitive_10 : decode cX2_isPrimitive 10 = .ok (.iconst 1, 1) := by decide +kernel
theorem dX2_isPrimitive_11 : decode cX2_isPrimitive 11 = .ok (.goto 4, 3) := by decide +kernel
theorem dX2_isPrimitive_14 : decode cX2_isPrimitive 14 = .ok (.iconst 0, 1) := by decide +kernel
theorem dX2_isPrimitive_15 : decode cX2_isPrimitive 15 = .ok (.ireturn, 1) := by decide +kernel
theorem dX2_isNumber_0 : decode cX2_isNumber 0 = .ok (.iload_n 0, 1) := by decide +kernel
theorem dX2_isNumber_1 : decode cX2_isNumber 1 = .ok (.iconst 1, 1) := by decide +kernel
theorem dX2_isNumber_2 : decode cX2_isNumber 2 = .ok (.if_icmp .lt 13, 3) := by decide +kernel
theorem dX2_isNumber_5 : decode cX2_isNumber 5 = .ok (.iload_n 0, 1) := by decide +kernel
theorem dX2_isNumber_6 : decode cX2_isNumber 6 = .ok (.bipush 7, 2) := by decide +kernel
theorem dX2_isNumber_8 : decode cX2_isNumber 8 = .ok (.if_icmp .gt 7, 3) := by decide +kernel
theorem dX2_isNumber_11 : decode cX2_isNumber 11 = .ok (.iconst 1, 1) := by decide +kernel
theorem dX2_isNumber_12 : decode cX2_isNumber 12 = .ok (.goto 4, 3) := by decide +kernel
theorem dX2_isNumber_15 : decode cX2_isNumber 15 = .ok (.iconst 0, 1) := by decide +kernel
theorem dX2_isNumber_16 : decode cX2_isNumber 16 = .ok (.ireturn, 1) := by decide +kernel
theorem dX2_isWhole_0 : decode cX2_isWhole 0 = .ok (.iload_n 0, 1) := by decide +kernel
theorem dX2_isWhole_1 : decode cX2_isWhole 1 = .ok (.iconst 1, 1) := by decide +kernel
theorem dX2_isWhole_2 : decode cX2_isWhole 2 = .ok (.if_icmp .lt 12, 3) := by decide +kernel
theorem dX2_isWhole_5 : decode cX2_isWhole 5 = .ok (.iload_n 0, 1) := by decide +kernel
theorem dX2_isWhole_6 : decode cX2_isWhole 6 = .ok (.iconst 5, 1) := by decide +kernel
theorem dX2_isWhole_7 : decode cX2_isWhole 7 = .ok (.if_icmp .gt 7, 3) := by decide +kernel
theorem dX2_isWhole_10 : decode cX2_isWhole 10 = .ok (.iconst 1, 1) := by decide +kernel
theorem dX2_isWhole_11 : decode cX2_isWhole 11 = .ok (.goto 4, 3) := by decide +kernel
theorem dX2_isWhole_14 : decode cX2_isWhole 14 = .ok (.iconst 0, 1) := by decide +kernel
theorem dX2_isWhole_15 : decode cX2_isWhole 15 = .ok (.ireturn, 1) := by decide +kernel
theorem dX2_isBox_0 : decode cX2_isBox 0 = .ok (.iload_n 0, 1) := by decide +kernel
theorem dX2_isBox_1 : decode cX2_isBox 1 = .ok (.bipush 8, 2) := by decide +kernel
theorem dX2_isBox_3 : decode cX2_isBox 3 = .ok (.if_icmp .lt 13, 3) := by decide +kernel
theorem dX2_isBox_6 : decode cX2_isBox 6 = .ok (.iload_n 0, 1) := by decide +kernel
theorem dX2_isBox_7 : decode cX2_isBox 7 = .ok (.bipush 15, 2) := by decide +kernel
theorem dX2_isBox_9 : decode cX2_isBox 9 = .ok (.if_icmp .gt 7, 3) := by decide +kernel
theorem dX2_isBox_12 : decode cX2_isBox 12 = .ok (.iconst 1, 1) := by decide +kernel
theorem dX2_isBox_13 : decode cX2_isBox 13 = .ok (.goto 4, 3) := by decide +kernel
theorem dX2_isBox_16 : decode cX2_isBox 16 = .ok (.iconst 0, 1) := by decide +kernel
theorem dX2_isBox_17 : decode cX2_isBox 17 = .ok (.ireturn, 1) := by decide +kernel
set_option maxRecDepth 20000 in
theorem ggX2_boxed_X2_isPrimitive : GoodIn wsX2_boxed wsX2_isPrimitive := goodIn_r _ [4] (by decide +kernel) (by decide +kernel)
set_option maxRecDepth 20000 in
theorem gX2_boxed_X2_isPrimitive : GoodIn wsX2_boxed (va_wsS RX2 72 yX2_isPrimitive wsX2_isPrimitive) := goodIn_app (goodIn_of _ (by decide +kernel)) ggX2_boxed_X2_isPrimitive
theorem dX2_boxed_0 : decode cX2_boxed 0 = .ok (.iload_n 0, 1) := by decide +kernel
theorem dX2_boxed_1 : decode cX2_boxed 1 = .ok (.invokestatic 72, 3) := by decide +kernel
theorem dX2_boxed_4 : decode cX2_boxed 4 = .ok (.ifCond .eq 10, 3) := by decide +kernel
theorem dX2_boxed_7 : decode cX2_boxed 7 = .ok (.iload_n 0, 1) := by decide +kernel
theorem dX2_boxed_8 : decode cX2_boxed 8 = .ok (.bipush 8, 2) := by decide +kernel
theorem dX2_boxed_10 : decode cX2_boxed 10 = .ok (.iadd, 1) := by decide +kernel
theorem dX2_boxed_11 : decode cX2_boxed 11 = .ok (.goto 4, 3) := by decide +kernel
theorem dX2_boxed_14 : decode cX2_boxed 14 = .ok (.iload_n 0, 1) := by decide +kernel
theorem dX2_boxed_15 : decode cX2_boxed 15 = .ok (.ireturn, 1) := by decide +kernel
set_option maxRecDepth 20000 in
theorem ggX2_withoutBox_X2_isBox : GoodIn wsX2_withoutBox wsX2_isBox := goodIn_r _ [4] (by decide +kernel) (by decide +kernel)
set_option maxRecDepth 20000 in
theorem gX2_withoutBox_X2_isBox : GoodIn wsX2_withoutBox (va_wsS RX2 135 yX2_isBox wsX2_isBox) := goodIn_app (goodIn_of _ (by decide +kernel)) ggX2_withoutBox_X2_isBox
theorem dX2_withoutBox_0 : decode cX2_withoutBox 0 = .ok (.iload_n 0, 1) := by decide +kernel
theorem dX2_withoutBox_1 : decode cX2_withoutBox 1 = .ok (.invokestatic 135, 3) := by decide +kernel
theorem dX2_withoutBox_4 : decode cX2_withoutBox 4 = .ok (.ifCond .eq 10, 3) := by decide +kernel
theorem dX2_withoutBox_7 : decode cX2_withoutBox 7 = .ok (.iload_n 0, 1) := by decide +kernel
theorem dX2_withoutBox_8 : decode cX2_withoutBox 8 = .ok (.bipush 8, 2) := by decide +kernel
theorem dX2_withoutBox_10 : decode cX2_withoutBox 10 = .ok (.isub, 1) := by decide +kernel
theorem dX2_withoutBox_11 : decode cX2_withoutBox 11 = .ok (.goto 4, 3) := by decide +kernel
theorem dX2_withoutBox_14 : decode cX2_withoutBox 14 = .ok (.iload_n 0, 1) := by decide +kernel
theorem dX2_withoutBox_15 : decode cX2_withoutBox 15 = .ok (.ireturn, 1) := by decide +kernel
theorem dX2_isContext_0 : decode cX2_isContext 0 = .ok (.iload_n 0, 1) := by decide +kernel
theorem dX2_isContext_1 : decode cX2_isContext 1 = .ok (.ifCond .lt 12, 3) := by decide +kernel
theorem dX2_isContext_4 : decode cX2_isContext 4 = .ok (.iload_n 0, 1) := by decide +kernel
theorem dX2_isContext_5 : decode cX2_isContext 5 = .ok (.iconst 5, 1) := by decide +kernel
theorem dX2_isContext_6 : decode cX2_isContext 6 = .ok (.if_icmp .gt 7, 3) := by decide +kernel
theorem dX2_isContext_9 : decode cX2_isContext 9 = .ok (.iconst 1, 1) := by decide +kernel
theorem dX2_isContext_10 : decode cX2_isContext 10 = .ok (.goto 4, 3) := by decide +kernel
theorem dX2_isContext_13 : decode cX2_isContext 13 = .ok (.iconst 0, 1) := by decide +kernel
theorem dX2_isContext_14 : decode cX2_isContext 14 = .ok (.ireturn, 1) := by decide +kernel
set_option maxRecDepth 20000 in
theorem ggX2_allowedKind_X2_isNumber : GoodIn wsX2_allowedKind wsX2_isNumber := goodIn_r _ [5] (by decide +kernel) (by decide +kernel)
set_option maxRecDepth 20000 in
theorem gX2_allowedKind_X2_isNumber : GoodIn wsX2_allowedKind (va_wsS RX2 101 yX2_isNumber wsX2_isNumber) := goodIn_app (goodIn_of _ (by decide +kernel)) ggX2_allowedKind_X2_isNumber
set_option maxRecDepth 20000 in
theorem ggX2_allowedKind_X2_stepsBetween : GoodIn wsX2_allowedKind wsX2_stepsBetween := goodIn_ca (goodIn_r _ [9, 10, 11, 4, 12, 13, 14, 15, 16, 17, 18, 2, 3, 5, 19, 20, 21, 22, 23, 24, 25, 26, 27, 28, 29, 30, 31, 32, 33, 34, 35, 36, 37, 38, 39, 40, 41, 42, 43, 44, 45, 46, 47, 48, 49, 50, 51, 52, 53, 54, 55, 56, 57, 58, 59, 60, 61, 62, 63, 64, 65, 66, 67, 68, 69, 70, 71, 72, 73, 74, 75, 76, 77, 78] (by decide +kernel) (by decide +kernel)) (goodIn_sub (fun _ h => List.mem_cons_of_mem _ (List.mem_append_right _ h)) (by decide +kernel))
set_option maxRecDepth 20000 in
theorem gX2_allowedKind_X2_stepsBetween : GoodIn wsX2_allowedKind (wsV RX2 138 RX2 yX2_stepsBetween wsX2_stepsBetween) := goodIn_app (goodIn_of _ (by decide +kernel)) ggX2_allowedKind_X2_stepsBetween
theorem dX2_allowedKind_0 : decode cX2_allowedKind 0 = .ok (.iload_n 3, 1) := by decide +kernel
theorem dX2_allowedKind_1 : decode cX2_allowedKind 1 = .ok (.iconst 4, 1) := by decide +kernel
theorem dX2_allowedKind_2 : decode cX2_allowedKind 2 = .ok (.if_icmp .ne 9, 3) := by decide +kernel
theorem dX2_allowedKind_5 : decode cX2_allowedKind 5 = .ok (.iload_n 2, 1) := by decide +kernel
theorem dX2_allowedKind_6 : decode cX2_allowedKind 6 = .ok (.bipush 21, 2) := by decide +kernel
theorem dX2_allowedKind_8 : decode cX2_allowedKind 8 = .ok (.if_icmp .ne 15, 3) := by decide +kernel
theorem dX2_allowedKind_11 : decode cX2_allowedKind 11 = .ok (.iload_n 3, 1) := by decide +kernel
theorem dX2_allowedKind_12 : decode cX2_allowedKind 12 = .ok (.iconst 5, 1) := by decide +kernel
theorem dX2_allowedKind_13 : decode cX2_allowedKind 13 = .ok (.if_icmp .ne 12, 3) := by decide +kernel
theorem dX2_allowedKind_16 : decode cX2_allowedKind 16 = .ok (.iload_n 2, 1) := by decide +kernel
theorem dX2_allowedKind_17 : decode cX2_allowedKind 17 = .ok (.invokestatic 101, 3) := by decide +kernel
theorem dX2_allowedKind_20 : decode cX2_allowedKind 20 = .ok (.ifCond .ne 5, 3) := by decide +kernel
theorem dX2_allowedKind_23 : decode cX2_allowedKind 23 = .ok (.iconst 0, 1) := by decide +kernel
theorem dX2_allowedKind_24 : decode cX2_allowedKind 24 = .ok (.ireturn, 1) := by decide +kernel
theorem dX2_allowedKind_25 : decode cX2_allowedKind 25 = .ok (.iload_n 3, 1) := by decide +kernel
theorem dX2_allowedKind_26 : decode cX2_allowedKind 26 = .ok (.iconst 4, 1) := by decide +kernel
theorem dX2_allowedKind_27 : decode cX2_allowedKind 27 = .ok (.if_icmp .ne 14, 3) := by decide +kernel
theorem dX2_allowedKind_30 : decode cX2_allowedKind 30 = .ok (.iload_n 1, 1) := by decide +kernel
theorem dX2_allowedKind_31 : decode cX2_allowedKind 31 = .ok (.bipush 21, 2) := by decide +kernel
theorem dX2_allowedKind_33 : decode cX2_allowedKind 33 = .ok (.if_icmp .eq 8, 3) := by decide +kernel
theorem dX2_allowedKind_36 : decode cX2_allowedKind 36 = .ok (.bipush 12, 2) := by decide +kernel
theorem dX2_allowedKind_38 : decode cX2_allowedKind 38 = .ok (.goto 9, 3) := by decide +kernel
theorem dX2_allowedKind_41 : decode cX2_allowedKind 41 = .ok (.aload_n 0, 1) := by decide +kernel
theorem dX2_allowedKind_42 : decode cX2_allowedKind 42 = .ok (.iload_n 1, 1) := by decide +kernel
theorem dX2_allowedKind_43 : decode cX2_allowedKind 43 = .ok (.iload_n 2, 1) := by decide +kernel
theorem dX2_allowedKind_44 : decode cX2_allowedKind 44 = .ok (.invokevirtual 138, 3) := by decide +kernel
theorem dX2_allowedKind_47 : decode cX2_allowedKind 47 = .ok (.istore 4, 2) := by decide +kernel
theorem dX2_allowedKind_49 : decode cX2_allowedKind 49 = .ok (.getstatic 141, 3) := by decide +kernel
theorem dX2_allowedKind_52 : decode cX2_allowedKind 52 = .ok (.iload_n 3, 1) := by decide +kernel
theorem dX2_allowedKind_53 : decode cX2_allowedKind 53 = .ok (.iaload, 1) := by decide +kernel
theorem dX2_allowedKind_54 : decode cX2_allowedKind 54 = .ok (.iload 4, 2) := by decide +kernel
theorem dX2_allowedKind_56 : decode cX2_allowedKind 56 = .ok (.ishr, 1) := by decide +kernel
theorem dX2_allowedKind_57 : decode cX2_allowedKind 57 = .ok (.iconst 1, 1) := by decide +kernel
theorem dX2_allowedKind_58 : decode cX2_allowedKind 58 = .ok (.iand, 1) := by decide +kernel
theorem dX2_allowedKind_59 : decode cX2_allowedKind 59 = .ok (.iconst 1, 1) := by decide +kernel
theorem dX2_allowedKind_60 : decode cX2_allowedKind 60 = .ok (.if_icmp .ne 8, 3) := by decide +kernel
theorem dX2_allowedKind_63 : decode cX2_allowedKind 63 = .ok (.iload 4, 2) := by decide +kernel
theorem dX2_allowedKind_65 : decode cX2_allowedKind 65 = .ok (.goto 4, 3) := by decide +kernel
theorem dX2_allowedKind_68 : decode cX2_allowedKind 68 = .ok (.iconst 0, 1) := by decide +kernel
theorem dX2_allowedKind_69 : decode cX2_allowedKind 69 = .ok (.ireturn, 1) := by decide +kernel
set_option maxRecDepth 20000 in
theorem ggX2_stepsBetween_X2_isPrimitive : GoodIn wsX2_stepsBetween wsX2_isPrimitive := goodIn_r _ [4] (by decide +kernel) (by decide +kernel)
set_option maxRecDepth 20000 in
theorem gX2_stepsBetween_X2_isPrimitive : GoodIn wsX2_stepsBetween (va_wsS RX2 72 yX2_isPrimitive wsX2_isPrimitive) := goodIn_app (goodIn_of _ (by decide +kernel)) ggX2_stepsBetween_X2_isPrimitive
set_option maxRecDepth 20000 in
theorem ggX2_stepsBetween_X2_stepBetweenPrimitives : GoodIn wsX2_stepsBetween wsX2_stepBetweenPrimitives := goodIn_r _ [7, 8, 9, 3, 10, 11, 12, 13] (by decide +kernel) (by decide +kernel)
set_option maxRecDepth 20000 in
theorem gX2_stepsBetween_X2_stepBetweenPrimitives : GoodIn wsX2_stepsBetween (va_wsS RX2 144 yX2_stepBetweenPrimitives wsX2_stepBetweenPrimitives) := goodIn_app (goodIn_of _ (by decide +kernel)) ggX2_stepsBetween_X2_stepBetweenPrimitives
set_option maxRecDepth 20000 in
theorem ggX2_stepsBetween_X2_stepsByBoxing : GoodIn wsX2_stepsBetween wsX2_stepsByBoxing := goodIn_ca (goodIn_r _ [17, 18, 19, 20, 3, 21, 1, 2, 4, 22, 23, 24, 25, 26, 27, 28, 29, 30, 65, 66, 67, 68, 69, 70, 71, 72, 73] (by decide +kernel) (by decide +kernel)) (goodIn_sub (fun _ h => List.mem_cons_of_mem _ (List.mem_append_right _ h)) (by decide +kernel))
set_option maxRecDepth 20000 in
theorem gX2_stepsBetween_X2_stepsByBoxing : GoodIn wsX2_stepsBetween (wsV RX2 147 RX2 yX2_stepsByBoxing wsX2_stepsByBoxing) := goodIn_app (goodIn_of _ (by decide +kernel)) ggX2_stepsBetween_X2_stepsByBoxing
set_option maxRecDepth 20000 in
theorem ggX2_stepsBetween_X2_stepsByUnboxing : GoodIn wsX2_stepsBetween wsX2_stepsByUnboxing := goodIn_ca (goodIn_r _ [34, 18, 35, 36, 3, 37, 19, 20, 21, 1, 2, 4, 38, 39, 40, 25, 41, 42, 43, 44, 45, 46, 47, 48, 23, 24, 26, 27, 28, 29, 30, 49, 50, 51, 52, 53, 54, 55, 56, 57, 58, 59, 60, 8, 9, 10, 11, 12, 13, 65, 66, 67, 68, 69, 70, 71, 72, 73] (by decide +kernel) (by decide +kernel)) (goodIn_sub (fun _ h => List.mem_cons_of_mem _ (List.mem_append_right _ h)) (by decide +kernel))
set_option maxRecDepth 20000 in
theorem gX2_stepsBetween_X2_stepsByUnboxing : GoodIn wsX2_stepsBetween (wsV RX2 150 RX2 yX2_stepsByUnboxing wsX2_stepsByUnboxing) := goodIn_app (goodIn_of _ (by decide +kernel)) ggX2_stepsBetween_X2_stepsByUnboxing
set_option maxRecDepth 20000 in
theorem ggX2_stepsBetween_X2_stepBetweenReferences : GoodIn wsX2_stepsBetween wsX2_stepBetweenReferences := goodIn_ca (goodIn_r _ [64, 18, 22, 23, 24, 25, 26, 27, 28, 29, 30, 38, 39, 40, 41, 42, 43, 44, 45, 46, 47, 48, 49, 50, 51, 52, 53, 54, 55, 56, 57, 65, 66, 67, 68, 69, 70, 71, 72, 73] (by decide +kernel) (by decide +kernel)) (goodIn_sub (fun _ h => List.mem_cons_of_mem _ (List.mem_append_right _ h)) (by decide +kernel))
set_option maxRecDepth 20000 in
theorem gX2_stepsBetween_X2_stepBetweenReferences : GoodIn wsX2_stepsBetween (wsV RX2 153 RX2 yX2_stepBetweenReferences wsX2_stepBetweenReferences) := goodIn_app (goodIn_of _ (by decide +kernel)) ggX2_stepsBetween_X2_stepBetweenReferences
theorem dX2_stepsBetween_0 : decode cX2_stepsBetween 0 = .ok (.iload_n 1, 1) := by decide +kernel
theorem dX2_stepsBetween_1 : decode cX2_stepsBetween 1 = .ok (.iload_n 2, 1) := by decide +kernel
theorem dX2_stepsBetween_2 : decode cX2_stepsBetween 2 = .ok (.if_icmp .ne 5, 3) := by decide +kernel
theorem dX2_stepsBetween_5 : decode cX2_stepsBetween 5 = .ok (.iconst 1, 1) := by decide +kernel
theorem dX2_stepsBetween_6 : decode cX2_stepsBetween 6 = .ok (.ireturn, 1) := by decide +kernel
theorem dX2_stepsBetween_7 : decode cX2_stepsBetween 7 = .ok (.iload_n 1, 1) := by decide +kernel
theorem dX2_stepsBetween_8 : decode cX2_stepsBetween 8 = .ok (.invokestatic 72, 3) := by decide +kernel
theorem dX2_stepsBetween_11 : decode cX2_stepsBetween 11 = .ok (.ifCond .eq 25, 3) := by decide +kernel
theorem dX2_stepsBetween_14 : decode cX2_stepsBetween 14 = .ok (.iload_n 2, 1) := by decide +kernel
theorem dX2_stepsBetween_15 : decode cX2_stepsBetween 15 = .ok (.invokestatic 72, 3) := by decide +kernel
theorem dX2_stepsBetween_18 : decode cX2_stepsBetween 18 = .ok (.ifCond .eq 11, 3) := by decide +kernel
theorem dX2_stepsBetween_21 : decode cX2_stepsBetween 21 = .ok (.iload_n 1, 1) := by decide +kernel
theorem dX2_stepsBetween_22 : decode cX2_stepsBetween 22 = .ok (.iload_n 2, 1) := by decide +kernel
theorem dX2_stepsBetween_23 : decode cX2_stepsBetween 23 = .ok (.invokestatic 144, 3) := by decide +kernel
theorem dX2_stepsBetween_26 : decode cX2_stepsBetween 26 = .ok (.goto 9, 3) := by decide +kernel
theorem dX2_stepsBetween_29 : decode cX2_stepsBetween 29 = .ok (.aload_n 0, 1) := by decide +kernel
theorem dX2_stepsBetween_30 : decode cX2_stepsBetween 30 = .ok (.iload_n 1, 1) := by decide +kernel
theorem dX2_stepsBetween_31 : decode cX2_stepsBetween 31 = .ok (.iload_n 2, 1) := by decide +kernel
theorem dX2_stepsBetween_32 : decode cX2_stepsBetween 32 = .ok (.invokevirtual 147, 3) := by decide +kernel
theorem dX2_stepsBetween_35 : decode cX2_stepsBetween 35 = .ok (.ireturn, 1) := by decide +kernel
theorem dX2_stepsBetween_36 : decode cX2_stepsBetween 36 = .ok (.iload_n 2, 1) := by decide +kernel
theorem dX2_stepsBetween_37 : decode cX2_stepsBetween 37 = .ok (.invokestatic 72, 3) := by decide +kernel
theorem dX2_stepsBetween_40 : decode cX2_stepsBetween 40 = .ok (.ifCond .eq 12, 3) := by decide +kernel
theorem dX2_stepsBetween_43 : decode cX2_stepsBetween 43 = .ok (.aload_n 0, 1) := by decide +kernel
theorem dX2_stepsBetween_44 : decode cX2_stepsBetween 44 = .ok (.iload_n 1, 1) := by decide +kernel
theorem dX2_stepsBetween_45 : decode cX2_stepsBetween 45 = .ok (.iload_n 2, 1) := by decide +kernel
theorem dX2_stepsBetween_46 : decode cX2_stepsBetween 46 = .ok (.invokevirtual 150, 3) := by decide +kernel
theorem dX2_stepsBetween_49 : decode cX2_stepsBetween 49 = .ok (.goto 9, 3) := by decide +kernel
theorem dX2_stepsBetween_52 : decode cX2_stepsBetween 52 = .ok (.aload_n 0, 1) := by decide +kernel
theorem dX2_stepsBetween_53 : decode cX2_stepsBetween 53 = .ok (.iload_n 1, 1) := by decide +kernel
theorem dX2_stepsBetween_54 : decode cX2_stepsBetween 54 = .ok (.iload_n 2, 1) := by decide +kernel
theorem dX2_stepsBetween_55 : decode cX2_stepsBetween 55 = .ok (.invokevirtual 153, 3) := by decide +kernel
theorem dX2_stepsBetween_58 : decode cX2_stepsBetween 58 = .ok (.ireturn, 1) := by decide +kernel
set_option maxRecDepth 20000 in
theorem ggX2_stepBetweenPrimitives_X2_isWider : GoodIn wsX2_stepBetweenPrimitives wsX2_isWider := goodIn_r _ [4, 5, 6, 3, 7] (by decide +kernel) (by decide +kernel)
set_option maxRecDepth 20000 in
theorem gX2_stepBetweenPrimitives_X2_isWider : GoodIn wsX2_stepBetweenPrimitives (va_wsS RX2 156 yX2_isWider wsX2_isWider) := goodIn_app (goodIn_of _ (by decide +kernel)) ggX2_stepBetweenPrimitives_X2_isWider
theorem dX2_stepBetweenPrimitives_0 : decode cX2_stepBetweenPrimitives 0 = .ok (.iload_n 0, 1) := by decide +kernel
theorem dX2_stepBetweenPrimitives_1 : decode cX2_stepBetweenPrimitives 1 = .ok (.ifCond .eq 7, 3) := by decide +kernel
theorem dX2_stepBetweenPrimitives_4 : decode cX2_stepBetweenPrimitives 4 = .ok (.iload_n 1, 1) := by decide +kernel
theorem dX2_stepBetweenPrimitives_5 : decode cX2_stepBetweenPrimitives 5 = .ok (.ifCond .ne 5, 3) := by decide +kernel
theorem dX2_stepBetweenPrimitives_8 : decode cX2_stepBetweenPrimitives 8 = .ok (.iconst 0, 1) := by decide +kernel
theorem dX2_stepBetweenPrimitives_9 : decode cX2_stepBetweenPrimitives 9 = .ok (.ireturn, 1) := by decide +kernel
theorem dX2_stepBetweenPrimitives_10 : decode cX2_stepBetweenPrimitives 10 = .ok (.iload_n 0, 1) := by decide +kernel
theorem dX2_stepBetweenPrimitives_11 : decode cX2_stepBetweenPrimitives 11 = .ok (.iload_n 1, 1) := by decide +kernel
theorem dX2_stepBetweenPrimitives_12 : decode cX2_stepBetweenPrimitives 12 = .ok (.invokestatic 156, 3) := by decide +kernel
theorem dX2_stepBetweenPrimitives_15 : decode cX2_stepBetweenPrimitives 15 = .ok (.ifCond .eq 5, 3) := by decide +kernel
theorem dX2_stepBetweenPrimitives_18 : decode cX2_stepBetweenPrimitives 18 = .ok (.iconst 2, 1) := by decide +kernel
theorem dX2_stepBetweenPrimitives_19 : decode cX2_stepBetweenPrimitives 19 = .ok (.ireturn, 1) := by decide +kernel
theorem dX2_stepBetweenPrimitives_20 : decode cX2_stepBetweenPrimitives 20 = .ok (.iload_n 0, 1) := by decide +kernel
theorem dX2_stepBetweenPrimitives_21 : decode cX2_stepBetweenPrimitives 21 = .ok (.iconst 2, 1) := by decide +kernel
theorem dX2_stepBetweenPrimitives_22 : decode cX2_stepBetweenPrimitives 22 = .ok (.if_icmp .ne 12, 3) := by decide +kernel
theorem dX2_stepBetweenPrimitives_25 : decode cX2_stepBetweenPrimitives 25 = .ok (.iload_n 1, 1) := by decide +kernel
theorem dX2_stepBetweenPrimitives_26 : decode cX2_stepBetweenPrimitives 26 = .ok (.iconst 1, 1) := by decide +kernel
theorem dX2_stepBetweenPrimitives_27 : decode cX2_stepBetweenPrimitives 27 = .ok (.if_icmp .ne 7, 3) := by decide +kernel
theorem dX2_stepBetweenPrimitives_30 : decode cX2_stepBetweenPrimitives 30 = .ok (.iconst 4, 1) := by decide +kernel
theorem dX2_stepBetweenPrimitives_31 : decode cX2_stepBetweenPrimitives 31 = .ok (.goto 4, 3) := by decide +kernel
theorem dX2_stepBetweenPrimitives_34 : decode cX2_stepBetweenPrimitives 34 = .ok (.iconst 3, 1) := by decide +kernel
theorem dX2_stepBetweenPrimitives_35 : decode cX2_stepBetweenPrimitives 35 = .ok (.ireturn, 1) := by decide +kernel
set_option maxRecDepth 20000 in
theorem ggX2_isWider_X2_isNumber : GoodIn wsX2_isWider wsX2_isNumber := goodIn_r _ [4] (by decide +kernel) (by decide +kernel)
set_option maxRecDepth 20000 in
theorem gX2_isWider_X2_isNumber : GoodIn wsX2_isWider (va_wsS RX2 101 yX2_isNumber wsX2_isNumber) := goodIn_app (goodIn_of _ (by decide +kernel)) ggX2_isWider_X2_isNumber
theorem dX2_isWider_0 : decode cX2_isWider 0 = .ok (.iload_n 0, 1) := by decide +kernel
theorem dX2_isWider_1 : decode cX2_isWider 1 = .ok (.invokestatic 101, 3) := by decide +kernel
theorem dX2_isWider_4 : decode cX2_isWider 4 = .ok (.ifCond .eq 19, 3) := by decide +kernel
theorem dX2_isWider_7 : decode cX2_isWider 7 = .ok (.iload_n 1, 1) := by decide +kernel
theorem dX2_isWider_8 : decode cX2_isWider 8 = .ok (.invokestatic 101, 3) := by decide +kernel
theorem dX2_isWider_11 : decode cX2_isWider 11 = .ok (.ifCond .eq 12, 3) := by decide +kernel
theorem dX2_isWider_14 : decode cX2_isWider 14 = .ok (.iload_n 1, 1) := by decide +kernel
theorem dX2_isWider_15 : decode cX2_isWider 15 = .ok (.iload_n 0, 1) := by decide +kernel
theorem dX2_isWider_16 : decode cX2_isWider 16 = .ok (.if_icmp .le 7, 3) := by decide +kernel
theorem dX2_isWider_19 : decode cX2_isWider 19 = .ok (.iconst 1, 1) := by decide +kernel
theorem dX2_isWider_20 : decode cX2_isWider 20 = .ok (.goto 4, 3) := by decide +kernel
theorem dX2_isWider_23 : decode cX2_isWider 23 = .ok (.iconst 0, 1) := by decide +kernel
theorem dX2_isWider_24 : decode cX2_isWider 24 = .ok (.istore_n 2, 1) := by decide +kernel
theorem dX2_isWider_25 : decode cX2_isWider 25 = .ok (.iload_n 2, 1) := by decide +kernel
theorem dX2_isWider_26 : decode cX2_isWider 26 = .ok (.ifCond .eq 17, 3) := by decide +kernel
theorem dX2_isWider_29 : decode cX2_isWider 29 = .ok (.iload_n 0, 1) := by decide +kernel
theorem dX2_isWider_30 : decode cX2_isWider 30 = .ok (.iconst 1, 1) := by decide +kernel
theorem dX2_isWider_31 : decode cX2_isWider 31 = .ok (.if_icmp .ne 8, 3) := by decide +kernel
theorem dX2_isWider_34 : decode cX2_isWider 34 = .ok (.iload_n 1, 1) := by decide +kernel
theorem dX2_isWider_35 : decode cX2_isWider 35 = .ok (.iconst 4, 1) := by decide +kernel
theorem dX2_isWider_36 : decode cX2_isWider 36 = .ok (.if_icmp .lt 7, 3) := by decide +kernel
theorem dX2_isWider_39 : decode cX2_isWider 39 = .ok (.iconst 1, 1) := by decide +kernel
theorem dX2_isWider_40 : decode cX2_isWider 40 = .ok (.goto 4, 3) := by decide +kernel
theorem dX2_isWider_43 : decode cX2_isWider 43 = .ok (.iconst 0, 1) := by decide +kernel
theorem dX2_isWider_44 : decode cX2_isWider 44 = .ok (.ireturn, 1) := by decide +kernel
set_option maxRecDepth 20000 in
theorem ggX2_stepsByBoxing_X2_boxed : GoodIn wsX2_stepsByBoxing wsX2_boxed := goodIn_r _ [5, 6, 7, 4, 8] (by decide +kernel) (by decide +kernel)
set_option maxRecDepth 20000 in
theorem gX2_stepsByBoxing_X2_boxed : GoodIn wsX2_stepsByBoxing (va_wsS RX2 129 yX2_boxed wsX2_boxed) := goodIn_app (goodIn_of _ (by decide +kernel)) ggX2_stepsByBoxing_X2_boxed
set_option maxRecDepth 20000 in
theorem ggX2_stepsByBoxing_X1_isUnder : GoodIn wsX2_stepsByBoxing wsX1_isUnder := goodIn_ca (goodIn_r _ [13, 14, 15, 16, 12, 17, 22, 23, 24, 25, 26] (by decide +kernel) (by decide +kernel)) (goodIn_sub (fun _ h => List.mem_cons_of_mem _ (List.mem_append_right _ h)) (by decide +kernel))
set_option maxRecDepth 20000 in
theorem gX2_stepsByBoxing_X1_isUnder : GoodIn wsX2_stepsByBoxing (wsV RX2 75 RX1 yX1_isUnder wsX1_isUnder) := goodIn_app (goodIn_of _ (by decide +kernel)) ggX2_stepsByBoxing_X1_isUnder
theorem dX2_stepsByBoxing_0 : decode cX2_stepsByBoxing 0 = .ok (.iload_n 1, 1) := by decide +kernel
theorem dX2_stepsByBoxing_1 : decode cX2_stepsByBoxing 1 = .ok (.invokestatic 129, 3) := by decide +kernel
theorem dX2_stepsByBoxing_4 : decode cX2_stepsByBoxing 4 = .ok (.istore_n 3, 1) := by decide +kernel
theorem dX2_stepsByBoxing_5 : decode cX2_stepsByBoxing 5 = .ok (.iload_n 3, 1) := by decide +kernel
theorem dX2_stepsByBoxing_6 : decode cX2_stepsByBoxing 6 = .ok (.iload_n 2, 1) := by decide +kernel
theorem dX2_stepsByBoxing_7 : decode cX2_stepsByBoxing 7 = .ok (.if_icmp .ne 5, 3) := by decide +kernel
theorem dX2_stepsByBoxing_10 : decode cX2_stepsByBoxing 10 = .ok (.iconst 5, 1) := by decide +kernel
theorem dX2_stepsByBoxing_11 : decode cX2_stepsByBoxing 11 = .ok (.ireturn, 1) := by decide +kernel
theorem dX2_stepsByBoxing_12 : decode cX2_stepsByBoxing 12 = .ok (.aload_n 0, 1) := by decide +kernel
theorem dX2_stepsByBoxing_13 : decode cX2_stepsByBoxing 13 = .ok (.getfield 12, 3) := by decide +kernel
theorem dX2_stepsByBoxing_16 : decode cX2_stepsByBoxing 16 = .ok (.iload_n 3, 1) := by decide +kernel
theorem dX2_stepsByBoxing_17 : decode cX2_stepsByBoxing 17 = .ok (.iload_n 2, 1) := by decide +kernel
theorem dX2_stepsByBoxing_18 : decode cX2_stepsByBoxing 18 = .ok (.invokevirtual 75, 3) := by decide +kernel
theorem dX2_stepsByBoxing_21 : decode cX2_stepsByBoxing 21 = .ok (.ifCond .eq 8, 3) := by decide +kernel
theorem dX2_stepsByBoxing_24 : decode cX2_stepsByBoxing 24 = .ok (.bipush 6, 2) := by decide +kernel
theorem dX2_stepsByBoxing_26 : decode cX2_stepsByBoxing 26 = .ok (.goto 4, 3) := by decide +kernel
theorem dX2_stepsByBoxing_29 : decode cX2_stepsByBoxing 29 = .ok (.iconst 0, 1) := by decide +kernel
theorem dX2_stepsByBoxing_30 : decode cX2_stepsByBoxing 30 = .ok (.ireturn, 1) := by decide +kernel
set_option maxRecDepth 20000 in
theorem ggX2_stepsByUnboxing_X2_isBox : GoodIn wsX2_stepsByUnboxing wsX2_isBox := goodIn_r _ [5] (by decide +kernel) (by decide +kernel)
set_option maxRecDepth 20000 in
theorem gX2_stepsByUnboxing_X2_isBox : GoodIn wsX2_stepsByUnboxing (va_wsS RX2 135 yX2_isBox wsX2_isBox) := goodIn_app (goodIn_of _ (by decide +kernel)) ggX2_stepsByUnboxing_X2_isBox
set_option maxRecDepth 20000 in
theorem ggX2_stepsByUnboxing_X2_boxed : GoodIn wsX2_stepsByUnboxing wsX2_boxed := goodIn_r _ [8, 9, 10, 4, 11] (by decide +kernel) (by decide +kernel)
set_option maxRecDepth 20000 in
theorem gX2_stepsByUnboxing_X2_boxed : GoodIn wsX2_stepsByUnboxing (va_wsS RX2 129 yX2_boxed wsX2_boxed) := goodIn_app (goodIn_of _ (by decide +kernel)) ggX2_stepsByUnboxing_X2_boxed
set_option maxRecDepth 20000 in
theorem ggX2_stepsByUnboxing_X1_goesDown : GoodIn wsX2_stepsByUnboxing wsX1_goesDown := goodIn_ca (goodIn_r _ [16, 17, 18, 19, 20, 15, 21, 22, 23, 24, 25, 26, 27, 28, 29, 30, 31, 32, 33, 34, 35, 36, 37, 38, 39, 53, 54, 55, 56, 57] (by decide +kernel) (by decide +kernel)) (goodIn_sub (fun _ h => List.mem_cons_of_mem _ (List.mem_append_right _ h)) (by decide +kernel))
set_option maxRecDepth 20000 in
theorem gX2_stepsByUnboxing_X1_goesDown : GoodIn wsX2_stepsByUnboxing (wsV RX2 159 RX1 yX1_goesDown wsX1_goesDown) := goodIn_app (goodIn_of _ (by decide +kernel)) ggX2_stepsByUnboxing_X1_goesDown
set_option maxRecDepth 20000 in
theorem ggX2_stepsByUnboxing_X2_withoutBox : GoodIn wsX2_stepsByUnboxing wsX2_withoutBox := goodIn_r _ [42, 2, 3, 4, 5] (by decide +kernel) (by decide +kernel)
set_option maxRecDepth 20000 in
theorem gX2_stepsByUnboxing_X2_withoutBox : GoodIn wsX2_stepsByUnboxing (va_wsS RX2 115 yX2_withoutBox wsX2_withoutBox) := goodIn_app (goodIn_of _ (by decide +kernel)) ggX2_stepsByUnboxing_X2_withoutBox
set_option maxRecDepth 20000 in
theorem ggX2_stepsByUnboxing_X2_isWider : GoodIn wsX2_stepsByUnboxing wsX2_isWider := goodIn_r _ [45, 46, 47, 4, 48] (by decide +kernel) (by decide +kernel)
set_option maxRecDepth 20000 in
theorem gX2_stepsByUnboxing_X2_isWider : GoodIn wsX2_stepsByUnboxing (va_wsS RX2 156 yX2_isWider wsX2_isWider) := goodIn_app (goodIn_of _ (by decide +kernel)) ggX2_stepsByUnboxing_X2_isWider
theorem dX2_stepsByUnboxing_0 : decode cX2_stepsByUnboxing 0 = .ok (.iload_n 1, 1) := by decide +kernel
theorem dX2_stepsByUnboxing_1 : decode cX2_stepsByUnboxing 1 = .ok (.invokestatic 135, 3) := by decide +kernel
theorem dX2_stepsByUnboxing_4 : decode cX2_stepsByUnboxing 4 = .ok (.ifCond .ne 25, 3) := by decide +kernel
theorem dX2_stepsByUnboxing_7 : decode cX2_stepsByUnboxing 7 = .ok (.aload_n 0, 1) := by decide +kernel
theorem dX2_stepsByUnboxing_8 : decode cX2_stepsByUnboxing 8 = .ok (.getfield 12, 3) := by decide +kernel
theorem dX2_stepsByUnboxing_11 : decode cX2_stepsByUnboxing 11 = .ok (.iload_n 1, 1) := by decide +kernel
theorem dX2_stepsByUnboxing_12 : decode cX2_stepsByUnboxing 12 = .ok (.iload_n 2, 1) := by decide +kernel
theorem dX2_stepsByUnboxing_13 : decode cX2_stepsByUnboxing 13 = .ok (.invokestatic 129, 3) := by decide +kernel
theorem dX2_stepsByUnboxing_16 : decode cX2_stepsByUnboxing 16 = .ok (.invokevirtual 159, 3) := by decide +kernel
theorem dX2_stepsByUnboxing_19 : decode cX2_stepsByUnboxing 19 = .ok (.ifCond .eq 8, 3) := by decide +kernel
theorem dX2_stepsByUnboxing_22 : decode cX2_stepsByUnboxing 22 = .ok (.bipush 11, 2) := by decide +kernel
theorem dX2_stepsByUnboxing_24 : decode cX2_stepsByUnboxing 24 = .ok (.goto 4, 3) := by decide +kernel
theorem dX2_stepsByUnboxing_27 : decode cX2_stepsByUnboxing 27 = .ok (.iconst 0, 1) := by decide +kernel
theorem dX2_stepsByUnboxing_28 : decode cX2_stepsByUnboxing 28 = .ok (.ireturn, 1) := by decide +kernel
theorem dX2_stepsByUnboxing_29 : decode cX2_stepsByUnboxing 29 = .ok (.iload_n 1, 1) := by decide +kernel
theorem dX2_stepsByUnboxing_30 : decode cX2_stepsByUnboxing 30 = .ok (.invokestatic 115, 3) := by decide +kernel
theorem dX2_stepsByUnboxing_33 : decode cX2_stepsByUnboxing 33 = .ok (.istore_n 3, 1) := by decide +kernel
theorem dX2_stepsByUnboxing_34 : decode cX2_stepsByUnboxing 34 = .ok (.iload_n 3, 1) := by decide +kernel
theorem dX2_stepsByUnboxing_35 : decode cX2_stepsByUnboxing 35 = .ok (.iload_n 2, 1) := by decide +kernel
theorem dX2_stepsByUnboxing_36 : decode cX2_stepsByUnboxing 36 = .ok (.if_icmp .ne 6, 3) := by decide +kernel
theorem dX2_stepsByUnboxing_39 : decode cX2_stepsByUnboxing 39 = .ok (.bipush 7, 2) := by decide +kernel
theorem dX2_stepsByUnboxing_41 : decode cX2_stepsByUnboxing 41 = .ok (.ireturn, 1) := by decide +kernel
theorem dX2_stepsByUnboxing_42 : decode cX2_stepsByUnboxing 42 = .ok (.iload_n 3, 1) := by decide +kernel
theorem dX2_stepsByUnboxing_43 : decode cX2_stepsByUnboxing 43 = .ok (.iload_n 2, 1) := by decide +kernel
theorem dX2_stepsByUnboxing_44 : decode cX2_stepsByUnboxing 44 = .ok (.invokestatic 156, 3) := by decide +kernel
theorem dX2_stepsByUnboxing_47 : decode cX2_stepsByUnboxing 47 = .ok (.ifCond .eq 8, 3) := by decide +kernel
theorem dX2_stepsByUnboxing_50 : decode cX2_stepsByUnboxing 50 = .ok (.bipush 8, 2) := by decide +kernel
theorem dX2_stepsByUnboxing_52 : decode cX2_stepsByUnboxing 52 = .ok (.goto 4, 3) := by decide +kernel
theorem dX2_stepsByUnboxing_55 : decode cX2_stepsByUnboxing 55 = .ok (.iconst 0, 1) := by decide +kernel
theorem dX2_stepsByUnboxing_56 : decode cX2_stepsByUnboxing 56 = .ok (.ireturn, 1) := by decide +kernel
set_option maxRecDepth 20000 in
theorem ggX2_stepBetweenReferences_X1_isUnder : GoodIn wsX2_stepBetweenReferences wsX1_isUnder := goodIn_ca (goodIn_r _ [6, 7, 8, 9, 5, 10, 35, 36, 37, 38, 39] (by decide +kernel) (by decide +kernel)) (goodIn_sub (fun _ h => List.mem_cons_of_mem _ (List.mem_append_right _ h)) (by decide +kernel))
set_option maxRecDepth 20000 in
theorem gX2_stepBetweenReferences_X1_isUnder : GoodIn wsX2_stepBetweenReferences (wsV RX2 75 RX1 yX1_isUnder wsX1_isUnder) := goodIn_app (goodIn_of _ (by decide +kernel)) ggX2_stepBetweenReferences_X1_isUnder
set_option maxRecDepth 20000 in
theorem ggX2_stepBetweenReferences_X1_goesDown : GoodIn wsX2_stepBetweenReferences wsX1_goesDown := goodIn_ca (goodIn_r _ [14, 15, 16, 17, 18, 5, 19, 20, 21, 3, 4, 6, 7, 8, 9, 10, 22, 23, 24, 25, 26, 27, 28, 29, 30, 35, 36, 37, 38, 39] (by decide +kernel) (by decide +kernel)) (goodIn_sub (fun _ h => List.mem_cons_of_mem _ (List.mem_append_right _ h)) (by decide +kernel))
set_option maxRecDepth 20000 in
theorem gX2_stepBetweenReferences_X1_goesDown : GoodIn wsX2_stepBetweenReferences (wsV RX2 159 RX1 yX1_goesDown wsX1_goesDown) := goodIn_app (goodIn_of _ (by decide +kernel)) ggX2_stepBetweenReferences_X1_goesDown
theorem dX2_stepBetweenReferences_0 : decode cX2_stepBetweenReferences 0 = .ok (.aload_n 0, 1) := by decide +kernel
theorem dX2_stepBetweenReferences_1 : decode cX2_stepBetweenReferences 1 = .ok (.getfield 12, 3) := by decide +kernel
theorem dX2_stepBetweenReferences_4 : decode cX2_stepBetweenReferences 4 = .ok (.iload_n 1, 1) := by decide +kernel
theorem dX2_stepBetweenReferences_5 : decode cX2_stepBetweenReferences 5 = .ok (.iload_n 2, 1) := by decide +kernel
theorem dX2_stepBetweenReferences_6 : decode cX2_stepBetweenReferences 6 = .ok (.invokevirtual 75, 3) := by decide +kernel
theorem dX2_stepBetweenReferences_9 : decode cX2_stepBetweenReferences 9 = .ok (.ifCond .eq 6, 3) := by decide +kernel
theorem dX2_stepBetweenReferences_12 : decode cX2_stepBetweenReferences 12 = .ok (.bipush 9, 2) := by decide +kernel
theorem dX2_stepBetweenReferences_14 : decode cX2_stepBetweenReferences 14 = .ok (.ireturn, 1) := by decide +kernel
theorem dX2_stepBetweenReferences_15 : decode cX2_stepBetweenReferences 15 = .ok (.aload_n 0, 1) := by decide +kernel
theorem dX2_stepBetweenReferences_16 : decode cX2_stepBetweenReferences 16 = .ok (.getfield 12, 3) := by decide +kernel
theorem dX2_stepBetweenReferences_19 : decode cX2_stepBetweenReferences 19 = .ok (.iload_n 1, 1) := by decide +kernel
theorem dX2_stepBetweenReferences_20 : decode cX2_stepBetweenReferences 20 = .ok (.iload_n 2, 1) := by decide +kernel
theorem dX2_stepBetweenReferences_21 : decode cX2_stepBetweenReferences 21 = .ok (.invokevirtual 159, 3) := by decide +kernel
theorem dX2_stepBetweenReferences_24 : decode cX2_stepBetweenReferences 24 = .ok (.ifCond .eq 8, 3) := by decide +kernel
theorem dX2_stepBetweenReferences_27 : decode cX2_stepBetweenReferences 27 = .ok (.bipush 10, 2) := by decide +kernel
theorem dX2_stepBetweenReferences_29 : decode cX2_stepBetweenReferences 29 = .ok (.goto 4, 3) := by decide +kernel
theorem dX2_stepBetweenReferences_32 : decode cX2_stepBetweenReferences 32 = .ok (.iconst 0, 1) := by decide +kernel
theorem dX2_stepBetweenReferences_33 : decode cX2_stepBetweenReferences 33 = .ok (.ireturn, 1) := by decide +kernel
set_option maxRecDepth 20000 in
theorem ggX2_constantFits_X2_withoutBox : GoodIn wsX2_constantFits wsX2_withoutBox := goodIn_r _ [4, 5, 6, 3, 7] (by decide +kernel) (by decide +kernel)
set_option maxRecDepth 20000 in
theorem gX2_constantFits_X2_withoutBox : GoodIn wsX2_constantFits (va_wsS RX2 115 yX2_withoutBox wsX2_withoutBox) := goodIn_app (goodIn_of _ (by decide +kernel)) ggX2_constantFits_X2_withoutBox
set_option maxRecDepth 20000 in
theorem ggX2_constantFits_X2_areBitsOf : GoodIn wsX2_constantFits wsX2_areBitsOf := goodIn_ca (goodIn_r _ [10, 11, 12] (by decide +kernel) (by decide +kernel)) (goodIn_sub (fun _ h => List.mem_cons_of_mem _ (List.mem_append_right _ h)) (by decide +kernel))
set_option maxRecDepth 20000 in
theorem gX2_constantFits_X2_areBitsOf : GoodIn wsX2_constantFits (va_wsS RX2 89 yX2_areBitsOf wsX2_areBitsOf) := goodIn_app (goodIn_of _ (by decide +kernel)) ggX2_constantFits_X2_areBitsOf
theorem dX2_constantFits_0 : decode cX2_constantFits 0 = .ok (.iload_n 3, 1) := by decide +kernel
theorem dX2_constantFits_1 : decode cX2_constantFits 1 = .ok (.invokestatic 115, 3) := by decide +kernel
theorem dX2_constantFits_4 : decode cX2_constantFits 4 = .ok (.istore 4, 2) := by decide +kernel
theorem dX2_constantFits_6 : decode cX2_constantFits 6 = .ok (.iload_n 2, 1) := by decide +kernel
theorem dX2_constantFits_7 : decode cX2_constantFits 7 = .ok (.iconst 4, 1) := by decide +kernel
theorem dX2_constantFits_8 : decode cX2_constantFits 8 = .ok (.if_icmp .gt 28, 3) := by decide +kernel
theorem dX2_constantFits_11 : decode cX2_constantFits 11 = .ok (.iload 4, 2) := by decide +kernel
theorem dX2_constantFits_13 : decode cX2_constantFits 13 = .ok (.iconst 1, 1) := by decide +kernel
theorem dX2_constantFits_14 : decode cX2_constantFits 14 = .ok (.if_icmp .lt 22, 3) := by decide +kernel
theorem dX2_constantFits_17 : decode cX2_constantFits 17 = .ok (.iload 4, 2) := by decide +kernel
theorem dX2_constantFits_19 : decode cX2_constantFits 19 = .ok (.iconst 3, 1) := by decide +kernel
theorem dX2_constantFits_20 : decode cX2_constantFits 20 = .ok (.if_icmp .gt 16, 3) := by decide +kernel
theorem dX2_constantFits_23 : decode cX2_constantFits 23 = .ok (.lload_n 0, 1) := by decide +kernel
theorem dX2_constantFits_24 : decode cX2_constantFits 24 = .ok (.iload 4, 2) := by decide +kernel
theorem dX2_constantFits_26 : decode cX2_constantFits 26 = .ok (.invokestatic 89, 3) := by decide +kernel
theorem dX2_constantFits_29 : decode cX2_constantFits 29 = .ok (.ifCond .eq 7, 3) := by decide +kernel
theorem dX2_constantFits_32 : decode cX2_constantFits 32 = .ok (.iconst 1, 1) := by decide +kernel
theorem dX2_constantFits_33 : decode cX2_constantFits 33 = .ok (.goto 4, 3) := by decide +kernel
theorem dX2_constantFits_36 : decode cX2_constantFits 36 = .ok (.iconst 0, 1) := by decide +kernel
theorem dX2_constantFits_37 : decode cX2_constantFits 37 = .ok (.ireturn, 1) := by decide +kernel
theorem dX2_areBitsOf_0 : decode cX2_areBitsOf 0 = .ok (.lload_n 0, 1) := by decide +kernel
theorem dX2_areBitsOf_1 : decode cX2_areBitsOf 1 = .ok (.getstatic 162, 3) := by decide +kernel
theorem dX2_areBitsOf_4 : decode cX2_areBitsOf 4 = .ok (.iload_n 2, 1) := by decide +kernel
theorem dX2_areBitsOf_5 : decode cX2_areBitsOf 5 = .ok (.laload, 1) := by decide +kernel
theorem dX2_areBitsOf_6 : decode cX2_areBitsOf 6 = .ok (.lcmp, 1) := by decide +kernel
theorem dX2_areBitsOf_7 : decode cX2_areBitsOf 7 = .ok (.ifCond .lt 17, 3) := by decide +kernel
theorem dX2_areBitsOf_10 : decode cX2_areBitsOf 10 = .ok (.lload_n 0, 1) := by decide +kernel
theorem dX2_areBitsOf_11 : decode cX2_areBitsOf 11 = .ok (.getstatic 165, 3) := by decide +kernel
theorem dX2_areBitsOf_14 : decode cX2_areBitsOf 14 = .ok (.iload_n 2, 1) := by decide +kernel
theorem dX2_areBitsOf_15 : decode cX2_areBitsOf 15 = .ok (.laload, 1) := by decide +kernel
theorem dX2_areBitsOf_16 : decode cX2_areBitsOf 16 = .ok (.lcmp, 1) := by decide +kernel
theorem dX2_areBitsOf_17 : decode cX2_areBitsOf 17 = .ok (.ifCond .gt 7, 3) := by decide +kernel
theorem dX2_areBitsOf_20 : decode cX2_areBitsOf 20 = .ok (.iconst 1, 1) := by decide +kernel
theorem dX2_areBitsOf_21 : decode cX2_areBitsOf 21 = .ok (.goto 4, 3) := by decide +kernel
theorem dX2_areBitsOf_24 : decode cX2_areBitsOf 24 = .ok (.iconst 0, 1) := by decide +kernel
theorem dX2_areBitsOf_25 : decode cX2_areBitsOf 25 = .ok (.ireturn, 1) := by decide +kernel
theorem dX2_formatOf_0 : decode cX2_formatOf 0 = .ok (.iload_n 0, 1) := by decide +kernel
theorem dX2_formatOf_1 : decode cX2_formatOf 1 = .ok (.bipush 6, 2) := by decide +kernel
theorem dX2_formatOf_3 : decode cX2_formatOf 3 = .ok (.if_icmp .ne 9, 3) := by decide +kernel
theorem dX2_formatOf_6 : decode cX2_formatOf 6 = .ok (.getstatic 168, 3) := by decide +kernel
theorem dX2_formatOf_9 : decode cX2_formatOf 9 = .ok (.goto 6, 3) := by decide +kernel
theorem dX2_formatOf_12 : decode cX2_formatOf 12 = .ok (.getstatic 174, 3) := by decide +kernel
theorem dX2_formatOf_15 : decode cX2_formatOf 15 = .ok (.areturn, 1) := by decide +kernel
set_option maxRecDepth 20000 in
theorem ggX2_turnedToFloating_X2_isWhole : GoodIn wsX2_turnedToFloating wsX2_isWhole := goodIn_r _ [4] (by decide +kernel) (by decide +kernel)
set_option maxRecDepth 20000 in
theorem gX2_turnedToFloating_X2_isWhole : GoodIn wsX2_turnedToFloating (va_wsS RX2 86 yX2_isWhole wsX2_isWhole) := goodIn_app (goodIn_of _ (by decide +kernel)) ggX2_turnedToFloating_X2_isWhole
set_option maxRecDepth 20000 in
theorem ggX2_turnedToFloating_X2_formatOf : GoodIn wsX2_turnedToFloating wsX2_formatOf := goodIn_r _ [7, 8, 9] (by decide +kernel) (by decide +kernel)
set_option maxRecDepth 20000 in
theorem gX2_turnedToFloating_X2_formatOf : GoodIn wsX2_turnedToFloating (va_wsS RX2 177 yX2_formatOf wsX2_formatOf) := goodIn_app (goodIn_of _ (by decide +kernel)) ggX2_turnedToFloating_X2_formatOf
set_option maxRecDepth 20000 in
theorem ggX2_turnedToFloating_X0_fromLong : GoodIn wsX2_turnedToFloating wsX0_fromLong := goodIn_ca (goodIn_r _ [14, 15, 16, 17, 13, 18, 19, 20, 21, 22, 23, 24, 25, 26, 27, 28, 29, 30, 31, 32, 33, 34, 35, 36, 37, 38, 39, 40, 41, 42, 43, 44, 45, 46, 47, 48] (by decide +kernel) (by decide +kernel)) (goodIn_sub (fun _ h => List.mem_cons_of_mem _ (List.mem_append_right _ h)) (by decide +kernel))
set_option maxRecDepth 20000 in
theorem gX2_turnedToFloating_X0_fromLong : GoodIn wsX2_turnedToFloating (wsV RX2 181 RX0 yX0_fromLong wsX0_fromLong) := goodIn_app (goodIn_of _ (by decide +kernel)) ggX2_turnedToFloating_X0_fromLong
set_option maxRecDepth 20000 in
theorem ggX2_turnedToFloating_X0_fromFormat : GoodIn wsX2_turnedToFloating wsX0_fromFormat := goodIn_ca (goodIn_r _ [52, 25, 53, 54, 55, 56, 13, 57, 48, 58, 44, 45, 46, 47, 59, 60, 61, 62, 19, 63, 64, 65, 66, 67, 68, 69, 70, 20, 71, 72, 23, 73, 15, 16, 17, 18, 21, 22, 24, 26, 27, 28, 29, 30, 31, 32, 33, 34, 35, 36, 37, 38, 39, 40, 41, 42, 43] (by decide +kernel) (by decide +kernel)) (goodIn_sub (fun _ h => List.mem_cons_of_mem _ (List.mem_append_right _ h)) (by decide +kernel))
set_option maxRecDepth 20000 in
theorem gX2_turnedToFloating_X0_fromFormat : GoodIn wsX2_turnedToFloating (wsV RX2 185 RX0 yX0_fromFormat wsX0_fromFormat) := goodIn_app (goodIn_of _ (by decide +kernel)) ggX2_turnedToFloating_X0_fromFormat
theorem dX2_turnedToFloating_0 : decode cX2_turnedToFloating 0 = .ok (.iload_n 0, 1) := by decide +kernel
theorem dX2_turnedToFloating_1 : decode cX2_turnedToFloating 1 = .ok (.invokestatic 86, 3) := by decide +kernel
theorem dX2_turnedToFloating_4 : decode cX2_turnedToFloating 4 = .ok (.ifCond .eq 12, 3) := by decide +kernel
theorem dX2_turnedToFloating_7 : decode cX2_turnedToFloating 7 = .ok (.iload_n 3, 1) := by decide +kernel
theorem dX2_turnedToFloating_8 : decode cX2_turnedToFloating 8 = .ok (.invokestatic 177, 3) := by decide +kernel
theorem dX2_turnedToFloating_11 : decode cX2_turnedToFloating 11 = .ok (.lload_n 1, 1) := by decide +kernel
theorem dX2_turnedToFloating_12 : decode cX2_turnedToFloating 12 = .ok (.invokevirtual 181, 3) := by decide +kernel
theorem dX2_turnedToFloating_15 : decode cX2_turnedToFloating 15 = .ok (.lreturn, 1) := by decide +kernel
theorem dX2_turnedToFloating_16 : decode cX2_turnedToFloating 16 = .ok (.iload_n 3, 1) := by decide +kernel
theorem dX2_turnedToFloating_17 : decode cX2_turnedToFloating 17 = .ok (.invokestatic 177, 3) := by decide +kernel
theorem dX2_turnedToFloating_20 : decode cX2_turnedToFloating 20 = .ok (.iload_n 0, 1) := by decide +kernel
theorem dX2_turnedToFloating_21 : decode cX2_turnedToFloating 21 = .ok (.invokestatic 177, 3) := by decide +kernel
theorem dX2_turnedToFloating_24 : decode cX2_turnedToFloating 24 = .ok (.lload_n 1, 1) := by decide +kernel
theorem dX2_turnedToFloating_25 : decode cX2_turnedToFloating 25 = .ok (.invokevirtual 185, 3) := by decide +kernel
theorem dX2_turnedToFloating_28 : decode cX2_turnedToFloating 28 = .ok (.lreturn, 1) := by decide +kernel
set_option maxRecDepth 20000 in
theorem ggX2_turnedToWhole_X2_isWhole : GoodIn wsX2_turnedToWhole wsX2_isWhole := goodIn_r _ [4] (by decide +kernel) (by decide +kernel)
set_option maxRecDepth 20000 in
theorem gX2_turnedToWhole_X2_isWhole : GoodIn wsX2_turnedToWhole (va_wsS RX2 86 yX2_isWhole wsX2_isWhole) := goodIn_app (goodIn_of _ (by decide +kernel)) ggX2_turnedToWhole_X2_isWhole
set_option maxRecDepth 20000 in
theorem ggX2_turnedToWhole_X2_lowestBits : GoodIn wsX2_turnedToWhole wsX2_lowestBits := goodIn_r _ [7] (by decide +kernel) (by decide +kernel)
set_option maxRecDepth 20000 in
theorem gX2_turnedToWhole_X2_lowestBits : GoodIn wsX2_turnedToWhole (va_wsS RX2 189 yX2_lowestBits wsX2_lowestBits) := goodIn_app (goodIn_of _ (by decide +kernel)) ggX2_turnedToWhole_X2_lowestBits
set_option maxRecDepth 20000 in
theorem ggX2_turnedToWhole_X2_formatOf : GoodIn wsX2_turnedToWhole wsX2_formatOf := goodIn_r _ [10, 11, 12] (by decide +kernel) (by decide +kernel)
set_option maxRecDepth 20000 in
theorem gX2_turnedToWhole_X2_formatOf : GoodIn wsX2_turnedToWhole (va_wsS RX2 177 yX2_formatOf wsX2_formatOf) := goodIn_app (goodIn_of _ (by decide +kernel)) ggX2_turnedToWhole_X2_formatOf
set_option maxRecDepth 20000 in
theorem ggX2_turnedToWhole_X0_toLong : GoodIn wsX2_turnedToWhole wsX0_toLong := goodIn_ca (goodIn_r _ [17, 18, 19, 20, 21, 22, 23, 16, 24, 25, 26, 27, 28, 29, 30, 31, 32, 33, 34, 35, 36, 37, 38, 39, 40, 41, 42, 43, 44, 45, 46, 47, 48, 49, 50, 51, 52, 53, 54, 55, 56, 57, 58, 59] (by decide +kernel) (by decide +kernel)) (goodIn_sub (fun _ h => List.mem_cons_of_mem _ (List.mem_append_right _ h)) (by decide +kernel))
set_option maxRecDepth 20000 in
theorem gX2_turnedToWhole_X0_toLong : GoodIn wsX2_turnedToWhole (wsV RX2 193 RX0 yX0_toLong wsX0_toLong) := goodIn_app (goodIn_of _ (by decide +kernel)) ggX2_turnedToWhole_X0_toLong
set_option maxRecDepth 20000 in
theorem ggX2_turnedToWhole_X2_nearestInt : GoodIn wsX2_turnedToWhole wsX2_nearestInt := goodIn_ca (goodIn_r _ [62, 63, 64, 65, 66, 43, 67, 68, 42, 44] (by decide +kernel) (by decide +kernel)) (goodIn_sub (fun _ h => List.mem_cons_of_mem _ (List.mem_append_right _ h)) (by decide +kernel))
set_option maxRecDepth 20000 in
theorem gX2_turnedToWhole_X2_nearestInt : GoodIn wsX2_turnedToWhole (va_wsS RX2 196 yX2_nearestInt wsX2_nearestInt) := goodIn_app (goodIn_of _ (by decide +kernel)) ggX2_turnedToWhole_X2_nearestInt
theorem dX2_turnedToWhole_0 : decode cX2_turnedToWhole 0 = .ok (.iload_n 0, 1) := by decide +kernel
theorem dX2_turnedToWhole_1 : decode cX2_turnedToWhole 1 = .ok (.invokestatic 86, 3) := by decide +kernel
theorem dX2_turnedToWhole_4 : decode cX2_turnedToWhole 4 = .ok (.ifCond .eq 9, 3) := by decide +kernel
theorem dX2_turnedToWhole_7 : decode cX2_turnedToWhole 7 = .ok (.lload_n 1, 1) := by decide +kernel
theorem dX2_turnedToWhole_8 : decode cX2_turnedToWhole 8 = .ok (.iload_n 3, 1) := by decide +kernel
theorem dX2_turnedToWhole_9 : decode cX2_turnedToWhole 9 = .ok (.invokestatic 189, 3) := by decide +kernel
theorem dX2_turnedToWhole_12 : decode cX2_turnedToWhole 12 = .ok (.lreturn, 1) := by decide +kernel
theorem dX2_turnedToWhole_13 : decode cX2_turnedToWhole 13 = .ok (.iload_n 0, 1) := by decide +kernel
theorem dX2_turnedToWhole_14 : decode cX2_turnedToWhole 14 = .ok (.invokestatic 177, 3) := by decide +kernel
theorem dX2_turnedToWhole_17 : decode cX2_turnedToWhole 17 = .ok (.lload_n 1, 1) := by decide +kernel
theorem dX2_turnedToWhole_18 : decode cX2_turnedToWhole 18 = .ok (.invokevirtual 193, 3) := by decide +kernel
theorem dX2_turnedToWhole_21 : decode cX2_turnedToWhole 21 = .ok (.lstore 4, 2) := by decide +kernel
theorem dX2_turnedToWhole_23 : decode cX2_turnedToWhole 23 = .ok (.iload_n 3, 1) := by decide +kernel
theorem dX2_turnedToWhole_24 : decode cX2_turnedToWhole 24 = .ok (.iconst 5, 1) := by decide +kernel
theorem dX2_turnedToWhole_25 : decode cX2_turnedToWhole 25 = .ok (.if_icmp .ne 8, 3) := by decide +kernel
theorem dX2_turnedToWhole_28 : decode cX2_turnedToWhole 28 = .ok (.lload 4, 2) := by decide +kernel
theorem dX2_turnedToWhole_30 : decode cX2_turnedToWhole 30 = .ok (.goto 12, 3) := by decide +kernel
theorem dX2_turnedToWhole_33 : decode cX2_turnedToWhole 33 = .ok (.lload 4, 2) := by decide +kernel
theorem dX2_turnedToWhole_35 : decode cX2_turnedToWhole 35 = .ok (.invokestatic 196, 3) := by decide +kernel
theorem dX2_turnedToWhole_38 : decode cX2_turnedToWhole 38 = .ok (.iload_n 3, 1) := by decide +kernel
theorem dX2_turnedToWhole_39 : decode cX2_turnedToWhole 39 = .ok (.invokestatic 189, 3) := by decide +kernel
theorem dX2_turnedToWhole_42 : decode cX2_turnedToWhole 42 = .ok (.lreturn, 1) := by decide +kernel
theorem dX2_nearestInt_0 : decode cX2_nearestInt 0 = .ok (.getstatic 162, 3) := by decide +kernel
theorem dX2_nearestInt_3 : decode cX2_nearestInt 3 = .ok (.iconst 4, 1) := by decide +kernel
theorem dX2_nearestInt_4 : decode cX2_nearestInt 4 = .ok (.laload, 1) := by decide +kernel
theorem dX2_nearestInt_5 : decode cX2_nearestInt 5 = .ok (.getstatic 165, 3) := by decide +kernel
theorem dX2_nearestInt_8 : decode cX2_nearestInt 8 = .ok (.iconst 4, 1) := by decide +kernel
theorem dX2_nearestInt_9 : decode cX2_nearestInt 9 = .ok (.laload, 1) := by decide +kernel
theorem dX2_nearestInt_10 : decode cX2_nearestInt 10 = .ok (.lload_n 0, 1) := by decide +kernel
theorem dX2_nearestInt_11 : decode cX2_nearestInt 11 = .ok (.invokestatic 199, 3) := by decide +kernel
theorem dX2_nearestInt_14 : decode cX2_nearestInt 14 = .ok (.invokestatic 203, 3) := by decide +kernel
theorem dX2_nearestInt_17 : decode cX2_nearestInt 17 = .ok (.lreturn, 1) := by decide +kernel
theorem dX2_lowestBits_0 : decode cX2_lowestBits 0 = .ok (.iload_n 2, 1) := by decide +kernel
theorem dX2_lowestBits_1 : decode cX2_lowestBits 1 = .ok (.tableswitch 50 1 4 #[31, 36, 41, 46], 31) := by decide +kernel
theorem dX2_lowestBits_32 : decode cX2_lowestBits 32 = .ok (.lload_n 0, 1) := by decide +kernel
theorem dX2_lowestBits_33 : decode cX2_lowestBits 33 = .ok (.l2i, 1) := by decide +kernel
theorem dX2_lowestBits_34 : decode cX2_lowestBits 34 = .ok (.i2c, 1) := by decide +kernel
theorem dX2_lowestBits_35 : decode cX2_lowestBits 35 = .ok (.i2l, 1) := by decide +kernel
theorem dX2_lowestBits_36 : decode cX2_lowestBits 36 = .ok (.lreturn, 1) := by decide +kernel
theorem dX2_lowestBits_37 : decode cX2_lowestBits 37 = .ok (.lload_n 0, 1) := by decide +kernel
theorem dX2_lowestBits_38 : decode cX2_lowestBits 38 = .ok (.l2i, 1) := by decide +kernel
theorem dX2_lowestBits_39 : decode cX2_lowestBits 39 = .ok (.i2b, 1) := by decide +kernel
theorem dX2_lowestBits_40 : decode cX2_lowestBits 40 = .ok (.i2l, 1) := by decide +kernel
theorem dX2_lowestBits_41 : decode cX2_lowestBits 41 = .ok (.lreturn, 1) := by decide +kernel
theorem dX2_lowestBits_42 : decode cX2_lowestBits 42 = .ok (.lload_n 0, 1) := by decide +kernel
theorem dX2_lowestBits_43 : decode cX2_lowestBits 43 = .ok (.l2i, 1) := by decide +kernel
theorem dX2_lowestBits_44 : decode cX2_lowestBits 44 = .ok (.i2s, 1) := by decide +kernel
theorem dX2_lowestBits_45 : decode cX2_lowestBits 45 = .ok (.i2l, 1) := by decide +kernel
theorem dX2_lowestBits_46 : decode cX2_lowestBits 46 = .ok (.lreturn, 1) := by decide +kernel
theorem dX2_lowestBits_47 : decode cX2_lowestBits 47 = .ok (.lload_n 0, 1) := by decide +kernel
theorem dX2_lowestBits_48 : decode cX2_lowestBits 48 = .ok (.l2i, 1) := by decide +kernel
theorem dX2_lowestBits_49 : decode cX2_lowestBits 49 = .ok (.i2l, 1) := by decide +kernel
theorem dX2_lowestBits_50 : decode cX2_lowestBits 50 = .ok (.lreturn, 1) := by decide +kernel
theorem dX2_lowestBits_51 : decode cX2_lowestBits 51 = .ok (.lload_n 0, 1) := by decide +kernel
theorem dX2_lowestBits_52 : decode cX2_lowestBits 52 = .ok (.lreturn, 1) := by decide +kernel
theorem dX2_promotedOfTwo_0 : decode cX2_promotedOfTwo 0 = .ok (.iconst 4, 1) := by decide +kernel
theorem dX2_promotedOfTwo_1 : decode cX2_promotedOfTwo 1 = .ok (.iload_n 0, 1) := by decide +kernel
theorem dX2_promotedOfTwo_2 : decode cX2_promotedOfTwo 2 = .ok (.iload_n 1, 1) := by decide +kernel
theorem dX2_promotedOfTwo_3 : decode cX2_promotedOfTwo 3 = .ok (.invokestatic 118, 3) := by decide +kernel
theorem dX2_promotedOfTwo_6 : decode cX2_promotedOfTwo 6 = .ok (.invokestatic 118, 3) := by decide +kernel
theorem dX2_promotedOfTwo_9 : decode cX2_promotedOfTwo 9 = .ok (.ireturn, 1) := by decide +kernel
theorem dX2_isByteAndShort_0 : decode cX2_isByteAndShort 0 = .ok (.iload_n 0, 1) := by decide +kernel
theorem dX2_isByteAndShort_1 : decode cX2_isByteAndShort 1 = .ok (.iconst 2, 1) := by decide +kernel
theorem dX2_isByteAndShort_2 : decode cX2_isByteAndShort 2 = .ok (.if_icmp .ne 8, 3) := by decide +kernel
theorem dX2_isByteAndShort_5 : decode cX2_isByteAndShort 5 = .ok (.iload_n 1, 1) := by decide +kernel
theorem dX2_isByteAndShort_6 : decode cX2_isByteAndShort 6 = .ok (.iconst 3, 1) := by decide +kernel
theorem dX2_isByteAndShort_7 : decode cX2_isByteAndShort 7 = .ok (.if_icmp .eq 13, 3) := by decide +kernel
theorem dX2_isByteAndShort_10 : decode cX2_isByteAndShort 10 = .ok (.iload_n 0, 1) := by decide +kernel
theorem dX2_isByteAndShort_11 : decode cX2_isByteAndShort 11 = .ok (.iconst 3, 1) := by decide +kernel
theorem dX2_isByteAndShort_12 : decode cX2_isByteAndShort 12 = .ok (.if_icmp .ne 12, 3) := by decide +kernel
theorem dX2_isByteAndShort_15 : decode cX2_isByteAndShort 15 = .ok (.iload_n 1, 1) := by decide +kernel
theorem dX2_isByteAndShort_16 : decode cX2_isByteAndShort 16 = .ok (.iconst 2, 1) := by decide +kernel
theorem dX2_isByteAndShort_17 : decode cX2_isByteAndShort 17 = .ok (.if_icmp .ne 7, 3) := by decide +kernel
theorem dX2_isByteAndShort_20 : decode cX2_isByteAndShort 20 = .ok (.iconst 1, 1) := by decide +kernel
theorem dX2_isByteAndShort_21 : decode cX2_isByteAndShort 21 = .ok (.goto 4, 3) := by decide +kernel
theorem dX2_isByteAndShort_24 : decode cX2_isByteAndShort 24 = .ok (.iconst 0, 1) := by decide +kernel
theorem dX2_isByteAndShort_25 : decode cX2_isByteAndShort 25 = .ok (.ireturn, 1) := by decide +kernel
set_option maxRecDepth 20000 in
theorem ggX2_conditionalOfReferences_X1_isUnder : GoodIn wsX2_conditionalOfReferences wsX1_isUnder := goodIn_ca (goodIn_r _ [6, 7, 8, 9, 5, 10, 15, 16, 17, 18, 19] (by decide +kernel) (by decide +kernel)) (goodIn_sub (fun _ h => List.mem_cons_of_mem _ (List.mem_append_right _ h)) (by decide +kernel))
set_option maxRecDepth 20000 in
theorem gX2_conditionalOfReferences_X1_isUnder : GoodIn wsX2_conditionalOfReferences (wsV RX2 75 RX1 yX1_isUnder wsX1_isUnder) := goodIn_app (goodIn_of _ (by decide +kernel)) ggX2_conditionalOfReferences_X1_isUnder
theorem dX2_conditionalOfReferences_0 : decode cX2_conditionalOfReferences 0 = .ok (.aload_n 0, 1) := by decide +kernel
theorem dX2_conditionalOfReferences_1 : decode cX2_conditionalOfReferences 1 = .ok (.getfield 12, 3) := by decide +kernel
theorem dX2_conditionalOfReferences_4 : decode cX2_conditionalOfReferences 4 = .ok (.iload_n 1, 1) := by decide +kernel
theorem dX2_conditionalOfReferences_5 : decode cX2_conditionalOfReferences 5 = .ok (.iload_n 2, 1) := by decide +kernel
theorem dX2_conditionalOfReferences_6 : decode cX2_conditionalOfReferences 6 = .ok (.invokevirtual 75, 3) := by decide +kernel
theorem dX2_conditionalOfReferences_9 : decode cX2_conditionalOfReferences 9 = .ok (.ifCond .eq 5, 3) := by decide +kernel
theorem dX2_conditionalOfReferences_12 : decode cX2_conditionalOfReferences 12 = .ok (.iload_n 2, 1) := by decide +kernel
theorem dX2_conditionalOfReferences_13 : decode cX2_conditionalOfReferences 13 = .ok (.ireturn, 1) := by decide +kernel
theorem dX2_conditionalOfReferences_14 : decode cX2_conditionalOfReferences 14 = .ok (.aload_n 0, 1) := by decide +kernel
theorem dX2_conditionalOfReferences_15 : decode cX2_conditionalOfReferences 15 = .ok (.getfield 12, 3) := by decide +kernel
theorem dX2_conditionalOfReferences_18 : decode cX2_conditionalOfReferences 18 = .ok (.iload_n 2, 1) := by decide +kernel
theorem dX2_conditionalOfReferences_19 : decode cX2_conditionalOfReferences 19 = .ok (.iload_n 1, 1) := by decide +kernel
theorem dX2_conditionalOfReferences_20 : decode cX2_conditionalOfReferences 20 = .ok (.invokevirtual 75, 3) := by decide +kernel
theorem dX2_conditionalOfReferences_23 : decode cX2_conditionalOfReferences 23 = .ok (.ifCond .eq 7, 3) := by decide +kernel
theorem dX2_conditionalOfReferences_26 : decode cX2_conditionalOfReferences 26 = .ok (.iload_n 1, 1) := by decide +kernel
theorem dX2_conditionalOfReferences_27 : decode cX2_conditionalOfReferences 27 = .ok (.goto 5, 3) := by decide +kernel
theorem dX2_conditionalOfReferences_30 : decode cX2_conditionalOfReferences 30 = .ok (.bipush 16, 2) := by decide +kernel
theorem dX2_conditionalOfReferences_32 : decode cX2_conditionalOfReferences 32 = .ok (.ireturn, 1) := by decide +kernel
set_option maxRecDepth 20000 in
theorem ggX2_box_X1_has : GoodIn wsX2_box wsX1_has := goodIn_r _ [6, 7, 103, 104, 105, 106, 107] (by decide +kernel) (by decide +kernel)
set_option maxRecDepth 20000 in
theorem gX2_box_X1_has : GoodIn wsX2_box (wsV RX2 50 RX1 yX1_has wsX1_has) := goodIn_app (goodIn_of _ (by decide +kernel)) ggX2_box_X1_has
set_option maxRecDepth 20000 in
theorem ggX2_box_X2_isBox : GoodIn wsX2_box wsX2_isBox := goodIn_r _ [11] (by decide +kernel) (by decide +kernel)
set_option maxRecDepth 20000 in
theorem gX2_box_X2_isBox : GoodIn wsX2_box (va_wsS RX2 135 yX2_isBox wsX2_isBox) := goodIn_app (goodIn_of _ (by decide +kernel)) ggX2_box_X2_isBox
set_option maxRecDepth 20000 in
theorem ggX2_box_X2_withoutBox : GoodIn wsX2_box wsX2_withoutBox := goodIn_r _ [14, 8, 9, 10, 11] (by decide +kernel) (by decide +kernel)
set_option maxRecDepth 20000 in
theorem gX2_box_X2_withoutBox : GoodIn wsX2_box (va_wsS RX2 115 yX2_withoutBox wsX2_withoutBox) := goodIn_app (goodIn_of _ (by decide +kernel)) ggX2_box_X2_withoutBox
set_option maxRecDepth 20000 in
theorem ggX2_box_X2_areBitsOf : GoodIn wsX2_box wsX2_areBitsOf := goodIn_ca (goodIn_r _ [17, 18, 19] (by decide +kernel) (by decide +kernel)) (goodIn_sub (fun _ h => List.mem_cons_of_mem _ (List.mem_append_right _ h)) (by decide +kernel))
set_option maxRecDepth 20000 in
theorem gX2_box_X2_areBitsOf : GoodIn wsX2_box (va_wsS RX2 89 yX2_areBitsOf wsX2_areBitsOf) := goodIn_app (goodIn_of _ (by decide +kernel)) ggX2_box_X2_areBitsOf
set_option maxRecDepth 20000 in
theorem ggX2_box_X2_isFullOfObjects : GoodIn wsX2_box wsX2_isFullOfObjects := goodIn_r _ [23, 24, 99, 100, 101, 102] (by decide +kernel) (by decide +kernel)
set_option maxRecDepth 20000 in
theorem gX2_box_X2_isFullOfObjects : GoodIn wsX2_box (wsV RX2 205 RX2 yX2_isFullOfObjects wsX2_isFullOfObjects) := goodIn_app (goodIn_of _ (by decide +kernel)) ggX2_box_X2_isFullOfObjects
set_option maxRecDepth 20000 in
theorem ggX2_box_X2_withOneNaN : GoodIn wsX2_box wsX2_withOneNaN := goodIn_ca (goodIn_r _ [27, 28, 29, 10, 30, 31, 32, 33, 34, 35, 36, 37, 38, 39, 40, 41, 42, 43, 44, 45, 46, 47, 48, 49, 50, 51, 52, 53, 54, 55, 56, 57, 58, 59, 60, 61, 62, 63, 64, 65, 66, 67, 68, 69, 70, 71, 72, 73, 74, 75, 76, 77, 78, 79, 80, 81, 82, 83, 84, 85, 86, 87, 88, 89, 90, 91, 92] (by decide +kernel) (by decide +kernel)) (goodIn_sub (fun _ h => List.mem_cons_of_mem _ (List.mem_append_right _ h)) (by decide +kernel))
set_option maxRecDepth 20000 in
theorem gX2_box_X2_withOneNaN : GoodIn wsX2_box (va_wsS RX2 208 yX2_withOneNaN wsX2_withOneNaN) := goodIn_app (goodIn_of _ (by decide +kernel)) ggX2_box_X2_withOneNaN
set_option maxRecDepth 20000 in
theorem ggX2_box_X2_addObject : GoodIn wsX2_box wsX2_addObject := goodIn_ca (goodIn_r _ [96, 24, 97, 98, 99, 100, 101, 102] (by decide +kernel) (by decide +kernel)) (goodIn_sub (fun _ h => List.mem_cons_of_mem _ (List.mem_append_right _ h)) (by decide +kernel))
set_option maxRecDepth 20000 in
theorem gX2_box_X2_addObject : GoodIn wsX2_box (wsV RX2 212 RX2 yX2_addObject wsX2_addObject) := goodIn_app (goodIn_of _ (by decide +kernel)) ggX2_box_X2_addObject
theorem dX2_box_0 : decode cX2_box 0 = .ok (.aload_n 0, 1) := by decide +kernel
theorem dX2_box_1 : decode cX2_box 1 = .ok (.getfield 12, 3) := by decide +kernel
theorem dX2_box_4 : decode cX2_box 4 = .ok (.iload_n 1, 1) := by decide +kernel
theorem dX2_box_5 : decode cX2_box 5 = .ok (.invokevirtual 50, 3) := by decide +kernel
theorem dX2_box_8 : decode cX2_box 8 = .ok (.ifCond .ne 5, 3) := by decide +kernel
theorem dX2_box_11 : decode cX2_box 11 = .ok (.iconst (-1), 1) := by decide +kernel
theorem dX2_box_12 : decode cX2_box 12 = .ok (.ireturn, 1) := by decide +kernel
theorem dX2_box_13 : decode cX2_box 13 = .ok (.iload_n 1, 1) := by decide +kernel
theorem dX2_box_14 : decode cX2_box 14 = .ok (.invokestatic 135, 3) := by decide +kernel
theorem dX2_box_17 : decode cX2_box 17 = .ok (.ifCond .eq 14, 3) := by decide +kernel
theorem dX2_box_20 : decode cX2_box 20 = .ok (.lload_n 2, 1) := by decide +kernel
theorem dX2_box_21 : decode cX2_box 21 = .ok (.iload_n 1, 1) := by decide +kernel
theorem dX2_box_22 : decode cX2_box 22 = .ok (.invokestatic 115, 3) := by decide +kernel
theorem dX2_box_25 : decode cX2_box 25 = .ok (.invokestatic 89, 3) := by decide +kernel
theorem dX2_box_28 : decode cX2_box 28 = .ok (.ifCond .ne 6, 3) := by decide +kernel
theorem dX2_box_31 : decode cX2_box 31 = .ok (.bipush (-2), 2) := by decide +kernel
theorem dX2_box_33 : decode cX2_box 33 = .ok (.ireturn, 1) := by decide +kernel
theorem dX2_box_34 : decode cX2_box 34 = .ok (.aload_n 0, 1) := by decide +kernel
theorem dX2_box_35 : decode cX2_box 35 = .ok (.invokevirtual 205, 3) := by decide +kernel
theorem dX2_box_38 : decode cX2_box 38 = .ok (.ifCond .eq 8, 3) := by decide +kernel
theorem dX2_box_41 : decode cX2_box 41 = .ok (.bipush (-3), 2) := by decide +kernel
theorem dX2_box_43 : decode cX2_box 43 = .ok (.goto 16, 3) := by decide +kernel
theorem dX2_box_46 : decode cX2_box 46 = .ok (.aload_n 0, 1) := by decide +kernel
theorem dX2_box_47 : decode cX2_box 47 = .ok (.iload_n 1, 1) := by decide +kernel
theorem dX2_box_48 : decode cX2_box 48 = .ok (.iload_n 1, 1) := by decide +kernel
theorem dX2_box_49 : decode cX2_box 49 = .ok (.invokestatic 115, 3) := by decide +kernel
theorem dX2_box_52 : decode cX2_box 52 = .ok (.lload_n 2, 1) := by decide +kernel
theorem dX2_box_53 : decode cX2_box 53 = .ok (.invokestatic 208, 3) := by decide +kernel
theorem dX2_box_56 : decode cX2_box 56 = .ok (.invokevirtual 212, 3) := by decide +kernel
theorem dX2_box_59 : decode cX2_box 59 = .ok (.ireturn, 1) := by decide +kernel
set_option maxRecDepth 20000 in
theorem ggX2_make_X1_has : GoodIn wsX2_make wsX1_has := goodIn_r _ [6, 7, 33, 34, 35, 36, 37] (by decide +kernel) (by decide +kernel)
set_option maxRecDepth 20000 in
theorem gX2_make_X1_has : GoodIn wsX2_make (wsV RX2 50 RX1 yX1_has wsX1_has) := goodIn_app (goodIn_of _ (by decide +kernel)) ggX2_make_X1_has
set_option maxRecDepth 20000 in
theorem ggX2_make_X2_mayBeMade : GoodIn wsX2_make wsX2_mayBeMade := goodIn_ca (goodIn_r _ [12, 1, 13, 14, 15, 5, 16, 17, 29, 30, 31, 32, 33, 34, 35, 36, 37] (by decide +kernel) (by decide +kernel)) (goodIn_sub (fun _ h => List.mem_cons_of_mem _ (List.mem_append_right _ h)) (by decide +kernel))
set_option maxRecDepth 20000 in
theorem gX2_make_X2_mayBeMade : GoodIn wsX2_make (wsV RX2 216 RX2 yX2_mayBeMade wsX2_mayBeMade) := goodIn_app (goodIn_of _ (by decide +kernel)) ggX2_make_X2_mayBeMade
set_option maxRecDepth 20000 in
theorem ggX2_make_X2_isFullOfObjects : GoodIn wsX2_make wsX2_isFullOfObjects := goodIn_r _ [21, 22, 29, 30, 31, 32] (by decide +kernel) (by decide +kernel)
set_option maxRecDepth 20000 in
theorem gX2_make_X2_isFullOfObjects : GoodIn wsX2_make (wsV RX2 205 RX2 yX2_isFullOfObjects wsX2_isFullOfObjects) := goodIn_app (goodIn_of _ (by decide +kernel)) ggX2_make_X2_isFullOfObjects
set_option maxRecDepth 20000 in
theorem ggX2_make_X2_addObject : GoodIn wsX2_make wsX2_addObject := goodIn_ca (goodIn_r _ [26, 22, 27, 28, 29, 30, 31, 32] (by decide +kernel) (by decide +kernel)) (goodIn_sub (fun _ h => List.mem_cons_of_mem _ (List.mem_append_right _ h)) (by decide +kernel))
set_option maxRecDepth 20000 in
theorem gX2_make_X2_addObject : GoodIn wsX2_make (wsV RX2 212 RX2 yX2_addObject wsX2_addObject) := goodIn_app (goodIn_of _ (by decide +kernel)) ggX2_make_X2_addObject
theorem dX2_make_0 : decode cX2_make 0 = .ok (.aload_n 0, 1) := by decide +kernel
theorem dX2_make_1 : decode cX2_make 1 = .ok (.getfield 12, 3) := by decide +kernel
theorem dX2_make_4 : decode cX2_make 4 = .ok (.iload_n 1, 1) := by decide +kernel
theorem dX2_make_5 : decode cX2_make 5 = .ok (.invokevirtual 50, 3) := by decide +kernel
theorem dX2_make_8 : decode cX2_make 8 = .ok (.ifCond .ne 5, 3) := by decide +kernel
theorem dX2_make_11 : decode cX2_make 11 = .ok (.iconst (-1), 1) := by decide +kernel
theorem dX2_make_12 : decode cX2_make 12 = .ok (.ireturn, 1) := by decide +kernel
theorem dX2_make_13 : decode cX2_make 13 = .ok (.aload_n 0, 1) := by decide +kernel
theorem dX2_make_14 : decode cX2_make 14 = .ok (.iload_n 1, 1) := by decide +kernel
theorem dX2_make_15 : decode cX2_make 15 = .ok (.invokevirtual 216, 3) := by decide +kernel
theorem dX2_make_18 : decode cX2_make 18 = .ok (.ifCond .ne 6, 3) := by decide +kernel
theorem dX2_make_21 : decode cX2_make 21 = .ok (.bipush (-2), 2) := by decide +kernel
theorem dX2_make_23 : decode cX2_make 23 = .ok (.ireturn, 1) := by decide +kernel
theorem dX2_make_24 : decode cX2_make 24 = .ok (.aload_n 0, 1) := by decide +kernel
theorem dX2_make_25 : decode cX2_make 25 = .ok (.invokevirtual 205, 3) := by decide +kernel
theorem dX2_make_28 : decode cX2_make 28 = .ok (.ifCond .eq 8, 3) := by decide +kernel
theorem dX2_make_31 : decode cX2_make 31 = .ok (.bipush (-3), 2) := by decide +kernel
theorem dX2_make_33 : decode cX2_make 33 = .ok (.goto 9, 3) := by decide +kernel
theorem dX2_make_36 : decode cX2_make 36 = .ok (.aload_n 0, 1) := by decide +kernel
theorem dX2_make_37 : decode cX2_make 37 = .ok (.iload_n 1, 1) := by decide +kernel
theorem dX2_make_38 : decode cX2_make 38 = .ok (.lconst 0, 1) := by decide +kernel
theorem dX2_make_39 : decode cX2_make 39 = .ok (.invokevirtual 212, 3) := by decide +kernel
theorem dX2_make_42 : decode cX2_make 42 = .ok (.ireturn, 1) := by decide +kernel
set_option maxRecDepth 20000 in
theorem ggX2_typeOf_X2_isObject : GoodIn wsX2_typeOf wsX2_isObject := goodIn_r _ [6, 7, 8, 9, 10, 11] (by decide +kernel) (by decide +kernel)
set_option maxRecDepth 20000 in
theorem gX2_typeOf_X2_isObject : GoodIn wsX2_typeOf (wsV RX2 219 RX2 yX2_isObject wsX2_isObject) := goodIn_app (goodIn_of _ (by decide +kernel)) ggX2_typeOf_X2_isObject
theorem dX2_typeOf_0 : decode cX2_typeOf 0 = .ok (.aload_n 0, 1) := by decide +kernel
theorem dX2_typeOf_1 : decode cX2_typeOf 1 = .ok (.iload_n 1, 1) := by decide +kernel
theorem dX2_typeOf_2 : decode cX2_typeOf 2 = .ok (.invokevirtual 219, 3) := by decide +kernel
theorem dX2_typeOf_5 : decode cX2_typeOf 5 = .ok (.ifCond .eq 12, 3) := by decide +kernel
theorem dX2_typeOf_8 : decode cX2_typeOf 8 = .ok (.aload_n 0, 1) := by decide +kernel
theorem dX2_typeOf_9 : decode cX2_typeOf 9 = .ok (.getfield 16, 3) := by decide +kernel
theorem dX2_typeOf_12 : decode cX2_typeOf 12 = .ok (.iload_n 1, 1) := by decide +kernel
theorem dX2_typeOf_13 : decode cX2_typeOf 13 = .ok (.iaload, 1) := by decide +kernel
theorem dX2_typeOf_14 : decode cX2_typeOf 14 = .ok (.goto 4, 3) := by decide +kernel
theorem dX2_typeOf_17 : decode cX2_typeOf 17 = .ok (.iconst (-1), 1) := by decide +kernel
theorem dX2_typeOf_18 : decode cX2_typeOf 18 = .ok (.ireturn, 1) := by decide +kernel
set_option maxRecDepth 20000 in
theorem ggX2_unboxed_X2_isObject : GoodIn wsX2_unboxed wsX2_isObject := goodIn_r _ [16, 17, 27, 28, 29, 30] (by decide +kernel) (by decide +kernel)
set_option maxRecDepth 20000 in
theorem gX2_unboxed_X2_isObject : GoodIn wsX2_unboxed (wsV RX2 219 RX2 yX2_isObject wsX2_isObject) := goodIn_app (goodIn_of _ (by decide +kernel)) ggX2_unboxed_X2_isObject
set_option maxRecDepth 20000 in
theorem ggX2_unboxed_X1_has : GoodIn wsX2_unboxed wsX1_has := goodIn_r _ [22, 23, 45, 46, 47, 48, 49] (by decide +kernel) (by decide +kernel)
set_option maxRecDepth 20000 in
theorem gX2_unboxed_X1_has : GoodIn wsX2_unboxed (wsV RX2 50 RX1 yX1_has wsX1_has) := goodIn_app (goodIn_of _ (by decide +kernel)) ggX2_unboxed_X1_has
set_option maxRecDepth 20000 in
theorem ggX2_unboxed_X2_isBox : GoodIn wsX2_unboxed wsX2_isBox := goodIn_r _ [26] (by decide +kernel) (by decide +kernel)
set_option maxRecDepth 20000 in
theorem gX2_unboxed_X2_isBox : GoodIn wsX2_unboxed (va_wsS RX2 135 yX2_isBox wsX2_isBox) := goodIn_app (goodIn_of _ (by decide +kernel)) ggX2_unboxed_X2_isBox
theorem dX2_unboxed_0 : decode cX2_unboxed 0 = .ok (.aload_n 0, 1) := by decide +kernel
theorem dX2_unboxed_1 : decode cX2_unboxed 1 = .ok (.iload_n 1, 1) := by decide +kernel
theorem dX2_unboxed_2 : decode cX2_unboxed 2 = .ok (.invokevirtual 219, 3) := by decide +kernel
theorem dX2_unboxed_5 : decode cX2_unboxed 5 = .ok (.ifCond .eq 14, 3) := by decide +kernel
theorem dX2_unboxed_8 : decode cX2_unboxed 8 = .ok (.aload_n 0, 1) := by decide +kernel
theorem dX2_unboxed_9 : decode cX2_unboxed 9 = .ok (.getfield 12, 3) := by decide +kernel
theorem dX2_unboxed_12 : decode cX2_unboxed 12 = .ok (.iload_n 2, 1) := by decide +kernel
theorem dX2_unboxed_13 : decode cX2_unboxed 13 = .ok (.invokevirtual 50, 3) := by decide +kernel
theorem dX2_unboxed_16 : decode cX2_unboxed 16 = .ok (.ifCond .ne 7, 3) := by decide +kernel
theorem dX2_unboxed_19 : decode cX2_unboxed 19 = .ok (.ldc2_w 104, 3) := by decide +kernel
theorem dX2_unboxed_22 : decode cX2_unboxed 22 = .ok (.lreturn, 1) := by decide +kernel
theorem dX2_unboxed_23 : decode cX2_unboxed 23 = .ok (.iload_n 2, 1) := by decide +kernel
theorem dX2_unboxed_24 : decode cX2_unboxed 24 = .ok (.invokestatic 135, 3) := by decide +kernel
theorem dX2_unboxed_27 : decode cX2_unboxed 27 = .ok (.ifCond .ne 7, 3) := by decide +kernel
theorem dX2_unboxed_30 : decode cX2_unboxed 30 = .ok (.ldc2_w 106, 3) := by decide +kernel
theorem dX2_unboxed_33 : decode cX2_unboxed 33 = .ok (.lreturn, 1) := by decide +kernel
theorem dX2_unboxed_34 : decode cX2_unboxed 34 = .ok (.aload_n 0, 1) := by decide +kernel
theorem dX2_unboxed_35 : decode cX2_unboxed 35 = .ok (.getfield 16, 3) := by decide +kernel
theorem dX2_unboxed_38 : decode cX2_unboxed 38 = .ok (.iload_n 1, 1) := by decide +kernel
theorem dX2_unboxed_39 : decode cX2_unboxed 39 = .ok (.iaload, 1) := by decide +kernel
theorem dX2_unboxed_40 : decode cX2_unboxed 40 = .ok (.bipush 22, 2) := by decide +kernel
theorem dX2_unboxed_42 : decode cX2_unboxed 42 = .ok (.if_icmp .ne 11, 3) := by decide +kernel
theorem dX2_unboxed_45 : decode cX2_unboxed 45 = .ok (.new 222, 3) := by decide +kernel
theorem dX2_unboxed_48 : decode cX2_unboxed 48 = .ok (.dup, 1) := by decide +kernel
theorem dX2_unboxed_49 : decode cX2_unboxed 49 = .ok (.invokespecial 224, 3) := by decide +kernel
theorem dX2_unboxed_52 : decode cX2_unboxed 52 = .ok (.athrow, 1) := by decide +kernel
theorem dX2_unboxed_53 : decode cX2_unboxed 53 = .ok (.aload_n 0, 1) := by decide +kernel
theorem dX2_unboxed_54 : decode cX2_unboxed 54 = .ok (.getfield 16, 3) := by decide +kernel
theorem dX2_unboxed_57 : decode cX2_unboxed 57 = .ok (.iload_n 1, 1) := by decide +kernel
theorem dX2_unboxed_58 : decode cX2_unboxed 58 = .ok (.iaload, 1) := by decide +kernel
theorem dX2_unboxed_59 : decode cX2_unboxed 59 = .ok (.iload_n 2, 1) := by decide +kernel
theorem dX2_unboxed_60 : decode cX2_unboxed 60 = .ok (.if_icmp .eq 11, 3) := by decide +kernel
theorem dX2_unboxed_63 : decode cX2_unboxed 63 = .ok (.new 225, 3) := by decide +kernel
theorem dX2_unboxed_66 : decode cX2_unboxed 66 = .ok (.dup, 1) := by decide +kernel
theorem dX2_unboxed_67 : decode cX2_unboxed 67 = .ok (.invokespecial 227, 3) := by decide +kernel
theorem dX2_unboxed_70 : decode cX2_unboxed 70 = .ok (.athrow, 1) := by decide +kernel
theorem dX2_unboxed_71 : decode cX2_unboxed 71 = .ok (.aload_n 0, 1) := by decide +kernel
theorem dX2_unboxed_72 : decode cX2_unboxed 72 = .ok (.getfield 20, 3) := by decide +kernel
theorem dX2_unboxed_75 : decode cX2_unboxed 75 = .ok (.iload_n 1, 1) := by decide +kernel
theorem dX2_unboxed_76 : decode cX2_unboxed 76 = .ok (.laload, 1) := by decide +kernel
theorem dX2_unboxed_77 : decode cX2_unboxed 77 = .ok (.lreturn, 1) := by decide +kernel
set_option maxRecDepth 20000 in
theorem ggX2_cast_X2_isObject : GoodIn wsX2_cast wsX2_isObject := goodIn_r _ [7, 8, 85, 86, 87, 88] (by decide +kernel) (by decide +kernel)
set_option maxRecDepth 20000 in
theorem gX2_cast_X2_isObject : GoodIn wsX2_cast (wsV RX2 219 RX2 yX2_isObject wsX2_isObject) := goodIn_app (goodIn_of _ (by decide +kernel)) ggX2_cast_X2_isObject
set_option maxRecDepth 20000 in
theorem ggX2_cast_X1_has : GoodIn wsX2_cast wsX1_has := goodIn_r _ [13, 14, 89, 90, 91, 92, 93] (by decide +kernel) (by decide +kernel)
set_option maxRecDepth 20000 in
theorem gX2_cast_X1_has : GoodIn wsX2_cast (wsV RX2 50 RX1 yX1_has wsX1_has) := goodIn_app (goodIn_of _ (by decide +kernel)) ggX2_cast_X1_has
set_option maxRecDepth 20000 in
theorem ggX2_cast_X2_isPrimitive : GoodIn wsX2_cast wsX2_isPrimitive := goodIn_r _ [17] (by decide +kernel) (by decide +kernel)
set_option maxRecDepth 20000 in
theorem gX2_cast_X2_isPrimitive : GoodIn wsX2_cast (va_wsS RX2 72 yX2_isPrimitive wsX2_isPrimitive) := goodIn_app (goodIn_of _ (by decide +kernel)) ggX2_cast_X2_isPrimitive
set_option maxRecDepth 20000 in
theorem ggX2_cast_X1_isUnder : GoodIn wsX2_cast wsX1_isUnder := goodIn_ca (goodIn_r _ [21, 22, 23, 24, 12, 25, 89, 90, 91, 92, 93] (by decide +kernel) (by decide +kernel)) (goodIn_sub (fun _ h => List.mem_cons_of_mem _ (List.mem_append_right _ h)) (by decide +kernel))
set_option maxRecDepth 20000 in
theorem gX2_cast_X1_isUnder : GoodIn wsX2_cast (wsV RX2 75 RX1 yX1_isUnder wsX1_isUnder) := goodIn_app (goodIn_of _ (by decide +kernel)) ggX2_cast_X1_isUnder
set_option maxRecDepth 20000 in
theorem ggX2_cast_X2_allowedKind : GoodIn wsX2_cast wsX2_allowedKind := goodIn_ca (goodIn_r _ [29, 30, 31, 32, 6, 33, 34, 35, 36, 37, 15, 16, 17, 38, 39, 40, 41, 42, 43, 44, 45, 46, 47, 1, 48, 49, 50, 18, 19, 20, 12, 21, 22, 23, 24, 25, 51, 52, 53, 54, 55, 56, 57, 58, 59, 60, 61, 62, 63, 64, 65, 66, 67, 68, 69, 70, 71, 72, 73, 74, 75, 76, 77, 78, 79, 80, 81, 82, 83, 84, 85, 86, 87, 88, 89, 90, 91, 92, 93] (by decide +kernel) (by decide +kernel)) (goodIn_sub (fun _ h => List.mem_cons_of_mem _ (List.mem_append_right _ h)) (by decide +kernel))
set_option maxRecDepth 20000 in
theorem gX2_cast_X2_allowedKind : GoodIn wsX2_cast (wsV RX2 82 RX2 yX2_allowedKind wsX2_allowedKind) := goodIn_app (goodIn_of _ (by decide +kernel)) ggX2_cast_X2_allowedKind
set_option maxRecDepth 20000 in
theorem ggX2_cast_X2_boxed : GoodIn wsX2_cast wsX2_boxed := goodIn_r _ [50, 15, 16, 6, 17] (by decide +kernel) (by decide +kernel)
set_option maxRecDepth 20000 in
theorem gX2_cast_X2_boxed : GoodIn wsX2_cast (va_wsS RX2 129 yX2_boxed wsX2_boxed) := goodIn_app (goodIn_of _ (by decide +kernel)) ggX2_cast_X2_boxed
theorem dX2_cast_0 : decode cX2_cast 0 = .ok (.aload_n 0, 1) := by decide +kernel
theorem dX2_cast_1 : decode cX2_cast 1 = .ok (.iload_n 1, 1) := by decide +kernel
theorem dX2_cast_2 : decode cX2_cast 2 = .ok (.invokevirtual 219, 3) := by decide +kernel
theorem dX2_cast_5 : decode cX2_cast 5 = .ok (.ifCond .eq 25, 3) := by decide +kernel
theorem dX2_cast_8 : decode cX2_cast 8 = .ok (.aload_n 0, 1) := by decide +kernel
theorem dX2_cast_9 : decode cX2_cast 9 = .ok (.getfield 12, 3) := by decide +kernel
theorem dX2_cast_12 : decode cX2_cast 12 = .ok (.iload_n 2, 1) := by decide +kernel
theorem dX2_cast_13 : decode cX2_cast 13 = .ok (.invokevirtual 50, 3) := by decide +kernel
theorem dX2_cast_16 : decode cX2_cast 16 = .ok (.ifCond .eq 14, 3) := by decide +kernel
theorem dX2_cast_19 : decode cX2_cast 19 = .ok (.aload_n 0, 1) := by decide +kernel
theorem dX2_cast_20 : decode cX2_cast 20 = .ok (.getfield 12, 3) := by decide +kernel
theorem dX2_cast_23 : decode cX2_cast 23 = .ok (.iload_n 3, 1) := by decide +kernel
theorem dX2_cast_24 : decode cX2_cast 24 = .ok (.invokevirtual 50, 3) := by decide +kernel
theorem dX2_cast_27 : decode cX2_cast 27 = .ok (.ifCond .ne 5, 3) := by decide +kernel
theorem dX2_cast_30 : decode cX2_cast 30 = .ok (.iconst (-1), 1) := by decide +kernel
theorem dX2_cast_31 : decode cX2_cast 31 = .ok (.ireturn, 1) := by decide +kernel
theorem dX2_cast_32 : decode cX2_cast 32 = .ok (.aload_n 0, 1) := by decide +kernel
theorem dX2_cast_33 : decode cX2_cast 33 = .ok (.getfield 16, 3) := by decide +kernel
theorem dX2_cast_36 : decode cX2_cast 36 = .ok (.iload_n 1, 1) := by decide +kernel
theorem dX2_cast_37 : decode cX2_cast 37 = .ok (.iaload, 1) := by decide +kernel
theorem dX2_cast_38 : decode cX2_cast 38 = .ok (.istore 4, 2) := by decide +kernel
theorem dX2_cast_40 : decode cX2_cast 40 = .ok (.iload_n 2, 1) := by decide +kernel
theorem dX2_cast_41 : decode cX2_cast 41 = .ok (.invokestatic 72, 3) := by decide +kernel
theorem dX2_cast_44 : decode cX2_cast 44 = .ok (.ifCond .ne 16, 3) := by decide +kernel
theorem dX2_cast_47 : decode cX2_cast 47 = .ok (.aload_n 0, 1) := by decide +kernel
theorem dX2_cast_48 : decode cX2_cast 48 = .ok (.getfield 12, 3) := by decide +kernel
theorem dX2_cast_51 : decode cX2_cast 51 = .ok (.iload 4, 2) := by decide +kernel
theorem dX2_cast_53 : decode cX2_cast 53 = .ok (.iload_n 2, 1) := by decide +kernel
theorem dX2_cast_54 : decode cX2_cast 54 = .ok (.invokevirtual 75, 3) := by decide +kernel
theorem dX2_cast_57 : decode cX2_cast 57 = .ok (.ifCond .ne 6, 3) := by decide +kernel
theorem dX2_cast_60 : decode cX2_cast 60 = .ok (.bipush (-2), 2) := by decide +kernel
theorem dX2_cast_62 : decode cX2_cast 62 = .ok (.ireturn, 1) := by decide +kernel
theorem dX2_cast_63 : decode cX2_cast 63 = .ok (.aload_n 0, 1) := by decide +kernel
theorem dX2_cast_64 : decode cX2_cast 64 = .ok (.iload_n 2, 1) := by decide +kernel
theorem dX2_cast_65 : decode cX2_cast 65 = .ok (.iload_n 3, 1) := by decide +kernel
theorem dX2_cast_66 : decode cX2_cast 66 = .ok (.iconst 3, 1) := by decide +kernel
theorem dX2_cast_67 : decode cX2_cast 67 = .ok (.invokevirtual 82, 3) := by decide +kernel
theorem dX2_cast_70 : decode cX2_cast 70 = .ok (.istore 5, 2) := by decide +kernel
theorem dX2_cast_72 : decode cX2_cast 72 = .ok (.iload 5, 2) := by decide +kernel
theorem dX2_cast_74 : decode cX2_cast 74 = .ok (.ifCond .ne 6, 3) := by decide +kernel
theorem dX2_cast_77 : decode cX2_cast 77 = .ok (.bipush (-2), 2) := by decide +kernel
theorem dX2_cast_79 : decode cX2_cast 79 = .ok (.ireturn, 1) := by decide +kernel
theorem dX2_cast_80 : decode cX2_cast 80 = .ok (.iload 4, 2) := by decide +kernel
theorem dX2_cast_82 : decode cX2_cast 82 = .ok (.bipush 22, 2) := by decide +kernel
theorem dX2_cast_84 : decode cX2_cast 84 = .ok (.if_icmp .ne 16, 3) := by decide +kernel
theorem dX2_cast_87 : decode cX2_cast 87 = .ok (.iload_n 3, 1) := by decide +kernel
theorem dX2_cast_88 : decode cX2_cast 88 = .ok (.invokestatic 72, 3) := by decide +kernel
theorem dX2_cast_91 : decode cX2_cast 91 = .ok (.ifCond .eq 7, 3) := by decide +kernel
theorem dX2_cast_94 : decode cX2_cast 94 = .ok (.iconst 2, 1) := by decide +kernel
theorem dX2_cast_95 : decode cX2_cast 95 = .ok (.goto 4, 3) := by decide +kernel
theorem dX2_cast_98 : decode cX2_cast 98 = .ok (.iconst 1, 1) := by decide +kernel
theorem dX2_cast_99 : decode cX2_cast 99 = .ok (.ireturn, 1) := by decide +kernel
theorem dX2_cast_100 : decode cX2_cast 100 = .ok (.iload 5, 2) := by decide +kernel
theorem dX2_cast_102 : decode cX2_cast 102 = .ok (.bipush 8, 2) := by decide +kernel
theorem dX2_cast_104 : decode cX2_cast 104 = .ok (.if_icmp .eq 19, 3) := by decide +kernel
theorem dX2_cast_107 : decode cX2_cast 107 = .ok (.aload_n 0, 1) := by decide +kernel
theorem dX2_cast_108 : decode cX2_cast 108 = .ok (.getfield 12, 3) := by decide +kernel
theorem dX2_cast_111 : decode cX2_cast 111 = .ok (.iload 4, 2) := by decide +kernel
theorem dX2_cast_113 : decode cX2_cast 113 = .ok (.iload_n 3, 1) := by decide +kernel
theorem dX2_cast_114 : decode cX2_cast 114 = .ok (.invokestatic 129, 3) := by decide +kernel
theorem dX2_cast_117 : decode cX2_cast 117 = .ok (.invokevirtual 75, 3) := by decide +kernel
theorem dX2_cast_120 : decode cX2_cast 120 = .ok (.ifCond .eq 7, 3) := by decide +kernel
theorem dX2_cast_123 : decode cX2_cast 123 = .ok (.iconst 1, 1) := by decide +kernel
theorem dX2_cast_124 : decode cX2_cast 124 = .ok (.goto 4, 3) := by decide +kernel
theorem dX2_cast_127 : decode cX2_cast 127 = .ok (.iconst 0, 1) := by decide +kernel
theorem dX2_cast_128 : decode cX2_cast 128 = .ok (.istore 6, 2) := by decide +kernel
theorem dX2_cast_130 : decode cX2_cast 130 = .ok (.iload 6, 2) := by decide +kernel
theorem dX2_cast_132 : decode cX2_cast 132 = .ok (.ifCond .eq 7, 3) := by decide +kernel
theorem dX2_cast_135 : decode cX2_cast 135 = .ok (.iconst 1, 1) := by decide +kernel
theorem dX2_cast_136 : decode cX2_cast 136 = .ok (.goto 4, 3) := by decide +kernel
theorem dX2_cast_139 : decode cX2_cast 139 = .ok (.iconst 0, 1) := by decide +kernel
theorem dX2_cast_140 : decode cX2_cast 140 = .ok (.ireturn, 1) := by decide +kernel
set_option maxRecDepth 20000 in
theorem ggX2_count_X1_size : GoodIn wsX2_count wsX1_size := goodIn_r _ [7, 8, 13, 14, 15, 16, 17] (by decide +kernel) (by decide +kernel)
set_option maxRecDepth 20000 in
theorem gX2_count_X1_size : GoodIn wsX2_count (wsV RX2 97 RX1 yX1_size wsX1_size) := goodIn_app (goodIn_of _ (by decide +kernel)) ggX2_count_X1_size
theorem dX2_count_0 : decode cX2_count 0 = .ok (.iload_n 1, 1) := by decide +kernel
theorem dX2_count_1 : decode cX2_count 1 = .ok (.lookupswitch 40 #[(0, 27), (1, 35)], 27) := by decide +kernel
theorem dX2_count_28 : decode cX2_count 28 = .ok (.aload_n 0, 1) := by decide +kernel
theorem dX2_count_29 : decode cX2_count 29 = .ok (.getfield 12, 3) := by decide +kernel
theorem dX2_count_32 : decode cX2_count 32 = .ok (.invokevirtual 97, 3) := by decide +kernel
theorem dX2_count_35 : decode cX2_count 35 = .ok (.ireturn, 1) := by decide +kernel
theorem dX2_count_36 : decode cX2_count 36 = .ok (.aload_n 0, 1) := by decide +kernel
theorem dX2_count_37 : decode cX2_count 37 = .ok (.getfield 24, 3) := by decide +kernel
theorem dX2_count_40 : decode cX2_count 40 = .ok (.ireturn, 1) := by decide +kernel
theorem dX2_count_41 : decode cX2_count 41 = .ok (.iconst (-1), 1) := by decide +kernel
theorem dX2_count_42 : decode cX2_count 42 = .ok (.ireturn, 1) := by decide +kernel
theorem dX2_isObject_0 : decode cX2_isObject 0 = .ok (.iload_n 1, 1) := by decide +kernel
theorem dX2_isObject_1 : decode cX2_isObject 1 = .ok (.ifCond .lt 15, 3) := by decide +kernel
theorem dX2_isObject_4 : decode cX2_isObject 4 = .ok (.iload_n 1, 1) := by decide +kernel
theorem dX2_isObject_5 : decode cX2_isObject 5 = .ok (.aload_n 0, 1) := by decide +kernel
theorem dX2_isObject_6 : decode cX2_isObject 6 = .ok (.getfield 24, 3) := by decide +kernel
theorem dX2_isObject_9 : decode cX2_isObject 9 = .ok (.if_icmp .ge 7, 3) := by decide +kernel
theorem dX2_isObject_12 : decode cX2_isObject 12 = .ok (.iconst 1, 1) := by decide +kernel
theorem dX2_isObject_13 : decode cX2_isObject 13 = .ok (.goto 4, 3) := by decide +kernel
theorem dX2_isObject_16 : decode cX2_isObject 16 = .ok (.iconst 0, 1) := by decide +kernel
theorem dX2_isObject_17 : decode cX2_isObject 17 = .ok (.ireturn, 1) := by decide +kernel
theorem dX2_isFullOfObjects_0 : decode cX2_isFullOfObjects 0 = .ok (.aload_n 0, 1) := by decide +kernel
theorem dX2_isFullOfObjects_1 : decode cX2_isFullOfObjects 1 = .ok (.getfield 24, 3) := by decide +kernel
theorem dX2_isFullOfObjects_4 : decode cX2_isFullOfObjects 4 = .ok (.bipush 60, 2) := by decide +kernel
theorem dX2_isFullOfObjects_6 : decode cX2_isFullOfObjects 6 = .ok (.if_icmp .lt 7, 3) := by decide +kernel
theorem dX2_isFullOfObjects_9 : decode cX2_isFullOfObjects 9 = .ok (.iconst 1, 1) := by decide +kernel
theorem dX2_isFullOfObjects_10 : decode cX2_isFullOfObjects 10 = .ok (.goto 4, 3) := by decide +kernel
theorem dX2_isFullOfObjects_13 : decode cX2_isFullOfObjects 13 = .ok (.iconst 0, 1) := by decide +kernel
theorem dX2_isFullOfObjects_14 : decode cX2_isFullOfObjects 14 = .ok (.ireturn, 1) := by decide +kernel
set_option maxRecDepth 20000 in
theorem ggX2_mayBeMade_X1_sortOf : GoodIn wsX2_mayBeMade wsX1_sortOf := goodIn_ca (goodIn_r _ [6, 7, 12, 13, 14, 15, 16] (by decide +kernel) (by decide +kernel)) (goodIn_sub (fun _ h => List.mem_cons_of_mem _ (List.mem_append_right _ h)) (by decide +kernel))
set_option maxRecDepth 20000 in
theorem gX2_mayBeMade_X1_sortOf : GoodIn wsX2_mayBeMade (wsV RX2 60 RX1 yX1_sortOf wsX1_sortOf) := goodIn_app (goodIn_of _ (by decide +kernel)) ggX2_mayBeMade_X1_sortOf
theorem dX2_mayBeMade_0 : decode cX2_mayBeMade 0 = .ok (.iload_n 1, 1) := by decide +kernel
theorem dX2_mayBeMade_1 : decode cX2_mayBeMade 1 = .ok (.bipush 23, 2) := by decide +kernel
theorem dX2_mayBeMade_3 : decode cX2_mayBeMade 3 = .ok (.if_icmp .ge 27, 3) := by decide +kernel
theorem dX2_mayBeMade_6 : decode cX2_mayBeMade 6 = .ok (.iload_n 1, 1) := by decide +kernel
theorem dX2_mayBeMade_7 : decode cX2_mayBeMade 7 = .ok (.bipush 16, 2) := by decide +kernel
theorem dX2_mayBeMade_9 : decode cX2_mayBeMade 9 = .ok (.if_icmp .eq 15, 3) := by decide +kernel
theorem dX2_mayBeMade_12 : decode cX2_mayBeMade 12 = .ok (.iload_n 1, 1) := by decide +kernel
theorem dX2_mayBeMade_13 : decode cX2_mayBeMade 13 = .ok (.bipush 21, 2) := by decide +kernel
theorem dX2_mayBeMade_15 : decode cX2_mayBeMade 15 = .ok (.if_icmp .eq 9, 3) := by decide +kernel
theorem dX2_mayBeMade_18 : decode cX2_mayBeMade 18 = .ok (.iload_n 1, 1) := by decide +kernel
theorem dX2_mayBeMade_19 : decode cX2_mayBeMade 19 = .ok (.bipush 22, 2) := by decide +kernel
theorem dX2_mayBeMade_21 : decode cX2_mayBeMade 21 = .ok (.if_icmp .ne 7, 3) := by decide +kernel
theorem dX2_mayBeMade_24 : decode cX2_mayBeMade 24 = .ok (.iconst 1, 1) := by decide +kernel
theorem dX2_mayBeMade_25 : decode cX2_mayBeMade 25 = .ok (.goto 4, 3) := by decide +kernel
theorem dX2_mayBeMade_28 : decode cX2_mayBeMade 28 = .ok (.iconst 0, 1) := by decide +kernel
theorem dX2_mayBeMade_29 : decode cX2_mayBeMade 29 = .ok (.ireturn, 1) := by decide +kernel
theorem dX2_mayBeMade_30 : decode cX2_mayBeMade 30 = .ok (.aload_n 0, 1) := by decide +kernel
theorem dX2_mayBeMade_31 : decode cX2_mayBeMade 31 = .ok (.getfield 12, 3) := by decide +kernel
theorem dX2_mayBeMade_34 : decode cX2_mayBeMade 34 = .ok (.iload_n 1, 1) := by decide +kernel
theorem dX2_mayBeMade_35 : decode cX2_mayBeMade 35 = .ok (.invokevirtual 60, 3) := by decide +kernel
theorem dX2_mayBeMade_38 : decode cX2_mayBeMade 38 = .ok (.iconst 2, 1) := by decide +kernel
theorem dX2_mayBeMade_39 : decode cX2_mayBeMade 39 = .ok (.if_icmp .eq 7, 3) := by decide +kernel
theorem dX2_mayBeMade_42 : decode cX2_mayBeMade 42 = .ok (.iconst 1, 1) := by decide +kernel
theorem dX2_mayBeMade_43 : decode cX2_mayBeMade 43 = .ok (.goto 4, 3) := by decide +kernel
theorem dX2_mayBeMade_46 : decode cX2_mayBeMade 46 = .ok (.iconst 0, 1) := by decide +kernel
theorem dX2_mayBeMade_47 : decode cX2_mayBeMade 47 = .ok (.ireturn, 1) := by decide +kernel
theorem dX2_addObject_0 : decode cX2_addObject 0 = .ok (.aload_n 0, 1) := by decide +kernel
theorem dX2_addObject_1 : decode cX2_addObject 1 = .ok (.getfield 24, 3) := by decide +kernel
theorem dX2_addObject_4 : decode cX2_addObject 4 = .ok (.istore 4, 2) := by decide +kernel
theorem dX2_addObject_6 : decode cX2_addObject 6 = .ok (.aload_n 0, 1) := by decide +kernel
theorem dX2_addObject_7 : decode cX2_addObject 7 = .ok (.getfield 16, 3) := by decide +kernel
theorem dX2_addObject_10 : decode cX2_addObject 10 = .ok (.iload 4, 2) := by decide +kernel
theorem dX2_addObject_12 : decode cX2_addObject 12 = .ok (.iload_n 1, 1) := by decide +kernel
theorem dX2_addObject_13 : decode cX2_addObject 13 = .ok (.iastore, 1) := by decide +kernel
theorem dX2_addObject_14 : decode cX2_addObject 14 = .ok (.aload_n 0, 1) := by decide +kernel
theorem dX2_addObject_15 : decode cX2_addObject 15 = .ok (.getfield 20, 3) := by decide +kernel
theorem dX2_addObject_18 : decode cX2_addObject 18 = .ok (.iload 4, 2) := by decide +kernel
theorem dX2_addObject_20 : decode cX2_addObject 20 = .ok (.lload_n 2, 1) := by decide +kernel
theorem dX2_addObject_21 : decode cX2_addObject 21 = .ok (.lastore, 1) := by decide +kernel
theorem dX2_addObject_22 : decode cX2_addObject 22 = .ok (.aload_n 0, 1) := by decide +kernel
theorem dX2_addObject_23 : decode cX2_addObject 23 = .ok (.dup, 1) := by decide +kernel
theorem dX2_addObject_24 : decode cX2_addObject 24 = .ok (.getfield 24, 3) := by decide +kernel
theorem dX2_addObject_27 : decode cX2_addObject 27 = .ok (.iconst 1, 1) := by decide +kernel
theorem dX2_addObject_28 : decode cX2_addObject 28 = .ok (.iadd, 1) := by decide +kernel
theorem dX2_addObject_29 : decode cX2_addObject 29 = .ok (.putfield 24, 3) := by decide +kernel
theorem dX2_addObject_32 : decode cX2_addObject 32 = .ok (.iload 4, 2) := by decide +kernel
theorem dX2_addObject_34 : decode cX2_addObject 34 = .ok (.ireturn, 1) := by decide +kernel
set_option maxRecDepth 20000 in
theorem ggX2_withOneNaN_X2_formatOf : GoodIn wsX2_withOneNaN wsX2_formatOf := goodIn_r _ [4, 5, 6] (by decide +kernel) (by decide +kernel)
set_option maxRecDepth 20000 in
theorem gX2_withOneNaN_X2_formatOf : GoodIn wsX2_withOneNaN (va_wsS RX2 177 yX2_formatOf wsX2_formatOf) := goodIn_app (goodIn_of _ (by decide +kernel)) ggX2_withOneNaN_X2_formatOf
set_option maxRecDepth 20000 in
theorem ggX2_withOneNaN_X0_fromFormat : GoodIn wsX2_withOneNaN wsX0_fromFormat := goodIn_ca (goodIn_r _ [11, 12, 13, 14, 15, 16, 10, 17, 18, 19, 20, 21, 22, 23, 24, 25, 26, 27, 28, 29, 30, 31, 32, 33, 34, 35, 36, 37, 38, 39, 40, 41, 42, 43, 44, 45, 46, 47, 48, 49, 50, 51, 52, 53, 54, 55, 56, 57, 58, 59, 60, 61, 62, 63, 64, 65, 66] (by decide +kernel) (by decide +kernel)) (goodIn_sub (fun _ h => List.mem_cons_of_mem _ (List.mem_append_right _ h)) (by decide +kernel))
set_option maxRecDepth 20000 in
theorem gX2_withOneNaN_X0_fromFormat : GoodIn wsX2_withOneNaN (wsV RX2 185 RX0 yX0_fromFormat wsX0_fromFormat) := goodIn_app (goodIn_of _ (by decide +kernel)) ggX2_withOneNaN_X0_fromFormat
theorem dX2_withOneNaN_0 : decode cX2_withOneNaN 0 = .ok (.iload_n 0, 1) := by decide +kernel
theorem dX2_withOneNaN_1 : decode cX2_withOneNaN 1 = .ok (.bipush 6, 2) := by decide +kernel
theorem dX2_withOneNaN_3 : decode cX2_withOneNaN 3 = .ok (.if_icmp .ge 5, 3) := by decide +kernel
theorem dX2_withOneNaN_6 : decode cX2_withOneNaN 6 = .ok (.lload_n 1, 1) := by decide +kernel
theorem dX2_withOneNaN_7 : decode cX2_withOneNaN 7 = .ok (.lreturn, 1) := by decide +kernel
theorem dX2_withOneNaN_8 : decode cX2_withOneNaN 8 = .ok (.iload_n 0, 1) := by decide +kernel
theorem dX2_withOneNaN_9 : decode cX2_withOneNaN 9 = .ok (.invokestatic 177, 3) := by decide +kernel
theorem dX2_withOneNaN_12 : decode cX2_withOneNaN 12 = .ok (.astore_n 3, 1) := by decide +kernel
theorem dX2_withOneNaN_13 : decode cX2_withOneNaN 13 = .ok (.aload_n 3, 1) := by decide +kernel
theorem dX2_withOneNaN_14 : decode cX2_withOneNaN 14 = .ok (.aload_n 3, 1) := by decide +kernel
theorem dX2_withOneNaN_15 : decode cX2_withOneNaN 15 = .ok (.lload_n 1, 1) := by decide +kernel
theorem dX2_withOneNaN_16 : decode cX2_withOneNaN 16 = .ok (.invokevirtual 185, 3) := by decide +kernel
theorem dX2_withOneNaN_19 : decode cX2_withOneNaN 19 = .ok (.lreturn, 1) := by decide +kernel
set_option maxRecDepth 20000 in
theorem ggX3_init_X3_add : GoodIn wsX3_init wsX3_add := goodIn_ca (goodIn_r _ [18, 5, 19, 7, 8, 9, 32, 33, 34, 35, 36, 37, 38, 39, 40, 41] (by decide +kernel) (by decide +kernel)) (goodIn_sub (fun _ h => List.mem_cons_of_mem _ (List.mem_append_right _ h)) (by decide +kernel))
set_option maxRecDepth 20000 in
theorem gX3_init_X3_add : GoodIn wsX3_init (wsV RX3 33 RX3 yX3_add wsX3_add) := goodIn_app (goodIn_of _ (by decide +kernel)) ggX3_init_X3_add
set_option maxRecDepth 20000 in
theorem ggX3_init_X3_fill : GoodIn wsX3_init wsX3_fill := goodIn_ca (goodIn_r _ [23, 19, 10, 5, 24, 25, 26, 17, 27, 9, 8, 28, 29, 30, 31, 32, 33, 34, 35, 36, 37, 38, 39, 40, 41] (by decide +kernel) (by decide +kernel)) (goodIn_sub (fun _ h => List.mem_cons_of_mem _ (List.mem_append_right _ h)) (by decide +kernel))
set_option maxRecDepth 20000 in
theorem gX3_init_X3_fill : GoodIn wsX3_init (wsV RX3 37 RX3 yX3_fill wsX3_fill) := goodIn_app (goodIn_of _ (by decide +kernel)) ggX3_init_X3_fill
theorem dX3_init_0 : decode cX3_init 0 = .ok (.aload_n 0, 1) := by decide +kernel
theorem dX3_init_1 : decode cX3_init 1 = .ok (.invokespecial 1, 3) := by decide +kernel
theorem dX3_init_4 : decode cX3_init 4 = .ok (.aload_n 0, 1) := by decide +kernel
theorem dX3_init_5 : decode cX3_init 5 = .ok (.bipush 40, 2) := by decide +kernel
theorem dX3_init_7 : decode cX3_init 7 = .ok (.newarray .int, 2) := by decide +kernel
theorem dX3_init_9 : decode cX3_init 9 = .ok (.putfield 7, 3) := by decide +kernel
theorem dX3_init_12 : decode cX3_init 12 = .ok (.aload_n 0, 1) := by decide +kernel
theorem dX3_init_13 : decode cX3_init 13 = .ok (.bipush 40, 2) := by decide +kernel
theorem dX3_init_15 : decode cX3_init 15 = .ok (.newarray .boolean, 2) := by decide +kernel
theorem dX3_init_17 : decode cX3_init 17 = .ok (.putfield 13, 3) := by decide +kernel
theorem dX3_init_20 : decode cX3_init 20 = .ok (.aload_n 0, 1) := by decide +kernel
theorem dX3_init_21 : decode cX3_init 21 = .ok (.bipush 40, 2) := by decide +kernel
theorem dX3_init_23 : decode cX3_init 23 = .ok (.newarray .int, 2) := by decide +kernel
theorem dX3_init_25 : decode cX3_init 25 = .ok (.putfield 17, 3) := by decide +kernel
theorem dX3_init_28 : decode cX3_init 28 = .ok (.aload_n 0, 1) := by decide +kernel
theorem dX3_init_29 : decode cX3_init 29 = .ok (.bipush 120, 2) := by decide +kernel
theorem dX3_init_31 : decode cX3_init 31 = .ok (.newarray .int, 2) := by decide +kernel
theorem dX3_init_33 : decode cX3_init 33 = .ok (.putfield 20, 3) := by decide +kernel
theorem dX3_init_36 : decode cX3_init 36 = .ok (.aload_n 0, 1) := by decide +kernel
theorem dX3_init_37 : decode cX3_init 37 = .ok (.sipush 1600, 3) := by decide +kernel
theorem dX3_init_40 : decode cX3_init 40 = .ok (.newarray .boolean, 2) := by decide +kernel
theorem dX3_init_42 : decode cX3_init 42 = .ok (.putfield 23, 3) := by decide +kernel
theorem dX3_init_45 : decode cX3_init 45 = .ok (.aload_n 0, 1) := by decide +kernel
theorem dX3_init_46 : decode cX3_init 46 = .ok (.bipush 60, 2) := by decide +kernel
theorem dX3_init_48 : decode cX3_init 48 = .ok (.newarray .int, 2) := by decide +kernel
theorem dX3_init_50 : decode cX3_init 50 = .ok (.putfield 26, 3) := by decide +kernel
theorem dX3_init_53 : decode cX3_init 53 = .ok (.aload_n 0, 1) := by decide +kernel
theorem dX3_init_54 : decode cX3_init 54 = .ok (.bipush 60, 2) := by decide +kernel
theorem dX3_init_56 : decode cX3_init 56 = .ok (.newarray .long, 2) := by decide +kernel
theorem dX3_init_58 : decode cX3_init 58 = .ok (.putfield 29, 3) := by decide +kernel
theorem dX3_init_61 : decode cX3_init 61 = .ok (.iconst 0, 1) := by decide +kernel
theorem dX3_init_62 : decode cX3_init 62 = .ok (.istore_n 1, 1) := by decide +kernel
theorem dX3_init_63 : decode cX3_init 63 = .ok (.iload_n 1, 1) := by decide +kernel
theorem dX3_init_64 : decode cX3_init 64 = .ok (.bipush 8, 2) := by decide +kernel
theorem dX3_init_66 : decode cX3_init 66 = .ok (.if_icmp .ge 21, 3) := by decide +kernel
theorem dX3_init_69 : decode cX3_init 69 = .ok (.aload_n 0, 1) := by decide +kernel
theorem dX3_init_70 : decode cX3_init 70 = .ok (.iconst 0, 1) := by decide +kernel
theorem dX3_init_71 : decode cX3_init 71 = .ok (.iconst 0, 1) := by decide +kernel
theorem dX3_init_72 : decode cX3_init 72 = .ok (.bipush (-2), 2) := by decide +kernel
theorem dX3_init_74 : decode cX3_init 74 = .ok (.iconst (-1), 1) := by decide +kernel
theorem dX3_init_75 : decode cX3_init 75 = .ok (.iconst (-1), 1) := by decide +kernel
theorem dX3_init_76 : decode cX3_init 76 = .ok (.iconst (-1), 1) := by decide +kernel
theorem dX3_init_77 : decode cX3_init 77 = .ok (.invokevirtual 33, 3) := by decide +kernel
theorem dX3_init_80 : decode cX3_init 80 = .ok (.pop, 1) := by decide +kernel
theorem dX3_init_81 : decode cX3_init 81 = .ok (.iinc 1 1, 3) := by decide +kernel
theorem dX3_init_84 : decode cX3_init 84 = .ok (.goto (-21), 3) := by decide +kernel
theorem dX3_init_87 : decode cX3_init 87 = .ok (.bipush 8, 2) := by decide +kernel
theorem dX3_init_89 : decode cX3_init 89 = .ok (.istore_n 1, 1) := by decide +kernel
theorem dX3_init_90 : decode cX3_init 90 = .ok (.iload_n 1, 1) := by decide +kernel
theorem dX3_init_91 : decode cX3_init 91 = .ok (.bipush 16, 2) := by decide +kernel
theorem dX3_init_93 : decode cX3_init 93 = .ok (.if_icmp .ge 47, 3) := by decide +kernel
theorem dX3_init_96 : decode cX3_init 96 = .ok (.iload_n 1, 1) := by decide +kernel
theorem dX3_init_97 : decode cX3_init 97 = .ok (.bipush 10, 2) := by decide +kernel
theorem dX3_init_99 : decode cX3_init 99 = .ok (.if_icmp .ge 21, 3) := by decide +kernel
theorem dX3_init_102 : decode cX3_init 102 = .ok (.aload_n 0, 1) := by decide +kernel
theorem dX3_init_103 : decode cX3_init 103 = .ok (.iconst 1, 1) := by decide +kernel
theorem dX3_init_104 : decode cX3_init 104 = .ok (.iconst 1, 1) := by decide +kernel
theorem dX3_init_105 : decode cX3_init 105 = .ok (.bipush (-2), 2) := by decide +kernel
theorem dX3_init_107 : decode cX3_init 107 = .ok (.bipush 16, 2) := by decide +kernel
theorem dX3_init_109 : decode cX3_init 109 = .ok (.bipush 18, 2) := by decide +kernel
theorem dX3_init_111 : decode cX3_init 111 = .ok (.bipush 19, 2) := by decide +kernel
theorem dX3_init_113 : decode cX3_init 113 = .ok (.invokevirtual 33, 3) := by decide +kernel
theorem dX3_init_116 : decode cX3_init 116 = .ok (.pop, 1) := by decide +kernel
theorem dX3_init_117 : decode cX3_init 117 = .ok (.goto 17, 3) := by decide +kernel
theorem dX3_init_120 : decode cX3_init 120 = .ok (.aload_n 0, 1) := by decide +kernel
theorem dX3_init_121 : decode cX3_init 121 = .ok (.iconst 1, 1) := by decide +kernel
theorem dX3_init_122 : decode cX3_init 122 = .ok (.iconst 1, 1) := by decide +kernel
theorem dX3_init_123 : decode cX3_init 123 = .ok (.bipush (-2), 2) := by decide +kernel
theorem dX3_init_125 : decode cX3_init 125 = .ok (.bipush 17, 2) := by decide +kernel
theorem dX3_init_127 : decode cX3_init 127 = .ok (.bipush 18, 2) := by decide +kernel
theorem dX3_init_129 : decode cX3_init 129 = .ok (.iconst (-1), 1) := by decide +kernel
theorem dX3_init_130 : decode cX3_init 130 = .ok (.invokevirtual 33, 3) := by decide +kernel
theorem dX3_init_133 : decode cX3_init 133 = .ok (.pop, 1) := by decide +kernel
theorem dX3_init_134 : decode cX3_init 134 = .ok (.iinc 1 1, 3) := by decide +kernel
theorem dX3_init_137 : decode cX3_init 137 = .ok (.goto (-47), 3) := by decide +kernel
theorem dX3_init_140 : decode cX3_init 140 = .ok (.aload_n 0, 1) := by decide +kernel
theorem dX3_init_141 : decode cX3_init 141 = .ok (.iconst 1, 1) := by decide +kernel
theorem dX3_init_142 : decode cX3_init 142 = .ok (.iconst 0, 1) := by decide +kernel
theorem dX3_init_143 : decode cX3_init 143 = .ok (.bipush (-2), 2) := by decide +kernel
theorem dX3_init_145 : decode cX3_init 145 = .ok (.iconst (-1), 1) := by decide +kernel
theorem dX3_init_146 : decode cX3_init 146 = .ok (.iconst (-1), 1) := by decide +kernel
theorem dX3_init_147 : decode cX3_init 147 = .ok (.iconst (-1), 1) := by decide +kernel
theorem dX3_init_148 : decode cX3_init 148 = .ok (.invokevirtual 33, 3) := by decide +kernel
theorem dX3_init_151 : decode cX3_init 151 = .ok (.pop, 1) := by decide +kernel
theorem dX3_init_152 : decode cX3_init 152 = .ok (.aload_n 0, 1) := by decide +kernel
theorem dX3_init_153 : decode cX3_init 153 = .ok (.iconst 1, 1) := by decide +kernel
theorem dX3_init_154 : decode cX3_init 154 = .ok (.iconst 0, 1) := by decide +kernel
theorem dX3_init_155 : decode cX3_init 155 = .ok (.bipush (-2), 2) := by decide +kernel
theorem dX3_init_157 : decode cX3_init 157 = .ok (.bipush 16, 2) := by decide +kernel
theorem dX3_init_159 : decode cX3_init 159 = .ok (.bipush 19, 2) := by decide +kernel
theorem dX3_init_161 : decode cX3_init 161 = .ok (.iconst (-1), 1) := by decide +kernel
theorem dX3_init_162 : decode cX3_init 162 = .ok (.invokevirtual 33, 3) := by decide +kernel
theorem dX3_init_165 : decode cX3_init 165 = .ok (.pop, 1) := by decide +kernel
theorem dX3_init_166 : decode cX3_init 166 = .ok (.aload_n 0, 1) := by decide +kernel
theorem dX3_init_167 : decode cX3_init 167 = .ok (.iconst 2, 1) := by decide +kernel
theorem dX3_init_168 : decode cX3_init 168 = .ok (.iconst 0, 1) := by decide +kernel
theorem dX3_init_169 : decode cX3_init 169 = .ok (.bipush (-2), 2) := by decide +kernel
theorem dX3_init_171 : decode cX3_init 171 = .ok (.bipush 16, 2) := by decide +kernel
theorem dX3_init_173 : decode cX3_init 173 = .ok (.iconst (-1), 1) := by decide +kernel
theorem dX3_init_174 : decode cX3_init 174 = .ok (.iconst (-1), 1) := by decide +kernel
theorem dX3_init_175 : decode cX3_init 175 = .ok (.invokevirtual 33, 3) := by decide +kernel
theorem dX3_init_178 : decode cX3_init 178 = .ok (.pop, 1) := by decide +kernel
theorem dX3_init_179 : decode cX3_init 179 = .ok (.aload_n 0, 1) := by decide +kernel
theorem dX3_init_180 : decode cX3_init 180 = .ok (.iconst 2, 1) := by decide +kernel
theorem dX3_init_181 : decode cX3_init 181 = .ok (.iconst 0, 1) := by decide +kernel
theorem dX3_init_182 : decode cX3_init 182 = .ok (.bipush (-2), 2) := by decide +kernel
theorem dX3_init_184 : decode cX3_init 184 = .ok (.bipush 16, 2) := by decide +kernel
theorem dX3_init_186 : decode cX3_init 186 = .ok (.iconst (-1), 1) := by decide +kernel
theorem dX3_init_187 : decode cX3_init 187 = .ok (.iconst (-1), 1) := by decide +kernel
theorem dX3_init_188 : decode cX3_init 188 = .ok (.invokevirtual 33, 3) := by decide +kernel
theorem dX3_init_191 : decode cX3_init 191 = .ok (.pop, 1) := by decide +kernel
theorem dX3_init_192 : decode cX3_init 192 = .ok (.aload_n 0, 1) := by decide +kernel
theorem dX3_init_193 : decode cX3_init 193 = .ok (.iconst 2, 1) := by decide +kernel
theorem dX3_init_194 : decode cX3_init 194 = .ok (.iconst 0, 1) := by decide +kernel
theorem dX3_init_195 : decode cX3_init 195 = .ok (.bipush (-2), 2) := by decide +kernel
theorem dX3_init_197 : decode cX3_init 197 = .ok (.bipush 16, 2) := by decide +kernel
theorem dX3_init_199 : decode cX3_init 199 = .ok (.iconst (-1), 1) := by decide +kernel
theorem dX3_init_200 : decode cX3_init 200 = .ok (.iconst (-1), 1) := by decide +kernel
theorem dX3_init_201 : decode cX3_init 201 = .ok (.invokevirtual 33, 3) := by decide +kernel
theorem dX3_init_204 : decode cX3_init 204 = .ok (.pop, 1) := by decide +kernel
theorem dX3_init_205 : decode cX3_init 205 = .ok (.aload_n 0, 1) := by decide +kernel
theorem dX3_init_206 : decode cX3_init 206 = .ok (.iconst 1, 1) := by decide +kernel
theorem dX3_init_207 : decode cX3_init 207 = .ok (.iconst 1, 1) := by decide +kernel
theorem dX3_init_208 : decode cX3_init 208 = .ok (.bipush (-2), 2) := by decide +kernel
theorem dX3_init_210 : decode cX3_init 210 = .ok (.bipush 16, 2) := by decide +kernel
theorem dX3_init_212 : decode cX3_init 212 = .ok (.bipush 18, 2) := by decide +kernel
theorem dX3_init_214 : decode cX3_init 214 = .ok (.bipush 19, 2) := by decide +kernel
theorem dX3_init_216 : decode cX3_init 216 = .ok (.invokevirtual 33, 3) := by decide +kernel
theorem dX3_init_219 : decode cX3_init 219 = .ok (.pop, 1) := by decide +kernel
theorem dX3_init_220 : decode cX3_init 220 = .ok (.aload_n 0, 1) := by decide +kernel
theorem dX3_init_221 : decode cX3_init 221 = .ok (.iconst 4, 1) := by decide +kernel
theorem dX3_init_222 : decode cX3_init 222 = .ok (.iconst 0, 1) := by decide +kernel
theorem dX3_init_223 : decode cX3_init 223 = .ok (.bipush (-2), 2) := by decide +kernel
theorem dX3_init_225 : decode cX3_init 225 = .ok (.iconst (-1), 1) := by decide +kernel
theorem dX3_init_226 : decode cX3_init 226 = .ok (.iconst (-1), 1) := by decide +kernel
theorem dX3_init_227 : decode cX3_init 227 = .ok (.iconst (-1), 1) := by decide +kernel
theorem dX3_init_228 : decode cX3_init 228 = .ok (.invokevirtual 33, 3) := by decide +kernel
theorem dX3_init_231 : decode cX3_init 231 = .ok (.pop, 1) := by decide +kernel
theorem dX3_init_232 : decode cX3_init 232 = .ok (.aload_n 0, 1) := by decide +kernel
theorem dX3_init_233 : decode cX3_init 233 = .ok (.invokevirtual 37, 3) := by decide +kernel
theorem dX3_init_236 : decode cX3_init 236 = .ok (.return_, 1) := by decide +kernel
theorem dX3_thrown_0 : decode cX3_thrown 0 = .ok (.aload_n 0, 1) := by decide +kernel
theorem dX3_thrown_1 : decode cX3_thrown 1 = .ok (.getfield 40, 3) := by decide +kernel
theorem dX3_thrown_4 : decode cX3_thrown 4 = .ok (.ireturn, 1) := by decide +kernel
theorem dX3_in_0 : decode cX3_in 0 = .ok (.iload_n 0, 1) := by decide +kernel
theorem dX3_in_1 : decode cX3_in 1 = .ok (.iload_n 1, 1) := by decide +kernel
theorem dX3_in_2 : decode cX3_in 2 = .ok (.if_icmp .lt 12, 3) := by decide +kernel
theorem dX3_in_5 : decode cX3_in 5 = .ok (.iload_n 0, 1) := by decide +kernel
theorem dX3_in_6 : decode cX3_in 6 = .ok (.iload_n 2, 1) := by decide +kernel
theorem dX3_in_7 : decode cX3_in 7 = .ok (.if_icmp .gt 7, 3) := by decide +kernel
theorem dX3_in_10 : decode cX3_in 10 = .ok (.iconst 1, 1) := by decide +kernel
theorem dX3_in_11 : decode cX3_in 11 = .ok (.goto 4, 3) := by decide +kernel
theorem dX3_in_14 : decode cX3_in 14 = .ok (.iconst 0, 1) := by decide +kernel
theorem dX3_in_15 : decode cX3_in 15 = .ok (.ireturn, 1) := by decide +kernel
set_option maxRecDepth 20000 in
theorem ggX3_isType_X3_in : GoodIn wsX3_isType wsX3_in := goodIn_r _ [5] (by decide +kernel) (by decide +kernel)
set_option maxRecDepth 20000 in
theorem gX3_isType_X3_in : GoodIn wsX3_isType (va_wsS RX3 47 yX3_in wsX3_in) := goodIn_app (goodIn_of _ (by decide +kernel)) ggX3_isType_X3_in
theorem dX3_isType_0 : decode cX3_isType 0 = .ok (.iload_n 1, 1) := by decide +kernel
theorem dX3_isType_1 : decode cX3_isType 1 = .ok (.iconst 0, 1) := by decide +kernel
theorem dX3_isType_2 : decode cX3_isType 2 = .ok (.aload_n 0, 1) := by decide +kernel
theorem dX3_isType_3 : decode cX3_isType 3 = .ok (.getfield 44, 3) := by decide +kernel
theorem dX3_isType_6 : decode cX3_isType 6 = .ok (.iconst 1, 1) := by decide +kernel
theorem dX3_isType_7 : decode cX3_isType 7 = .ok (.isub, 1) := by decide +kernel
theorem dX3_isType_8 : decode cX3_isType 8 = .ok (.invokestatic 47, 3) := by decide +kernel
theorem dX3_isType_11 : decode cX3_isType 11 = .ok (.ireturn, 1) := by decide +kernel
set_option maxRecDepth 20000 in
theorem ggX3_isNumber_X3_in : GoodIn wsX3_isNumber wsX3_in := goodIn_r _ [4] (by decide +kernel) (by decide +kernel)
set_option maxRecDepth 20000 in
theorem gX3_isNumber_X3_in : GoodIn wsX3_isNumber (va_wsS RX3 47 yX3_in wsX3_in) := goodIn_app (goodIn_of _ (by decide +kernel)) ggX3_isNumber_X3_in
theorem dX3_isNumber_0 : decode cX3_isNumber 0 = .ok (.iload_n 0, 1) := by decide +kernel
theorem dX3_isNumber_1 : decode cX3_isNumber 1 = .ok (.iconst 1, 1) := by decide +kernel
theorem dX3_isNumber_2 : decode cX3_isNumber 2 = .ok (.bipush 7, 2) := by decide +kernel
theorem dX3_isNumber_4 : decode cX3_isNumber 4 = .ok (.invokestatic 47, 3) := by decide +kernel
theorem dX3_isNumber_7 : decode cX3_isNumber 7 = .ok (.ireturn, 1) := by decide +kernel
set_option maxRecDepth 20000 in
theorem ggX3_isBox_X3_in : GoodIn wsX3_isBox wsX3_in := goodIn_r _ [4] (by decide +kernel) (by decide +kernel)
set_option maxRecDepth 20000 in
theorem gX3_isBox_X3_in : GoodIn wsX3_isBox (va_wsS RX3 47 yX3_in wsX3_in) := goodIn_app (goodIn_of _ (by decide +kernel)) ggX3_isBox_X3_in
theorem dX3_isBox_0 : decode cX3_isBox 0 = .ok (.iload_n 0, 1) := by decide +kernel
theorem dX3_isBox_1 : decode cX3_isBox 1 = .ok (.bipush 8, 2) := by decide +kernel
theorem dX3_isBox_3 : decode cX3_isBox 3 = .ok (.bipush 15, 2) := by decide +kernel
theorem dX3_isBox_5 : decode cX3_isBox 5 = .ok (.invokestatic 47, 3) := by decide +kernel
theorem dX3_isBox_8 : decode cX3_isBox 8 = .ok (.ireturn, 1) := by decide +kernel
theorem dX3_isReference_0 : decode cX3_isReference 0 = .ok (.iload_n 1, 1) := by decide +kernel
theorem dX3_isReference_1 : decode cX3_isReference 1 = .ok (.bipush 7, 2) := by decide +kernel
theorem dX3_isReference_3 : decode cX3_isReference 3 = .ok (.if_icmp .le 7, 3) := by decide +kernel
theorem dX3_isReference_6 : decode cX3_isReference 6 = .ok (.iconst 1, 1) := by decide +kernel
theorem dX3_isReference_7 : decode cX3_isReference 7 = .ok (.goto 4, 3) := by decide +kernel
theorem dX3_isReference_10 : decode cX3_isReference 10 = .ok (.iconst 0, 1) := by decide +kernel
theorem dX3_isReference_11 : decode cX3_isReference 11 = .ok (.ireturn, 1) := by decide +kernel
theorem dX3_add_0 : decode cX3_add 0 = .ok (.aload_n 0, 1) := by decide +kernel
theorem dX3_add_1 : decode cX3_add 1 = .ok (.getfield 7, 3) := by decide +kernel
theorem dX3_add_4 : decode cX3_add 4 = .ok (.aload_n 0, 1) := by decide +kernel
theorem dX3_add_5 : decode cX3_add 5 = .ok (.getfield 44, 3) := by decide +kernel
theorem dX3_add_8 : decode cX3_add 8 = .ok (.iload_n 1, 1) := by decide +kernel
theorem dX3_add_9 : decode cX3_add 9 = .ok (.iastore, 1) := by decide +kernel
theorem dX3_add_10 : decode cX3_add 10 = .ok (.aload_n 0, 1) := by decide +kernel
theorem dX3_add_11 : decode cX3_add 11 = .ok (.getfield 13, 3) := by decide +kernel
theorem dX3_add_14 : decode cX3_add 14 = .ok (.aload_n 0, 1) := by decide +kernel
theorem dX3_add_15 : decode cX3_add 15 = .ok (.getfield 44, 3) := by decide +kernel
theorem dX3_add_18 : decode cX3_add 18 = .ok (.iload_n 2, 1) := by decide +kernel
theorem dX3_add_19 : decode cX3_add 19 = .ok (.bastore, 1) := by decide +kernel
theorem dX3_add_20 : decode cX3_add 20 = .ok (.aload_n 0, 1) := by decide +kernel
theorem dX3_add_21 : decode cX3_add 21 = .ok (.getfield 17, 3) := by decide +kernel
theorem dX3_add_24 : decode cX3_add 24 = .ok (.aload_n 0, 1) := by decide +kernel
theorem dX3_add_25 : decode cX3_add 25 = .ok (.getfield 44, 3) := by decide +kernel
theorem dX3_add_28 : decode cX3_add 28 = .ok (.iload_n 3, 1) := by decide +kernel
theorem dX3_add_29 : decode cX3_add 29 = .ok (.iastore, 1) := by decide +kernel
theorem dX3_add_30 : decode cX3_add 30 = .ok (.aload_n 0, 1) := by decide +kernel
theorem dX3_add_31 : decode cX3_add 31 = .ok (.getfield 20, 3) := by decide +kernel
theorem dX3_add_34 : decode cX3_add 34 = .ok (.iconst 3, 1) := by decide +kernel
theorem dX3_add_35 : decode cX3_add 35 = .ok (.aload_n 0, 1) := by decide +kernel
theorem dX3_add_36 : decode cX3_add 36 = .ok (.getfield 44, 3) := by decide +kernel
theorem dX3_add_39 : decode cX3_add 39 = .ok (.imul, 1) := by decide +kernel
theorem dX3_add_40 : decode cX3_add 40 = .ok (.iload 4, 2) := by decide +kernel
theorem dX3_add_42 : decode cX3_add 42 = .ok (.iastore, 1) := by decide +kernel
theorem dX3_add_43 : decode cX3_add 43 = .ok (.aload_n 0, 1) := by decide +kernel
theorem dX3_add_44 : decode cX3_add 44 = .ok (.getfield 20, 3) := by decide +kernel
theorem dX3_add_47 : decode cX3_add 47 = .ok (.iconst 3, 1) := by decide +kernel
theorem dX3_add_48 : decode cX3_add 48 = .ok (.aload_n 0, 1) := by decide +kernel
theorem dX3_add_49 : decode cX3_add 49 = .ok (.getfield 44, 3) := by decide +kernel
theorem dX3_add_52 : decode cX3_add 52 = .ok (.imul, 1) := by decide +kernel
theorem dX3_add_53 : decode cX3_add 53 = .ok (.iconst 1, 1) := by decide +kernel
theorem dX3_add_54 : decode cX3_add 54 = .ok (.iadd, 1) := by decide +kernel
theorem dX3_add_55 : decode cX3_add 55 = .ok (.iload 5, 2) := by decide +kernel
theorem dX3_add_57 : decode cX3_add 57 = .ok (.iastore, 1) := by decide +kernel
theorem dX3_add_58 : decode cX3_add 58 = .ok (.aload_n 0, 1) := by decide +kernel
theorem dX3_add_59 : decode cX3_add 59 = .ok (.getfield 20, 3) := by decide +kernel
theorem dX3_add_62 : decode cX3_add 62 = .ok (.iconst 3, 1) := by decide +kernel
theorem dX3_add_63 : decode cX3_add 63 = .ok (.aload_n 0, 1) := by decide +kernel
theorem dX3_add_64 : decode cX3_add 64 = .ok (.getfield 44, 3) := by decide +kernel
theorem dX3_add_67 : decode cX3_add 67 = .ok (.imul, 1) := by decide +kernel
theorem dX3_add_68 : decode cX3_add 68 = .ok (.iconst 2, 1) := by decide +kernel
theorem dX3_add_69 : decode cX3_add 69 = .ok (.iadd, 1) := by decide +kernel
theorem dX3_add_70 : decode cX3_add 70 = .ok (.iload 6, 2) := by decide +kernel
theorem dX3_add_72 : decode cX3_add 72 = .ok (.iastore, 1) := by decide +kernel
theorem dX3_add_73 : decode cX3_add 73 = .ok (.aload_n 0, 1) := by decide +kernel
theorem dX3_add_74 : decode cX3_add 74 = .ok (.dup, 1) := by decide +kernel
theorem dX3_add_75 : decode cX3_add 75 = .ok (.getfield 44, 3) := by decide +kernel
theorem dX3_add_78 : decode cX3_add 78 = .ok (.iconst 1, 1) := by decide +kernel
theorem dX3_add_79 : decode cX3_add 79 = .ok (.iadd, 1) := by decide +kernel
theorem dX3_add_80 : decode cX3_add 80 = .ok (.putfield 44, 3) := by decide +kernel
theorem dX3_add_83 : decode cX3_add 83 = .ok (.aload_n 0, 1) := by decide +kernel
theorem dX3_add_84 : decode cX3_add 84 = .ok (.getfield 44, 3) := by decide +kernel
theorem dX3_add_87 : decode cX3_add 87 = .ok (.iconst 1, 1) := by decide +kernel
theorem dX3_add_88 : decode cX3_add 88 = .ok (.isub, 1) := by decide +kernel
theorem dX3_add_89 : decode cX3_add 89 = .ok (.ireturn, 1) := by decide +kernel
set_option maxRecDepth 20000 in
theorem ggX3_fill_X3_comes : GoodIn wsX3_fill wsX3_comes := goodIn_ca (goodIn_r _ [8, 9, 2, 3, 10, 11, 12, 13, 7, 14, 15, 16, 17, 18, 19, 20, 21, 22, 23, 24] (by decide +kernel) (by decide +kernel)) (goodIn_sub (fun _ h => List.mem_cons_of_mem _ (List.mem_append_right _ h)) (by decide +kernel))
set_option maxRecDepth 20000 in
theorem gX3_fill_X3_comes : GoodIn wsX3_fill (wsV RX3 51 RX3 yX3_comes wsX3_comes) := goodIn_app (goodIn_of _ (by decide +kernel)) ggX3_fill_X3_comes
theorem dX3_fill_0 : decode cX3_fill 0 = .ok (.bipush 8, 2) := by decide +kernel
theorem dX3_fill_2 : decode cX3_fill 2 = .ok (.istore_n 1, 1) := by decide +kernel
theorem dX3_fill_3 : decode cX3_fill 3 = .ok (.iload_n 1, 1) := by decide +kernel
theorem dX3_fill_4 : decode cX3_fill 4 = .ok (.aload_n 0, 1) := by decide +kernel
theorem dX3_fill_5 : decode cX3_fill 5 = .ok (.getfield 44, 3) := by decide +kernel
theorem dX3_fill_8 : decode cX3_fill 8 = .ok (.if_icmp .ge 57, 3) := by decide +kernel
theorem dX3_fill_11 : decode cX3_fill 11 = .ok (.bipush 8, 2) := by decide +kernel
theorem dX3_fill_13 : decode cX3_fill 13 = .ok (.istore_n 2, 1) := by decide +kernel
theorem dX3_fill_14 : decode cX3_fill 14 = .ok (.iload_n 2, 1) := by decide +kernel
theorem dX3_fill_15 : decode cX3_fill 15 = .ok (.aload_n 0, 1) := by decide +kernel
theorem dX3_fill_16 : decode cX3_fill 16 = .ok (.getfield 44, 3) := by decide +kernel
theorem dX3_fill_19 : decode cX3_fill 19 = .ok (.if_icmp .ge 40, 3) := by decide +kernel
theorem dX3_fill_22 : decode cX3_fill 22 = .ok (.aload_n 0, 1) := by decide +kernel
theorem dX3_fill_23 : decode cX3_fill 23 = .ok (.getfield 23, 3) := by decide +kernel
theorem dX3_fill_26 : decode cX3_fill 26 = .ok (.bipush 40, 2) := by decide +kernel
theorem dX3_fill_28 : decode cX3_fill 28 = .ok (.iload_n 1, 1) := by decide +kernel
theorem dX3_fill_29 : decode cX3_fill 29 = .ok (.imul, 1) := by decide +kernel
theorem dX3_fill_30 : decode cX3_fill 30 = .ok (.iload_n 2, 1) := by decide +kernel
theorem dX3_fill_31 : decode cX3_fill 31 = .ok (.iadd, 1) := by decide +kernel
theorem dX3_fill_32 : decode cX3_fill 32 = .ok (.iload_n 1, 1) := by decide +kernel
theorem dX3_fill_33 : decode cX3_fill 33 = .ok (.iload_n 2, 1) := by decide +kernel
theorem dX3_fill_34 : decode cX3_fill 34 = .ok (.if_icmp .eq 13, 3) := by decide +kernel
theorem dX3_fill_37 : decode cX3_fill 37 = .ok (.aload_n 0, 1) := by decide +kernel
theorem dX3_fill_38 : decode cX3_fill 38 = .ok (.getfield 7, 3) := by decide +kernel
theorem dX3_fill_41 : decode cX3_fill 41 = .ok (.iload_n 1, 1) := by decide +kernel
theorem dX3_fill_42 : decode cX3_fill 42 = .ok (.iaload, 1) := by decide +kernel
theorem dX3_fill_43 : decode cX3_fill 43 = .ok (.iconst 4, 1) := by decide +kernel
theorem dX3_fill_44 : decode cX3_fill 44 = .ok (.if_icmp .ne 7, 3) := by decide +kernel
theorem dX3_fill_47 : decode cX3_fill 47 = .ok (.iconst 1, 1) := by decide +kernel
theorem dX3_fill_48 : decode cX3_fill 48 = .ok (.goto 4, 3) := by decide +kernel
theorem dX3_fill_51 : decode cX3_fill 51 = .ok (.iconst 0, 1) := by decide +kernel
theorem dX3_fill_52 : decode cX3_fill 52 = .ok (.bastore, 1) := by decide +kernel
theorem dX3_fill_53 : decode cX3_fill 53 = .ok (.iinc 2 1, 3) := by decide +kernel
theorem dX3_fill_56 : decode cX3_fill 56 = .ok (.goto (-42), 3) := by decide +kernel
theorem dX3_fill_59 : decode cX3_fill 59 = .ok (.iinc 1 1, 3) := by decide +kernel
theorem dX3_fill_62 : decode cX3_fill 62 = .ok (.goto (-59), 3) := by decide +kernel
theorem dX3_fill_65 : decode cX3_fill 65 = .ok (.iconst 1, 1) := by decide +kernel
theorem dX3_fill_66 : decode cX3_fill 66 = .ok (.istore_n 1, 1) := by decide +kernel
theorem dX3_fill_67 : decode cX3_fill 67 = .ok (.iload_n 1, 1) := by decide +kernel
theorem dX3_fill_68 : decode cX3_fill 68 = .ok (.ifCond .eq 79, 3) := by decide +kernel
theorem dX3_fill_71 : decode cX3_fill 71 = .ok (.iconst 0, 1) := by decide +kernel
theorem dX3_fill_72 : decode cX3_fill 72 = .ok (.istore_n 1, 1) := by decide +kernel
theorem dX3_fill_73 : decode cX3_fill 73 = .ok (.bipush 8, 2) := by decide +kernel
theorem dX3_fill_75 : decode cX3_fill 75 = .ok (.istore_n 2, 1) := by decide +kernel
theorem dX3_fill_76 : decode cX3_fill 76 = .ok (.iload_n 2, 1) := by decide +kernel
theorem dX3_fill_77 : decode cX3_fill 77 = .ok (.aload_n 0, 1) := by decide +kernel
theorem dX3_fill_78 : decode cX3_fill 78 = .ok (.getfield 44, 3) := by decide +kernel
theorem dX3_fill_81 : decode cX3_fill 81 = .ok (.if_icmp .ge 63, 3) := by decide +kernel
theorem dX3_fill_84 : decode cX3_fill 84 = .ok (.bipush 8, 2) := by decide +kernel
theorem dX3_fill_86 : decode cX3_fill 86 = .ok (.istore_n 3, 1) := by decide +kernel
theorem dX3_fill_87 : decode cX3_fill 87 = .ok (.iload_n 3, 1) := by decide +kernel
theorem dX3_fill_88 : decode cX3_fill 88 = .ok (.aload_n 0, 1) := by decide +kernel
theorem dX3_fill_89 : decode cX3_fill 89 = .ok (.getfield 44, 3) := by decide +kernel
theorem dX3_fill_92 : decode cX3_fill 92 = .ok (.if_icmp .ge 46, 3) := by decide +kernel
theorem dX3_fill_95 : decode cX3_fill 95 = .ok (.aload_n 0, 1) := by decide +kernel
theorem dX3_fill_96 : decode cX3_fill 96 = .ok (.getfield 23, 3) := by decide +kernel
theorem dX3_fill_99 : decode cX3_fill 99 = .ok (.bipush 40, 2) := by decide +kernel
theorem dX3_fill_101 : decode cX3_fill 101 = .ok (.iload_n 2, 1) := by decide +kernel
theorem dX3_fill_102 : decode cX3_fill 102 = .ok (.imul, 1) := by decide +kernel
theorem dX3_fill_103 : decode cX3_fill 103 = .ok (.iload_n 3, 1) := by decide +kernel
theorem dX3_fill_104 : decode cX3_fill 104 = .ok (.iadd, 1) := by decide +kernel
theorem dX3_fill_105 : decode cX3_fill 105 = .ok (.baload, 1) := by decide +kernel
theorem dX3_fill_106 : decode cX3_fill 106 = .ok (.ifCond .ne 26, 3) := by decide +kernel
theorem dX3_fill_109 : decode cX3_fill 109 = .ok (.aload_n 0, 1) := by decide +kernel
theorem dX3_fill_110 : decode cX3_fill 110 = .ok (.iload_n 2, 1) := by decide +kernel
theorem dX3_fill_111 : decode cX3_fill 111 = .ok (.iload_n 3, 1) := by decide +kernel
theorem dX3_fill_112 : decode cX3_fill 112 = .ok (.invokevirtual 51, 3) := by decide +kernel
theorem dX3_fill_115 : decode cX3_fill 115 = .ok (.ifCond .eq 17, 3) := by decide +kernel
theorem dX3_fill_118 : decode cX3_fill 118 = .ok (.aload_n 0, 1) := by decide +kernel
theorem dX3_fill_119 : decode cX3_fill 119 = .ok (.getfield 23, 3) := by decide +kernel
theorem dX3_fill_122 : decode cX3_fill 122 = .ok (.bipush 40, 2) := by decide +kernel
theorem dX3_fill_124 : decode cX3_fill 124 = .ok (.iload_n 2, 1) := by decide +kernel
theorem dX3_fill_125 : decode cX3_fill 125 = .ok (.imul, 1) := by decide +kernel
theorem dX3_fill_126 : decode cX3_fill 126 = .ok (.iload_n 3, 1) := by decide +kernel
theorem dX3_fill_127 : decode cX3_fill 127 = .ok (.iadd, 1) := by decide +kernel
theorem dX3_fill_128 : decode cX3_fill 128 = .ok (.iconst 1, 1) := by decide +kernel
theorem dX3_fill_129 : decode cX3_fill 129 = .ok (.bastore, 1) := by decide +kernel
theorem dX3_fill_130 : decode cX3_fill 130 = .ok (.iconst 1, 1) := by decide +kernel
theorem dX3_fill_131 : decode cX3_fill 131 = .ok (.istore_n 1, 1) := by decide +kernel
theorem dX3_fill_132 : decode cX3_fill 132 = .ok (.iinc 3 1, 3) := by decide +kernel
theorem dX3_fill_135 : decode cX3_fill 135 = .ok (.goto (-48), 3) := by decide +kernel
theorem dX3_fill_138 : decode cX3_fill 138 = .ok (.iinc 2 1, 3) := by decide +kernel
theorem dX3_fill_141 : decode cX3_fill 141 = .ok (.goto (-65), 3) := by decide +kernel
theorem dX3_fill_144 : decode cX3_fill 144 = .ok (.goto (-77), 3) := by decide +kernel
theorem dX3_fill_147 : decode cX3_fill 147 = .ok (.return_, 1) := by decide +kernel
set_option maxRecDepth 20000 in
theorem ggX3_comes_X3_isReference : GoodIn wsX3_comes wsX3_isReference := goodIn_r _ [9] (by decide +kernel) (by decide +kernel)
set_option maxRecDepth 20000 in
theorem gX3_comes_X3_isReference : GoodIn wsX3_comes (wsV RX3 55 RX3 yX3_isReference wsX3_isReference) := goodIn_app (goodIn_of _ (by decide +kernel)) ggX3_comes_X3_isReference
theorem dX3_comes_0 : decode cX3_comes 0 = .ok (.iconst 0, 1) := by decide +kernel
theorem dX3_comes_1 : decode cX3_comes 1 = .ok (.istore_n 3, 1) := by decide +kernel
theorem dX3_comes_2 : decode cX3_comes 2 = .ok (.iload_n 3, 1) := by decide +kernel
theorem dX3_comes_3 : decode cX3_comes 3 = .ok (.iconst 3, 1) := by decide +kernel
theorem dX3_comes_4 : decode cX3_comes 4 = .ok (.if_icmp .ge 43, 3) := by decide +kernel
theorem dX3_comes_7 : decode cX3_comes 7 = .ok (.aload_n 0, 1) := by decide +kernel
theorem dX3_comes_8 : decode cX3_comes 8 = .ok (.getfield 20, 3) := by decide +kernel
theorem dX3_comes_11 : decode cX3_comes 11 = .ok (.iconst 3, 1) := by decide +kernel
theorem dX3_comes_12 : decode cX3_comes 12 = .ok (.iload_n 1, 1) := by decide +kernel
theorem dX3_comes_13 : decode cX3_comes 13 = .ok (.imul, 1) := by decide +kernel
theorem dX3_comes_14 : decode cX3_comes 14 = .ok (.iload_n 3, 1) := by decide +kernel
theorem dX3_comes_15 : decode cX3_comes 15 = .ok (.iadd, 1) := by decide +kernel
theorem dX3_comes_16 : decode cX3_comes 16 = .ok (.iaload, 1) := by decide +kernel
theorem dX3_comes_17 : decode cX3_comes 17 = .ok (.istore 4, 2) := by decide +kernel
theorem dX3_comes_19 : decode cX3_comes 19 = .ok (.iload 4, 2) := by decide +kernel
theorem dX3_comes_21 : decode cX3_comes 21 = .ok (.ifCond .lt 20, 3) := by decide +kernel
theorem dX3_comes_24 : decode cX3_comes 24 = .ok (.aload_n 0, 1) := by decide +kernel
theorem dX3_comes_25 : decode cX3_comes 25 = .ok (.getfield 23, 3) := by decide +kernel
theorem dX3_comes_28 : decode cX3_comes 28 = .ok (.bipush 40, 2) := by decide +kernel
theorem dX3_comes_30 : decode cX3_comes 30 = .ok (.iload 4, 2) := by decide +kernel
theorem dX3_comes_32 : decode cX3_comes 32 = .ok (.imul, 1) := by decide +kernel
theorem dX3_comes_33 : decode cX3_comes 33 = .ok (.iload_n 2, 1) := by decide +kernel
theorem dX3_comes_34 : decode cX3_comes 34 = .ok (.iadd, 1) := by decide +kernel
theorem dX3_comes_35 : decode cX3_comes 35 = .ok (.baload, 1) := by decide +kernel
theorem dX3_comes_36 : decode cX3_comes 36 = .ok (.ifCond .eq 5, 3) := by decide +kernel
theorem dX3_comes_39 : decode cX3_comes 39 = .ok (.iconst 1, 1) := by decide +kernel
theorem dX3_comes_40 : decode cX3_comes 40 = .ok (.ireturn, 1) := by decide +kernel
theorem dX3_comes_41 : decode cX3_comes 41 = .ok (.iinc 3 1, 3) := by decide +kernel
theorem dX3_comes_44 : decode cX3_comes 44 = .ok (.goto (-42), 3) := by decide +kernel
theorem dX3_comes_47 : decode cX3_comes 47 = .ok (.aload_n 0, 1) := by decide +kernel
theorem dX3_comes_48 : decode cX3_comes 48 = .ok (.getfield 7, 3) := by decide +kernel
theorem dX3_comes_51 : decode cX3_comes 51 = .ok (.iload_n 1, 1) := by decide +kernel
theorem dX3_comes_52 : decode cX3_comes 52 = .ok (.iaload, 1) := by decide +kernel
theorem dX3_comes_53 : decode cX3_comes 53 = .ok (.iconst 3, 1) := by decide +kernel
theorem dX3_comes_54 : decode cX3_comes 54 = .ok (.if_icmp .ne 13, 3) := by decide +kernel
theorem dX3_comes_57 : decode cX3_comes 57 = .ok (.aload_n 0, 1) := by decide +kernel
theorem dX3_comes_58 : decode cX3_comes 58 = .ok (.getfield 7, 3) := by decide +kernel
theorem dX3_comes_61 : decode cX3_comes 61 = .ok (.iload_n 2, 1) := by decide +kernel
theorem dX3_comes_62 : decode cX3_comes 62 = .ok (.iaload, 1) := by decide +kernel
theorem dX3_comes_63 : decode cX3_comes 63 = .ok (.iconst 3, 1) := by decide +kernel
theorem dX3_comes_64 : decode cX3_comes 64 = .ok (.if_icmp .eq 5, 3) := by decide +kernel
theorem dX3_comes_67 : decode cX3_comes 67 = .ok (.iconst 0, 1) := by decide +kernel
theorem dX3_comes_68 : decode cX3_comes 68 = .ok (.ireturn, 1) := by decide +kernel
theorem dX3_comes_69 : decode cX3_comes 69 = .ok (.aload_n 0, 1) := by decide +kernel
theorem dX3_comes_70 : decode cX3_comes 70 = .ok (.getfield 17, 3) := by decide +kernel
theorem dX3_comes_73 : decode cX3_comes 73 = .ok (.iload_n 1, 1) := by decide +kernel
theorem dX3_comes_74 : decode cX3_comes 74 = .ok (.iaload, 1) := by decide +kernel
theorem dX3_comes_75 : decode cX3_comes 75 = .ok (.istore_n 3, 1) := by decide +kernel
theorem dX3_comes_76 : decode cX3_comes 76 = .ok (.aload_n 0, 1) := by decide +kernel
theorem dX3_comes_77 : decode cX3_comes 77 = .ok (.getfield 17, 3) := by decide +kernel
theorem dX3_comes_80 : decode cX3_comes 80 = .ok (.iload_n 2, 1) := by decide +kernel
theorem dX3_comes_81 : decode cX3_comes 81 = .ok (.iaload, 1) := by decide +kernel
theorem dX3_comes_82 : decode cX3_comes 82 = .ok (.istore 4, 2) := by decide +kernel
theorem dX3_comes_84 : decode cX3_comes 84 = .ok (.iload_n 3, 1) := by decide +kernel
theorem dX3_comes_85 : decode cX3_comes 85 = .ok (.iload 4, 2) := by decide +kernel
theorem dX3_comes_87 : decode cX3_comes 87 = .ok (.if_icmp .eq 35, 3) := by decide +kernel
theorem dX3_comes_90 : decode cX3_comes 90 = .ok (.aload_n 0, 1) := by decide +kernel
theorem dX3_comes_91 : decode cX3_comes 91 = .ok (.iload_n 3, 1) := by decide +kernel
theorem dX3_comes_92 : decode cX3_comes 92 = .ok (.invokevirtual 55, 3) := by decide +kernel
theorem dX3_comes_95 : decode cX3_comes 95 = .ok (.ifCond .eq 31, 3) := by decide +kernel
theorem dX3_comes_98 : decode cX3_comes 98 = .ok (.aload_n 0, 1) := by decide +kernel
theorem dX3_comes_99 : decode cX3_comes 99 = .ok (.iload 4, 2) := by decide +kernel
theorem dX3_comes_101 : decode cX3_comes 101 = .ok (.invokevirtual 55, 3) := by decide +kernel
theorem dX3_comes_104 : decode cX3_comes 104 = .ok (.ifCond .eq 22, 3) := by decide +kernel
theorem dX3_comes_107 : decode cX3_comes 107 = .ok (.aload_n 0, 1) := by decide +kernel
theorem dX3_comes_108 : decode cX3_comes 108 = .ok (.getfield 23, 3) := by decide +kernel
theorem dX3_comes_111 : decode cX3_comes 111 = .ok (.bipush 40, 2) := by decide +kernel
theorem dX3_comes_113 : decode cX3_comes 113 = .ok (.iload_n 3, 1) := by decide +kernel
theorem dX3_comes_114 : decode cX3_comes 114 = .ok (.imul, 1) := by decide +kernel
theorem dX3_comes_115 : decode cX3_comes 115 = .ok (.iload 4, 2) := by decide +kernel
theorem dX3_comes_117 : decode cX3_comes 117 = .ok (.iadd, 1) := by decide +kernel
theorem dX3_comes_118 : decode cX3_comes 118 = .ok (.baload, 1) := by decide +kernel
theorem dX3_comes_119 : decode cX3_comes 119 = .ok (.ifCond .eq 7, 3) := by decide +kernel
theorem dX3_comes_122 : decode cX3_comes 122 = .ok (.iconst 1, 1) := by decide +kernel
theorem dX3_comes_123 : decode cX3_comes 123 = .ok (.goto 4, 3) := by decide +kernel
theorem dX3_comes_126 : decode cX3_comes 126 = .ok (.iconst 0, 1) := by decide +kernel
theorem dX3_comes_127 : decode cX3_comes 127 = .ok (.ireturn, 1) := by decide +kernel
theorem dX3_isFace_0 : decode cX3_isFace 0 = .ok (.aload_n 0, 1) := by decide +kernel
theorem dX3_isFace_1 : decode cX3_isFace 1 = .ok (.getfield 7, 3) := by decide +kernel
theorem dX3_isFace_4 : decode cX3_isFace 4 = .ok (.iload_n 1, 1) := by decide +kernel
theorem dX3_isFace_5 : decode cX3_isFace 5 = .ok (.iaload, 1) := by decide +kernel
theorem dX3_isFace_6 : decode cX3_isFace 6 = .ok (.iconst 2, 1) := by decide +kernel
theorem dX3_isFace_7 : decode cX3_isFace 7 = .ok (.if_icmp .ne 7, 3) := by decide +kernel
theorem dX3_isFace_10 : decode cX3_isFace 10 = .ok (.iconst 1, 1) := by decide +kernel
theorem dX3_isFace_11 : decode cX3_isFace 11 = .ok (.goto 4, 3) := by decide +kernel
theorem dX3_isFace_14 : decode cX3_isFace 14 = .ok (.iconst 0, 1) := by decide +kernel
theorem dX3_isFace_15 : decode cX3_isFace 15 = .ok (.ireturn, 1) := by decide +kernel
set_option maxRecDepth 20000 in
theorem ggX3_newClass_X3_isType : GoodIn wsX3_newClass wsX3_isType := goodIn_r _ [9, 4, 10, 11, 8, 12, 36, 37, 38, 39, 40, 41, 42, 43, 44, 45] (by decide +kernel) (by decide +kernel)
set_option maxRecDepth 20000 in
theorem gX3_newClass_X3_isType : GoodIn wsX3_newClass (wsV RX3 59 RX3 yX3_isType wsX3_isType) := goodIn_app (goodIn_of _ (by decide +kernel)) ggX3_newClass_X3_isType
set_option maxRecDepth 20000 in
theorem ggX3_newClass_X3_isFace : GoodIn wsX3_newClass wsX3_isFace := goodIn_ca (goodIn_r _ [16, 2, 36, 37, 38, 39, 40, 41, 42, 43, 44, 45] (by decide +kernel) (by decide +kernel)) (goodIn_sub (fun _ h => List.mem_cons_of_mem _ (List.mem_append_right _ h)) (by decide +kernel))
