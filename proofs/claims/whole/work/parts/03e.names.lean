set_option maxRecDepth 20000 in
theorem ggX3_turned_X3_real : GoodIn wsX3_turned wsX3_real := goodIn_r _ [40] (by decide +kernel) (by decide +kernel)
set_option maxRecDepth 20000 in
theorem gX3_turned_X3_real : GoodIn wsX3_turned (va_wsS RX3 139 yX3_real wsX3_real) := goodIn_app (goodIn_of _ (by decide +kernel)) ggX3_turned_X3_real
set_option maxRecDepth 20000 in
theorem ggX3_turned_X3_cutTo : GoodIn wsX3_turned wsX3_cutTo := goodIn_r _ [43, 26] (by decide +kernel) (by decide +kernel)
set_option maxRecDepth 20000 in
theorem gX3_turned_X3_cutTo : GoodIn wsX3_turned (va_wsS RX3 143 yX3_cutTo wsX3_cutTo) := goodIn_app (goodIn_of _ (by decide +kernel)) ggX3_turned_X3_cutTo
set_option maxRecDepth 20000 in
theorem ggX3_turned_X3_wide : GoodIn wsX3_turned wsX3_wide := goodIn_r _ [46, 5, 47, 36, 37, 48] (by decide +kernel) (by decide +kernel)
set_option maxRecDepth 20000 in
theorem gX3_turned_X3_wide : GoodIn wsX3_turned (va_wsS RX3 146 yX3_wide wsX3_wide) := goodIn_app (goodIn_of _ (by decide +kernel)) ggX3_turned_X3_wide
set_option maxRecDepth 20000 in
theorem ggX3_turned_X3_narrow : GoodIn wsX3_turned wsX3_narrow := goodIn_r _ [51, 4, 52, 34, 35, 53] (by decide +kernel) (by decide +kernel)
set_option maxRecDepth 20000 in
theorem gX3_turned_X3_narrow : GoodIn wsX3_turned (va_wsS RX3 150 yX3_narrow wsX3_narrow) := goodIn_app (goodIn_of _ (by decide +kernel)) ggX3_turned_X3_narrow
set_option maxRecDepth 20000 in
theorem ggX3_turned_X3_whole : GoodIn wsX3_turned wsX3_whole := goodIn_r _ [56, 52, 53] (by decide +kernel) (by decide +kernel)
set_option maxRecDepth 20000 in
theorem gX3_turned_X3_whole : GoodIn wsX3_turned (va_wsS RX3 153 yX3_whole wsX3_whole) := goodIn_app (goodIn_of _ (by decide +kernel)) ggX3_turned_X3_whole
theorem dX3_turned_0 : decode cX3_turned 0 = .ok (.aload_n 0, 1) := by decide +kernel
theorem dX3_turned_1 : decode cX3_turned 1 = .ok (.iconst 0, 1) := by decide +kernel
theorem dX3_turned_2 : decode cX3_turned 2 = .ok (.putfield 40, 3) := by decide +kernel
theorem dX3_turned_5 : decode cX3_turned 5 = .ok (.aload_n 0, 1) := by decide +kernel
theorem dX3_turned_6 : decode cX3_turned 6 = .ok (.iload_n 1, 1) := by decide +kernel
theorem dX3_turned_7 : decode cX3_turned 7 = .ok (.invokevirtual 59, 3) := by decide +kernel
theorem dX3_turned_10 : decode cX3_turned 10 = .ok (.ifCond .eq 27, 3) := by decide +kernel
theorem dX3_turned_13 : decode cX3_turned 13 = .ok (.aload_n 0, 1) := by decide +kernel
theorem dX3_turned_14 : decode cX3_turned 14 = .ok (.iload 4, 2) := by decide +kernel
theorem dX3_turned_16 : decode cX3_turned 16 = .ok (.invokevirtual 59, 3) := by decide +kernel
theorem dX3_turned_19 : decode cX3_turned 19 = .ok (.ifCond .eq 18, 3) := by decide +kernel
theorem dX3_turned_22 : decode cX3_turned 22 = .ok (.iload_n 1, 1) := by decide +kernel
theorem dX3_turned_23 : decode cX3_turned 23 = .ok (.invokestatic 71, 3) := by decide +kernel
theorem dX3_turned_26 : decode cX3_turned 26 = .ok (.ifCond .eq 11, 3) := by decide +kernel
theorem dX3_turned_29 : decode cX3_turned 29 = .ok (.iload 4, 2) := by decide +kernel
theorem dX3_turned_31 : decode cX3_turned 31 = .ok (.invokestatic 71, 3) := by decide +kernel
theorem dX3_turned_34 : decode cX3_turned 34 = .ok (.ifCond .ne 7, 3) := by decide +kernel
theorem dX3_turned_37 : decode cX3_turned 37 = .ok (.ldc2_w 128, 3) := by decide +kernel
theorem dX3_turned_40 : decode cX3_turned 40 = .ok (.lreturn, 1) := by decide +kernel
theorem dX3_turned_41 : decode cX3_turned 41 = .ok (.iload_n 1, 1) := by decide +kernel
theorem dX3_turned_42 : decode cX3_turned 42 = .ok (.lload_n 2, 1) := by decide +kernel
theorem dX3_turned_43 : decode cX3_turned 43 = .ok (.invokestatic 130, 3) := by decide +kernel
theorem dX3_turned_46 : decode cX3_turned 46 = .ok (.ifCond .ne 7, 3) := by decide +kernel
theorem dX3_turned_49 : decode cX3_turned 49 = .ok (.ldc2_w 133, 3) := by decide +kernel
theorem dX3_turned_52 : decode cX3_turned 52 = .ok (.lreturn, 1) := by decide +kernel
theorem dX3_turned_53 : decode cX3_turned 53 = .ok (.iload_n 1, 1) := by decide +kernel
theorem dX3_turned_54 : decode cX3_turned 54 = .ok (.iload 4, 2) := by decide +kernel
theorem dX3_turned_56 : decode cX3_turned 56 = .ok (.if_icmp .ne 9, 3) := by decide +kernel
theorem dX3_turned_59 : decode cX3_turned 59 = .ok (.iload_n 1, 1) := by decide +kernel
theorem dX3_turned_60 : decode cX3_turned 60 = .ok (.lload_n 2, 1) := by decide +kernel
theorem dX3_turned_61 : decode cX3_turned 61 = .ok (.invokestatic 135, 3) := by decide +kernel
theorem dX3_turned_64 : decode cX3_turned 64 = .ok (.lreturn, 1) := by decide +kernel
theorem dX3_turned_65 : decode cX3_turned 65 = .ok (.iload_n 1, 1) := by decide +kernel
theorem dX3_turned_66 : decode cX3_turned 66 = .ok (.bipush 6, 2) := by decide +kernel
theorem dX3_turned_68 : decode cX3_turned 68 = .ok (.if_icmp .ge 55, 3) := by decide +kernel
theorem dX3_turned_71 : decode cX3_turned 71 = .ok (.iload 4, 2) := by decide +kernel
theorem dX3_turned_73 : decode cX3_turned 73 = .ok (.bipush 6, 2) := by decide +kernel
theorem dX3_turned_75 : decode cX3_turned 75 = .ok (.if_icmp .ne 19, 3) := by decide +kernel
theorem dX3_turned_78 : decode cX3_turned 78 = .ok (.lload_n 2, 1) := by decide +kernel
theorem dX3_turned_79 : decode cX3_turned 79 = .ok (.bipush 24, 2) := by decide +kernel
theorem dX3_turned_81 : decode cX3_turned 81 = .ok (.bipush 127, 2) := by decide +kernel
theorem dX3_turned_83 : decode cX3_turned 83 = .ok (.ldc2_w 100, 3) := by decide +kernel
theorem dX3_turned_86 : decode cX3_turned 86 = .ok (.invokestatic 139, 3) := by decide +kernel
theorem dX3_turned_89 : decode cX3_turned 89 = .ok (.l2i, 1) := by decide +kernel
theorem dX3_turned_90 : decode cX3_turned 90 = .ok (.i2l, 1) := by decide +kernel
theorem dX3_turned_91 : decode cX3_turned 91 = .ok (.goto 31, 3) := by decide +kernel
theorem dX3_turned_94 : decode cX3_turned 94 = .ok (.iload 4, 2) := by decide +kernel
theorem dX3_turned_96 : decode cX3_turned 96 = .ok (.bipush 7, 2) := by decide +kernel
theorem dX3_turned_98 : decode cX3_turned 98 = .ok (.if_icmp .ne 18, 3) := by decide +kernel
theorem dX3_turned_101 : decode cX3_turned 101 = .ok (.lload_n 2, 1) := by decide +kernel
theorem dX3_turned_102 : decode cX3_turned 102 = .ok (.bipush 53, 2) := by decide +kernel
theorem dX3_turned_104 : decode cX3_turned 104 = .ok (.sipush 1023, 3) := by decide +kernel
theorem dX3_turned_107 : decode cX3_turned 107 = .ok (.ldc2_w 118, 3) := by decide +kernel
theorem dX3_turned_110 : decode cX3_turned 110 = .ok (.invokestatic 139, 3) := by decide +kernel
theorem dX3_turned_113 : decode cX3_turned 113 = .ok (.goto 9, 3) := by decide +kernel
theorem dX3_turned_116 : decode cX3_turned 116 = .ok (.iload 4, 2) := by decide +kernel
theorem dX3_turned_118 : decode cX3_turned 118 = .ok (.lload_n 2, 1) := by decide +kernel
theorem dX3_turned_119 : decode cX3_turned 119 = .ok (.invokestatic 143, 3) := by decide +kernel
theorem dX3_turned_122 : decode cX3_turned 122 = .ok (.lreturn, 1) := by decide +kernel
theorem dX3_turned_123 : decode cX3_turned 123 = .ok (.iload_n 1, 1) := by decide +kernel
theorem dX3_turned_124 : decode cX3_turned 124 = .ok (.bipush 6, 2) := by decide +kernel
theorem dX3_turned_126 : decode cX3_turned 126 = .ok (.if_icmp .ne 10, 3) := by decide +kernel
theorem dX3_turned_129 : decode cX3_turned 129 = .ok (.lload_n 2, 1) := by decide +kernel
theorem dX3_turned_130 : decode cX3_turned 130 = .ok (.invokestatic 146, 3) := by decide +kernel
theorem dX3_turned_133 : decode cX3_turned 133 = .ok (.goto 9, 3) := by decide +kernel
theorem dX3_turned_136 : decode cX3_turned 136 = .ok (.bipush 7, 2) := by decide +kernel
theorem dX3_turned_138 : decode cX3_turned 138 = .ok (.lload_n 2, 1) := by decide +kernel
theorem dX3_turned_139 : decode cX3_turned 139 = .ok (.invokestatic 135, 3) := by decide +kernel
theorem dX3_turned_142 : decode cX3_turned 142 = .ok (.lstore 5, 2) := by decide +kernel
theorem dX3_turned_144 : decode cX3_turned 144 = .ok (.iload 4, 2) := by decide +kernel
theorem dX3_turned_146 : decode cX3_turned 146 = .ok (.iconst 5, 1) := by decide +kernel
theorem dX3_turned_147 : decode cX3_turned 147 = .ok (.if_icmp .le 21, 3) := by decide +kernel
theorem dX3_turned_150 : decode cX3_turned 150 = .ok (.iload 4, 2) := by decide +kernel
theorem dX3_turned_152 : decode cX3_turned 152 = .ok (.bipush 7, 2) := by decide +kernel
theorem dX3_turned_154 : decode cX3_turned 154 = .ok (.if_icmp .ne 8, 3) := by decide +kernel
theorem dX3_turned_157 : decode cX3_turned 157 = .ok (.lload 5, 2) := by decide +kernel
theorem dX3_turned_159 : decode cX3_turned 159 = .ok (.goto 8, 3) := by decide +kernel
theorem dX3_turned_162 : decode cX3_turned 162 = .ok (.lload 5, 2) := by decide +kernel
theorem dX3_turned_164 : decode cX3_turned 164 = .ok (.invokestatic 150, 3) := by decide +kernel
theorem dX3_turned_167 : decode cX3_turned 167 = .ok (.lreturn, 1) := by decide +kernel
theorem dX3_turned_168 : decode cX3_turned 168 = .ok (.iload 4, 2) := by decide +kernel
theorem dX3_turned_170 : decode cX3_turned 170 = .ok (.iconst 5, 1) := by decide +kernel
theorem dX3_turned_171 : decode cX3_turned 171 = .ok (.if_icmp .ne 17, 3) := by decide +kernel
theorem dX3_turned_174 : decode cX3_turned 174 = .ok (.lload 5, 2) := by decide +kernel
theorem dX3_turned_176 : decode cX3_turned 176 = .ok (.ldc2_w 118, 3) := by decide +kernel
theorem dX3_turned_179 : decode cX3_turned 179 = .ok (.ldc2_w 112, 3) := by decide +kernel
theorem dX3_turned_182 : decode cX3_turned 182 = .ok (.invokestatic 153, 3) := by decide +kernel
theorem dX3_turned_185 : decode cX3_turned 185 = .ok (.goto 19, 3) := by decide +kernel
theorem dX3_turned_188 : decode cX3_turned 188 = .ok (.iload 4, 2) := by decide +kernel
theorem dX3_turned_190 : decode cX3_turned 190 = .ok (.lload 5, 2) := by decide +kernel
theorem dX3_turned_192 : decode cX3_turned 192 = .ok (.ldc2_w 100, 3) := by decide +kernel
theorem dX3_turned_195 : decode cX3_turned 195 = .ok (.ldc2_w 102, 3) := by decide +kernel
theorem dX3_turned_198 : decode cX3_turned 198 = .ok (.invokestatic 153, 3) := by decide +kernel
theorem dX3_turned_201 : decode cX3_turned 201 = .ok (.invokestatic 143, 3) := by decide +kernel
theorem dX3_turned_204 : decode cX3_turned 204 = .ok (.lreturn, 1) := by decide +kernel
set_option maxRecDepth 20000 in
theorem ggX3_numberOf_X3_isBox : GoodIn wsX3_numberOf wsX3_isBox := goodIn_r _ [4, 5, 6, 3, 7] (by decide +kernel) (by decide +kernel)
set_option maxRecDepth 20000 in
theorem gX3_numberOf_X3_isBox : GoodIn wsX3_numberOf (va_wsS RX3 74 yX3_isBox wsX3_isBox) := goodIn_app (goodIn_of _ (by decide +kernel)) ggX3_numberOf_X3_isBox
set_option maxRecDepth 20000 in
theorem ggX3_numberOf_X3_isNumber : GoodIn wsX3_numberOf wsX3_isNumber := goodIn_r _ [10, 5, 6, 3, 7] (by decide +kernel) (by decide +kernel)
set_option maxRecDepth 20000 in
theorem gX3_numberOf_X3_isNumber : GoodIn wsX3_numberOf (va_wsS RX3 71 yX3_isNumber wsX3_isNumber) := goodIn_app (goodIn_of _ (by decide +kernel)) ggX3_numberOf_X3_isNumber
theorem dX3_numberOf_0 : decode cX3_numberOf 0 = .ok (.iload_n 0, 1) := by decide +kernel
theorem dX3_numberOf_1 : decode cX3_numberOf 1 = .ok (.invokestatic 74, 3) := by decide +kernel
theorem dX3_numberOf_4 : decode cX3_numberOf 4 = .ok (.ifCond .eq 10, 3) := by decide +kernel
theorem dX3_numberOf_7 : decode cX3_numberOf 7 = .ok (.iload_n 0, 1) := by decide +kernel
theorem dX3_numberOf_8 : decode cX3_numberOf 8 = .ok (.bipush 8, 2) := by decide +kernel
theorem dX3_numberOf_10 : decode cX3_numberOf 10 = .ok (.isub, 1) := by decide +kernel
theorem dX3_numberOf_11 : decode cX3_numberOf 11 = .ok (.goto 4, 3) := by decide +kernel
theorem dX3_numberOf_14 : decode cX3_numberOf 14 = .ok (.iload_n 0, 1) := by decide +kernel
theorem dX3_numberOf_15 : decode cX3_numberOf 15 = .ok (.istore_n 1, 1) := by decide +kernel
theorem dX3_numberOf_16 : decode cX3_numberOf 16 = .ok (.iload_n 1, 1) := by decide +kernel
theorem dX3_numberOf_17 : decode cX3_numberOf 17 = .ok (.invokestatic 71, 3) := by decide +kernel
theorem dX3_numberOf_20 : decode cX3_numberOf 20 = .ok (.ifCond .eq 7, 3) := by decide +kernel
theorem dX3_numberOf_23 : decode cX3_numberOf 23 = .ok (.iload_n 1, 1) := by decide +kernel
theorem dX3_numberOf_24 : decode cX3_numberOf 24 = .ok (.goto 4, 3) := by decide +kernel
theorem dX3_numberOf_27 : decode cX3_numberOf 27 = .ok (.iconst 0, 1) := by decide +kernel
theorem dX3_numberOf_28 : decode cX3_numberOf 28 = .ok (.ireturn, 1) := by decide +kernel
theorem dX3_promotedOf_0 : decode cX3_promotedOf 0 = .ok (.iload_n 0, 1) := by decide +kernel
theorem dX3_promotedOf_1 : decode cX3_promotedOf 1 = .ok (.iconst 4, 1) := by decide +kernel
theorem dX3_promotedOf_2 : decode cX3_promotedOf 2 = .ok (.if_icmp .ge 7, 3) := by decide +kernel
theorem dX3_promotedOf_5 : decode cX3_promotedOf 5 = .ok (.iconst 4, 1) := by decide +kernel
theorem dX3_promotedOf_6 : decode cX3_promotedOf 6 = .ok (.goto 4, 3) := by decide +kernel
theorem dX3_promotedOf_9 : decode cX3_promotedOf 9 = .ok (.iload_n 0, 1) := by decide +kernel
theorem dX3_promotedOf_10 : decode cX3_promotedOf 10 = .ok (.ireturn, 1) := by decide +kernel
set_option maxRecDepth 20000 in
theorem ggX3_bothOf_X3_promotedOf : GoodIn wsX3_bothOf wsX3_promotedOf := goodIn_r _ [4] (by decide +kernel) (by decide +kernel)
set_option maxRecDepth 20000 in
theorem gX3_bothOf_X3_promotedOf : GoodIn wsX3_bothOf (va_wsS RX3 157 yX3_promotedOf wsX3_promotedOf) := goodIn_app (goodIn_of _ (by decide +kernel)) ggX3_bothOf_X3_promotedOf
theorem dX3_bothOf_0 : decode cX3_bothOf 0 = .ok (.iload_n 0, 1) := by decide +kernel
theorem dX3_bothOf_1 : decode cX3_bothOf 1 = .ok (.invokestatic 157, 3) := by decide +kernel
theorem dX3_bothOf_4 : decode cX3_bothOf 4 = .ok (.istore_n 2, 1) := by decide +kernel
theorem dX3_bothOf_5 : decode cX3_bothOf 5 = .ok (.iload_n 1, 1) := by decide +kernel
theorem dX3_bothOf_6 : decode cX3_bothOf 6 = .ok (.invokestatic 157, 3) := by decide +kernel
theorem dX3_bothOf_9 : decode cX3_bothOf 9 = .ok (.istore_n 3, 1) := by decide +kernel
theorem dX3_bothOf_10 : decode cX3_bothOf 10 = .ok (.iload_n 2, 1) := by decide +kernel
theorem dX3_bothOf_11 : decode cX3_bothOf 11 = .ok (.iload_n 3, 1) := by decide +kernel
theorem dX3_bothOf_12 : decode cX3_bothOf 12 = .ok (.if_icmp .le 7, 3) := by decide +kernel
theorem dX3_bothOf_15 : decode cX3_bothOf 15 = .ok (.iload_n 2, 1) := by decide +kernel
theorem dX3_bothOf_16 : decode cX3_bothOf 16 = .ok (.goto 4, 3) := by decide +kernel
theorem dX3_bothOf_19 : decode cX3_bothOf 19 = .ok (.iload_n 3, 1) := by decide +kernel
theorem dX3_bothOf_20 : decode cX3_bothOf 20 = .ok (.ireturn, 1) := by decide +kernel
set_option maxRecDepth 20000 in
theorem ggX3_promoted_X3_isType : GoodIn wsX3_promoted wsX3_isType := goodIn_r _ [6, 7, 8, 9, 5, 10, 23, 24, 25, 26, 27, 28, 29, 30, 31, 32] (by decide +kernel) (by decide +kernel)
set_option maxRecDepth 20000 in
theorem gX3_promoted_X3_isType : GoodIn wsX3_promoted (wsV RX3 59 RX3 yX3_isType wsX3_isType) := goodIn_app (goodIn_of _ (by decide +kernel)) ggX3_promoted_X3_isType
set_option maxRecDepth 20000 in
theorem ggX3_promoted_X3_numberOf : GoodIn wsX3_promoted wsX3_numberOf := goodIn_r _ [13, 14, 15, 5, 16, 8, 9, 10, 17, 18, 19] (by decide +kernel) (by decide +kernel)
set_option maxRecDepth 20000 in
theorem gX3_promoted_X3_numberOf : GoodIn wsX3_promoted (va_wsS RX3 161 yX3_numberOf wsX3_numberOf) := goodIn_app (goodIn_of _ (by decide +kernel)) ggX3_promoted_X3_numberOf
set_option maxRecDepth 20000 in
theorem ggX3_promoted_X3_promotedOf : GoodIn wsX3_promoted wsX3_promotedOf := goodIn_r _ [22] (by decide +kernel) (by decide +kernel)
set_option maxRecDepth 20000 in
theorem gX3_promoted_X3_promotedOf : GoodIn wsX3_promoted (va_wsS RX3 157 yX3_promotedOf wsX3_promotedOf) := goodIn_app (goodIn_of _ (by decide +kernel)) ggX3_promoted_X3_promotedOf
theorem dX3_promoted_0 : decode cX3_promoted 0 = .ok (.aload_n 0, 1) := by decide +kernel
theorem dX3_promoted_1 : decode cX3_promoted 1 = .ok (.iconst 0, 1) := by decide +kernel
theorem dX3_promoted_2 : decode cX3_promoted 2 = .ok (.putfield 40, 3) := by decide +kernel
theorem dX3_promoted_5 : decode cX3_promoted 5 = .ok (.aload_n 0, 1) := by decide +kernel
theorem dX3_promoted_6 : decode cX3_promoted 6 = .ok (.iload_n 1, 1) := by decide +kernel
theorem dX3_promoted_7 : decode cX3_promoted 7 = .ok (.invokevirtual 59, 3) := by decide +kernel
theorem dX3_promoted_10 : decode cX3_promoted 10 = .ok (.ifCond .ne 5, 3) := by decide +kernel
theorem dX3_promoted_13 : decode cX3_promoted 13 = .ok (.iconst (-1), 1) := by decide +kernel
theorem dX3_promoted_14 : decode cX3_promoted 14 = .ok (.ireturn, 1) := by decide +kernel
theorem dX3_promoted_15 : decode cX3_promoted 15 = .ok (.iload_n 1, 1) := by decide +kernel
theorem dX3_promoted_16 : decode cX3_promoted 16 = .ok (.invokestatic 161, 3) := by decide +kernel
theorem dX3_promoted_19 : decode cX3_promoted 19 = .ok (.istore_n 2, 1) := by decide +kernel
theorem dX3_promoted_20 : decode cX3_promoted 20 = .ok (.iload_n 2, 1) := by decide +kernel
theorem dX3_promoted_21 : decode cX3_promoted 21 = .ok (.ifCond .ne 8, 3) := by decide +kernel
theorem dX3_promoted_24 : decode cX3_promoted 24 = .ok (.bipush (-2), 2) := by decide +kernel
theorem dX3_promoted_26 : decode cX3_promoted 26 = .ok (.goto 7, 3) := by decide +kernel
theorem dX3_promoted_29 : decode cX3_promoted 29 = .ok (.iload_n 2, 1) := by decide +kernel
theorem dX3_promoted_30 : decode cX3_promoted 30 = .ok (.invokestatic 157, 3) := by decide +kernel
theorem dX3_promoted_33 : decode cX3_promoted 33 = .ok (.ireturn, 1) := by decide +kernel
set_option maxRecDepth 20000 in
theorem ggX3_both_X3_isType : GoodIn wsX3_both wsX3_isType := goodIn_r _ [6, 7, 8, 9, 5, 10, 26, 27, 28, 29, 30, 31, 32, 33, 34, 35] (by decide +kernel) (by decide +kernel)
set_option maxRecDepth 20000 in
theorem gX3_both_X3_isType : GoodIn wsX3_both (wsV RX3 59 RX3 yX3_isType wsX3_isType) := goodIn_app (goodIn_of _ (by decide +kernel)) ggX3_both_X3_isType
set_option maxRecDepth 20000 in
theorem ggX3_both_X3_numberOf : GoodIn wsX3_both wsX3_numberOf := goodIn_r _ [13, 14, 15, 5, 16, 8, 9, 10, 17, 18, 19] (by decide +kernel) (by decide +kernel)
set_option maxRecDepth 20000 in
theorem gX3_both_X3_numberOf : GoodIn wsX3_both (va_wsS RX3 161 yX3_numberOf wsX3_numberOf) := goodIn_app (goodIn_of _ (by decide +kernel)) ggX3_both_X3_numberOf
set_option maxRecDepth 20000 in
theorem ggX3_both_X3_bothOf : GoodIn wsX3_both wsX3_bothOf := goodIn_r _ [22, 23, 24, 5, 25] (by decide +kernel) (by decide +kernel)
set_option maxRecDepth 20000 in
theorem gX3_both_X3_bothOf : GoodIn wsX3_both (va_wsS RX3 164 yX3_bothOf wsX3_bothOf) := goodIn_app (goodIn_of _ (by decide +kernel)) ggX3_both_X3_bothOf
theorem dX3_both_0 : decode cX3_both 0 = .ok (.aload_n 0, 1) := by decide +kernel
theorem dX3_both_1 : decode cX3_both 1 = .ok (.iconst 0, 1) := by decide +kernel
theorem dX3_both_2 : decode cX3_both 2 = .ok (.putfield 40, 3) := by decide +kernel
theorem dX3_both_5 : decode cX3_both 5 = .ok (.aload_n 0, 1) := by decide +kernel
theorem dX3_both_6 : decode cX3_both 6 = .ok (.iload_n 1, 1) := by decide +kernel
theorem dX3_both_7 : decode cX3_both 7 = .ok (.invokevirtual 59, 3) := by decide +kernel
theorem dX3_both_10 : decode cX3_both 10 = .ok (.ifCond .eq 11, 3) := by decide +kernel
theorem dX3_both_13 : decode cX3_both 13 = .ok (.aload_n 0, 1) := by decide +kernel
theorem dX3_both_14 : decode cX3_both 14 = .ok (.iload_n 2, 1) := by decide +kernel
theorem dX3_both_15 : decode cX3_both 15 = .ok (.invokevirtual 59, 3) := by decide +kernel
theorem dX3_both_18 : decode cX3_both 18 = .ok (.ifCond .ne 5, 3) := by decide +kernel
theorem dX3_both_21 : decode cX3_both 21 = .ok (.iconst (-1), 1) := by decide +kernel
theorem dX3_both_22 : decode cX3_both 22 = .ok (.ireturn, 1) := by decide +kernel
theorem dX3_both_23 : decode cX3_both 23 = .ok (.iload_n 1, 1) := by decide +kernel
theorem dX3_both_24 : decode cX3_both 24 = .ok (.invokestatic 161, 3) := by decide +kernel
theorem dX3_both_27 : decode cX3_both 27 = .ok (.istore_n 3, 1) := by decide +kernel
theorem dX3_both_28 : decode cX3_both 28 = .ok (.iload_n 2, 1) := by decide +kernel
theorem dX3_both_29 : decode cX3_both 29 = .ok (.invokestatic 161, 3) := by decide +kernel
theorem dX3_both_32 : decode cX3_both 32 = .ok (.istore 4, 2) := by decide +kernel
theorem dX3_both_34 : decode cX3_both 34 = .ok (.iload_n 3, 1) := by decide +kernel
theorem dX3_both_35 : decode cX3_both 35 = .ok (.ifCond .eq 8, 3) := by decide +kernel
theorem dX3_both_38 : decode cX3_both 38 = .ok (.iload 4, 2) := by decide +kernel
theorem dX3_both_40 : decode cX3_both 40 = .ok (.ifCond .ne 8, 3) := by decide +kernel
theorem dX3_both_43 : decode cX3_both 43 = .ok (.bipush (-2), 2) := by decide +kernel
theorem dX3_both_45 : decode cX3_both 45 = .ok (.goto 9, 3) := by decide +kernel
theorem dX3_both_48 : decode cX3_both 48 = .ok (.iload_n 3, 1) := by decide +kernel
theorem dX3_both_49 : decode cX3_both 49 = .ok (.iload 4, 2) := by decide +kernel
theorem dX3_both_51 : decode cX3_both 51 = .ok (.invokestatic 164, 3) := by decide +kernel
theorem dX3_both_54 : decode cX3_both 54 = .ok (.ireturn, 1) := by decide +kernel
set_option maxRecDepth 20000 in
theorem ggX3_conditional_X3_isType : GoodIn wsX3_conditional wsX3_isType := goodIn_r _ [7, 8, 9, 10, 6, 11, 27, 28, 29, 30, 31, 32, 33, 34, 35, 36] (by decide +kernel) (by decide +kernel)
set_option maxRecDepth 20000 in
theorem gX3_conditional_X3_isType : GoodIn wsX3_conditional (wsV RX3 59 RX3 yX3_isType wsX3_isType) := goodIn_app (goodIn_of _ (by decide +kernel)) ggX3_conditional_X3_isType
set_option maxRecDepth 20000 in
theorem ggX3_conditional_X3_numberOf : GoodIn wsX3_conditional wsX3_numberOf := goodIn_r _ [14, 15, 16, 6, 17, 9, 10, 11, 18, 19, 20] (by decide +kernel) (by decide +kernel)
set_option maxRecDepth 20000 in
theorem gX3_conditional_X3_numberOf : GoodIn wsX3_conditional (va_wsS RX3 161 yX3_numberOf wsX3_numberOf) := goodIn_app (goodIn_of _ (by decide +kernel)) ggX3_conditional_X3_numberOf
set_option maxRecDepth 20000 in
theorem ggX3_conditional_X3_in : GoodIn wsX3_conditional wsX3_in := goodIn_r _ [11] (by decide +kernel) (by decide +kernel)
set_option maxRecDepth 20000 in
theorem gX3_conditional_X3_in : GoodIn wsX3_conditional (va_wsS RX3 47 yX3_in wsX3_in) := goodIn_app (goodIn_of _ (by decide +kernel)) ggX3_conditional_X3_in
set_option maxRecDepth 20000 in
theorem ggX3_conditional_X3_bothOf : GoodIn wsX3_conditional wsX3_bothOf := goodIn_r _ [23, 24, 25, 6, 26] (by decide +kernel) (by decide +kernel)
set_option maxRecDepth 20000 in
theorem gX3_conditional_X3_bothOf : GoodIn wsX3_conditional (va_wsS RX3 164 yX3_bothOf wsX3_bothOf) := goodIn_app (goodIn_of _ (by decide +kernel)) ggX3_conditional_X3_bothOf
theorem dX3_conditional_0 : decode cX3_conditional 0 = .ok (.aload_n 0, 1) := by decide +kernel
theorem dX3_conditional_1 : decode cX3_conditional 1 = .ok (.iconst 0, 1) := by decide +kernel
theorem dX3_conditional_2 : decode cX3_conditional 2 = .ok (.putfield 40, 3) := by decide +kernel
theorem dX3_conditional_5 : decode cX3_conditional 5 = .ok (.aload_n 0, 1) := by decide +kernel
theorem dX3_conditional_6 : decode cX3_conditional 6 = .ok (.iload_n 1, 1) := by decide +kernel
theorem dX3_conditional_7 : decode cX3_conditional 7 = .ok (.invokevirtual 59, 3) := by decide +kernel
theorem dX3_conditional_10 : decode cX3_conditional 10 = .ok (.ifCond .eq 11, 3) := by decide +kernel
theorem dX3_conditional_13 : decode cX3_conditional 13 = .ok (.aload_n 0, 1) := by decide +kernel
theorem dX3_conditional_14 : decode cX3_conditional 14 = .ok (.iload_n 2, 1) := by decide +kernel
theorem dX3_conditional_15 : decode cX3_conditional 15 = .ok (.invokevirtual 59, 3) := by decide +kernel
theorem dX3_conditional_18 : decode cX3_conditional 18 = .ok (.ifCond .ne 5, 3) := by decide +kernel
theorem dX3_conditional_21 : decode cX3_conditional 21 = .ok (.iconst (-1), 1) := by decide +kernel
theorem dX3_conditional_22 : decode cX3_conditional 22 = .ok (.ireturn, 1) := by decide +kernel
theorem dX3_conditional_23 : decode cX3_conditional 23 = .ok (.iload_n 1, 1) := by decide +kernel
theorem dX3_conditional_24 : decode cX3_conditional 24 = .ok (.iload_n 2, 1) := by decide +kernel
theorem dX3_conditional_25 : decode cX3_conditional 25 = .ok (.if_icmp .ne 5, 3) := by decide +kernel
theorem dX3_conditional_28 : decode cX3_conditional 28 = .ok (.iload_n 1, 1) := by decide +kernel
theorem dX3_conditional_29 : decode cX3_conditional 29 = .ok (.ireturn, 1) := by decide +kernel
theorem dX3_conditional_30 : decode cX3_conditional 30 = .ok (.iload_n 1, 1) := by decide +kernel
theorem dX3_conditional_31 : decode cX3_conditional 31 = .ok (.bipush 8, 2) := by decide +kernel
theorem dX3_conditional_33 : decode cX3_conditional 33 = .ok (.if_icmp .ge 11, 3) := by decide +kernel
theorem dX3_conditional_36 : decode cX3_conditional 36 = .ok (.iload_n 2, 1) := by decide +kernel
theorem dX3_conditional_37 : decode cX3_conditional 37 = .ok (.iload_n 1, 1) := by decide +kernel
theorem dX3_conditional_38 : decode cX3_conditional 38 = .ok (.bipush 8, 2) := by decide +kernel
theorem dX3_conditional_40 : decode cX3_conditional 40 = .ok (.iadd, 1) := by decide +kernel
theorem dX3_conditional_41 : decode cX3_conditional 41 = .ok (.if_icmp .eq 17, 3) := by decide +kernel
theorem dX3_conditional_44 : decode cX3_conditional 44 = .ok (.iload_n 2, 1) := by decide +kernel
theorem dX3_conditional_45 : decode cX3_conditional 45 = .ok (.bipush 8, 2) := by decide +kernel
theorem dX3_conditional_47 : decode cX3_conditional 47 = .ok (.if_icmp .ge 22, 3) := by decide +kernel
theorem dX3_conditional_50 : decode cX3_conditional 50 = .ok (.iload_n 1, 1) := by decide +kernel
theorem dX3_conditional_51 : decode cX3_conditional 51 = .ok (.iload_n 2, 1) := by decide +kernel
theorem dX3_conditional_52 : decode cX3_conditional 52 = .ok (.bipush 8, 2) := by decide +kernel
theorem dX3_conditional_54 : decode cX3_conditional 54 = .ok (.iadd, 1) := by decide +kernel
theorem dX3_conditional_55 : decode cX3_conditional 55 = .ok (.if_icmp .ne 14, 3) := by decide +kernel
theorem dX3_conditional_58 : decode cX3_conditional 58 = .ok (.iload_n 1, 1) := by decide +kernel
theorem dX3_conditional_59 : decode cX3_conditional 59 = .ok (.iload_n 2, 1) := by decide +kernel
theorem dX3_conditional_60 : decode cX3_conditional 60 = .ok (.if_icmp .ge 7, 3) := by decide +kernel
theorem dX3_conditional_63 : decode cX3_conditional 63 = .ok (.iload_n 1, 1) := by decide +kernel
theorem dX3_conditional_64 : decode cX3_conditional 64 = .ok (.goto 4, 3) := by decide +kernel
theorem dX3_conditional_67 : decode cX3_conditional 67 = .ok (.iload_n 2, 1) := by decide +kernel
theorem dX3_conditional_68 : decode cX3_conditional 68 = .ok (.ireturn, 1) := by decide +kernel
theorem dX3_conditional_69 : decode cX3_conditional 69 = .ok (.iload_n 1, 1) := by decide +kernel
theorem dX3_conditional_70 : decode cX3_conditional 70 = .ok (.invokestatic 161, 3) := by decide +kernel
theorem dX3_conditional_73 : decode cX3_conditional 73 = .ok (.istore_n 3, 1) := by decide +kernel
theorem dX3_conditional_74 : decode cX3_conditional 74 = .ok (.iload_n 2, 1) := by decide +kernel
theorem dX3_conditional_75 : decode cX3_conditional 75 = .ok (.invokestatic 161, 3) := by decide +kernel
theorem dX3_conditional_78 : decode cX3_conditional 78 = .ok (.istore 4, 2) := by decide +kernel
theorem dX3_conditional_80 : decode cX3_conditional 80 = .ok (.iload_n 3, 1) := by decide +kernel
theorem dX3_conditional_81 : decode cX3_conditional 81 = .ok (.ifCond .le 48, 3) := by decide +kernel
theorem dX3_conditional_84 : decode cX3_conditional 84 = .ok (.iload 4, 2) := by decide +kernel
theorem dX3_conditional_86 : decode cX3_conditional 86 = .ok (.ifCond .le 43, 3) := by decide +kernel
theorem dX3_conditional_89 : decode cX3_conditional 89 = .ok (.iload_n 3, 1) := by decide +kernel
theorem dX3_conditional_90 : decode cX3_conditional 90 = .ok (.iload 4, 2) := by decide +kernel
theorem dX3_conditional_92 : decode cX3_conditional 92 = .ok (.if_icmp .ne 7, 3) := by decide +kernel
theorem dX3_conditional_95 : decode cX3_conditional 95 = .ok (.iload_n 3, 1) := by decide +kernel
theorem dX3_conditional_96 : decode cX3_conditional 96 = .ok (.goto 32, 3) := by decide +kernel
theorem dX3_conditional_99 : decode cX3_conditional 99 = .ok (.iload_n 3, 1) := by decide +kernel
theorem dX3_conditional_100 : decode cX3_conditional 100 = .ok (.iconst 2, 1) := by decide +kernel
theorem dX3_conditional_101 : decode cX3_conditional 101 = .ok (.iconst 3, 1) := by decide +kernel
theorem dX3_conditional_102 : decode cX3_conditional 102 = .ok (.invokestatic 47, 3) := by decide +kernel
theorem dX3_conditional_105 : decode cX3_conditional 105 = .ok (.ifCond .eq 17, 3) := by decide +kernel
theorem dX3_conditional_108 : decode cX3_conditional 108 = .ok (.iload 4, 2) := by decide +kernel
theorem dX3_conditional_110 : decode cX3_conditional 110 = .ok (.iconst 2, 1) := by decide +kernel
theorem dX3_conditional_111 : decode cX3_conditional 111 = .ok (.iconst 3, 1) := by decide +kernel
theorem dX3_conditional_112 : decode cX3_conditional 112 = .ok (.invokestatic 47, 3) := by decide +kernel
theorem dX3_conditional_115 : decode cX3_conditional 115 = .ok (.ifCond .eq 7, 3) := by decide +kernel
theorem dX3_conditional_118 : decode cX3_conditional 118 = .ok (.iconst 3, 1) := by decide +kernel
theorem dX3_conditional_119 : decode cX3_conditional 119 = .ok (.goto 9, 3) := by decide +kernel
theorem dX3_conditional_122 : decode cX3_conditional 122 = .ok (.iload_n 3, 1) := by decide +kernel
theorem dX3_conditional_123 : decode cX3_conditional 123 = .ok (.iload 4, 2) := by decide +kernel
theorem dX3_conditional_125 : decode cX3_conditional 125 = .ok (.invokestatic 164, 3) := by decide +kernel
theorem dX3_conditional_128 : decode cX3_conditional 128 = .ok (.ireturn, 1) := by decide +kernel
theorem dX3_conditional_129 : decode cX3_conditional 129 = .ok (.iload_n 1, 1) := by decide +kernel
theorem dX3_conditional_130 : decode cX3_conditional 130 = .ok (.bipush 8, 2) := by decide +kernel
theorem dX3_conditional_132 : decode cX3_conditional 132 = .ok (.if_icmp .ge 10, 3) := by decide +kernel
theorem dX3_conditional_135 : decode cX3_conditional 135 = .ok (.iload_n 1, 1) := by decide +kernel
theorem dX3_conditional_136 : decode cX3_conditional 136 = .ok (.bipush 8, 2) := by decide +kernel
theorem dX3_conditional_138 : decode cX3_conditional 138 = .ok (.iadd, 1) := by decide +kernel
theorem dX3_conditional_139 : decode cX3_conditional 139 = .ok (.goto 4, 3) := by decide +kernel
theorem dX3_conditional_142 : decode cX3_conditional 142 = .ok (.iload_n 1, 1) := by decide +kernel
theorem dX3_conditional_143 : decode cX3_conditional 143 = .ok (.istore 5, 2) := by decide +kernel
theorem dX3_conditional_145 : decode cX3_conditional 145 = .ok (.iload_n 2, 1) := by decide +kernel
theorem dX3_conditional_146 : decode cX3_conditional 146 = .ok (.bipush 8, 2) := by decide +kernel
theorem dX3_conditional_148 : decode cX3_conditional 148 = .ok (.if_icmp .ge 10, 3) := by decide +kernel
theorem dX3_conditional_151 : decode cX3_conditional 151 = .ok (.iload_n 2, 1) := by decide +kernel
theorem dX3_conditional_152 : decode cX3_conditional 152 = .ok (.bipush 8, 2) := by decide +kernel
theorem dX3_conditional_154 : decode cX3_conditional 154 = .ok (.iadd, 1) := by decide +kernel
theorem dX3_conditional_155 : decode cX3_conditional 155 = .ok (.goto 4, 3) := by decide +kernel
theorem dX3_conditional_158 : decode cX3_conditional 158 = .ok (.iload_n 2, 1) := by decide +kernel
theorem dX3_conditional_159 : decode cX3_conditional 159 = .ok (.istore 6, 2) := by decide +kernel
theorem dX3_conditional_161 : decode cX3_conditional 161 = .ok (.aload_n 0, 1) := by decide +kernel
theorem dX3_conditional_162 : decode cX3_conditional 162 = .ok (.getfield 23, 3) := by decide +kernel
theorem dX3_conditional_165 : decode cX3_conditional 165 = .ok (.bipush 40, 2) := by decide +kernel
theorem dX3_conditional_167 : decode cX3_conditional 167 = .ok (.iload 5, 2) := by decide +kernel
theorem dX3_conditional_169 : decode cX3_conditional 169 = .ok (.imul, 1) := by decide +kernel
theorem dX3_conditional_170 : decode cX3_conditional 170 = .ok (.iload 6, 2) := by decide +kernel
theorem dX3_conditional_172 : decode cX3_conditional 172 = .ok (.iadd, 1) := by decide +kernel
theorem dX3_conditional_173 : decode cX3_conditional 173 = .ok (.baload, 1) := by decide +kernel
theorem dX3_conditional_174 : decode cX3_conditional 174 = .ok (.ifCond .eq 8, 3) := by decide +kernel
theorem dX3_conditional_177 : decode cX3_conditional 177 = .ok (.iload 6, 2) := by decide +kernel
theorem dX3_conditional_179 : decode cX3_conditional 179 = .ok (.goto 26, 3) := by decide +kernel
theorem dX3_conditional_182 : decode cX3_conditional 182 = .ok (.aload_n 0, 1) := by decide +kernel
theorem dX3_conditional_183 : decode cX3_conditional 183 = .ok (.getfield 23, 3) := by decide +kernel
theorem dX3_conditional_186 : decode cX3_conditional 186 = .ok (.bipush 40, 2) := by decide +kernel
theorem dX3_conditional_188 : decode cX3_conditional 188 = .ok (.iload 6, 2) := by decide +kernel
theorem dX3_conditional_190 : decode cX3_conditional 190 = .ok (.imul, 1) := by decide +kernel
theorem dX3_conditional_191 : decode cX3_conditional 191 = .ok (.iload 5, 2) := by decide +kernel
theorem dX3_conditional_193 : decode cX3_conditional 193 = .ok (.iadd, 1) := by decide +kernel
theorem dX3_conditional_194 : decode cX3_conditional 194 = .ok (.baload, 1) := by decide +kernel
theorem dX3_conditional_195 : decode cX3_conditional 195 = .ok (.ifCond .eq 8, 3) := by decide +kernel
theorem dX3_conditional_198 : decode cX3_conditional 198 = .ok (.iload 5, 2) := by decide +kernel
theorem dX3_conditional_200 : decode cX3_conditional 200 = .ok (.goto 5, 3) := by decide +kernel
theorem dX3_conditional_203 : decode cX3_conditional 203 = .ok (.bipush 16, 2) := by decide +kernel
theorem dX3_conditional_205 : decode cX3_conditional 205 = .ok (.ireturn, 1) := by decide +kernel
set_option maxRecDepth 20000 in
theorem ggX3_isObject_X3_in : GoodIn wsX3_isObject wsX3_in := goodIn_r _ [5] (by decide +kernel) (by decide +kernel)
set_option maxRecDepth 20000 in
theorem gX3_isObject_X3_in : GoodIn wsX3_isObject (va_wsS RX3 47 yX3_in wsX3_in) := goodIn_app (goodIn_of _ (by decide +kernel)) ggX3_isObject_X3_in
theorem dX3_isObject_0 : decode cX3_isObject 0 = .ok (.iload_n 1, 1) := by decide +kernel
theorem dX3_isObject_1 : decode cX3_isObject 1 = .ok (.iconst 0, 1) := by decide +kernel
theorem dX3_isObject_2 : decode cX3_isObject 2 = .ok (.aload_n 0, 1) := by decide +kernel
theorem dX3_isObject_3 : decode cX3_isObject 3 = .ok (.getfield 168, 3) := by decide +kernel
theorem dX3_isObject_6 : decode cX3_isObject 6 = .ok (.iconst 1, 1) := by decide +kernel
theorem dX3_isObject_7 : decode cX3_isObject 7 = .ok (.isub, 1) := by decide +kernel
theorem dX3_isObject_8 : decode cX3_isObject 8 = .ok (.invokestatic 47, 3) := by decide +kernel
theorem dX3_isObject_11 : decode cX3_isObject 11 = .ok (.ireturn, 1) := by decide +kernel
theorem dX3_keep_0 : decode cX3_keep 0 = .ok (.aload_n 0, 1) := by decide +kernel
theorem dX3_keep_1 : decode cX3_keep 1 = .ok (.getfield 26, 3) := by decide +kernel
theorem dX3_keep_4 : decode cX3_keep 4 = .ok (.aload_n 0, 1) := by decide +kernel
theorem dX3_keep_5 : decode cX3_keep 5 = .ok (.getfield 168, 3) := by decide +kernel
theorem dX3_keep_8 : decode cX3_keep 8 = .ok (.iload_n 1, 1) := by decide +kernel
theorem dX3_keep_9 : decode cX3_keep 9 = .ok (.iastore, 1) := by decide +kernel
theorem dX3_keep_10 : decode cX3_keep 10 = .ok (.aload_n 0, 1) := by decide +kernel
theorem dX3_keep_11 : decode cX3_keep 11 = .ok (.getfield 29, 3) := by decide +kernel
theorem dX3_keep_14 : decode cX3_keep 14 = .ok (.aload_n 0, 1) := by decide +kernel
theorem dX3_keep_15 : decode cX3_keep 15 = .ok (.getfield 168, 3) := by decide +kernel
theorem dX3_keep_18 : decode cX3_keep 18 = .ok (.lload_n 2, 1) := by decide +kernel
theorem dX3_keep_19 : decode cX3_keep 19 = .ok (.lastore, 1) := by decide +kernel
theorem dX3_keep_20 : decode cX3_keep 20 = .ok (.aload_n 0, 1) := by decide +kernel
theorem dX3_keep_21 : decode cX3_keep 21 = .ok (.dup, 1) := by decide +kernel
theorem dX3_keep_22 : decode cX3_keep 22 = .ok (.getfield 168, 3) := by decide +kernel
theorem dX3_keep_25 : decode cX3_keep 25 = .ok (.iconst 1, 1) := by decide +kernel
theorem dX3_keep_26 : decode cX3_keep 26 = .ok (.iadd, 1) := by decide +kernel
theorem dX3_keep_27 : decode cX3_keep 27 = .ok (.putfield 168, 3) := by decide +kernel
theorem dX3_keep_30 : decode cX3_keep 30 = .ok (.aload_n 0, 1) := by decide +kernel
theorem dX3_keep_31 : decode cX3_keep 31 = .ok (.getfield 168, 3) := by decide +kernel
theorem dX3_keep_34 : decode cX3_keep 34 = .ok (.iconst 1, 1) := by decide +kernel
theorem dX3_keep_35 : decode cX3_keep 35 = .ok (.isub, 1) := by decide +kernel
theorem dX3_keep_36 : decode cX3_keep 36 = .ok (.ireturn, 1) := by decide +kernel
set_option maxRecDepth 20000 in
theorem ggX3_box_X3_isType : GoodIn wsX3_box wsX3_isType := goodIn_r _ [7, 8, 9, 10, 6, 11, 42, 43, 44, 45, 46, 47, 48, 49, 50, 51] (by decide +kernel) (by decide +kernel)
set_option maxRecDepth 20000 in
theorem gX3_box_X3_isType : GoodIn wsX3_box (wsV RX3 59 RX3 yX3_isType wsX3_isType) := goodIn_app (goodIn_of _ (by decide +kernel)) ggX3_box_X3_isType
set_option maxRecDepth 20000 in
theorem ggX3_box_X3_isBox : GoodIn wsX3_box wsX3_isBox := goodIn_r _ [14, 9, 10, 6, 11] (by decide +kernel) (by decide +kernel)
set_option maxRecDepth 20000 in
theorem gX3_box_X3_isBox : GoodIn wsX3_box (va_wsS RX3 74 yX3_isBox wsX3_isBox) := goodIn_app (goodIn_of _ (by decide +kernel)) ggX3_box_X3_isBox
set_option maxRecDepth 20000 in
theorem ggX3_box_X3_isBits : GoodIn wsX3_box wsX3_isBits := goodIn_r _ [17, 18, 19, 6, 20, 21, 22, 23, 24, 25, 26, 27] (by decide +kernel) (by decide +kernel)
set_option maxRecDepth 20000 in
theorem gX3_box_X3_isBits : GoodIn wsX3_box (va_wsS RX3 130 yX3_isBits wsX3_isBits) := goodIn_app (goodIn_of _ (by decide +kernel)) ggX3_box_X3_isBits
set_option maxRecDepth 20000 in
theorem ggX3_box_X3_one : GoodIn wsX3_box wsX3_one := goodIn_r _ [30, 27, 31, 32, 33, 34, 35] (by decide +kernel) (by decide +kernel)
set_option maxRecDepth 20000 in
theorem gX3_box_X3_one : GoodIn wsX3_box (va_wsS RX3 135 yX3_one wsX3_one) := goodIn_app (goodIn_of _ (by decide +kernel)) ggX3_box_X3_one
set_option maxRecDepth 20000 in
theorem ggX3_box_X3_keep : GoodIn wsX3_box wsX3_keep := goodIn_ca (goodIn_r _ [39, 40, 2, 41, 42, 43, 44, 45, 46, 47, 48, 49, 50, 51] (by decide +kernel) (by decide +kernel)) (goodIn_sub (fun _ h => List.mem_cons_of_mem _ (List.mem_append_right _ h)) (by decide +kernel))
set_option maxRecDepth 20000 in
theorem gX3_box_X3_keep : GoodIn wsX3_box (wsV RX3 171 RX3 yX3_keep wsX3_keep) := goodIn_app (goodIn_of _ (by decide +kernel)) ggX3_box_X3_keep
theorem dX3_box_0 : decode cX3_box 0 = .ok (.aload_n 0, 1) := by decide +kernel
theorem dX3_box_1 : decode cX3_box 1 = .ok (.iconst 0, 1) := by decide +kernel
theorem dX3_box_2 : decode cX3_box 2 = .ok (.putfield 40, 3) := by decide +kernel
theorem dX3_box_5 : decode cX3_box 5 = .ok (.aload_n 0, 1) := by decide +kernel
theorem dX3_box_6 : decode cX3_box 6 = .ok (.iload_n 1, 1) := by decide +kernel
theorem dX3_box_7 : decode cX3_box 7 = .ok (.invokevirtual 59, 3) := by decide +kernel
theorem dX3_box_10 : decode cX3_box 10 = .ok (.ifCond .ne 5, 3) := by decide +kernel
theorem dX3_box_13 : decode cX3_box 13 = .ok (.iconst (-1), 1) := by decide +kernel
theorem dX3_box_14 : decode cX3_box 14 = .ok (.ireturn, 1) := by decide +kernel
theorem dX3_box_15 : decode cX3_box 15 = .ok (.iload_n 1, 1) := by decide +kernel
theorem dX3_box_16 : decode cX3_box 16 = .ok (.invokestatic 74, 3) := by decide +kernel
theorem dX3_box_19 : decode cX3_box 19 = .ok (.ifCond .eq 14, 3) := by decide +kernel
theorem dX3_box_22 : decode cX3_box 22 = .ok (.iload_n 1, 1) := by decide +kernel
theorem dX3_box_23 : decode cX3_box 23 = .ok (.bipush 8, 2) := by decide +kernel
theorem dX3_box_25 : decode cX3_box 25 = .ok (.isub, 1) := by decide +kernel
theorem dX3_box_26 : decode cX3_box 26 = .ok (.lload_n 2, 1) := by decide +kernel
theorem dX3_box_27 : decode cX3_box 27 = .ok (.invokestatic 130, 3) := by decide +kernel
theorem dX3_box_30 : decode cX3_box 30 = .ok (.ifCond .ne 6, 3) := by decide +kernel
theorem dX3_box_33 : decode cX3_box 33 = .ok (.bipush (-2), 2) := by decide +kernel
theorem dX3_box_35 : decode cX3_box 35 = .ok (.ireturn, 1) := by decide +kernel
theorem dX3_box_36 : decode cX3_box 36 = .ok (.aload_n 0, 1) := by decide +kernel
theorem dX3_box_37 : decode cX3_box 37 = .ok (.getfield 168, 3) := by decide +kernel
theorem dX3_box_40 : decode cX3_box 40 = .ok (.bipush 60, 2) := by decide +kernel
theorem dX3_box_42 : decode cX3_box 42 = .ok (.if_icmp .ne 8, 3) := by decide +kernel
theorem dX3_box_45 : decode cX3_box 45 = .ok (.bipush (-3), 2) := by decide +kernel
theorem dX3_box_47 : decode cX3_box 47 = .ok (.goto 16, 3) := by decide +kernel
theorem dX3_box_50 : decode cX3_box 50 = .ok (.aload_n 0, 1) := by decide +kernel
theorem dX3_box_51 : decode cX3_box 51 = .ok (.iload_n 1, 1) := by decide +kernel
theorem dX3_box_52 : decode cX3_box 52 = .ok (.iload_n 1, 1) := by decide +kernel
theorem dX3_box_53 : decode cX3_box 53 = .ok (.bipush 8, 2) := by decide +kernel
theorem dX3_box_55 : decode cX3_box 55 = .ok (.isub, 1) := by decide +kernel
theorem dX3_box_56 : decode cX3_box 56 = .ok (.lload_n 2, 1) := by decide +kernel
theorem dX3_box_57 : decode cX3_box 57 = .ok (.invokestatic 135, 3) := by decide +kernel
theorem dX3_box_60 : decode cX3_box 60 = .ok (.invokevirtual 171, 3) := by decide +kernel
theorem dX3_box_63 : decode cX3_box 63 = .ok (.ireturn, 1) := by decide +kernel
set_option maxRecDepth 20000 in
theorem ggX3_make_X3_isType : GoodIn wsX3_make wsX3_isType := goodIn_r _ [8, 9, 10, 11, 7, 12, 19, 20, 21, 22, 23, 24, 25, 26, 27, 28] (by decide +kernel) (by decide +kernel)
set_option maxRecDepth 20000 in
theorem gX3_make_X3_isType : GoodIn wsX3_make (wsV RX3 59 RX3 yX3_isType wsX3_isType) := goodIn_app (goodIn_of _ (by decide +kernel)) ggX3_make_X3_isType
set_option maxRecDepth 20000 in
theorem ggX3_make_X3_keep : GoodIn wsX3_make wsX3_keep := goodIn_ca (goodIn_r _ [16, 17, 3, 18, 19, 20, 21, 22, 23, 24, 25, 26, 27, 28] (by decide +kernel) (by decide +kernel)) (goodIn_sub (fun _ h => List.mem_cons_of_mem _ (List.mem_append_right _ h)) (by decide +kernel))
set_option maxRecDepth 20000 in
theorem gX3_make_X3_keep : GoodIn wsX3_make (wsV RX3 171 RX3 yX3_keep wsX3_keep) := goodIn_app (goodIn_of _ (by decide +kernel)) ggX3_make_X3_keep
theorem dX3_make_0 : decode cX3_make 0 = .ok (.aload_n 0, 1) := by decide +kernel
theorem dX3_make_1 : decode cX3_make 1 = .ok (.iconst 0, 1) := by decide +kernel
theorem dX3_make_2 : decode cX3_make 2 = .ok (.putfield 40, 3) := by decide +kernel
theorem dX3_make_5 : decode cX3_make 5 = .ok (.aload_n 0, 1) := by decide +kernel
theorem dX3_make_6 : decode cX3_make 6 = .ok (.iload_n 1, 1) := by decide +kernel
theorem dX3_make_7 : decode cX3_make 7 = .ok (.invokevirtual 59, 3) := by decide +kernel
theorem dX3_make_10 : decode cX3_make 10 = .ok (.ifCond .ne 5, 3) := by decide +kernel
theorem dX3_make_13 : decode cX3_make 13 = .ok (.iconst (-1), 1) := by decide +kernel
theorem dX3_make_14 : decode cX3_make 14 = .ok (.ireturn, 1) := by decide +kernel
theorem dX3_make_15 : decode cX3_make 15 = .ok (.iload_n 1, 1) := by decide +kernel
theorem dX3_make_16 : decode cX3_make 16 = .ok (.bipush 16, 2) := by decide +kernel
theorem dX3_make_18 : decode cX3_make 18 = .ok (.if_icmp .eq 41, 3) := by decide +kernel
theorem dX3_make_21 : decode cX3_make 21 = .ok (.iload_n 1, 1) := by decide +kernel
theorem dX3_make_22 : decode cX3_make 22 = .ok (.bipush 21, 2) := by decide +kernel
theorem dX3_make_24 : decode cX3_make 24 = .ok (.if_icmp .eq 35, 3) := by decide +kernel
theorem dX3_make_27 : decode cX3_make 27 = .ok (.iload_n 1, 1) := by decide +kernel
theorem dX3_make_28 : decode cX3_make 28 = .ok (.bipush 22, 2) := by decide +kernel
theorem dX3_make_30 : decode cX3_make 30 = .ok (.if_icmp .eq 29, 3) := by decide +kernel
theorem dX3_make_33 : decode cX3_make 33 = .ok (.iload_n 1, 1) := by decide +kernel
theorem dX3_make_34 : decode cX3_make 34 = .ok (.bipush 22, 2) := by decide +kernel
theorem dX3_make_36 : decode cX3_make 36 = .ok (.if_icmp .le 27, 3) := by decide +kernel
theorem dX3_make_39 : decode cX3_make 39 = .ok (.aload_n 0, 1) := by decide +kernel
theorem dX3_make_40 : decode cX3_make 40 = .ok (.getfield 7, 3) := by decide +kernel
theorem dX3_make_43 : decode cX3_make 43 = .ok (.iload_n 1, 1) := by decide +kernel
theorem dX3_make_44 : decode cX3_make 44 = .ok (.iaload, 1) := by decide +kernel
theorem dX3_make_45 : decode cX3_make 45 = .ok (.iconst 1, 1) := by decide +kernel
theorem dX3_make_46 : decode cX3_make 46 = .ok (.if_icmp .eq 13, 3) := by decide +kernel
theorem dX3_make_49 : decode cX3_make 49 = .ok (.aload_n 0, 1) := by decide +kernel
theorem dX3_make_50 : decode cX3_make 50 = .ok (.getfield 7, 3) := by decide +kernel
theorem dX3_make_53 : decode cX3_make 53 = .ok (.iload_n 1, 1) := by decide +kernel
theorem dX3_make_54 : decode cX3_make 54 = .ok (.iaload, 1) := by decide +kernel
theorem dX3_make_55 : decode cX3_make 55 = .ok (.iconst 3, 1) := by decide +kernel
theorem dX3_make_56 : decode cX3_make 56 = .ok (.if_icmp .ne 7, 3) := by decide +kernel
theorem dX3_make_59 : decode cX3_make 59 = .ok (.iconst 1, 1) := by decide +kernel
theorem dX3_make_60 : decode cX3_make 60 = .ok (.goto 4, 3) := by decide +kernel
theorem dX3_make_63 : decode cX3_make 63 = .ok (.iconst 0, 1) := by decide +kernel
theorem dX3_make_64 : decode cX3_make 64 = .ok (.istore_n 2, 1) := by decide +kernel
theorem dX3_make_65 : decode cX3_make 65 = .ok (.iload_n 2, 1) := by decide +kernel
theorem dX3_make_66 : decode cX3_make 66 = .ok (.ifCond .ne 8, 3) := by decide +kernel
theorem dX3_make_69 : decode cX3_make 69 = .ok (.bipush (-2), 2) := by decide +kernel
theorem dX3_make_71 : decode cX3_make 71 = .ok (.goto 23, 3) := by decide +kernel
theorem dX3_make_74 : decode cX3_make 74 = .ok (.aload_n 0, 1) := by decide +kernel
theorem dX3_make_75 : decode cX3_make 75 = .ok (.getfield 168, 3) := by decide +kernel
theorem dX3_make_78 : decode cX3_make 78 = .ok (.bipush 60, 2) := by decide +kernel
theorem dX3_make_80 : decode cX3_make 80 = .ok (.if_icmp .ne 8, 3) := by decide +kernel
theorem dX3_make_83 : decode cX3_make 83 = .ok (.bipush (-3), 2) := by decide +kernel
theorem dX3_make_85 : decode cX3_make 85 = .ok (.goto 9, 3) := by decide +kernel
theorem dX3_make_88 : decode cX3_make 88 = .ok (.aload_n 0, 1) := by decide +kernel
theorem dX3_make_89 : decode cX3_make 89 = .ok (.iload_n 1, 1) := by decide +kernel
theorem dX3_make_90 : decode cX3_make 90 = .ok (.lconst 0, 1) := by decide +kernel
theorem dX3_make_91 : decode cX3_make 91 = .ok (.invokevirtual 171, 3) := by decide +kernel
theorem dX3_make_94 : decode cX3_make 94 = .ok (.ireturn, 1) := by decide +kernel
set_option maxRecDepth 20000 in
theorem ggX3_typeOf_X3_isObject : GoodIn wsX3_typeOf wsX3_isObject := goodIn_r _ [7, 8, 9, 10, 6, 11, 12, 13, 14, 15, 16, 17, 18, 19, 20, 21] (by decide +kernel) (by decide +kernel)
set_option maxRecDepth 20000 in
theorem gX3_typeOf_X3_isObject : GoodIn wsX3_typeOf (wsV RX3 175 RX3 yX3_isObject wsX3_isObject) := goodIn_app (goodIn_of _ (by decide +kernel)) ggX3_typeOf_X3_isObject
theorem dX3_typeOf_0 : decode cX3_typeOf 0 = .ok (.aload_n 0, 1) := by decide +kernel
theorem dX3_typeOf_1 : decode cX3_typeOf 1 = .ok (.iconst 0, 1) := by decide +kernel
theorem dX3_typeOf_2 : decode cX3_typeOf 2 = .ok (.putfield 40, 3) := by decide +kernel
theorem dX3_typeOf_5 : decode cX3_typeOf 5 = .ok (.aload_n 0, 1) := by decide +kernel
theorem dX3_typeOf_6 : decode cX3_typeOf 6 = .ok (.iload_n 1, 1) := by decide +kernel
theorem dX3_typeOf_7 : decode cX3_typeOf 7 = .ok (.invokevirtual 175, 3) := by decide +kernel
theorem dX3_typeOf_10 : decode cX3_typeOf 10 = .ok (.ifCond .eq 12, 3) := by decide +kernel
theorem dX3_typeOf_13 : decode cX3_typeOf 13 = .ok (.aload_n 0, 1) := by decide +kernel
theorem dX3_typeOf_14 : decode cX3_typeOf 14 = .ok (.getfield 26, 3) := by decide +kernel
theorem dX3_typeOf_17 : decode cX3_typeOf 17 = .ok (.iload_n 1, 1) := by decide +kernel
theorem dX3_typeOf_18 : decode cX3_typeOf 18 = .ok (.iaload, 1) := by decide +kernel
theorem dX3_typeOf_19 : decode cX3_typeOf 19 = .ok (.goto 4, 3) := by decide +kernel
theorem dX3_typeOf_22 : decode cX3_typeOf 22 = .ok (.iconst (-1), 1) := by decide +kernel
theorem dX3_typeOf_23 : decode cX3_typeOf 23 = .ok (.ireturn, 1) := by decide +kernel
set_option maxRecDepth 20000 in
theorem ggX3_unboxed_X3_isObject : GoodIn wsX3_unboxed wsX3_isObject := goodIn_r _ [10, 11, 12, 13, 9, 14, 23, 24, 25, 26, 27, 28, 29, 30, 31, 32] (by decide +kernel) (by decide +kernel)
set_option maxRecDepth 20000 in
theorem gX3_unboxed_X3_isObject : GoodIn wsX3_unboxed (wsV RX3 175 RX3 yX3_isObject wsX3_isObject) := goodIn_app (goodIn_of _ (by decide +kernel)) ggX3_unboxed_X3_isObject
set_option maxRecDepth 20000 in
theorem ggX3_unboxed_X3_isType : GoodIn wsX3_unboxed wsX3_isType := goodIn_r _ [18, 19, 12, 13, 9, 14, 23, 24, 25, 26, 27, 28, 29, 30, 31, 32] (by decide +kernel) (by decide +kernel)
set_option maxRecDepth 20000 in
theorem gX3_unboxed_X3_isType : GoodIn wsX3_unboxed (wsV RX3 59 RX3 yX3_isType wsX3_isType) := goodIn_app (goodIn_of _ (by decide +kernel)) ggX3_unboxed_X3_isType
set_option maxRecDepth 20000 in
theorem ggX3_unboxed_X3_isBox : GoodIn wsX3_unboxed wsX3_isBox := goodIn_r _ [22, 12, 13, 9, 14] (by decide +kernel) (by decide +kernel)
set_option maxRecDepth 20000 in
theorem gX3_unboxed_X3_isBox : GoodIn wsX3_unboxed (va_wsS RX3 74 yX3_isBox wsX3_isBox) := goodIn_app (goodIn_of _ (by decide +kernel)) ggX3_unboxed_X3_isBox
theorem dX3_unboxed_0 : decode cX3_unboxed 0 = .ok (.aload_n 0, 1) := by decide +kernel
theorem dX3_unboxed_1 : decode cX3_unboxed 1 = .ok (.iconst 0, 1) := by decide +kernel
theorem dX3_unboxed_2 : decode cX3_unboxed 2 = .ok (.putfield 40, 3) := by decide +kernel
theorem dX3_unboxed_5 : decode cX3_unboxed 5 = .ok (.aload_n 0, 1) := by decide +kernel
theorem dX3_unboxed_6 : decode cX3_unboxed 6 = .ok (.iload_n 1, 1) := by decide +kernel
theorem dX3_unboxed_7 : decode cX3_unboxed 7 = .ok (.invokevirtual 175, 3) := by decide +kernel
theorem dX3_unboxed_10 : decode cX3_unboxed 10 = .ok (.ifCond .eq 11, 3) := by decide +kernel
theorem dX3_unboxed_13 : decode cX3_unboxed 13 = .ok (.aload_n 0, 1) := by decide +kernel
theorem dX3_unboxed_14 : decode cX3_unboxed 14 = .ok (.iload_n 2, 1) := by decide +kernel
theorem dX3_unboxed_15 : decode cX3_unboxed 15 = .ok (.invokevirtual 59, 3) := by decide +kernel
theorem dX3_unboxed_18 : decode cX3_unboxed 18 = .ok (.ifCond .ne 7, 3) := by decide +kernel
theorem dX3_unboxed_21 : decode cX3_unboxed 21 = .ok (.ldc2_w 128, 3) := by decide +kernel
theorem dX3_unboxed_24 : decode cX3_unboxed 24 = .ok (.lreturn, 1) := by decide +kernel
theorem dX3_unboxed_25 : decode cX3_unboxed 25 = .ok (.iload_n 2, 1) := by decide +kernel
theorem dX3_unboxed_26 : decode cX3_unboxed 26 = .ok (.invokestatic 74, 3) := by decide +kernel
theorem dX3_unboxed_29 : decode cX3_unboxed 29 = .ok (.ifCond .ne 7, 3) := by decide +kernel
theorem dX3_unboxed_32 : decode cX3_unboxed 32 = .ok (.ldc2_w 133, 3) := by decide +kernel
theorem dX3_unboxed_35 : decode cX3_unboxed 35 = .ok (.lreturn, 1) := by decide +kernel
theorem dX3_unboxed_36 : decode cX3_unboxed 36 = .ok (.aload_n 0, 1) := by decide +kernel
theorem dX3_unboxed_37 : decode cX3_unboxed 37 = .ok (.aload_n 0, 1) := by decide +kernel
theorem dX3_unboxed_38 : decode cX3_unboxed 38 = .ok (.getfield 26, 3) := by decide +kernel
theorem dX3_unboxed_41 : decode cX3_unboxed 41 = .ok (.iload_n 1, 1) := by decide +kernel
theorem dX3_unboxed_42 : decode cX3_unboxed 42 = .ok (.iaload, 1) := by decide +kernel
theorem dX3_unboxed_43 : decode cX3_unboxed 43 = .ok (.bipush 22, 2) := by decide +kernel
theorem dX3_unboxed_45 : decode cX3_unboxed 45 = .ok (.if_icmp .ne 7, 3) := by decide +kernel
theorem dX3_unboxed_48 : decode cX3_unboxed 48 = .ok (.iconst 2, 1) := by decide +kernel
theorem dX3_unboxed_49 : decode cX3_unboxed 49 = .ok (.goto 18, 3) := by decide +kernel
theorem dX3_unboxed_52 : decode cX3_unboxed 52 = .ok (.aload_n 0, 1) := by decide +kernel
theorem dX3_unboxed_53 : decode cX3_unboxed 53 = .ok (.getfield 26, 3) := by decide +kernel
theorem dX3_unboxed_56 : decode cX3_unboxed 56 = .ok (.iload_n 1, 1) := by decide +kernel
theorem dX3_unboxed_57 : decode cX3_unboxed 57 = .ok (.iaload, 1) := by decide +kernel
theorem dX3_unboxed_58 : decode cX3_unboxed 58 = .ok (.iload_n 2, 1) := by decide +kernel
theorem dX3_unboxed_59 : decode cX3_unboxed 59 = .ok (.if_icmp .eq 7, 3) := by decide +kernel
theorem dX3_unboxed_62 : decode cX3_unboxed 62 = .ok (.iconst 1, 1) := by decide +kernel
theorem dX3_unboxed_63 : decode cX3_unboxed 63 = .ok (.goto 4, 3) := by decide +kernel
theorem dX3_unboxed_66 : decode cX3_unboxed 66 = .ok (.iconst 0, 1) := by decide +kernel
theorem dX3_unboxed_67 : decode cX3_unboxed 67 = .ok (.putfield 40, 3) := by decide +kernel
theorem dX3_unboxed_70 : decode cX3_unboxed 70 = .ok (.aload_n 0, 1) := by decide +kernel
theorem dX3_unboxed_71 : decode cX3_unboxed 71 = .ok (.getfield 40, 3) := by decide +kernel
theorem dX3_unboxed_74 : decode cX3_unboxed 74 = .ok (.ifCond .le 7, 3) := by decide +kernel
theorem dX3_unboxed_77 : decode cX3_unboxed 77 = .ok (.lconst 0, 1) := by decide +kernel
theorem dX3_unboxed_78 : decode cX3_unboxed 78 = .ok (.goto 9, 3) := by decide +kernel
theorem dX3_unboxed_81 : decode cX3_unboxed 81 = .ok (.aload_n 0, 1) := by decide +kernel
theorem dX3_unboxed_82 : decode cX3_unboxed 82 = .ok (.getfield 29, 3) := by decide +kernel
theorem dX3_unboxed_85 : decode cX3_unboxed 85 = .ok (.iload_n 1, 1) := by decide +kernel
theorem dX3_unboxed_86 : decode cX3_unboxed 86 = .ok (.laload, 1) := by decide +kernel
theorem dX3_unboxed_87 : decode cX3_unboxed 87 = .ok (.lreturn, 1) := by decide +kernel
set_option maxRecDepth 20000 in
theorem ggX3_cast_X3_isObject : GoodIn wsX3_cast wsX3_isObject := goodIn_r _ [8, 9, 10, 11, 7, 12, 53, 54, 55, 56, 57, 58, 59, 60, 61, 62] (by decide +kernel) (by decide +kernel)
set_option maxRecDepth 20000 in
theorem gX3_cast_X3_isObject : GoodIn wsX3_cast (wsV RX3 175 RX3 yX3_isObject wsX3_isObject) := goodIn_app (goodIn_of _ (by decide +kernel)) ggX3_cast_X3_isObject
set_option maxRecDepth 20000 in
theorem ggX3_cast_X3_isType : GoodIn wsX3_cast wsX3_isType := goodIn_r _ [16, 17, 10, 11, 7, 12, 53, 54, 55, 56, 57, 58, 59, 60, 61, 62] (by decide +kernel) (by decide +kernel)
set_option maxRecDepth 20000 in
theorem gX3_cast_X3_isType : GoodIn wsX3_cast (wsV RX3 59 RX3 yX3_isType wsX3_isType) := goodIn_app (goodIn_of _ (by decide +kernel)) ggX3_cast_X3_isType
set_option maxRecDepth 20000 in
theorem ggX3_cast_X3_isReference : GoodIn wsX3_cast wsX3_isReference := goodIn_r _ [21] (by decide +kernel) (by decide +kernel)
set_option maxRecDepth 20000 in
theorem gX3_cast_X3_isReference : GoodIn wsX3_cast (wsV RX3 55 RX3 yX3_isReference wsX3_isReference) := goodIn_app (goodIn_of _ (by decide +kernel)) ggX3_cast_X3_isReference
set_option maxRecDepth 20000 in
theorem ggX3_cast_X3_kindOf : GoodIn wsX3_cast wsX3_kindOf := goodIn_ca (goodIn_r _ [25, 26, 27, 7, 28, 10, 11, 12, 29, 30, 31, 32, 33, 34, 35, 36, 37, 38, 39, 40, 41, 42, 3, 18, 19, 20, 21, 43, 44, 45, 46, 47, 48, 49, 50, 51, 52, 53, 54, 55, 56, 57, 58, 59, 60, 61, 62] (by decide +kernel) (by decide +kernel)) (goodIn_sub (fun _ h => List.mem_cons_of_mem _ (List.mem_append_right _ h)) (by decide +kernel))
set_option maxRecDepth 20000 in
theorem gX3_cast_X3_kindOf : GoodIn wsX3_cast (wsV RX3 86 RX3 yX3_kindOf wsX3_kindOf) := goodIn_app (goodIn_of _ (by decide +kernel)) ggX3_cast_X3_kindOf
theorem dX3_cast_0 : decode cX3_cast 0 = .ok (.aload_n 0, 1) := by decide +kernel
theorem dX3_cast_1 : decode cX3_cast 1 = .ok (.iconst 0, 1) := by decide +kernel
theorem dX3_cast_2 : decode cX3_cast 2 = .ok (.putfield 40, 3) := by decide +kernel
theorem dX3_cast_5 : decode cX3_cast 5 = .ok (.aload_n 0, 1) := by decide +kernel
theorem dX3_cast_6 : decode cX3_cast 6 = .ok (.iload_n 1, 1) := by decide +kernel
theorem dX3_cast_7 : decode cX3_cast 7 = .ok (.invokevirtual 175, 3) := by decide +kernel
theorem dX3_cast_10 : decode cX3_cast 10 = .ok (.ifCond .eq 19, 3) := by decide +kernel
theorem dX3_cast_13 : decode cX3_cast 13 = .ok (.aload_n 0, 1) := by decide +kernel
theorem dX3_cast_14 : decode cX3_cast 14 = .ok (.iload_n 2, 1) := by decide +kernel
theorem dX3_cast_15 : decode cX3_cast 15 = .ok (.invokevirtual 59, 3) := by decide +kernel
theorem dX3_cast_18 : decode cX3_cast 18 = .ok (.ifCond .eq 11, 3) := by decide +kernel
theorem dX3_cast_21 : decode cX3_cast 21 = .ok (.aload_n 0, 1) := by decide +kernel
theorem dX3_cast_22 : decode cX3_cast 22 = .ok (.iload_n 3, 1) := by decide +kernel
theorem dX3_cast_23 : decode cX3_cast 23 = .ok (.invokevirtual 59, 3) := by decide +kernel
theorem dX3_cast_26 : decode cX3_cast 26 = .ok (.ifCond .ne 5, 3) := by decide +kernel
theorem dX3_cast_29 : decode cX3_cast 29 = .ok (.iconst (-1), 1) := by decide +kernel
theorem dX3_cast_30 : decode cX3_cast 30 = .ok (.ireturn, 1) := by decide +kernel
theorem dX3_cast_31 : decode cX3_cast 31 = .ok (.aload_n 0, 1) := by decide +kernel
theorem dX3_cast_32 : decode cX3_cast 32 = .ok (.getfield 26, 3) := by decide +kernel
theorem dX3_cast_35 : decode cX3_cast 35 = .ok (.iload_n 1, 1) := by decide +kernel
theorem dX3_cast_36 : decode cX3_cast 36 = .ok (.iaload, 1) := by decide +kernel
theorem dX3_cast_37 : decode cX3_cast 37 = .ok (.istore 4, 2) := by decide +kernel
theorem dX3_cast_39 : decode cX3_cast 39 = .ok (.aload_n 0, 1) := by decide +kernel
theorem dX3_cast_40 : decode cX3_cast 40 = .ok (.iload_n 2, 1) := by decide +kernel
theorem dX3_cast_41 : decode cX3_cast 41 = .ok (.invokevirtual 55, 3) := by decide +kernel
theorem dX3_cast_44 : decode cX3_cast 44 = .ok (.ifCond .eq 18, 3) := by decide +kernel
theorem dX3_cast_47 : decode cX3_cast 47 = .ok (.aload_n 0, 1) := by decide +kernel
theorem dX3_cast_48 : decode cX3_cast 48 = .ok (.getfield 23, 3) := by decide +kernel
theorem dX3_cast_51 : decode cX3_cast 51 = .ok (.bipush 40, 2) := by decide +kernel
theorem dX3_cast_53 : decode cX3_cast 53 = .ok (.iload 4, 2) := by decide +kernel
theorem dX3_cast_55 : decode cX3_cast 55 = .ok (.imul, 1) := by decide +kernel
theorem dX3_cast_56 : decode cX3_cast 56 = .ok (.iload_n 2, 1) := by decide +kernel
theorem dX3_cast_57 : decode cX3_cast 57 = .ok (.iadd, 1) := by decide +kernel
theorem dX3_cast_58 : decode cX3_cast 58 = .ok (.baload, 1) := by decide +kernel
theorem dX3_cast_59 : decode cX3_cast 59 = .ok (.ifCond .ne 6, 3) := by decide +kernel
theorem dX3_cast_62 : decode cX3_cast 62 = .ok (.bipush (-2), 2) := by decide +kernel
theorem dX3_cast_64 : decode cX3_cast 64 = .ok (.ireturn, 1) := by decide +kernel
theorem dX3_cast_65 : decode cX3_cast 65 = .ok (.aload_n 0, 1) := by decide +kernel
theorem dX3_cast_66 : decode cX3_cast 66 = .ok (.iload_n 2, 1) := by decide +kernel
theorem dX3_cast_67 : decode cX3_cast 67 = .ok (.iload_n 3, 1) := by decide +kernel
theorem dX3_cast_68 : decode cX3_cast 68 = .ok (.iconst 3, 1) := by decide +kernel
theorem dX3_cast_69 : decode cX3_cast 69 = .ok (.invokevirtual 86, 3) := by decide +kernel
theorem dX3_cast_72 : decode cX3_cast 72 = .ok (.istore 5, 2) := by decide +kernel
theorem dX3_cast_74 : decode cX3_cast 74 = .ok (.iload 5, 2) := by decide +kernel
theorem dX3_cast_76 : decode cX3_cast 76 = .ok (.ifCond .ne 6, 3) := by decide +kernel
theorem dX3_cast_79 : decode cX3_cast 79 = .ok (.bipush (-2), 2) := by decide +kernel
theorem dX3_cast_81 : decode cX3_cast 81 = .ok (.ireturn, 1) := by decide +kernel
theorem dX3_cast_82 : decode cX3_cast 82 = .ok (.iload 4, 2) := by decide +kernel
theorem dX3_cast_84 : decode cX3_cast 84 = .ok (.bipush 22, 2) := by decide +kernel
theorem dX3_cast_86 : decode cX3_cast 86 = .ok (.if_icmp .ne 7, 3) := by decide +kernel
theorem dX3_cast_89 : decode cX3_cast 89 = .ok (.iconst 1, 1) := by decide +kernel
theorem dX3_cast_90 : decode cX3_cast 90 = .ok (.goto 4, 3) := by decide +kernel
theorem dX3_cast_93 : decode cX3_cast 93 = .ok (.iconst 0, 1) := by decide +kernel
theorem dX3_cast_94 : decode cX3_cast 94 = .ok (.istore 6, 2) := by decide +kernel
theorem dX3_cast_96 : decode cX3_cast 96 = .ok (.iload_n 3, 1) := by decide +kernel
theorem dX3_cast_97 : decode cX3_cast 97 = .ok (.bipush 8, 2) := by decide +kernel
theorem dX3_cast_99 : decode cX3_cast 99 = .ok (.if_icmp .ge 34, 3) := by decide +kernel
theorem dX3_cast_102 : decode cX3_cast 102 = .ok (.iload 6, 2) := by decide +kernel
theorem dX3_cast_104 : decode cX3_cast 104 = .ok (.ifCond .eq 7, 3) := by decide +kernel
theorem dX3_cast_107 : decode cX3_cast 107 = .ok (.iconst 2, 1) := by decide +kernel
theorem dX3_cast_108 : decode cX3_cast 108 = .ok (.goto 24, 3) := by decide +kernel
theorem dX3_cast_111 : decode cX3_cast 111 = .ok (.iload 5, 2) := by decide +kernel
theorem dX3_cast_113 : decode cX3_cast 113 = .ok (.bipush 11, 2) := by decide +kernel
theorem dX3_cast_115 : decode cX3_cast 115 = .ok (.if_icmp .ne 16, 3) := by decide +kernel
theorem dX3_cast_118 : decode cX3_cast 118 = .ok (.iload 4, 2) := by decide +kernel
theorem dX3_cast_120 : decode cX3_cast 120 = .ok (.iload_n 3, 1) := by decide +kernel
theorem dX3_cast_121 : decode cX3_cast 121 = .ok (.bipush 8, 2) := by decide +kernel
theorem dX3_cast_123 : decode cX3_cast 123 = .ok (.iadd, 1) := by decide +kernel
theorem dX3_cast_124 : decode cX3_cast 124 = .ok (.if_icmp .eq 7, 3) := by decide +kernel
theorem dX3_cast_127 : decode cX3_cast 127 = .ok (.iconst 0, 1) := by decide +kernel
theorem dX3_cast_128 : decode cX3_cast 128 = .ok (.goto 4, 3) := by decide +kernel
theorem dX3_cast_131 : decode cX3_cast 131 = .ok (.iconst 1, 1) := by decide +kernel
theorem dX3_cast_132 : decode cX3_cast 132 = .ok (.ireturn, 1) := by decide +kernel
theorem dX3_cast_133 : decode cX3_cast 133 = .ok (.aload_n 0, 1) := by decide +kernel
theorem dX3_cast_134 : decode cX3_cast 134 = .ok (.getfield 23, 3) := by decide +kernel
theorem dX3_cast_137 : decode cX3_cast 137 = .ok (.bipush 40, 2) := by decide +kernel
theorem dX3_cast_139 : decode cX3_cast 139 = .ok (.iload 4, 2) := by decide +kernel
theorem dX3_cast_141 : decode cX3_cast 141 = .ok (.imul, 1) := by decide +kernel
theorem dX3_cast_142 : decode cX3_cast 142 = .ok (.iload_n 3, 1) := by decide +kernel
theorem dX3_cast_143 : decode cX3_cast 143 = .ok (.iadd, 1) := by decide +kernel
theorem dX3_cast_144 : decode cX3_cast 144 = .ok (.baload, 1) := by decide +kernel
theorem dX3_cast_145 : decode cX3_cast 145 = .ok (.ifCond .eq 7, 3) := by decide +kernel
theorem dX3_cast_148 : decode cX3_cast 148 = .ok (.iconst 1, 1) := by decide +kernel
theorem dX3_cast_149 : decode cX3_cast 149 = .ok (.goto 4, 3) := by decide +kernel
theorem dX3_cast_152 : decode cX3_cast 152 = .ok (.iconst 0, 1) := by decide +kernel
theorem dX3_cast_153 : decode cX3_cast 153 = .ok (.ireturn, 1) := by decide +kernel
theorem dX3_count_0 : decode cX3_count 0 = .ok (.aload_n 0, 1) := by decide +kernel
theorem dX3_count_1 : decode cX3_count 1 = .ok (.iconst 0, 1) := by decide +kernel
theorem dX3_count_2 : decode cX3_count 2 = .ok (.putfield 40, 3) := by decide +kernel
theorem dX3_count_5 : decode cX3_count 5 = .ok (.iload_n 1, 1) := by decide +kernel
theorem dX3_count_6 : decode cX3_count 6 = .ok (.ifCond .ne 10, 3) := by decide +kernel
theorem dX3_count_9 : decode cX3_count 9 = .ok (.aload_n 0, 1) := by decide +kernel
theorem dX3_count_10 : decode cX3_count 10 = .ok (.getfield 44, 3) := by decide +kernel
theorem dX3_count_13 : decode cX3_count 13 = .ok (.goto 16, 3) := by decide +kernel
theorem dX3_count_16 : decode cX3_count 16 = .ok (.iload_n 1, 1) := by decide +kernel
theorem dX3_count_17 : decode cX3_count 17 = .ok (.iconst 1, 1) := by decide +kernel
theorem dX3_count_18 : decode cX3_count 18 = .ok (.if_icmp .ne 10, 3) := by decide +kernel
theorem dX3_count_21 : decode cX3_count 21 = .ok (.aload_n 0, 1) := by decide +kernel
theorem dX3_count_22 : decode cX3_count 22 = .ok (.getfield 168, 3) := by decide +kernel
theorem dX3_count_25 : decode cX3_count 25 = .ok (.goto 4, 3) := by decide +kernel
theorem dX3_count_28 : decode cX3_count 28 = .ok (.iconst (-1), 1) := by decide +kernel
theorem dX3_count_29 : decode cX3_count 29 = .ok (.ireturn, 1) := by decide +kernel
theorem dJx3273f_init_da8c8_0 : decode cJx3273f_init_da8c8 0 = .ok (.aload_n 0, 1) := by decide +kernel
theorem dJx3273f_init_da8c8_1 : decode cJx3273f_init_da8c8 1 = .ok (.invokespecial 1, 3) := by decide +kernel
theorem dJx3273f_init_da8c8_4 : decode cJx3273f_init_da8c8 4 = .ok (.return_, 1) := by decide +kernel
theorem dJ6_numberOfLeadingZeros_0f7a4_0 : decode cJ6_numberOfLeadingZeros_0f7a4 0 = .ok (.iload_n 0, 1) := by decide +kernel
theorem dJ6_numberOfLeadingZeros_0f7a4_1 : decode cJ6_numberOfLeadingZeros_0f7a4 1 = .ok (.ifCond .gt 14, 3) := by decide +kernel
theorem dJ6_numberOfLeadingZeros_0f7a4_4 : decode cJ6_numberOfLeadingZeros_0f7a4 4 = .ok (.iload_n 0, 1) := by decide +kernel
theorem dJ6_numberOfLeadingZeros_0f7a4_5 : decode cJ6_numberOfLeadingZeros_0f7a4 5 = .ok (.ifCond .ne 8, 3) := by decide +kernel
theorem dJ6_numberOfLeadingZeros_0f7a4_8 : decode cJ6_numberOfLeadingZeros_0f7a4 8 = .ok (.bipush 32, 2) := by decide +kernel
theorem dJ6_numberOfLeadingZeros_0f7a4_10 : decode cJ6_numberOfLeadingZeros_0f7a4 10 = .ok (.goto 4, 3) := by decide +kernel
theorem dJ6_numberOfLeadingZeros_0f7a4_13 : decode cJ6_numberOfLeadingZeros_0f7a4 13 = .ok (.iconst 0, 1) := by decide +kernel
theorem dJ6_numberOfLeadingZeros_0f7a4_14 : decode cJ6_numberOfLeadingZeros_0f7a4 14 = .ok (.ireturn, 1) := by decide +kernel
theorem dJ6_numberOfLeadingZeros_0f7a4_15 : decode cJ6_numberOfLeadingZeros_0f7a4 15 = .ok (.bipush 31, 2) := by decide +kernel
theorem dJ6_numberOfLeadingZeros_0f7a4_17 : decode cJ6_numberOfLeadingZeros_0f7a4 17 = .ok (.istore_n 1, 1) := by decide +kernel
theorem dJ6_numberOfLeadingZeros_0f7a4_18 : decode cJ6_numberOfLeadingZeros_0f7a4 18 = .ok (.iload_n 0, 1) := by decide +kernel
theorem dJ6_numberOfLeadingZeros_0f7a4_19 : decode cJ6_numberOfLeadingZeros_0f7a4 19 = .ok (.ldc_w 264, 3) := by decide +kernel
theorem dJ6_numberOfLeadingZeros_0f7a4_22 : decode cJ6_numberOfLeadingZeros_0f7a4 22 = .ok (.if_icmp .lt 11, 3) := by decide +kernel
theorem dJ6_numberOfLeadingZeros_0f7a4_25 : decode cJ6_numberOfLeadingZeros_0f7a4 25 = .ok (.iinc 1 (-16), 3) := by decide +kernel
theorem dJ6_numberOfLeadingZeros_0f7a4_28 : decode cJ6_numberOfLeadingZeros_0f7a4 28 = .ok (.iload_n 0, 1) := by decide +kernel
theorem dJ6_numberOfLeadingZeros_0f7a4_29 : decode cJ6_numberOfLeadingZeros_0f7a4 29 = .ok (.bipush 16, 2) := by decide +kernel
theorem dJ6_numberOfLeadingZeros_0f7a4_31 : decode cJ6_numberOfLeadingZeros_0f7a4 31 = .ok (.iushr, 1) := by decide +kernel
theorem dJ6_numberOfLeadingZeros_0f7a4_32 : decode cJ6_numberOfLeadingZeros_0f7a4 32 = .ok (.istore_n 0, 1) := by decide +kernel
theorem dJ6_numberOfLeadingZeros_0f7a4_33 : decode cJ6_numberOfLeadingZeros_0f7a4 33 = .ok (.iload_n 0, 1) := by decide +kernel
theorem dJ6_numberOfLeadingZeros_0f7a4_34 : decode cJ6_numberOfLeadingZeros_0f7a4 34 = .ok (.sipush 256, 3) := by decide +kernel
theorem dJ6_numberOfLeadingZeros_0f7a4_37 : decode cJ6_numberOfLeadingZeros_0f7a4 37 = .ok (.if_icmp .lt 11, 3) := by decide +kernel
theorem dJ6_numberOfLeadingZeros_0f7a4_40 : decode cJ6_numberOfLeadingZeros_0f7a4 40 = .ok (.iinc 1 (-8), 3) := by decide +kernel
theorem dJ6_numberOfLeadingZeros_0f7a4_43 : decode cJ6_numberOfLeadingZeros_0f7a4 43 = .ok (.iload_n 0, 1) := by decide +kernel
theorem dJ6_numberOfLeadingZeros_0f7a4_44 : decode cJ6_numberOfLeadingZeros_0f7a4 44 = .ok (.bipush 8, 2) := by decide +kernel
theorem dJ6_numberOfLeadingZeros_0f7a4_46 : decode cJ6_numberOfLeadingZeros_0f7a4 46 = .ok (.iushr, 1) := by decide +kernel
theorem dJ6_numberOfLeadingZeros_0f7a4_47 : decode cJ6_numberOfLeadingZeros_0f7a4 47 = .ok (.istore_n 0, 1) := by decide +kernel
theorem dJ6_numberOfLeadingZeros_0f7a4_48 : decode cJ6_numberOfLeadingZeros_0f7a4 48 = .ok (.iload_n 0, 1) := by decide +kernel
theorem dJ6_numberOfLeadingZeros_0f7a4_49 : decode cJ6_numberOfLeadingZeros_0f7a4 49 = .ok (.bipush 16, 2) := by decide +kernel
theorem dJ6_numberOfLeadingZeros_0f7a4_51 : decode cJ6_numberOfLeadingZeros_0f7a4 51 = .ok (.if_icmp .lt 10, 3) := by decide +kernel
theorem dJ6_numberOfLeadingZeros_0f7a4_54 : decode cJ6_numberOfLeadingZeros_0f7a4 54 = .ok (.iinc 1 (-4), 3) := by decide +kernel
theorem dJ6_numberOfLeadingZeros_0f7a4_57 : decode cJ6_numberOfLeadingZeros_0f7a4 57 = .ok (.iload_n 0, 1) := by decide +kernel
theorem dJ6_numberOfLeadingZeros_0f7a4_58 : decode cJ6_numberOfLeadingZeros_0f7a4 58 = .ok (.iconst 4, 1) := by decide +kernel
theorem dJ6_numberOfLeadingZeros_0f7a4_59 : decode cJ6_numberOfLeadingZeros_0f7a4 59 = .ok (.iushr, 1) := by decide +kernel
theorem dJ6_numberOfLeadingZeros_0f7a4_60 : decode cJ6_numberOfLeadingZeros_0f7a4 60 = .ok (.istore_n 0, 1) := by decide +kernel
theorem dJ6_numberOfLeadingZeros_0f7a4_61 : decode cJ6_numberOfLeadingZeros_0f7a4 61 = .ok (.iload_n 0, 1) := by decide +kernel
theorem dJ6_numberOfLeadingZeros_0f7a4_62 : decode cJ6_numberOfLeadingZeros_0f7a4 62 = .ok (.iconst 4, 1) := by decide +kernel
theorem dJ6_numberOfLeadingZeros_0f7a4_63 : decode cJ6_numberOfLeadingZeros_0f7a4 63 = .ok (.if_icmp .lt 10, 3) := by decide +kernel
theorem dJ6_numberOfLeadingZeros_0f7a4_66 : decode cJ6_numberOfLeadingZeros_0f7a4 66 = .ok (.iinc 1 (-2), 3) := by decide +kernel
theorem dJ6_numberOfLeadingZeros_0f7a4_69 : decode cJ6_numberOfLeadingZeros_0f7a4 69 = .ok (.iload_n 0, 1) := by decide +kernel
theorem dJ6_numberOfLeadingZeros_0f7a4_70 : decode cJ6_numberOfLeadingZeros_0f7a4 70 = .ok (.iconst 2, 1) := by decide +kernel
theorem dJ6_numberOfLeadingZeros_0f7a4_71 : decode cJ6_numberOfLeadingZeros_0f7a4 71 = .ok (.iushr, 1) := by decide +kernel
theorem dJ6_numberOfLeadingZeros_0f7a4_72 : decode cJ6_numberOfLeadingZeros_0f7a4 72 = .ok (.istore_n 0, 1) := by decide +kernel
theorem dJ6_numberOfLeadingZeros_0f7a4_73 : decode cJ6_numberOfLeadingZeros_0f7a4 73 = .ok (.iload_n 1, 1) := by decide +kernel
theorem dJ6_numberOfLeadingZeros_0f7a4_74 : decode cJ6_numberOfLeadingZeros_0f7a4 74 = .ok (.iload_n 0, 1) := by decide +kernel
theorem dJ6_numberOfLeadingZeros_0f7a4_75 : decode cJ6_numberOfLeadingZeros_0f7a4 75 = .ok (.iconst 1, 1) := by decide +kernel
theorem dJ6_numberOfLeadingZeros_0f7a4_76 : decode cJ6_numberOfLeadingZeros_0f7a4 76 = .ok (.iushr, 1) := by decide +kernel
theorem dJ6_numberOfLeadingZeros_0f7a4_77 : decode cJ6_numberOfLeadingZeros_0f7a4 77 = .ok (.isub, 1) := by decide +kernel
theorem dJ6_numberOfLeadingZeros_0f7a4_78 : decode cJ6_numberOfLeadingZeros_0f7a4 78 = .ok (.ireturn, 1) := by decide +kernel
set_option maxRecDepth 20000 in
theorem ggJ13_numberOfLeadingZeros_95d88_J6_numberOfLeadingZeros_0f7a4 : GoodIn wsJ13_numberOfLeadingZeros_95d88 wsJ6_numberOfLeadingZeros_0f7a4 := goodIn_r _ [4, 5] (by decide +kernel) (by decide +kernel)
set_option maxRecDepth 20000 in
theorem gJ13_numberOfLeadingZeros_95d88_J6_numberOfLeadingZeros_0f7a4 : GoodIn wsJ13_numberOfLeadingZeros_95d88 (va_wsS RJ13 308 yJ6_numberOfLeadingZeros_0f7a4 wsJ6_numberOfLeadingZeros_0f7a4) := goodIn_app (goodIn_of _ (by decide +kernel)) ggJ13_numberOfLeadingZeros_95d88_J6_numberOfLeadingZeros_0f7a4
theorem dJ13_numberOfLeadingZeros_95d88_0 : decode cJ13_numberOfLeadingZeros_95d88 0 = .ok (.lload_n 0, 1) := by decide +kernel
theorem dJ13_numberOfLeadingZeros_95d88_1 : decode cJ13_numberOfLeadingZeros_95d88 1 = .ok (.bipush 32, 2) := by decide +kernel
theorem dJ13_numberOfLeadingZeros_95d88_3 : decode cJ13_numberOfLeadingZeros_95d88 3 = .ok (.lushr, 1) := by decide +kernel
theorem dJ13_numberOfLeadingZeros_95d88_4 : decode cJ13_numberOfLeadingZeros_95d88 4 = .ok (.l2i, 1) := by decide +kernel
theorem dJ13_numberOfLeadingZeros_95d88_5 : decode cJ13_numberOfLeadingZeros_95d88 5 = .ok (.istore_n 2, 1) := by decide +kernel
theorem dJ13_numberOfLeadingZeros_95d88_6 : decode cJ13_numberOfLeadingZeros_95d88 6 = .ok (.iload_n 2, 1) := by decide +kernel
theorem dJ13_numberOfLeadingZeros_95d88_7 : decode cJ13_numberOfLeadingZeros_95d88 7 = .ok (.ifCond .ne 14, 3) := by decide +kernel
theorem dJ13_numberOfLeadingZeros_95d88_10 : decode cJ13_numberOfLeadingZeros_95d88 10 = .ok (.bipush 32, 2) := by decide +kernel
theorem dJ13_numberOfLeadingZeros_95d88_12 : decode cJ13_numberOfLeadingZeros_95d88 12 = .ok (.lload_n 0, 1) := by decide +kernel
theorem dJ13_numberOfLeadingZeros_95d88_13 : decode cJ13_numberOfLeadingZeros_95d88 13 = .ok (.l2i, 1) := by decide +kernel
theorem dJ13_numberOfLeadingZeros_95d88_14 : decode cJ13_numberOfLeadingZeros_95d88 14 = .ok (.invokestatic 308, 3) := by decide +kernel
theorem dJ13_numberOfLeadingZeros_95d88_17 : decode cJ13_numberOfLeadingZeros_95d88 17 = .ok (.iadd, 1) := by decide +kernel
theorem dJ13_numberOfLeadingZeros_95d88_18 : decode cJ13_numberOfLeadingZeros_95d88 18 = .ok (.goto 7, 3) := by decide +kernel
theorem dJ13_numberOfLeadingZeros_95d88_21 : decode cJ13_numberOfLeadingZeros_95d88 21 = .ok (.iload_n 2, 1) := by decide +kernel
theorem dJ13_numberOfLeadingZeros_95d88_22 : decode cJ13_numberOfLeadingZeros_95d88 22 = .ok (.invokestatic 308, 3) := by decide +kernel
theorem dJ13_numberOfLeadingZeros_95d88_25 : decode cJ13_numberOfLeadingZeros_95d88 25 = .ok (.ireturn, 1) := by decide +kernel
theorem dJ13_bitCount_95d88_0 : decode cJ13_bitCount_95d88 0 = .ok (.lload_n 0, 1) := by decide +kernel
theorem dJ13_bitCount_95d88_1 : decode cJ13_bitCount_95d88 1 = .ok (.lload_n 0, 1) := by decide +kernel
theorem dJ13_bitCount_95d88_2 : decode cJ13_bitCount_95d88 2 = .ok (.iconst 1, 1) := by decide +kernel
theorem dJ13_bitCount_95d88_3 : decode cJ13_bitCount_95d88 3 = .ok (.lushr, 1) := by decide +kernel
theorem dJ13_bitCount_95d88_4 : decode cJ13_bitCount_95d88 4 = .ok (.ldc2_w 314, 3) := by decide +kernel
theorem dJ13_bitCount_95d88_7 : decode cJ13_bitCount_95d88 7 = .ok (.land, 1) := by decide +kernel
theorem dJ13_bitCount_95d88_8 : decode cJ13_bitCount_95d88 8 = .ok (.lsub, 1) := by decide +kernel
theorem dJ13_bitCount_95d88_9 : decode cJ13_bitCount_95d88 9 = .ok (.lstore_n 0, 1) := by decide +kernel
theorem dJ13_bitCount_95d88_10 : decode cJ13_bitCount_95d88 10 = .ok (.lload_n 0, 1) := by decide +kernel
theorem dJ13_bitCount_95d88_11 : decode cJ13_bitCount_95d88 11 = .ok (.ldc2_w 316, 3) := by decide +kernel
theorem dJ13_bitCount_95d88_14 : decode cJ13_bitCount_95d88 14 = .ok (.land, 1) := by decide +kernel
theorem dJ13_bitCount_95d88_15 : decode cJ13_bitCount_95d88 15 = .ok (.lload_n 0, 1) := by decide +kernel
theorem dJ13_bitCount_95d88_16 : decode cJ13_bitCount_95d88 16 = .ok (.iconst 2, 1) := by decide +kernel
theorem dJ13_bitCount_95d88_17 : decode cJ13_bitCount_95d88 17 = .ok (.lushr, 1) := by decide +kernel
theorem dJ13_bitCount_95d88_18 : decode cJ13_bitCount_95d88 18 = .ok (.ldc2_w 316, 3) := by decide +kernel
theorem dJ13_bitCount_95d88_21 : decode cJ13_bitCount_95d88 21 = .ok (.land, 1) := by decide +kernel
theorem dJ13_bitCount_95d88_22 : decode cJ13_bitCount_95d88 22 = .ok (.ladd, 1) := by decide +kernel
theorem dJ13_bitCount_95d88_23 : decode cJ13_bitCount_95d88 23 = .ok (.lstore_n 0, 1) := by decide +kernel
theorem dJ13_bitCount_95d88_24 : decode cJ13_bitCount_95d88 24 = .ok (.lload_n 0, 1) := by decide +kernel
theorem dJ13_bitCount_95d88_25 : decode cJ13_bitCount_95d88 25 = .ok (.lload_n 0, 1) := by decide +kernel
theorem dJ13_bitCount_95d88_26 : decode cJ13_bitCount_95d88 26 = .ok (.iconst 4, 1) := by decide +kernel
theorem dJ13_bitCount_95d88_27 : decode cJ13_bitCount_95d88 27 = .ok (.lushr, 1) := by decide +kernel
theorem dJ13_bitCount_95d88_28 : decode cJ13_bitCount_95d88 28 = .ok (.ladd, 1) := by decide +kernel
theorem dJ13_bitCount_95d88_29 : decode cJ13_bitCount_95d88 29 = .ok (.ldc2_w 318, 3) := by decide +kernel
theorem dJ13_bitCount_95d88_32 : decode cJ13_bitCount_95d88 32 = .ok (.land, 1) := by decide +kernel
theorem dJ13_bitCount_95d88_33 : decode cJ13_bitCount_95d88 33 = .ok (.lstore_n 0, 1) := by decide +kernel
theorem dJ13_bitCount_95d88_34 : decode cJ13_bitCount_95d88 34 = .ok (.lload_n 0, 1) := by decide +kernel
theorem dJ13_bitCount_95d88_35 : decode cJ13_bitCount_95d88 35 = .ok (.lload_n 0, 1) := by decide +kernel
theorem dJ13_bitCount_95d88_36 : decode cJ13_bitCount_95d88 36 = .ok (.bipush 8, 2) := by decide +kernel
theorem dJ13_bitCount_95d88_38 : decode cJ13_bitCount_95d88 38 = .ok (.lushr, 1) := by decide +kernel
theorem dJ13_bitCount_95d88_39 : decode cJ13_bitCount_95d88 39 = .ok (.ladd, 1) := by decide +kernel
theorem dJ13_bitCount_95d88_40 : decode cJ13_bitCount_95d88 40 = .ok (.lstore_n 0, 1) := by decide +kernel
theorem dJ13_bitCount_95d88_41 : decode cJ13_bitCount_95d88 41 = .ok (.lload_n 0, 1) := by decide +kernel
theorem dJ13_bitCount_95d88_42 : decode cJ13_bitCount_95d88 42 = .ok (.lload_n 0, 1) := by decide +kernel
theorem dJ13_bitCount_95d88_43 : decode cJ13_bitCount_95d88 43 = .ok (.bipush 16, 2) := by decide +kernel
theorem dJ13_bitCount_95d88_45 : decode cJ13_bitCount_95d88 45 = .ok (.lushr, 1) := by decide +kernel
theorem dJ13_bitCount_95d88_46 : decode cJ13_bitCount_95d88 46 = .ok (.ladd, 1) := by decide +kernel
theorem dJ13_bitCount_95d88_47 : decode cJ13_bitCount_95d88 47 = .ok (.lstore_n 0, 1) := by decide +kernel
theorem dJ13_bitCount_95d88_48 : decode cJ13_bitCount_95d88 48 = .ok (.lload_n 0, 1) := by decide +kernel
theorem dJ13_bitCount_95d88_49 : decode cJ13_bitCount_95d88 49 = .ok (.lload_n 0, 1) := by decide +kernel
theorem dJ13_bitCount_95d88_50 : decode cJ13_bitCount_95d88 50 = .ok (.bipush 32, 2) := by decide +kernel
theorem dJ13_bitCount_95d88_52 : decode cJ13_bitCount_95d88 52 = .ok (.lushr, 1) := by decide +kernel
theorem dJ13_bitCount_95d88_53 : decode cJ13_bitCount_95d88 53 = .ok (.ladd, 1) := by decide +kernel
theorem dJ13_bitCount_95d88_54 : decode cJ13_bitCount_95d88 54 = .ok (.lstore_n 0, 1) := by decide +kernel
theorem dJ13_bitCount_95d88_55 : decode cJ13_bitCount_95d88 55 = .ok (.lload_n 0, 1) := by decide +kernel
theorem dJ13_bitCount_95d88_56 : decode cJ13_bitCount_95d88 56 = .ok (.l2i, 1) := by decide +kernel
theorem dJ13_bitCount_95d88_57 : decode cJ13_bitCount_95d88 57 = .ok (.bipush 127, 2) := by decide +kernel
theorem dJ13_bitCount_95d88_59 : decode cJ13_bitCount_95d88 59 = .ok (.iand, 1) := by decide +kernel
theorem dJ13_bitCount_95d88_60 : decode cJ13_bitCount_95d88 60 = .ok (.ireturn, 1) := by decide +kernel
theorem dJ9_max_7cf53_0 : decode cJ9_max_7cf53 0 = .ok (.iload_n 0, 1) := by decide +kernel
theorem dJ9_max_7cf53_1 : decode cJ9_max_7cf53 1 = .ok (.iload_n 1, 1) := by decide +kernel
theorem dJ9_max_7cf53_2 : decode cJ9_max_7cf53 2 = .ok (.if_icmp .lt 7, 3) := by decide +kernel
theorem dJ9_max_7cf53_5 : decode cJ9_max_7cf53 5 = .ok (.iload_n 0, 1) := by decide +kernel
theorem dJ9_max_7cf53_6 : decode cJ9_max_7cf53 6 = .ok (.goto 4, 3) := by decide +kernel
theorem dJ9_max_7cf53_9 : decode cJ9_max_7cf53 9 = .ok (.iload_n 1, 1) := by decide +kernel
theorem dJ9_max_7cf53_10 : decode cJ9_max_7cf53 10 = .ok (.ireturn, 1) := by decide +kernel
theorem dJ9_max_f86c9_0 : decode cJ9_max_f86c9 0 = .ok (.lload_n 0, 1) := by decide +kernel
theorem dJ9_max_f86c9_1 : decode cJ9_max_f86c9 1 = .ok (.lload_n 2, 1) := by decide +kernel
theorem dJ9_max_f86c9_2 : decode cJ9_max_f86c9 2 = .ok (.lcmp, 1) := by decide +kernel
theorem dJ9_max_f86c9_3 : decode cJ9_max_f86c9 3 = .ok (.ifCond .lt 7, 3) := by decide +kernel
theorem dJ9_max_f86c9_6 : decode cJ9_max_f86c9 6 = .ok (.lload_n 0, 1) := by decide +kernel
theorem dJ9_max_f86c9_7 : decode cJ9_max_f86c9 7 = .ok (.goto 4, 3) := by decide +kernel
theorem dJ9_max_f86c9_10 : decode cJ9_max_f86c9 10 = .ok (.lload_n 2, 1) := by decide +kernel
theorem dJ9_max_f86c9_11 : decode cJ9_max_f86c9 11 = .ok (.lreturn, 1) := by decide +kernel
theorem dJ9_min_f86c9_0 : decode cJ9_min_f86c9 0 = .ok (.lload_n 0, 1) := by decide +kernel
theorem dJ9_min_f86c9_1 : decode cJ9_min_f86c9 1 = .ok (.lload_n 2, 1) := by decide +kernel
theorem dJ9_min_f86c9_2 : decode cJ9_min_f86c9 2 = .ok (.lcmp, 1) := by decide +kernel
theorem dJ9_min_f86c9_3 : decode cJ9_min_f86c9 3 = .ok (.ifCond .gt 7, 3) := by decide +kernel
theorem dJ9_min_f86c9_6 : decode cJ9_min_f86c9 6 = .ok (.lload_n 0, 1) := by decide +kernel
theorem dJ9_min_f86c9_7 : decode cJ9_min_f86c9 7 = .ok (.goto 4, 3) := by decide +kernel
theorem dJ9_min_f86c9_10 : decode cJ9_min_f86c9 10 = .ok (.lload_n 2, 1) := by decide +kernel
theorem dJ9_min_f86c9_11 : decode cJ9_min_f86c9 11 = .ok (.lreturn, 1) := by decide +kernel
theorem dJx5d777_init_da8c8_0 : decode cJx5d777_init_da8c8 0 = .ok (.aload_n 0, 1) := by decide +kernel
theorem dJx5d777_init_da8c8_1 : decode cJx5d777_init_da8c8 1 = .ok (.invokespecial 1, 3) := by decide +kernel
theorem dJx5d777_init_da8c8_4 : decode cJx5d777_init_da8c8 4 = .ok (.return_, 1) := by decide +kernel
theorem dJx5d777_fillInStackTrace_cddbd_0 : decode cJx5d777_fillInStackTrace_cddbd 0 = .ok (.aload_n 0, 1) := by decide +kernel
theorem dJx5d777_fillInStackTrace_cddbd_1 : decode cJx5d777_fillInStackTrace_cddbd 1 = .ok (.getfield 10, 3) := by decide +kernel
theorem dJx5d777_fillInStackTrace_cddbd_4 : decode cJx5d777_fillInStackTrace_cddbd 4 = .ok (.ifCond .ne 11, 3) := by decide +kernel
theorem dJx5d777_fillInStackTrace_cddbd_7 : decode cJx5d777_fillInStackTrace_cddbd 7 = .ok (.aload_n 0, 1) := by decide +kernel
theorem dJx5d777_fillInStackTrace_cddbd_8 : decode cJx5d777_fillInStackTrace_cddbd 8 = .ok (.iconst 1, 1) := by decide +kernel
theorem dJx5d777_fillInStackTrace_cddbd_9 : decode cJx5d777_fillInStackTrace_cddbd 9 = .ok (.putfield 10, 3) := by decide +kernel
theorem dJx5d777_fillInStackTrace_cddbd_12 : decode cJx5d777_fillInStackTrace_cddbd 12 = .ok (.goto 24, 3) := by decide +kernel
theorem dJx5d777_fillInStackTrace_cddbd_15 : decode cJx5d777_fillInStackTrace_cddbd 15 = .ok (.aload_n 0, 1) := by decide +kernel
theorem dJx5d777_fillInStackTrace_cddbd_16 : decode cJx5d777_fillInStackTrace_cddbd 16 = .ok (.getfield 10, 3) := by decide +kernel
theorem dJx5d777_fillInStackTrace_cddbd_19 : decode cJx5d777_fillInStackTrace_cddbd 19 = .ok (.iconst 1, 1) := by decide +kernel
theorem dJx5d777_fillInStackTrace_cddbd_20 : decode cJx5d777_fillInStackTrace_cddbd 20 = .ok (.if_icmp .ne 16, 3) := by decide +kernel
theorem dJx5d777_fillInStackTrace_cddbd_23 : decode cJx5d777_fillInStackTrace_cddbd 23 = .ok (.aload_n 0, 1) := by decide +kernel
theorem dJx5d777_fillInStackTrace_cddbd_24 : decode cJx5d777_fillInStackTrace_cddbd 24 = .ok (.aload_n 0, 1) := by decide +kernel
theorem dJx5d777_fillInStackTrace_cddbd_25 : decode cJx5d777_fillInStackTrace_cddbd 25 = .ok (.invokevirtual 16, 3) := by decide +kernel
theorem dJx5d777_fillInStackTrace_cddbd_28 : decode cJx5d777_fillInStackTrace_cddbd 28 = .ok (.putfield 20, 3) := by decide +kernel
theorem dJx5d777_fillInStackTrace_cddbd_31 : decode cJx5d777_fillInStackTrace_cddbd 31 = .ok (.aload_n 0, 1) := by decide +kernel
theorem dJx5d777_fillInStackTrace_cddbd_32 : decode cJx5d777_fillInStackTrace_cddbd 32 = .ok (.iconst 2, 1) := by decide +kernel
theorem dJx5d777_fillInStackTrace_cddbd_33 : decode cJx5d777_fillInStackTrace_cddbd 33 = .ok (.putfield 10, 3) := by decide +kernel
theorem dJx5d777_fillInStackTrace_cddbd_36 : decode cJx5d777_fillInStackTrace_cddbd 36 = .ok (.aload_n 0, 1) := by decide +kernel
theorem dJx5d777_fillInStackTrace_cddbd_37 : decode cJx5d777_fillInStackTrace_cddbd 37 = .ok (.invokespecial 24, 3) := by decide +kernel
theorem dJx5d777_fillInStackTrace_cddbd_40 : decode cJx5d777_fillInStackTrace_cddbd 40 = .ok (.areturn, 1) := by decide +kernel
abbrev vwCl : List vw_C := [(RJx3273f, TJx3273f, 6), (RJx5d777, TJx5d777, 8), (RX0, TX0, 0), (RX1, TX1, 5), (RX2, TX2, 4), (RX3, TX3, 10)]
