set_option maxRecDepth 20000 in
theorem gX3_newClass_X3_isFace : GoodIn wsX3_newClass (wsV RX3 62 RX3 yX3_isFace wsX3_isFace) := goodIn_app (goodIn_of _ (by decide +kernel)) ggX3_newClass_X3_isFace
set_option maxRecDepth 20000 in
theorem ggX3_newClass_X3_add : GoodIn wsX3_newClass wsX3_add := goodIn_ca (goodIn_r _ [20, 2, 4, 3, 21, 22, 36, 37, 38, 39, 40, 41, 42, 43, 44, 45] (by decide +kernel) (by decide +kernel)) (goodIn_sub (fun _ h => List.mem_cons_of_mem _ (List.mem_append_right _ h)) (by decide +kernel))
set_option maxRecDepth 20000 in
theorem gX3_newClass_X3_add : GoodIn wsX3_newClass (wsV RX3 33 RX3 yX3_add wsX3_add) := goodIn_app (goodIn_of _ (by decide +kernel)) ggX3_newClass_X3_add
set_option maxRecDepth 20000 in
theorem ggX3_newClass_X3_fill : GoodIn wsX3_newClass wsX3_fill := goodIn_ca (goodIn_r _ [26, 4, 27, 2, 28, 29, 30, 8, 31, 22, 21, 32, 33, 34, 35, 36, 37, 38, 39, 40, 41, 42, 43, 44, 45] (by decide +kernel) (by decide +kernel)) (goodIn_sub (fun _ h => List.mem_cons_of_mem _ (List.mem_append_right _ h)) (by decide +kernel))
set_option maxRecDepth 20000 in
theorem gX3_newClass_X3_fill : GoodIn wsX3_newClass (wsV RX3 37 RX3 yX3_fill wsX3_fill) := goodIn_app (goodIn_of _ (by decide +kernel)) ggX3_newClass_X3_fill
theorem dX3_newClass_0 : decode cX3_newClass 0 = .ok (.aload_n 0, 1) := by decide +kernel
theorem dX3_newClass_1 : decode cX3_newClass 1 = .ok (.iconst 0, 1) := by decide +kernel
theorem dX3_newClass_2 : decode cX3_newClass 2 = .ok (.putfield 40, 3) := by decide +kernel
theorem dX3_newClass_5 : decode cX3_newClass 5 = .ok (.iload_n 1, 1) := by decide +kernel
theorem dX3_newClass_6 : decode cX3_newClass 6 = .ok (.iconst (-1), 1) := by decide +kernel
theorem dX3_newClass_7 : decode cX3_newClass 7 = .ok (.if_icmp .eq 11, 3) := by decide +kernel
theorem dX3_newClass_10 : decode cX3_newClass 10 = .ok (.aload_n 0, 1) := by decide +kernel
theorem dX3_newClass_11 : decode cX3_newClass 11 = .ok (.iload_n 1, 1) := by decide +kernel
theorem dX3_newClass_12 : decode cX3_newClass 12 = .ok (.invokevirtual 59, 3) := by decide +kernel
theorem dX3_newClass_15 : decode cX3_newClass 15 = .ok (.ifCond .eq 16, 3) := by decide +kernel
theorem dX3_newClass_18 : decode cX3_newClass 18 = .ok (.iload_n 2, 1) := by decide +kernel
theorem dX3_newClass_19 : decode cX3_newClass 19 = .ok (.iconst (-1), 1) := by decide +kernel
theorem dX3_newClass_20 : decode cX3_newClass 20 = .ok (.if_icmp .eq 13, 3) := by decide +kernel
theorem dX3_newClass_23 : decode cX3_newClass 23 = .ok (.aload_n 0, 1) := by decide +kernel
theorem dX3_newClass_24 : decode cX3_newClass 24 = .ok (.iload_n 2, 1) := by decide +kernel
theorem dX3_newClass_25 : decode cX3_newClass 25 = .ok (.invokevirtual 59, 3) := by decide +kernel
theorem dX3_newClass_28 : decode cX3_newClass 28 = .ok (.ifCond .ne 5, 3) := by decide +kernel
theorem dX3_newClass_31 : decode cX3_newClass 31 = .ok (.iconst (-1), 1) := by decide +kernel
theorem dX3_newClass_32 : decode cX3_newClass 32 = .ok (.ireturn, 1) := by decide +kernel
theorem dX3_newClass_33 : decode cX3_newClass 33 = .ok (.iload_n 1, 1) := by decide +kernel
theorem dX3_newClass_34 : decode cX3_newClass 34 = .ok (.ifCond .lt 28, 3) := by decide +kernel
theorem dX3_newClass_37 : decode cX3_newClass 37 = .ok (.aload_n 0, 1) := by decide +kernel
theorem dX3_newClass_38 : decode cX3_newClass 38 = .ok (.getfield 7, 3) := by decide +kernel
theorem dX3_newClass_41 : decode cX3_newClass 41 = .ok (.iload_n 1, 1) := by decide +kernel
theorem dX3_newClass_42 : decode cX3_newClass 42 = .ok (.iaload, 1) := by decide +kernel
theorem dX3_newClass_43 : decode cX3_newClass 43 = .ok (.iconst 1, 1) := by decide +kernel
theorem dX3_newClass_44 : decode cX3_newClass 44 = .ok (.if_icmp .ne 30, 3) := by decide +kernel
theorem dX3_newClass_47 : decode cX3_newClass 47 = .ok (.aload_n 0, 1) := by decide +kernel
theorem dX3_newClass_48 : decode cX3_newClass 48 = .ok (.getfield 13, 3) := by decide +kernel
theorem dX3_newClass_51 : decode cX3_newClass 51 = .ok (.iload_n 1, 1) := by decide +kernel
theorem dX3_newClass_52 : decode cX3_newClass 52 = .ok (.baload, 1) := by decide +kernel
theorem dX3_newClass_53 : decode cX3_newClass 53 = .ok (.ifCond .ne 21, 3) := by decide +kernel
theorem dX3_newClass_56 : decode cX3_newClass 56 = .ok (.iload_n 1, 1) := by decide +kernel
theorem dX3_newClass_57 : decode cX3_newClass 57 = .ok (.bipush 17, 2) := by decide +kernel
theorem dX3_newClass_59 : decode cX3_newClass 59 = .ok (.if_icmp .eq 15, 3) := by decide +kernel
theorem dX3_newClass_62 : decode cX3_newClass 62 = .ok (.iload_n 2, 1) := by decide +kernel
theorem dX3_newClass_63 : decode cX3_newClass 63 = .ok (.ifCond .lt 14, 3) := by decide +kernel
theorem dX3_newClass_66 : decode cX3_newClass 66 = .ok (.aload_n 0, 1) := by decide +kernel
theorem dX3_newClass_67 : decode cX3_newClass 67 = .ok (.iload_n 2, 1) := by decide +kernel
theorem dX3_newClass_68 : decode cX3_newClass 68 = .ok (.invokevirtual 62, 3) := by decide +kernel
theorem dX3_newClass_71 : decode cX3_newClass 71 = .ok (.ifCond .ne 6, 3) := by decide +kernel
theorem dX3_newClass_74 : decode cX3_newClass 74 = .ok (.bipush (-2), 2) := by decide +kernel
theorem dX3_newClass_76 : decode cX3_newClass 76 = .ok (.ireturn, 1) := by decide +kernel
theorem dX3_newClass_77 : decode cX3_newClass 77 = .ok (.aload_n 0, 1) := by decide +kernel
theorem dX3_newClass_78 : decode cX3_newClass 78 = .ok (.getfield 44, 3) := by decide +kernel
theorem dX3_newClass_81 : decode cX3_newClass 81 = .ok (.bipush 40, 2) := by decide +kernel
theorem dX3_newClass_83 : decode cX3_newClass 83 = .ok (.if_icmp .ne 6, 3) := by decide +kernel
theorem dX3_newClass_86 : decode cX3_newClass 86 = .ok (.bipush (-3), 2) := by decide +kernel
theorem dX3_newClass_88 : decode cX3_newClass 88 = .ok (.ireturn, 1) := by decide +kernel
theorem dX3_newClass_89 : decode cX3_newClass 89 = .ok (.aload_n 0, 1) := by decide +kernel
theorem dX3_newClass_90 : decode cX3_newClass 90 = .ok (.iconst 1, 1) := by decide +kernel
theorem dX3_newClass_91 : decode cX3_newClass 91 = .ok (.iload_n 3, 1) := by decide +kernel
theorem dX3_newClass_92 : decode cX3_newClass 92 = .ok (.bipush (-2), 2) := by decide +kernel
theorem dX3_newClass_94 : decode cX3_newClass 94 = .ok (.iload_n 1, 1) := by decide +kernel
theorem dX3_newClass_95 : decode cX3_newClass 95 = .ok (.ifCond .ge 8, 3) := by decide +kernel
theorem dX3_newClass_98 : decode cX3_newClass 98 = .ok (.bipush 16, 2) := by decide +kernel
theorem dX3_newClass_100 : decode cX3_newClass 100 = .ok (.goto 4, 3) := by decide +kernel
theorem dX3_newClass_103 : decode cX3_newClass 103 = .ok (.iload_n 1, 1) := by decide +kernel
theorem dX3_newClass_104 : decode cX3_newClass 104 = .ok (.iload_n 2, 1) := by decide +kernel
theorem dX3_newClass_105 : decode cX3_newClass 105 = .ok (.iconst (-1), 1) := by decide +kernel
theorem dX3_newClass_106 : decode cX3_newClass 106 = .ok (.invokevirtual 33, 3) := by decide +kernel
theorem dX3_newClass_109 : decode cX3_newClass 109 = .ok (.istore 4, 2) := by decide +kernel
theorem dX3_newClass_111 : decode cX3_newClass 111 = .ok (.aload_n 0, 1) := by decide +kernel
theorem dX3_newClass_112 : decode cX3_newClass 112 = .ok (.invokevirtual 37, 3) := by decide +kernel
theorem dX3_newClass_115 : decode cX3_newClass 115 = .ok (.iload 4, 2) := by decide +kernel
theorem dX3_newClass_117 : decode cX3_newClass 117 = .ok (.ireturn, 1) := by decide +kernel
set_option maxRecDepth 20000 in
theorem ggX3_newInterface_X3_isType : GoodIn wsX3_newInterface wsX3_isType := goodIn_r _ [7, 2, 8, 9, 6, 10, 36, 37, 38, 39, 40, 41, 42, 43, 44, 45] (by decide +kernel) (by decide +kernel)
set_option maxRecDepth 20000 in
theorem gX3_newInterface_X3_isType : GoodIn wsX3_newInterface (wsV RX3 59 RX3 yX3_isType wsX3_isType) := goodIn_app (goodIn_of _ (by decide +kernel)) ggX3_newInterface_X3_isType
set_option maxRecDepth 20000 in
theorem ggX3_newInterface_X3_isFace : GoodIn wsX3_newInterface wsX3_isFace := goodIn_ca (goodIn_r _ [14, 15, 36, 37, 38, 39, 40, 41, 42, 43, 44, 45] (by decide +kernel) (by decide +kernel)) (goodIn_sub (fun _ h => List.mem_cons_of_mem _ (List.mem_append_right _ h)) (by decide +kernel))
set_option maxRecDepth 20000 in
theorem gX3_newInterface_X3_isFace : GoodIn wsX3_newInterface (wsV RX3 62 RX3 yX3_isFace wsX3_isFace) := goodIn_app (goodIn_of _ (by decide +kernel)) ggX3_newInterface_X3_isFace
set_option maxRecDepth 20000 in
theorem ggX3_newInterface_X3_add : GoodIn wsX3_newInterface wsX3_add := goodIn_ca (goodIn_r _ [19, 15, 2, 20, 21, 22, 36, 37, 38, 39, 40, 41, 42, 43, 44, 45] (by decide +kernel) (by decide +kernel)) (goodIn_sub (fun _ h => List.mem_cons_of_mem _ (List.mem_append_right _ h)) (by decide +kernel))
set_option maxRecDepth 20000 in
theorem gX3_newInterface_X3_add : GoodIn wsX3_newInterface (wsV RX3 33 RX3 yX3_add wsX3_add) := goodIn_app (goodIn_of _ (by decide +kernel)) ggX3_newInterface_X3_add
set_option maxRecDepth 20000 in
theorem ggX3_newInterface_X3_fill : GoodIn wsX3_newInterface wsX3_fill := goodIn_ca (goodIn_r _ [26, 2, 27, 15, 28, 29, 30, 6, 31, 22, 21, 32, 33, 34, 35, 36, 37, 38, 39, 40, 41, 42, 43, 44, 45] (by decide +kernel) (by decide +kernel)) (goodIn_sub (fun _ h => List.mem_cons_of_mem _ (List.mem_append_right _ h)) (by decide +kernel))
set_option maxRecDepth 20000 in
theorem gX3_newInterface_X3_fill : GoodIn wsX3_newInterface (wsV RX3 37 RX3 yX3_fill wsX3_fill) := goodIn_app (goodIn_of _ (by decide +kernel)) ggX3_newInterface_X3_fill
theorem dX3_newInterface_0 : decode cX3_newInterface 0 = .ok (.aload_n 0, 1) := by decide +kernel
theorem dX3_newInterface_1 : decode cX3_newInterface 1 = .ok (.iconst 0, 1) := by decide +kernel
theorem dX3_newInterface_2 : decode cX3_newInterface 2 = .ok (.putfield 40, 3) := by decide +kernel
theorem dX3_newInterface_5 : decode cX3_newInterface 5 = .ok (.iload_n 1, 1) := by decide +kernel
theorem dX3_newInterface_6 : decode cX3_newInterface 6 = .ok (.iconst (-1), 1) := by decide +kernel
theorem dX3_newInterface_7 : decode cX3_newInterface 7 = .ok (.if_icmp .eq 11, 3) := by decide +kernel
theorem dX3_newInterface_10 : decode cX3_newInterface 10 = .ok (.aload_n 0, 1) := by decide +kernel
theorem dX3_newInterface_11 : decode cX3_newInterface 11 = .ok (.iload_n 1, 1) := by decide +kernel
theorem dX3_newInterface_12 : decode cX3_newInterface 12 = .ok (.invokevirtual 59, 3) := by decide +kernel
theorem dX3_newInterface_15 : decode cX3_newInterface 15 = .ok (.ifCond .eq 16, 3) := by decide +kernel
theorem dX3_newInterface_18 : decode cX3_newInterface 18 = .ok (.iload_n 2, 1) := by decide +kernel
theorem dX3_newInterface_19 : decode cX3_newInterface 19 = .ok (.iconst (-1), 1) := by decide +kernel
theorem dX3_newInterface_20 : decode cX3_newInterface 20 = .ok (.if_icmp .eq 13, 3) := by decide +kernel
theorem dX3_newInterface_23 : decode cX3_newInterface 23 = .ok (.aload_n 0, 1) := by decide +kernel
theorem dX3_newInterface_24 : decode cX3_newInterface 24 = .ok (.iload_n 2, 1) := by decide +kernel
theorem dX3_newInterface_25 : decode cX3_newInterface 25 = .ok (.invokevirtual 59, 3) := by decide +kernel
theorem dX3_newInterface_28 : decode cX3_newInterface 28 = .ok (.ifCond .ne 5, 3) := by decide +kernel
theorem dX3_newInterface_31 : decode cX3_newInterface 31 = .ok (.iconst (-1), 1) := by decide +kernel
theorem dX3_newInterface_32 : decode cX3_newInterface 32 = .ok (.ireturn, 1) := by decide +kernel
theorem dX3_newInterface_33 : decode cX3_newInterface 33 = .ok (.iload_n 1, 1) := by decide +kernel
theorem dX3_newInterface_34 : decode cX3_newInterface 34 = .ok (.ifCond .lt 11, 3) := by decide +kernel
theorem dX3_newInterface_37 : decode cX3_newInterface 37 = .ok (.aload_n 0, 1) := by decide +kernel
theorem dX3_newInterface_38 : decode cX3_newInterface 38 = .ok (.iload_n 1, 1) := by decide +kernel
theorem dX3_newInterface_39 : decode cX3_newInterface 39 = .ok (.invokevirtual 62, 3) := by decide +kernel
theorem dX3_newInterface_42 : decode cX3_newInterface 42 = .ok (.ifCond .eq 15, 3) := by decide +kernel
theorem dX3_newInterface_45 : decode cX3_newInterface 45 = .ok (.iload_n 2, 1) := by decide +kernel
theorem dX3_newInterface_46 : decode cX3_newInterface 46 = .ok (.ifCond .lt 14, 3) := by decide +kernel
theorem dX3_newInterface_49 : decode cX3_newInterface 49 = .ok (.aload_n 0, 1) := by decide +kernel
theorem dX3_newInterface_50 : decode cX3_newInterface 50 = .ok (.iload_n 2, 1) := by decide +kernel
theorem dX3_newInterface_51 : decode cX3_newInterface 51 = .ok (.invokevirtual 62, 3) := by decide +kernel
theorem dX3_newInterface_54 : decode cX3_newInterface 54 = .ok (.ifCond .ne 6, 3) := by decide +kernel
theorem dX3_newInterface_57 : decode cX3_newInterface 57 = .ok (.bipush (-2), 2) := by decide +kernel
theorem dX3_newInterface_59 : decode cX3_newInterface 59 = .ok (.ireturn, 1) := by decide +kernel
theorem dX3_newInterface_60 : decode cX3_newInterface 60 = .ok (.aload_n 0, 1) := by decide +kernel
theorem dX3_newInterface_61 : decode cX3_newInterface 61 = .ok (.getfield 44, 3) := by decide +kernel
theorem dX3_newInterface_64 : decode cX3_newInterface 64 = .ok (.bipush 40, 2) := by decide +kernel
theorem dX3_newInterface_66 : decode cX3_newInterface 66 = .ok (.if_icmp .ne 6, 3) := by decide +kernel
theorem dX3_newInterface_69 : decode cX3_newInterface 69 = .ok (.bipush (-3), 2) := by decide +kernel
theorem dX3_newInterface_71 : decode cX3_newInterface 71 = .ok (.ireturn, 1) := by decide +kernel
theorem dX3_newInterface_72 : decode cX3_newInterface 72 = .ok (.aload_n 0, 1) := by decide +kernel
theorem dX3_newInterface_73 : decode cX3_newInterface 73 = .ok (.iconst 2, 1) := by decide +kernel
theorem dX3_newInterface_74 : decode cX3_newInterface 74 = .ok (.iconst 0, 1) := by decide +kernel
theorem dX3_newInterface_75 : decode cX3_newInterface 75 = .ok (.bipush (-2), 2) := by decide +kernel
theorem dX3_newInterface_77 : decode cX3_newInterface 77 = .ok (.bipush 16, 2) := by decide +kernel
theorem dX3_newInterface_79 : decode cX3_newInterface 79 = .ok (.iload_n 1, 1) := by decide +kernel
theorem dX3_newInterface_80 : decode cX3_newInterface 80 = .ok (.iload_n 2, 1) := by decide +kernel
theorem dX3_newInterface_81 : decode cX3_newInterface 81 = .ok (.invokevirtual 33, 3) := by decide +kernel
theorem dX3_newInterface_84 : decode cX3_newInterface 84 = .ok (.istore_n 3, 1) := by decide +kernel
theorem dX3_newInterface_85 : decode cX3_newInterface 85 = .ok (.aload_n 0, 1) := by decide +kernel
theorem dX3_newInterface_86 : decode cX3_newInterface 86 = .ok (.invokevirtual 37, 3) := by decide +kernel
theorem dX3_newInterface_89 : decode cX3_newInterface 89 = .ok (.iload_n 3, 1) := by decide +kernel
theorem dX3_newInterface_90 : decode cX3_newInterface 90 = .ok (.ireturn, 1) := by decide +kernel
set_option maxRecDepth 20000 in
theorem ggX3_array_X3_isType : GoodIn wsX3_array wsX3_isType := goodIn_r _ [9, 3, 10, 11, 8, 12, 32, 33, 34, 35, 36, 37, 38, 39, 40, 41] (by decide +kernel) (by decide +kernel)
set_option maxRecDepth 20000 in
theorem gX3_array_X3_isType : GoodIn wsX3_array (wsV RX3 59 RX3 yX3_isType wsX3_isType) := goodIn_app (goodIn_of _ (by decide +kernel)) ggX3_array_X3_isType
set_option maxRecDepth 20000 in
theorem ggX3_array_X3_add : GoodIn wsX3_array wsX3_add := goodIn_ca (goodIn_r _ [16, 2, 3, 17, 4, 18, 32, 33, 34, 35, 36, 37, 38, 39, 40, 41] (by decide +kernel) (by decide +kernel)) (goodIn_sub (fun _ h => List.mem_cons_of_mem _ (List.mem_append_right _ h)) (by decide +kernel))
set_option maxRecDepth 20000 in
theorem gX3_array_X3_add : GoodIn wsX3_array (wsV RX3 33 RX3 yX3_add wsX3_add) := goodIn_app (goodIn_of _ (by decide +kernel)) ggX3_array_X3_add
set_option maxRecDepth 20000 in
theorem ggX3_array_X3_fill : GoodIn wsX3_array wsX3_fill := goodIn_ca (goodIn_r _ [22, 3, 23, 2, 24, 25, 26, 8, 27, 18, 4, 28, 29, 30, 31, 32, 33, 34, 35, 36, 37, 38, 39, 40, 41] (by decide +kernel) (by decide +kernel)) (goodIn_sub (fun _ h => List.mem_cons_of_mem _ (List.mem_append_right _ h)) (by decide +kernel))
set_option maxRecDepth 20000 in
theorem gX3_array_X3_fill : GoodIn wsX3_array (wsV RX3 37 RX3 yX3_fill wsX3_fill) := goodIn_app (goodIn_of _ (by decide +kernel)) ggX3_array_X3_fill
theorem dX3_array_0 : decode cX3_array 0 = .ok (.aload_n 0, 1) := by decide +kernel
theorem dX3_array_1 : decode cX3_array 1 = .ok (.iconst 0, 1) := by decide +kernel
theorem dX3_array_2 : decode cX3_array 2 = .ok (.putfield 40, 3) := by decide +kernel
theorem dX3_array_5 : decode cX3_array 5 = .ok (.aload_n 0, 1) := by decide +kernel
theorem dX3_array_6 : decode cX3_array 6 = .ok (.iload_n 1, 1) := by decide +kernel
theorem dX3_array_7 : decode cX3_array 7 = .ok (.invokevirtual 59, 3) := by decide +kernel
theorem dX3_array_10 : decode cX3_array 10 = .ok (.ifCond .ne 5, 3) := by decide +kernel
theorem dX3_array_13 : decode cX3_array 13 = .ok (.iconst (-1), 1) := by decide +kernel
theorem dX3_array_14 : decode cX3_array 14 = .ok (.ireturn, 1) := by decide +kernel
theorem dX3_array_15 : decode cX3_array 15 = .ok (.aload_n 0, 1) := by decide +kernel
theorem dX3_array_16 : decode cX3_array 16 = .ok (.getfield 7, 3) := by decide +kernel
theorem dX3_array_19 : decode cX3_array 19 = .ok (.iload_n 1, 1) := by decide +kernel
theorem dX3_array_20 : decode cX3_array 20 = .ok (.iaload, 1) := by decide +kernel
theorem dX3_array_21 : decode cX3_array 21 = .ok (.iconst 4, 1) := by decide +kernel
theorem dX3_array_22 : decode cX3_array 22 = .ok (.if_icmp .ne 6, 3) := by decide +kernel
theorem dX3_array_25 : decode cX3_array 25 = .ok (.bipush (-2), 2) := by decide +kernel
theorem dX3_array_27 : decode cX3_array 27 = .ok (.ireturn, 1) := by decide +kernel
theorem dX3_array_28 : decode cX3_array 28 = .ok (.bipush 23, 2) := by decide +kernel
theorem dX3_array_30 : decode cX3_array 30 = .ok (.istore_n 2, 1) := by decide +kernel
theorem dX3_array_31 : decode cX3_array 31 = .ok (.iload_n 2, 1) := by decide +kernel
theorem dX3_array_32 : decode cX3_array 32 = .ok (.aload_n 0, 1) := by decide +kernel
theorem dX3_array_33 : decode cX3_array 33 = .ok (.getfield 44, 3) := by decide +kernel
theorem dX3_array_36 : decode cX3_array 36 = .ok (.if_icmp .ge 31, 3) := by decide +kernel
theorem dX3_array_39 : decode cX3_array 39 = .ok (.aload_n 0, 1) := by decide +kernel
theorem dX3_array_40 : decode cX3_array 40 = .ok (.getfield 7, 3) := by decide +kernel
theorem dX3_array_43 : decode cX3_array 43 = .ok (.iload_n 2, 1) := by decide +kernel
theorem dX3_array_44 : decode cX3_array 44 = .ok (.iaload, 1) := by decide +kernel
theorem dX3_array_45 : decode cX3_array 45 = .ok (.iconst 3, 1) := by decide +kernel
theorem dX3_array_46 : decode cX3_array 46 = .ok (.if_icmp .ne 15, 3) := by decide +kernel
theorem dX3_array_49 : decode cX3_array 49 = .ok (.aload_n 0, 1) := by decide +kernel
theorem dX3_array_50 : decode cX3_array 50 = .ok (.getfield 17, 3) := by decide +kernel
theorem dX3_array_53 : decode cX3_array 53 = .ok (.iload_n 2, 1) := by decide +kernel
theorem dX3_array_54 : decode cX3_array 54 = .ok (.iaload, 1) := by decide +kernel
theorem dX3_array_55 : decode cX3_array 55 = .ok (.iload_n 1, 1) := by decide +kernel
theorem dX3_array_56 : decode cX3_array 56 = .ok (.if_icmp .ne 5, 3) := by decide +kernel
theorem dX3_array_59 : decode cX3_array 59 = .ok (.iload_n 2, 1) := by decide +kernel
theorem dX3_array_60 : decode cX3_array 60 = .ok (.ireturn, 1) := by decide +kernel
theorem dX3_array_61 : decode cX3_array 61 = .ok (.iinc 2 1, 3) := by decide +kernel
theorem dX3_array_64 : decode cX3_array 64 = .ok (.goto (-33), 3) := by decide +kernel
theorem dX3_array_67 : decode cX3_array 67 = .ok (.aload_n 0, 1) := by decide +kernel
theorem dX3_array_68 : decode cX3_array 68 = .ok (.getfield 44, 3) := by decide +kernel
theorem dX3_array_71 : decode cX3_array 71 = .ok (.bipush 40, 2) := by decide +kernel
theorem dX3_array_73 : decode cX3_array 73 = .ok (.if_icmp .ne 6, 3) := by decide +kernel
theorem dX3_array_76 : decode cX3_array 76 = .ok (.bipush (-3), 2) := by decide +kernel
theorem dX3_array_78 : decode cX3_array 78 = .ok (.ireturn, 1) := by decide +kernel
theorem dX3_array_79 : decode cX3_array 79 = .ok (.aload_n 0, 1) := by decide +kernel
theorem dX3_array_80 : decode cX3_array 80 = .ok (.iconst 3, 1) := by decide +kernel
theorem dX3_array_81 : decode cX3_array 81 = .ok (.iconst 0, 1) := by decide +kernel
theorem dX3_array_82 : decode cX3_array 82 = .ok (.iload_n 1, 1) := by decide +kernel
theorem dX3_array_83 : decode cX3_array 83 = .ok (.bipush 16, 2) := by decide +kernel
theorem dX3_array_85 : decode cX3_array 85 = .ok (.bipush 19, 2) := by decide +kernel
theorem dX3_array_87 : decode cX3_array 87 = .ok (.bipush 20, 2) := by decide +kernel
theorem dX3_array_89 : decode cX3_array 89 = .ok (.invokevirtual 33, 3) := by decide +kernel
theorem dX3_array_92 : decode cX3_array 92 = .ok (.istore_n 2, 1) := by decide +kernel
theorem dX3_array_93 : decode cX3_array 93 = .ok (.aload_n 0, 1) := by decide +kernel
theorem dX3_array_94 : decode cX3_array 94 = .ok (.invokevirtual 37, 3) := by decide +kernel
theorem dX3_array_97 : decode cX3_array 97 = .ok (.iload_n 2, 1) := by decide +kernel
theorem dX3_array_98 : decode cX3_array 98 = .ok (.ireturn, 1) := by decide +kernel
set_option maxRecDepth 20000 in
theorem ggX3_type_X3_isType : GoodIn wsX3_type wsX3_isType := goodIn_r _ [11, 5, 12, 13, 10, 14, 19, 20, 21, 22, 23, 24, 25, 26, 27, 28] (by decide +kernel) (by decide +kernel)
set_option maxRecDepth 20000 in
theorem gX3_type_X3_isType : GoodIn wsX3_type (wsV RX3 59 RX3 yX3_isType wsX3_isType) := goodIn_app (goodIn_of _ (by decide +kernel)) ggX3_type_X3_isType
set_option maxRecDepth 20000 in
theorem ggX3_type_X3_isReference : GoodIn wsX3_type wsX3_isReference := goodIn_r _ [18] (by decide +kernel) (by decide +kernel)
set_option maxRecDepth 20000 in
theorem gX3_type_X3_isReference : GoodIn wsX3_type (wsV RX3 55 RX3 yX3_isReference wsX3_isReference) := goodIn_app (goodIn_of _ (by decide +kernel)) ggX3_type_X3_isReference
theorem dX3_type_0 : decode cX3_type 0 = .ok (.aload_n 0, 1) := by decide +kernel
theorem dX3_type_1 : decode cX3_type 1 = .ok (.iconst 0, 1) := by decide +kernel
theorem dX3_type_2 : decode cX3_type 2 = .ok (.putfield 40, 3) := by decide +kernel
theorem dX3_type_5 : decode cX3_type 5 = .ok (.aload_n 0, 1) := by decide +kernel
theorem dX3_type_6 : decode cX3_type 6 = .ok (.iload_n 1, 1) := by decide +kernel
theorem dX3_type_7 : decode cX3_type 7 = .ok (.invokevirtual 59, 3) := by decide +kernel
theorem dX3_type_10 : decode cX3_type 10 = .ok (.ifCond .ne 5, 3) := by decide +kernel
theorem dX3_type_13 : decode cX3_type 13 = .ok (.iconst (-1), 1) := by decide +kernel
theorem dX3_type_14 : decode cX3_type 14 = .ok (.ireturn, 1) := by decide +kernel
theorem dX3_type_15 : decode cX3_type 15 = .ok (.iload_n 2, 1) := by decide +kernel
theorem dX3_type_16 : decode cX3_type 16 = .ok (.tableswitch 115 0 3 #[32, 39, 54, 61], 32) := by decide +kernel
theorem dX3_type_48 : decode cX3_type 48 = .ok (.aload_n 0, 1) := by decide +kernel
theorem dX3_type_49 : decode cX3_type 49 = .ok (.getfield 7, 3) := by decide +kernel
theorem dX3_type_52 : decode cX3_type 52 = .ok (.iload_n 1, 1) := by decide +kernel
theorem dX3_type_53 : decode cX3_type 53 = .ok (.iaload, 1) := by decide +kernel
theorem dX3_type_54 : decode cX3_type 54 = .ok (.ireturn, 1) := by decide +kernel
theorem dX3_type_55 : decode cX3_type 55 = .ok (.aload_n 0, 1) := by decide +kernel
theorem dX3_type_56 : decode cX3_type 56 = .ok (.getfield 13, 3) := by decide +kernel
theorem dX3_type_59 : decode cX3_type 59 = .ok (.iload_n 1, 1) := by decide +kernel
theorem dX3_type_60 : decode cX3_type 60 = .ok (.baload, 1) := by decide +kernel
theorem dX3_type_61 : decode cX3_type 61 = .ok (.ifCond .eq 7, 3) := by decide +kernel
theorem dX3_type_64 : decode cX3_type 64 = .ok (.iconst 1, 1) := by decide +kernel
theorem dX3_type_65 : decode cX3_type 65 = .ok (.goto 4, 3) := by decide +kernel
theorem dX3_type_68 : decode cX3_type 68 = .ok (.iconst 0, 1) := by decide +kernel
theorem dX3_type_69 : decode cX3_type 69 = .ok (.ireturn, 1) := by decide +kernel
theorem dX3_type_70 : decode cX3_type 70 = .ok (.aload_n 0, 1) := by decide +kernel
theorem dX3_type_71 : decode cX3_type 71 = .ok (.getfield 17, 3) := by decide +kernel
theorem dX3_type_74 : decode cX3_type 74 = .ok (.iload_n 1, 1) := by decide +kernel
theorem dX3_type_75 : decode cX3_type 75 = .ok (.iaload, 1) := by decide +kernel
theorem dX3_type_76 : decode cX3_type 76 = .ok (.ireturn, 1) := by decide +kernel
theorem dX3_type_77 : decode cX3_type 77 = .ok (.iconst 0, 1) := by decide +kernel
theorem dX3_type_78 : decode cX3_type 78 = .ok (.istore_n 3, 1) := by decide +kernel
theorem dX3_type_79 : decode cX3_type 79 = .ok (.bipush 8, 2) := by decide +kernel
theorem dX3_type_81 : decode cX3_type 81 = .ok (.istore 4, 2) := by decide +kernel
theorem dX3_type_83 : decode cX3_type 83 = .ok (.iload 4, 2) := by decide +kernel
theorem dX3_type_85 : decode cX3_type 85 = .ok (.aload_n 0, 1) := by decide +kernel
theorem dX3_type_86 : decode cX3_type 86 = .ok (.getfield 44, 3) := by decide +kernel
theorem dX3_type_89 : decode cX3_type 89 = .ok (.if_icmp .ge 40, 3) := by decide +kernel
theorem dX3_type_92 : decode cX3_type 92 = .ok (.aload_n 0, 1) := by decide +kernel
theorem dX3_type_93 : decode cX3_type 93 = .ok (.iload_n 1, 1) := by decide +kernel
theorem dX3_type_94 : decode cX3_type 94 = .ok (.invokevirtual 55, 3) := by decide +kernel
theorem dX3_type_97 : decode cX3_type 97 = .ok (.ifCond .eq 32, 3) := by decide +kernel
theorem dX3_type_100 : decode cX3_type 100 = .ok (.iload_n 3, 1) := by decide +kernel
theorem dX3_type_101 : decode cX3_type 101 = .ok (.aload_n 0, 1) := by decide +kernel
theorem dX3_type_102 : decode cX3_type 102 = .ok (.getfield 23, 3) := by decide +kernel
theorem dX3_type_105 : decode cX3_type 105 = .ok (.bipush 40, 2) := by decide +kernel
theorem dX3_type_107 : decode cX3_type 107 = .ok (.iload_n 1, 1) := by decide +kernel
theorem dX3_type_108 : decode cX3_type 108 = .ok (.imul, 1) := by decide +kernel
theorem dX3_type_109 : decode cX3_type 109 = .ok (.iload 4, 2) := by decide +kernel
theorem dX3_type_111 : decode cX3_type 111 = .ok (.iadd, 1) := by decide +kernel
theorem dX3_type_112 : decode cX3_type 112 = .ok (.baload, 1) := by decide +kernel
theorem dX3_type_113 : decode cX3_type 113 = .ok (.ifCond .eq 7, 3) := by decide +kernel
theorem dX3_type_116 : decode cX3_type 116 = .ok (.iconst 1, 1) := by decide +kernel
theorem dX3_type_117 : decode cX3_type 117 = .ok (.goto 4, 3) := by decide +kernel
theorem dX3_type_120 : decode cX3_type 120 = .ok (.iconst 0, 1) := by decide +kernel
theorem dX3_type_121 : decode cX3_type 121 = .ok (.iadd, 1) := by decide +kernel
theorem dX3_type_122 : decode cX3_type 122 = .ok (.istore_n 3, 1) := by decide +kernel
theorem dX3_type_123 : decode cX3_type 123 = .ok (.iinc 4 1, 3) := by decide +kernel
theorem dX3_type_126 : decode cX3_type 126 = .ok (.goto (-43), 3) := by decide +kernel
theorem dX3_type_129 : decode cX3_type 129 = .ok (.iload_n 3, 1) := by decide +kernel
theorem dX3_type_130 : decode cX3_type 130 = .ok (.ireturn, 1) := by decide +kernel
theorem dX3_type_131 : decode cX3_type 131 = .ok (.bipush (-2), 2) := by decide +kernel
theorem dX3_type_133 : decode cX3_type 133 = .ok (.ireturn, 1) := by decide +kernel
set_option maxRecDepth 20000 in
theorem ggX3_under_X3_isType : GoodIn wsX3_under wsX3_isType := goodIn_r _ [7, 8, 9, 10, 6, 11, 16, 17, 18, 19, 20, 21, 22, 23, 24, 25] (by decide +kernel) (by decide +kernel)
set_option maxRecDepth 20000 in
theorem gX3_under_X3_isType : GoodIn wsX3_under (wsV RX3 59 RX3 yX3_isType wsX3_isType) := goodIn_app (goodIn_of _ (by decide +kernel)) ggX3_under_X3_isType
set_option maxRecDepth 20000 in
theorem ggX3_under_X3_isReference : GoodIn wsX3_under wsX3_isReference := goodIn_r _ [15] (by decide +kernel) (by decide +kernel)
set_option maxRecDepth 20000 in
theorem gX3_under_X3_isReference : GoodIn wsX3_under (wsV RX3 55 RX3 yX3_isReference wsX3_isReference) := goodIn_app (goodIn_of _ (by decide +kernel)) ggX3_under_X3_isReference
theorem dX3_under_0 : decode cX3_under 0 = .ok (.aload_n 0, 1) := by decide +kernel
theorem dX3_under_1 : decode cX3_under 1 = .ok (.iconst 0, 1) := by decide +kernel
theorem dX3_under_2 : decode cX3_under 2 = .ok (.putfield 40, 3) := by decide +kernel
theorem dX3_under_5 : decode cX3_under 5 = .ok (.aload_n 0, 1) := by decide +kernel
theorem dX3_under_6 : decode cX3_under 6 = .ok (.iload_n 1, 1) := by decide +kernel
theorem dX3_under_7 : decode cX3_under 7 = .ok (.invokevirtual 59, 3) := by decide +kernel
theorem dX3_under_10 : decode cX3_under 10 = .ok (.ifCond .eq 11, 3) := by decide +kernel
theorem dX3_under_13 : decode cX3_under 13 = .ok (.aload_n 0, 1) := by decide +kernel
theorem dX3_under_14 : decode cX3_under 14 = .ok (.iload_n 2, 1) := by decide +kernel
theorem dX3_under_15 : decode cX3_under 15 = .ok (.invokevirtual 59, 3) := by decide +kernel
theorem dX3_under_18 : decode cX3_under 18 = .ok (.ifCond .ne 5, 3) := by decide +kernel
theorem dX3_under_21 : decode cX3_under 21 = .ok (.iconst (-1), 1) := by decide +kernel
theorem dX3_under_22 : decode cX3_under 22 = .ok (.ireturn, 1) := by decide +kernel
theorem dX3_under_23 : decode cX3_under 23 = .ok (.aload_n 0, 1) := by decide +kernel
theorem dX3_under_24 : decode cX3_under 24 = .ok (.iload_n 1, 1) := by decide +kernel
theorem dX3_under_25 : decode cX3_under 25 = .ok (.invokevirtual 55, 3) := by decide +kernel
theorem dX3_under_28 : decode cX3_under 28 = .ok (.ifCond .eq 11, 3) := by decide +kernel
theorem dX3_under_31 : decode cX3_under 31 = .ok (.aload_n 0, 1) := by decide +kernel
theorem dX3_under_32 : decode cX3_under 32 = .ok (.iload_n 2, 1) := by decide +kernel
theorem dX3_under_33 : decode cX3_under 33 = .ok (.invokevirtual 55, 3) := by decide +kernel
theorem dX3_under_36 : decode cX3_under 36 = .ok (.ifCond .ne 6, 3) := by decide +kernel
theorem dX3_under_39 : decode cX3_under 39 = .ok (.bipush (-2), 2) := by decide +kernel
theorem dX3_under_41 : decode cX3_under 41 = .ok (.ireturn, 1) := by decide +kernel
theorem dX3_under_42 : decode cX3_under 42 = .ok (.aload_n 0, 1) := by decide +kernel
theorem dX3_under_43 : decode cX3_under 43 = .ok (.getfield 23, 3) := by decide +kernel
theorem dX3_under_46 : decode cX3_under 46 = .ok (.bipush 40, 2) := by decide +kernel
theorem dX3_under_48 : decode cX3_under 48 = .ok (.iload_n 1, 1) := by decide +kernel
theorem dX3_under_49 : decode cX3_under 49 = .ok (.imul, 1) := by decide +kernel
theorem dX3_under_50 : decode cX3_under 50 = .ok (.iload_n 2, 1) := by decide +kernel
theorem dX3_under_51 : decode cX3_under 51 = .ok (.iadd, 1) := by decide +kernel
theorem dX3_under_52 : decode cX3_under 52 = .ok (.baload, 1) := by decide +kernel
theorem dX3_under_53 : decode cX3_under 53 = .ok (.ifCond .eq 7, 3) := by decide +kernel
theorem dX3_under_56 : decode cX3_under 56 = .ok (.iconst 1, 1) := by decide +kernel
theorem dX3_under_57 : decode cX3_under 57 = .ok (.goto 4, 3) := by decide +kernel
theorem dX3_under_60 : decode cX3_under 60 = .ok (.iconst 0, 1) := by decide +kernel
theorem dX3_under_61 : decode cX3_under 61 = .ok (.ireturn, 1) := by decide +kernel
set_option maxRecDepth 20000 in
theorem ggX3_isWider_X3_in : GoodIn wsX3_isWider wsX3_in := goodIn_r _ [4] (by decide +kernel) (by decide +kernel)
set_option maxRecDepth 20000 in
theorem gX3_isWider_X3_in : GoodIn wsX3_isWider (va_wsS RX3 47 yX3_in wsX3_in) := goodIn_app (goodIn_of _ (by decide +kernel)) ggX3_isWider_X3_in
theorem dX3_isWider_0 : decode cX3_isWider 0 = .ok (.iload_n 0, 1) := by decide +kernel
theorem dX3_isWider_1 : decode cX3_isWider 1 = .ok (.tableswitch 92 1 6 #[39, 47, 55, 63, 71, 80], 39) := by decide +kernel
theorem dX3_isWider_40 : decode cX3_isWider 40 = .ok (.iload_n 1, 1) := by decide +kernel
theorem dX3_isWider_41 : decode cX3_isWider 41 = .ok (.iconst 4, 1) := by decide +kernel
theorem dX3_isWider_42 : decode cX3_isWider 42 = .ok (.bipush 7, 2) := by decide +kernel
theorem dX3_isWider_44 : decode cX3_isWider 44 = .ok (.invokestatic 47, 3) := by decide +kernel
theorem dX3_isWider_47 : decode cX3_isWider 47 = .ok (.ireturn, 1) := by decide +kernel
theorem dX3_isWider_48 : decode cX3_isWider 48 = .ok (.iload_n 1, 1) := by decide +kernel
theorem dX3_isWider_49 : decode cX3_isWider 49 = .ok (.iconst 3, 1) := by decide +kernel
theorem dX3_isWider_50 : decode cX3_isWider 50 = .ok (.bipush 7, 2) := by decide +kernel
theorem dX3_isWider_52 : decode cX3_isWider 52 = .ok (.invokestatic 47, 3) := by decide +kernel
theorem dX3_isWider_55 : decode cX3_isWider 55 = .ok (.ireturn, 1) := by decide +kernel
theorem dX3_isWider_56 : decode cX3_isWider 56 = .ok (.iload_n 1, 1) := by decide +kernel
theorem dX3_isWider_57 : decode cX3_isWider 57 = .ok (.iconst 4, 1) := by decide +kernel
theorem dX3_isWider_58 : decode cX3_isWider 58 = .ok (.bipush 7, 2) := by decide +kernel
theorem dX3_isWider_60 : decode cX3_isWider 60 = .ok (.invokestatic 47, 3) := by decide +kernel
theorem dX3_isWider_63 : decode cX3_isWider 63 = .ok (.ireturn, 1) := by decide +kernel
theorem dX3_isWider_64 : decode cX3_isWider 64 = .ok (.iload_n 1, 1) := by decide +kernel
theorem dX3_isWider_65 : decode cX3_isWider 65 = .ok (.iconst 5, 1) := by decide +kernel
theorem dX3_isWider_66 : decode cX3_isWider 66 = .ok (.bipush 7, 2) := by decide +kernel
theorem dX3_isWider_68 : decode cX3_isWider 68 = .ok (.invokestatic 47, 3) := by decide +kernel
theorem dX3_isWider_71 : decode cX3_isWider 71 = .ok (.ireturn, 1) := by decide +kernel
theorem dX3_isWider_72 : decode cX3_isWider 72 = .ok (.iload_n 1, 1) := by decide +kernel
theorem dX3_isWider_73 : decode cX3_isWider 73 = .ok (.bipush 6, 2) := by decide +kernel
theorem dX3_isWider_75 : decode cX3_isWider 75 = .ok (.bipush 7, 2) := by decide +kernel
theorem dX3_isWider_77 : decode cX3_isWider 77 = .ok (.invokestatic 47, 3) := by decide +kernel
theorem dX3_isWider_80 : decode cX3_isWider 80 = .ok (.ireturn, 1) := by decide +kernel
theorem dX3_isWider_81 : decode cX3_isWider 81 = .ok (.iload_n 1, 1) := by decide +kernel
theorem dX3_isWider_82 : decode cX3_isWider 82 = .ok (.bipush 7, 2) := by decide +kernel
theorem dX3_isWider_84 : decode cX3_isWider 84 = .ok (.if_icmp .ne 7, 3) := by decide +kernel
theorem dX3_isWider_87 : decode cX3_isWider 87 = .ok (.iconst 1, 1) := by decide +kernel
theorem dX3_isWider_88 : decode cX3_isWider 88 = .ok (.goto 4, 3) := by decide +kernel
theorem dX3_isWider_91 : decode cX3_isWider 91 = .ok (.iconst 0, 1) := by decide +kernel
theorem dX3_isWider_92 : decode cX3_isWider 92 = .ok (.ireturn, 1) := by decide +kernel
theorem dX3_isWider_93 : decode cX3_isWider 93 = .ok (.iconst 0, 1) := by decide +kernel
theorem dX3_isWider_94 : decode cX3_isWider 94 = .ok (.ireturn, 1) := by decide +kernel
set_option maxRecDepth 20000 in
theorem ggX3_isUp_X3_isReference : GoodIn wsX3_isUp wsX3_isReference := goodIn_r _ [6] (by decide +kernel) (by decide +kernel)
set_option maxRecDepth 20000 in
theorem gX3_isUp_X3_isReference : GoodIn wsX3_isUp (wsV RX3 55 RX3 yX3_isReference wsX3_isReference) := goodIn_app (goodIn_of _ (by decide +kernel)) ggX3_isUp_X3_isReference
theorem dX3_isUp_0 : decode cX3_isUp 0 = .ok (.aload_n 0, 1) := by decide +kernel
theorem dX3_isUp_1 : decode cX3_isUp 1 = .ok (.iload_n 1, 1) := by decide +kernel
theorem dX3_isUp_2 : decode cX3_isUp 2 = .ok (.invokevirtual 55, 3) := by decide +kernel
theorem dX3_isUp_5 : decode cX3_isUp 5 = .ok (.ifCond .eq 34, 3) := by decide +kernel
theorem dX3_isUp_8 : decode cX3_isUp 8 = .ok (.aload_n 0, 1) := by decide +kernel
theorem dX3_isUp_9 : decode cX3_isUp 9 = .ok (.iload_n 2, 1) := by decide +kernel
theorem dX3_isUp_10 : decode cX3_isUp 10 = .ok (.invokevirtual 55, 3) := by decide +kernel
theorem dX3_isUp_13 : decode cX3_isUp 13 = .ok (.ifCond .eq 26, 3) := by decide +kernel
theorem dX3_isUp_16 : decode cX3_isUp 16 = .ok (.iload_n 1, 1) := by decide +kernel
theorem dX3_isUp_17 : decode cX3_isUp 17 = .ok (.iload_n 2, 1) := by decide +kernel
theorem dX3_isUp_18 : decode cX3_isUp 18 = .ok (.if_icmp .eq 21, 3) := by decide +kernel
theorem dX3_isUp_21 : decode cX3_isUp 21 = .ok (.aload_n 0, 1) := by decide +kernel
theorem dX3_isUp_22 : decode cX3_isUp 22 = .ok (.getfield 23, 3) := by decide +kernel
theorem dX3_isUp_25 : decode cX3_isUp 25 = .ok (.bipush 40, 2) := by decide +kernel
theorem dX3_isUp_27 : decode cX3_isUp 27 = .ok (.iload_n 1, 1) := by decide +kernel
theorem dX3_isUp_28 : decode cX3_isUp 28 = .ok (.imul, 1) := by decide +kernel
theorem dX3_isUp_29 : decode cX3_isUp 29 = .ok (.iload_n 2, 1) := by decide +kernel
theorem dX3_isUp_30 : decode cX3_isUp 30 = .ok (.iadd, 1) := by decide +kernel
theorem dX3_isUp_31 : decode cX3_isUp 31 = .ok (.baload, 1) := by decide +kernel
theorem dX3_isUp_32 : decode cX3_isUp 32 = .ok (.ifCond .eq 7, 3) := by decide +kernel
theorem dX3_isUp_35 : decode cX3_isUp 35 = .ok (.iconst 1, 1) := by decide +kernel
theorem dX3_isUp_36 : decode cX3_isUp 36 = .ok (.goto 4, 3) := by decide +kernel
theorem dX3_isUp_39 : decode cX3_isUp 39 = .ok (.iconst 0, 1) := by decide +kernel
theorem dX3_isUp_40 : decode cX3_isUp 40 = .ok (.ireturn, 1) := by decide +kernel
set_option maxRecDepth 20000 in
theorem ggX3_isDown_X3_isReference : GoodIn wsX3_isDown wsX3_isReference := goodIn_r _ [9] (by decide +kernel) (by decide +kernel)
set_option maxRecDepth 20000 in
theorem gX3_isDown_X3_isReference : GoodIn wsX3_isDown (wsV RX3 55 RX3 yX3_isReference wsX3_isReference) := goodIn_app (goodIn_of _ (by decide +kernel)) ggX3_isDown_X3_isReference
set_option maxRecDepth 20000 in
theorem ggX3_isDown_X3_isUp : GoodIn wsX3_isDown wsX3_isUp := goodIn_ca (goodIn_r _ [13, 2, 5, 6, 7, 8, 9, 14, 15, 16, 17, 18, 19, 20, 21, 22, 23] (by decide +kernel) (by decide +kernel)) (goodIn_sub (fun _ h => List.mem_cons_of_mem _ (List.mem_append_right _ h)) (by decide +kernel))
set_option maxRecDepth 20000 in
theorem gX3_isDown_X3_isUp : GoodIn wsX3_isDown (wsV RX3 65 RX3 yX3_isUp wsX3_isUp) := goodIn_app (goodIn_of _ (by decide +kernel)) ggX3_isDown_X3_isUp
theorem dX3_isDown_0 : decode cX3_isDown 0 = .ok (.iload_n 1, 1) := by decide +kernel
theorem dX3_isDown_1 : decode cX3_isDown 1 = .ok (.istore_n 3, 1) := by decide +kernel
theorem dX3_isDown_2 : decode cX3_isDown 2 = .ok (.iload_n 2, 1) := by decide +kernel
theorem dX3_isDown_3 : decode cX3_isDown 3 = .ok (.istore 4, 2) := by decide +kernel
theorem dX3_isDown_5 : decode cX3_isDown 5 = .ok (.aload_n 0, 1) := by decide +kernel
theorem dX3_isDown_6 : decode cX3_isDown 6 = .ok (.iload_n 3, 1) := by decide +kernel
theorem dX3_isDown_7 : decode cX3_isDown 7 = .ok (.invokevirtual 55, 3) := by decide +kernel
theorem dX3_isDown_10 : decode cX3_isDown 10 = .ok (.ifCond .eq 48, 3) := by decide +kernel
theorem dX3_isDown_13 : decode cX3_isDown 13 = .ok (.aload_n 0, 1) := by decide +kernel
theorem dX3_isDown_14 : decode cX3_isDown 14 = .ok (.iload 4, 2) := by decide +kernel
theorem dX3_isDown_16 : decode cX3_isDown 16 = .ok (.invokevirtual 55, 3) := by decide +kernel
theorem dX3_isDown_19 : decode cX3_isDown 19 = .ok (.ifCond .eq 39, 3) := by decide +kernel
theorem dX3_isDown_22 : decode cX3_isDown 22 = .ok (.aload_n 0, 1) := by decide +kernel
theorem dX3_isDown_23 : decode cX3_isDown 23 = .ok (.getfield 7, 3) := by decide +kernel
theorem dX3_isDown_26 : decode cX3_isDown 26 = .ok (.iload_n 3, 1) := by decide +kernel
theorem dX3_isDown_27 : decode cX3_isDown 27 = .ok (.iaload, 1) := by decide +kernel
theorem dX3_isDown_28 : decode cX3_isDown 28 = .ok (.iconst 4, 1) := by decide +kernel
theorem dX3_isDown_29 : decode cX3_isDown 29 = .ok (.if_icmp .eq 29, 3) := by decide +kernel
theorem dX3_isDown_32 : decode cX3_isDown 32 = .ok (.aload_n 0, 1) := by decide +kernel
theorem dX3_isDown_33 : decode cX3_isDown 33 = .ok (.getfield 7, 3) := by decide +kernel
theorem dX3_isDown_36 : decode cX3_isDown 36 = .ok (.iload 4, 2) := by decide +kernel
theorem dX3_isDown_38 : decode cX3_isDown 38 = .ok (.iaload, 1) := by decide +kernel
theorem dX3_isDown_39 : decode cX3_isDown 39 = .ok (.iconst 4, 1) := by decide +kernel
theorem dX3_isDown_40 : decode cX3_isDown 40 = .ok (.if_icmp .eq 18, 3) := by decide +kernel
theorem dX3_isDown_43 : decode cX3_isDown 43 = .ok (.aload_n 0, 1) := by decide +kernel
theorem dX3_isDown_44 : decode cX3_isDown 44 = .ok (.getfield 23, 3) := by decide +kernel
theorem dX3_isDown_47 : decode cX3_isDown 47 = .ok (.bipush 40, 2) := by decide +kernel
theorem dX3_isDown_49 : decode cX3_isDown 49 = .ok (.iload_n 3, 1) := by decide +kernel
theorem dX3_isDown_50 : decode cX3_isDown 50 = .ok (.imul, 1) := by decide +kernel
theorem dX3_isDown_51 : decode cX3_isDown 51 = .ok (.iload 4, 2) := by decide +kernel
theorem dX3_isDown_53 : decode cX3_isDown 53 = .ok (.iadd, 1) := by decide +kernel
theorem dX3_isDown_54 : decode cX3_isDown 54 = .ok (.baload, 1) := by decide +kernel
theorem dX3_isDown_55 : decode cX3_isDown 55 = .ok (.ifCond .eq 5, 3) := by decide +kernel
theorem dX3_isDown_58 : decode cX3_isDown 58 = .ok (.iconst 0, 1) := by decide +kernel
theorem dX3_isDown_59 : decode cX3_isDown 59 = .ok (.ireturn, 1) := by decide +kernel
theorem dX3_isDown_60 : decode cX3_isDown 60 = .ok (.aload_n 0, 1) := by decide +kernel
theorem dX3_isDown_61 : decode cX3_isDown 61 = .ok (.getfield 23, 3) := by decide +kernel
theorem dX3_isDown_64 : decode cX3_isDown 64 = .ok (.bipush 40, 2) := by decide +kernel
theorem dX3_isDown_66 : decode cX3_isDown 66 = .ok (.iload 4, 2) := by decide +kernel
theorem dX3_isDown_68 : decode cX3_isDown 68 = .ok (.imul, 1) := by decide +kernel
theorem dX3_isDown_69 : decode cX3_isDown 69 = .ok (.iload_n 3, 1) := by decide +kernel
theorem dX3_isDown_70 : decode cX3_isDown 70 = .ok (.iadd, 1) := by decide +kernel
theorem dX3_isDown_71 : decode cX3_isDown 71 = .ok (.baload, 1) := by decide +kernel
theorem dX3_isDown_72 : decode cX3_isDown 72 = .ok (.ifCond .ne 24, 3) := by decide +kernel
theorem dX3_isDown_75 : decode cX3_isDown 75 = .ok (.aload_n 0, 1) := by decide +kernel
theorem dX3_isDown_76 : decode cX3_isDown 76 = .ok (.getfield 7, 3) := by decide +kernel
theorem dX3_isDown_79 : decode cX3_isDown 79 = .ok (.iload_n 3, 1) := by decide +kernel
theorem dX3_isDown_80 : decode cX3_isDown 80 = .ok (.iaload, 1) := by decide +kernel
theorem dX3_isDown_81 : decode cX3_isDown 81 = .ok (.iconst 2, 1) := by decide +kernel
theorem dX3_isDown_82 : decode cX3_isDown 82 = .ok (.if_icmp .ne 16, 3) := by decide +kernel
theorem dX3_isDown_85 : decode cX3_isDown 85 = .ok (.aload_n 0, 1) := by decide +kernel
theorem dX3_isDown_86 : decode cX3_isDown 86 = .ok (.getfield 7, 3) := by decide +kernel
theorem dX3_isDown_89 : decode cX3_isDown 89 = .ok (.iload 4, 2) := by decide +kernel
theorem dX3_isDown_91 : decode cX3_isDown 91 = .ok (.iaload, 1) := by decide +kernel
theorem dX3_isDown_92 : decode cX3_isDown 92 = .ok (.iconst 2, 1) := by decide +kernel
theorem dX3_isDown_93 : decode cX3_isDown 93 = .ok (.if_icmp .ne 5, 3) := by decide +kernel
theorem dX3_isDown_96 : decode cX3_isDown 96 = .ok (.iconst 1, 1) := by decide +kernel
theorem dX3_isDown_97 : decode cX3_isDown 97 = .ok (.ireturn, 1) := by decide +kernel
theorem dX3_isDown_98 : decode cX3_isDown 98 = .ok (.aload_n 0, 1) := by decide +kernel
theorem dX3_isDown_99 : decode cX3_isDown 99 = .ok (.getfield 7, 3) := by decide +kernel
theorem dX3_isDown_102 : decode cX3_isDown 102 = .ok (.iload_n 3, 1) := by decide +kernel
theorem dX3_isDown_103 : decode cX3_isDown 103 = .ok (.iaload, 1) := by decide +kernel
theorem dX3_isDown_104 : decode cX3_isDown 104 = .ok (.iconst 2, 1) := by decide +kernel
theorem dX3_isDown_105 : decode cX3_isDown 105 = .ok (.if_icmp .ne 24, 3) := by decide +kernel
theorem dX3_isDown_108 : decode cX3_isDown 108 = .ok (.aload_n 0, 1) := by decide +kernel
theorem dX3_isDown_109 : decode cX3_isDown 109 = .ok (.getfield 7, 3) := by decide +kernel
theorem dX3_isDown_112 : decode cX3_isDown 112 = .ok (.iload 4, 2) := by decide +kernel
theorem dX3_isDown_114 : decode cX3_isDown 114 = .ok (.iaload, 1) := by decide +kernel
theorem dX3_isDown_115 : decode cX3_isDown 115 = .ok (.iconst 1, 1) := by decide +kernel
theorem dX3_isDown_116 : decode cX3_isDown 116 = .ok (.if_icmp .ne 13, 3) := by decide +kernel
theorem dX3_isDown_119 : decode cX3_isDown 119 = .ok (.aload_n 0, 1) := by decide +kernel
theorem dX3_isDown_120 : decode cX3_isDown 120 = .ok (.getfield 13, 3) := by decide +kernel
theorem dX3_isDown_123 : decode cX3_isDown 123 = .ok (.iload 4, 2) := by decide +kernel
theorem dX3_isDown_125 : decode cX3_isDown 125 = .ok (.baload, 1) := by decide +kernel
theorem dX3_isDown_126 : decode cX3_isDown 126 = .ok (.ifCond .eq 33, 3) := by decide +kernel
theorem dX3_isDown_129 : decode cX3_isDown 129 = .ok (.aload_n 0, 1) := by decide +kernel
theorem dX3_isDown_130 : decode cX3_isDown 130 = .ok (.getfield 7, 3) := by decide +kernel
theorem dX3_isDown_133 : decode cX3_isDown 133 = .ok (.iload 4, 2) := by decide +kernel
theorem dX3_isDown_135 : decode cX3_isDown 135 = .ok (.iaload, 1) := by decide +kernel
theorem dX3_isDown_136 : decode cX3_isDown 136 = .ok (.iconst 2, 1) := by decide +kernel
theorem dX3_isDown_137 : decode cX3_isDown 137 = .ok (.if_icmp .ne 24, 3) := by decide +kernel
theorem dX3_isDown_140 : decode cX3_isDown 140 = .ok (.aload_n 0, 1) := by decide +kernel
theorem dX3_isDown_141 : decode cX3_isDown 141 = .ok (.getfield 7, 3) := by decide +kernel
theorem dX3_isDown_144 : decode cX3_isDown 144 = .ok (.iload_n 3, 1) := by decide +kernel
theorem dX3_isDown_145 : decode cX3_isDown 145 = .ok (.iaload, 1) := by decide +kernel
theorem dX3_isDown_146 : decode cX3_isDown 146 = .ok (.iconst 1, 1) := by decide +kernel
theorem dX3_isDown_147 : decode cX3_isDown 147 = .ok (.if_icmp .ne 14, 3) := by decide +kernel
theorem dX3_isDown_150 : decode cX3_isDown 150 = .ok (.aload_n 0, 1) := by decide +kernel
theorem dX3_isDown_151 : decode cX3_isDown 151 = .ok (.getfield 13, 3) := by decide +kernel
theorem dX3_isDown_154 : decode cX3_isDown 154 = .ok (.iload_n 3, 1) := by decide +kernel
theorem dX3_isDown_155 : decode cX3_isDown 155 = .ok (.baload, 1) := by decide +kernel
theorem dX3_isDown_156 : decode cX3_isDown 156 = .ok (.ifCond .ne 5, 3) := by decide +kernel
theorem dX3_isDown_159 : decode cX3_isDown 159 = .ok (.iconst 1, 1) := by decide +kernel
theorem dX3_isDown_160 : decode cX3_isDown 160 = .ok (.ireturn, 1) := by decide +kernel
theorem dX3_isDown_161 : decode cX3_isDown 161 = .ok (.aload_n 0, 1) := by decide +kernel
theorem dX3_isDown_162 : decode cX3_isDown 162 = .ok (.getfield 7, 3) := by decide +kernel
theorem dX3_isDown_165 : decode cX3_isDown 165 = .ok (.iload_n 3, 1) := by decide +kernel
theorem dX3_isDown_166 : decode cX3_isDown 166 = .ok (.iaload, 1) := by decide +kernel
theorem dX3_isDown_167 : decode cX3_isDown 167 = .ok (.iconst 3, 1) := by decide +kernel
theorem dX3_isDown_168 : decode cX3_isDown 168 = .ok (.if_icmp .ne 41, 3) := by decide +kernel
theorem dX3_isDown_171 : decode cX3_isDown 171 = .ok (.aload_n 0, 1) := by decide +kernel
theorem dX3_isDown_172 : decode cX3_isDown 172 = .ok (.getfield 7, 3) := by decide +kernel
theorem dX3_isDown_175 : decode cX3_isDown 175 = .ok (.iload 4, 2) := by decide +kernel
theorem dX3_isDown_177 : decode cX3_isDown 177 = .ok (.iaload, 1) := by decide +kernel
theorem dX3_isDown_178 : decode cX3_isDown 178 = .ok (.iconst 3, 1) := by decide +kernel
theorem dX3_isDown_179 : decode cX3_isDown 179 = .ok (.if_icmp .ne 30, 3) := by decide +kernel
theorem dX3_isDown_182 : decode cX3_isDown 182 = .ok (.aload_n 0, 1) := by decide +kernel
theorem dX3_isDown_183 : decode cX3_isDown 183 = .ok (.aload_n 0, 1) := by decide +kernel
theorem dX3_isDown_184 : decode cX3_isDown 184 = .ok (.getfield 17, 3) := by decide +kernel
theorem dX3_isDown_187 : decode cX3_isDown 187 = .ok (.iload_n 3, 1) := by decide +kernel
theorem dX3_isDown_188 : decode cX3_isDown 188 = .ok (.iaload, 1) := by decide +kernel
theorem dX3_isDown_189 : decode cX3_isDown 189 = .ok (.invokevirtual 55, 3) := by decide +kernel
theorem dX3_isDown_192 : decode cX3_isDown 192 = .ok (.ifCond .eq 17, 3) := by decide +kernel
theorem dX3_isDown_195 : decode cX3_isDown 195 = .ok (.aload_n 0, 1) := by decide +kernel
theorem dX3_isDown_196 : decode cX3_isDown 196 = .ok (.aload_n 0, 1) := by decide +kernel
theorem dX3_isDown_197 : decode cX3_isDown 197 = .ok (.getfield 17, 3) := by decide +kernel
theorem dX3_isDown_200 : decode cX3_isDown 200 = .ok (.iload 4, 2) := by decide +kernel
theorem dX3_isDown_202 : decode cX3_isDown 202 = .ok (.iaload, 1) := by decide +kernel
theorem dX3_isDown_203 : decode cX3_isDown 203 = .ok (.invokevirtual 55, 3) := by decide +kernel
theorem dX3_isDown_206 : decode cX3_isDown 206 = .ok (.ifCond .ne 5, 3) := by decide +kernel
theorem dX3_isDown_209 : decode cX3_isDown 209 = .ok (.iconst 0, 1) := by decide +kernel
theorem dX3_isDown_210 : decode cX3_isDown 210 = .ok (.ireturn, 1) := by decide +kernel
theorem dX3_isDown_211 : decode cX3_isDown 211 = .ok (.aload_n 0, 1) := by decide +kernel
theorem dX3_isDown_212 : decode cX3_isDown 212 = .ok (.getfield 17, 3) := by decide +kernel
theorem dX3_isDown_215 : decode cX3_isDown 215 = .ok (.iload_n 3, 1) := by decide +kernel
theorem dX3_isDown_216 : decode cX3_isDown 216 = .ok (.iaload, 1) := by decide +kernel
theorem dX3_isDown_217 : decode cX3_isDown 217 = .ok (.istore_n 3, 1) := by decide +kernel
theorem dX3_isDown_218 : decode cX3_isDown 218 = .ok (.aload_n 0, 1) := by decide +kernel
theorem dX3_isDown_219 : decode cX3_isDown 219 = .ok (.getfield 17, 3) := by decide +kernel
theorem dX3_isDown_222 : decode cX3_isDown 222 = .ok (.iload 4, 2) := by decide +kernel
theorem dX3_isDown_224 : decode cX3_isDown 224 = .ok (.iaload, 1) := by decide +kernel
theorem dX3_isDown_225 : decode cX3_isDown 225 = .ok (.istore 4, 2) := by decide +kernel
theorem dX3_isDown_227 : decode cX3_isDown 227 = .ok (.aload_n 0, 1) := by decide +kernel
theorem dX3_isDown_228 : decode cX3_isDown 228 = .ok (.iload_n 3, 1) := by decide +kernel
theorem dX3_isDown_229 : decode cX3_isDown 229 = .ok (.iload 4, 2) := by decide +kernel
theorem dX3_isDown_231 : decode cX3_isDown 231 = .ok (.invokevirtual 65, 3) := by decide +kernel
theorem dX3_isDown_234 : decode cX3_isDown 234 = .ok (.ifCond .eq (-229), 3) := by decide +kernel
theorem dX3_isDown_237 : decode cX3_isDown 237 = .ok (.iconst 1, 1) := by decide +kernel
theorem dX3_isDown_238 : decode cX3_isDown 238 = .ok (.ireturn, 1) := by decide +kernel
set_option maxRecDepth 20000 in
theorem ggX3_leads_X3_isWider : GoodIn wsX3_leads wsX3_isWider := goodIn_r _ [4, 5, 6, 3, 7] (by decide +kernel) (by decide +kernel)
set_option maxRecDepth 20000 in
theorem gX3_leads_X3_isWider : GoodIn wsX3_leads (va_wsS RX3 68 yX3_isWider wsX3_isWider) := goodIn_app (goodIn_of _ (by decide +kernel)) ggX3_leads_X3_isWider
set_option maxRecDepth 20000 in
theorem ggX3_leads_X3_isNumber : GoodIn wsX3_leads wsX3_isNumber := goodIn_r _ [10, 5, 6, 3, 7] (by decide +kernel) (by decide +kernel)
set_option maxRecDepth 20000 in
theorem gX3_leads_X3_isNumber : GoodIn wsX3_leads (va_wsS RX3 71 yX3_isNumber wsX3_isNumber) := goodIn_app (goodIn_of _ (by decide +kernel)) ggX3_leads_X3_isNumber
set_option maxRecDepth 20000 in
theorem ggX3_leads_X3_isUp : GoodIn wsX3_leads wsX3_isUp := goodIn_ca (goodIn_r _ [14, 15, 16, 17, 18, 3, 19, 30, 31, 32, 33, 34, 35, 36, 37, 38, 39] (by decide +kernel) (by decide +kernel)) (goodIn_sub (fun _ h => List.mem_cons_of_mem _ (List.mem_append_right _ h)) (by decide +kernel))
set_option maxRecDepth 20000 in
theorem gX3_leads_X3_isUp : GoodIn wsX3_leads (wsV RX3 65 RX3 yX3_isUp wsX3_isUp) := goodIn_app (goodIn_of _ (by decide +kernel)) ggX3_leads_X3_isUp
set_option maxRecDepth 20000 in
theorem ggX3_leads_X3_isBox : GoodIn wsX3_leads wsX3_isBox := goodIn_r _ [22, 5, 6, 3, 7] (by decide +kernel) (by decide +kernel)
set_option maxRecDepth 20000 in
theorem gX3_leads_X3_isBox : GoodIn wsX3_leads (va_wsS RX3 74 yX3_isBox wsX3_isBox) := goodIn_app (goodIn_of _ (by decide +kernel)) ggX3_leads_X3_isBox
set_option maxRecDepth 20000 in
theorem ggX3_leads_X3_isDown : GoodIn wsX3_leads wsX3_isDown := goodIn_ca (goodIn_r _ [26, 27, 15, 28, 29, 16, 17, 18, 3, 19, 11, 12, 13, 14, 30, 31, 32, 33, 34, 35, 36, 37, 38, 39] (by decide +kernel) (by decide +kernel)) (goodIn_sub (fun _ h => List.mem_cons_of_mem _ (List.mem_append_right _ h)) (by decide +kernel))
set_option maxRecDepth 20000 in
theorem gX3_leads_X3_isDown : GoodIn wsX3_leads (wsV RX3 77 RX3 yX3_isDown wsX3_isDown) := goodIn_app (goodIn_of _ (by decide +kernel)) ggX3_leads_X3_isDown
theorem dX3_leads_0 : decode cX3_leads 0 = .ok (.iload_n 2, 1) := by decide +kernel
theorem dX3_leads_1 : decode cX3_leads 1 = .ok (.bipush 8, 2) := by decide +kernel
theorem dX3_leads_3 : decode cX3_leads 3 = .ok (.if_icmp .ge 7, 3) := by decide +kernel
theorem dX3_leads_6 : decode cX3_leads 6 = .ok (.iconst 1, 1) := by decide +kernel
theorem dX3_leads_7 : decode cX3_leads 7 = .ok (.goto 4, 3) := by decide +kernel
theorem dX3_leads_10 : decode cX3_leads 10 = .ok (.iconst 0, 1) := by decide +kernel
theorem dX3_leads_11 : decode cX3_leads 11 = .ok (.istore 4, 2) := by decide +kernel
theorem dX3_leads_13 : decode cX3_leads 13 = .ok (.iload_n 1, 1) := by decide +kernel
theorem dX3_leads_14 : decode cX3_leads 14 = .ok (.tableswitch 259 1 11 #[58, 69, 75, 118, 134, 153, 176, 197, 221, 228, 235], 58) := by decide +kernel
theorem dX3_leads_72 : decode cX3_leads 72 = .ok (.iload_n 2, 1) := by decide +kernel
theorem dX3_leads_73 : decode cX3_leads 73 = .ok (.iload_n 3, 1) := by decide +kernel
theorem dX3_leads_74 : decode cX3_leads 74 = .ok (.if_icmp .ne 7, 3) := by decide +kernel
theorem dX3_leads_77 : decode cX3_leads 77 = .ok (.iconst 1, 1) := by decide +kernel
theorem dX3_leads_78 : decode cX3_leads 78 = .ok (.goto 4, 3) := by decide +kernel
theorem dX3_leads_81 : decode cX3_leads 81 = .ok (.iconst 0, 1) := by decide +kernel
theorem dX3_leads_82 : decode cX3_leads 82 = .ok (.ireturn, 1) := by decide +kernel
theorem dX3_leads_83 : decode cX3_leads 83 = .ok (.iload_n 2, 1) := by decide +kernel
theorem dX3_leads_84 : decode cX3_leads 84 = .ok (.iload_n 3, 1) := by decide +kernel
theorem dX3_leads_85 : decode cX3_leads 85 = .ok (.invokestatic 68, 3) := by decide +kernel
theorem dX3_leads_88 : decode cX3_leads 88 = .ok (.ireturn, 1) := by decide +kernel
theorem dX3_leads_89 : decode cX3_leads 89 = .ok (.iload_n 2, 1) := by decide +kernel
theorem dX3_leads_90 : decode cX3_leads 90 = .ok (.invokestatic 71, 3) := by decide +kernel
theorem dX3_leads_93 : decode cX3_leads 93 = .ok (.ifCond .eq 37, 3) := by decide +kernel
theorem dX3_leads_96 : decode cX3_leads 96 = .ok (.iload_n 3, 1) := by decide +kernel
theorem dX3_leads_97 : decode cX3_leads 97 = .ok (.invokestatic 71, 3) := by decide +kernel
theorem dX3_leads_100 : decode cX3_leads 100 = .ok (.ifCond .eq 30, 3) := by decide +kernel
theorem dX3_leads_103 : decode cX3_leads 103 = .ok (.iload_n 2, 1) := by decide +kernel
theorem dX3_leads_104 : decode cX3_leads 104 = .ok (.iload_n 3, 1) := by decide +kernel
theorem dX3_leads_105 : decode cX3_leads 105 = .ok (.if_icmp .eq 25, 3) := by decide +kernel
theorem dX3_leads_108 : decode cX3_leads 108 = .ok (.iload_n 2, 1) := by decide +kernel
theorem dX3_leads_109 : decode cX3_leads 109 = .ok (.iload_n 3, 1) := by decide +kernel
theorem dX3_leads_110 : decode cX3_leads 110 = .ok (.invokestatic 68, 3) := by decide +kernel
theorem dX3_leads_113 : decode cX3_leads 113 = .ok (.ifCond .ne 17, 3) := by decide +kernel
theorem dX3_leads_116 : decode cX3_leads 116 = .ok (.iload_n 2, 1) := by decide +kernel
theorem dX3_leads_117 : decode cX3_leads 117 = .ok (.iconst 2, 1) := by decide +kernel
theorem dX3_leads_118 : decode cX3_leads 118 = .ok (.if_icmp .ne 8, 3) := by decide +kernel
theorem dX3_leads_121 : decode cX3_leads 121 = .ok (.iload_n 3, 1) := by decide +kernel
theorem dX3_leads_122 : decode cX3_leads 122 = .ok (.iconst 1, 1) := by decide +kernel
theorem dX3_leads_123 : decode cX3_leads 123 = .ok (.if_icmp .eq 7, 3) := by decide +kernel
theorem dX3_leads_126 : decode cX3_leads 126 = .ok (.iconst 1, 1) := by decide +kernel
theorem dX3_leads_127 : decode cX3_leads 127 = .ok (.goto 4, 3) := by decide +kernel
theorem dX3_leads_130 : decode cX3_leads 130 = .ok (.iconst 0, 1) := by decide +kernel
theorem dX3_leads_131 : decode cX3_leads 131 = .ok (.ireturn, 1) := by decide +kernel
theorem dX3_leads_132 : decode cX3_leads 132 = .ok (.iload_n 2, 1) := by decide +kernel
theorem dX3_leads_133 : decode cX3_leads 133 = .ok (.iconst 2, 1) := by decide +kernel
theorem dX3_leads_134 : decode cX3_leads 134 = .ok (.if_icmp .ne 12, 3) := by decide +kernel
theorem dX3_leads_137 : decode cX3_leads 137 = .ok (.iload_n 3, 1) := by decide +kernel
theorem dX3_leads_138 : decode cX3_leads 138 = .ok (.iconst 1, 1) := by decide +kernel
theorem dX3_leads_139 : decode cX3_leads 139 = .ok (.if_icmp .ne 7, 3) := by decide +kernel
theorem dX3_leads_142 : decode cX3_leads 142 = .ok (.iconst 1, 1) := by decide +kernel
theorem dX3_leads_143 : decode cX3_leads 143 = .ok (.goto 4, 3) := by decide +kernel
theorem dX3_leads_146 : decode cX3_leads 146 = .ok (.iconst 0, 1) := by decide +kernel
theorem dX3_leads_147 : decode cX3_leads 147 = .ok (.ireturn, 1) := by decide +kernel
theorem dX3_leads_148 : decode cX3_leads 148 = .ok (.iload 4, 2) := by decide +kernel
theorem dX3_leads_150 : decode cX3_leads 150 = .ok (.ifCond .eq 15, 3) := by decide +kernel
theorem dX3_leads_153 : decode cX3_leads 153 = .ok (.iload_n 3, 1) := by decide +kernel
theorem dX3_leads_154 : decode cX3_leads 154 = .ok (.iload_n 2, 1) := by decide +kernel
theorem dX3_leads_155 : decode cX3_leads 155 = .ok (.bipush 8, 2) := by decide +kernel
theorem dX3_leads_157 : decode cX3_leads 157 = .ok (.iadd, 1) := by decide +kernel
theorem dX3_leads_158 : decode cX3_leads 158 = .ok (.if_icmp .ne 7, 3) := by decide +kernel
theorem dX3_leads_161 : decode cX3_leads 161 = .ok (.iconst 1, 1) := by decide +kernel
theorem dX3_leads_162 : decode cX3_leads 162 = .ok (.goto 4, 3) := by decide +kernel
theorem dX3_leads_165 : decode cX3_leads 165 = .ok (.iconst 0, 1) := by decide +kernel
theorem dX3_leads_166 : decode cX3_leads 166 = .ok (.ireturn, 1) := by decide +kernel
theorem dX3_leads_167 : decode cX3_leads 167 = .ok (.iload 4, 2) := by decide +kernel
theorem dX3_leads_169 : decode cX3_leads 169 = .ok (.ifCond .eq 19, 3) := by decide +kernel
theorem dX3_leads_172 : decode cX3_leads 172 = .ok (.aload_n 0, 1) := by decide +kernel
theorem dX3_leads_173 : decode cX3_leads 173 = .ok (.iload_n 2, 1) := by decide +kernel
theorem dX3_leads_174 : decode cX3_leads 174 = .ok (.bipush 8, 2) := by decide +kernel
theorem dX3_leads_176 : decode cX3_leads 176 = .ok (.iadd, 1) := by decide +kernel
theorem dX3_leads_177 : decode cX3_leads 177 = .ok (.iload_n 3, 1) := by decide +kernel
theorem dX3_leads_178 : decode cX3_leads 178 = .ok (.invokevirtual 65, 3) := by decide +kernel
theorem dX3_leads_181 : decode cX3_leads 181 = .ok (.ifCond .eq 7, 3) := by decide +kernel
theorem dX3_leads_184 : decode cX3_leads 184 = .ok (.iconst 1, 1) := by decide +kernel
theorem dX3_leads_185 : decode cX3_leads 185 = .ok (.goto 4, 3) := by decide +kernel
theorem dX3_leads_188 : decode cX3_leads 188 = .ok (.iconst 0, 1) := by decide +kernel
theorem dX3_leads_189 : decode cX3_leads 189 = .ok (.ireturn, 1) := by decide +kernel
theorem dX3_leads_190 : decode cX3_leads 190 = .ok (.iload_n 2, 1) := by decide +kernel
theorem dX3_leads_191 : decode cX3_leads 191 = .ok (.invokestatic 74, 3) := by decide +kernel
theorem dX3_leads_194 : decode cX3_leads 194 = .ok (.ifCond .eq 15, 3) := by decide +kernel
theorem dX3_leads_197 : decode cX3_leads 197 = .ok (.iload_n 3, 1) := by decide +kernel
theorem dX3_leads_198 : decode cX3_leads 198 = .ok (.iload_n 2, 1) := by decide +kernel
theorem dX3_leads_199 : decode cX3_leads 199 = .ok (.bipush 8, 2) := by decide +kernel
theorem dX3_leads_201 : decode cX3_leads 201 = .ok (.isub, 1) := by decide +kernel
theorem dX3_leads_202 : decode cX3_leads 202 = .ok (.if_icmp .ne 7, 3) := by decide +kernel
theorem dX3_leads_205 : decode cX3_leads 205 = .ok (.iconst 1, 1) := by decide +kernel
theorem dX3_leads_206 : decode cX3_leads 206 = .ok (.goto 4, 3) := by decide +kernel
theorem dX3_leads_209 : decode cX3_leads 209 = .ok (.iconst 0, 1) := by decide +kernel
theorem dX3_leads_210 : decode cX3_leads 210 = .ok (.ireturn, 1) := by decide +kernel
theorem dX3_leads_211 : decode cX3_leads 211 = .ok (.iload_n 2, 1) := by decide +kernel
theorem dX3_leads_212 : decode cX3_leads 212 = .ok (.invokestatic 74, 3) := by decide +kernel
theorem dX3_leads_215 : decode cX3_leads 215 = .ok (.ifCond .eq 18, 3) := by decide +kernel
theorem dX3_leads_218 : decode cX3_leads 218 = .ok (.iload_n 2, 1) := by decide +kernel
theorem dX3_leads_219 : decode cX3_leads 219 = .ok (.bipush 8, 2) := by decide +kernel
theorem dX3_leads_221 : decode cX3_leads 221 = .ok (.isub, 1) := by decide +kernel
theorem dX3_leads_222 : decode cX3_leads 222 = .ok (.iload_n 3, 1) := by decide +kernel
theorem dX3_leads_223 : decode cX3_leads 223 = .ok (.invokestatic 68, 3) := by decide +kernel
theorem dX3_leads_226 : decode cX3_leads 226 = .ok (.ifCond .eq 7, 3) := by decide +kernel
theorem dX3_leads_229 : decode cX3_leads 229 = .ok (.iconst 1, 1) := by decide +kernel
theorem dX3_leads_230 : decode cX3_leads 230 = .ok (.goto 4, 3) := by decide +kernel
theorem dX3_leads_233 : decode cX3_leads 233 = .ok (.iconst 0, 1) := by decide +kernel
theorem dX3_leads_234 : decode cX3_leads 234 = .ok (.ireturn, 1) := by decide +kernel
theorem dX3_leads_235 : decode cX3_leads 235 = .ok (.aload_n 0, 1) := by decide +kernel
theorem dX3_leads_236 : decode cX3_leads 236 = .ok (.iload_n 2, 1) := by decide +kernel
theorem dX3_leads_237 : decode cX3_leads 237 = .ok (.iload_n 3, 1) := by decide +kernel
theorem dX3_leads_238 : decode cX3_leads 238 = .ok (.invokevirtual 65, 3) := by decide +kernel
theorem dX3_leads_241 : decode cX3_leads 241 = .ok (.ireturn, 1) := by decide +kernel
theorem dX3_leads_242 : decode cX3_leads 242 = .ok (.aload_n 0, 1) := by decide +kernel
theorem dX3_leads_243 : decode cX3_leads 243 = .ok (.iload_n 2, 1) := by decide +kernel
theorem dX3_leads_244 : decode cX3_leads 244 = .ok (.iload_n 3, 1) := by decide +kernel
theorem dX3_leads_245 : decode cX3_leads 245 = .ok (.invokevirtual 77, 3) := by decide +kernel
theorem dX3_leads_248 : decode cX3_leads 248 = .ok (.ireturn, 1) := by decide +kernel
theorem dX3_leads_249 : decode cX3_leads 249 = .ok (.iload_n 3, 1) := by decide +kernel
theorem dX3_leads_250 : decode cX3_leads 250 = .ok (.bipush 8, 2) := by decide +kernel
theorem dX3_leads_252 : decode cX3_leads 252 = .ok (.if_icmp .ge 19, 3) := by decide +kernel
theorem dX3_leads_255 : decode cX3_leads 255 = .ok (.aload_n 0, 1) := by decide +kernel
theorem dX3_leads_256 : decode cX3_leads 256 = .ok (.iload_n 2, 1) := by decide +kernel
theorem dX3_leads_257 : decode cX3_leads 257 = .ok (.iload_n 3, 1) := by decide +kernel
theorem dX3_leads_258 : decode cX3_leads 258 = .ok (.bipush 8, 2) := by decide +kernel
theorem dX3_leads_260 : decode cX3_leads 260 = .ok (.iadd, 1) := by decide +kernel
theorem dX3_leads_261 : decode cX3_leads 261 = .ok (.invokevirtual 77, 3) := by decide +kernel
theorem dX3_leads_264 : decode cX3_leads 264 = .ok (.ifCond .eq 7, 3) := by decide +kernel
theorem dX3_leads_267 : decode cX3_leads 267 = .ok (.iconst 1, 1) := by decide +kernel
theorem dX3_leads_268 : decode cX3_leads 268 = .ok (.goto 4, 3) := by decide +kernel
theorem dX3_leads_271 : decode cX3_leads 271 = .ok (.iconst 0, 1) := by decide +kernel
theorem dX3_leads_272 : decode cX3_leads 272 = .ok (.ireturn, 1) := by decide +kernel
theorem dX3_leads_273 : decode cX3_leads 273 = .ok (.iload_n 3, 1) := by decide +kernel
theorem dX3_leads_274 : decode cX3_leads 274 = .ok (.bipush 21, 2) := by decide +kernel
theorem dX3_leads_276 : decode cX3_leads 276 = .ok (.if_icmp .ne 7, 3) := by decide +kernel
theorem dX3_leads_279 : decode cX3_leads 279 = .ok (.iconst 1, 1) := by decide +kernel
theorem dX3_leads_280 : decode cX3_leads 280 = .ok (.goto 4, 3) := by decide +kernel
theorem dX3_leads_283 : decode cX3_leads 283 = .ok (.iconst 0, 1) := by decide +kernel
theorem dX3_leads_284 : decode cX3_leads 284 = .ok (.ireturn, 1) := by decide +kernel
set_option maxRecDepth 20000 in
theorem ggX3_isAllowed_X3_in : GoodIn wsX3_isAllowed wsX3_in := goodIn_r _ [4] (by decide +kernel) (by decide +kernel)
set_option maxRecDepth 20000 in
theorem gX3_isAllowed_X3_in : GoodIn wsX3_isAllowed (va_wsS RX3 47 yX3_in wsX3_in) := goodIn_app (goodIn_of _ (by decide +kernel)) ggX3_isAllowed_X3_in
set_option maxRecDepth 20000 in
theorem ggX3_isAllowed_X3_isNumber : GoodIn wsX3_isAllowed wsX3_isNumber := goodIn_r _ [7, 1, 2, 3, 4] (by decide +kernel) (by decide +kernel)
set_option maxRecDepth 20000 in
theorem gX3_isAllowed_X3_isNumber : GoodIn wsX3_isAllowed (va_wsS RX3 71 yX3_isNumber wsX3_isNumber) := goodIn_app (goodIn_of _ (by decide +kernel)) ggX3_isAllowed_X3_isNumber
theorem dX3_isAllowed_0 : decode cX3_isAllowed 0 = .ok (.iload_n 1, 1) := by decide +kernel
theorem dX3_isAllowed_1 : decode cX3_isAllowed 1 = .ok (.tableswitch 108 0 4 #[35, 52, 52, 73, 85], 35) := by decide +kernel
theorem dX3_isAllowed_36 : decode cX3_isAllowed 36 = .ok (.iload_n 0, 1) := by decide +kernel
theorem dX3_isAllowed_37 : decode cX3_isAllowed 37 = .ok (.iconst 3, 1) := by decide +kernel
theorem dX3_isAllowed_38 : decode cX3_isAllowed 38 = .ok (.if_icmp .lt 9, 3) := by decide +kernel
theorem dX3_isAllowed_41 : decode cX3_isAllowed 41 = .ok (.iload_n 0, 1) := by decide +kernel
theorem dX3_isAllowed_42 : decode cX3_isAllowed 42 = .ok (.bipush 9, 2) := by decide +kernel
theorem dX3_isAllowed_44 : decode cX3_isAllowed 44 = .ok (.if_icmp .ne 7, 3) := by decide +kernel
theorem dX3_isAllowed_47 : decode cX3_isAllowed 47 = .ok (.iconst 1, 1) := by decide +kernel
theorem dX3_isAllowed_48 : decode cX3_isAllowed 48 = .ok (.goto 4, 3) := by decide +kernel
theorem dX3_isAllowed_51 : decode cX3_isAllowed 51 = .ok (.iconst 0, 1) := by decide +kernel
theorem dX3_isAllowed_52 : decode cX3_isAllowed 52 = .ok (.ireturn, 1) := by decide +kernel
theorem dX3_isAllowed_53 : decode cX3_isAllowed 53 = .ok (.iload_n 0, 1) := by decide +kernel
theorem dX3_isAllowed_54 : decode cX3_isAllowed 54 = .ok (.iconst 3, 1) := by decide +kernel
theorem dX3_isAllowed_55 : decode cX3_isAllowed 55 = .ok (.if_icmp .lt 13, 3) := by decide +kernel
theorem dX3_isAllowed_58 : decode cX3_isAllowed 58 = .ok (.iload_n 0, 1) := by decide +kernel
theorem dX3_isAllowed_59 : decode cX3_isAllowed 59 = .ok (.iconst 5, 1) := by decide +kernel
theorem dX3_isAllowed_60 : decode cX3_isAllowed 60 = .ok (.bipush 9, 2) := by decide +kernel
theorem dX3_isAllowed_62 : decode cX3_isAllowed 62 = .ok (.invokestatic 47, 3) := by decide +kernel
theorem dX3_isAllowed_65 : decode cX3_isAllowed 65 = .ok (.ifCond .eq 7, 3) := by decide +kernel
theorem dX3_isAllowed_68 : decode cX3_isAllowed 68 = .ok (.iconst 1, 1) := by decide +kernel
theorem dX3_isAllowed_69 : decode cX3_isAllowed 69 = .ok (.goto 4, 3) := by decide +kernel
theorem dX3_isAllowed_72 : decode cX3_isAllowed 72 = .ok (.iconst 0, 1) := by decide +kernel
theorem dX3_isAllowed_73 : decode cX3_isAllowed 73 = .ok (.ireturn, 1) := by decide +kernel
theorem dX3_isAllowed_74 : decode cX3_isAllowed 74 = .ok (.iload_n 0, 1) := by decide +kernel
theorem dX3_isAllowed_75 : decode cX3_isAllowed 75 = .ok (.bipush 12, 2) := by decide +kernel
theorem dX3_isAllowed_77 : decode cX3_isAllowed 77 = .ok (.if_icmp .ge 7, 3) := by decide +kernel
theorem dX3_isAllowed_80 : decode cX3_isAllowed 80 = .ok (.iconst 1, 1) := by decide +kernel
theorem dX3_isAllowed_81 : decode cX3_isAllowed 81 = .ok (.goto 4, 3) := by decide +kernel
theorem dX3_isAllowed_84 : decode cX3_isAllowed 84 = .ok (.iconst 0, 1) := by decide +kernel
theorem dX3_isAllowed_85 : decode cX3_isAllowed 85 = .ok (.ireturn, 1) := by decide +kernel
theorem dX3_isAllowed_86 : decode cX3_isAllowed 86 = .ok (.iload_n 2, 1) := by decide +kernel
theorem dX3_isAllowed_87 : decode cX3_isAllowed 87 = .ok (.bipush 21, 2) := by decide +kernel
theorem dX3_isAllowed_89 : decode cX3_isAllowed 89 = .ok (.if_icmp .ne 18, 3) := by decide +kernel
theorem dX3_isAllowed_92 : decode cX3_isAllowed 92 = .ok (.iload_n 0, 1) := by decide +kernel
theorem dX3_isAllowed_93 : decode cX3_isAllowed 93 = .ok (.iconst 1, 1) := by decide +kernel
theorem dX3_isAllowed_94 : decode cX3_isAllowed 94 = .ok (.if_icmp .eq 9, 3) := by decide +kernel
theorem dX3_isAllowed_97 : decode cX3_isAllowed 97 = .ok (.iload_n 0, 1) := by decide +kernel
theorem dX3_isAllowed_98 : decode cX3_isAllowed 98 = .ok (.bipush 12, 2) := by decide +kernel
theorem dX3_isAllowed_100 : decode cX3_isAllowed 100 = .ok (.if_icmp .ne 7, 3) := by decide +kernel
theorem dX3_isAllowed_103 : decode cX3_isAllowed 103 = .ok (.iconst 1, 1) := by decide +kernel
theorem dX3_isAllowed_104 : decode cX3_isAllowed 104 = .ok (.goto 4, 3) := by decide +kernel
theorem dX3_isAllowed_107 : decode cX3_isAllowed 107 = .ok (.iconst 0, 1) := by decide +kernel
theorem dX3_isAllowed_108 : decode cX3_isAllowed 108 = .ok (.ireturn, 1) := by decide +kernel
theorem dX3_isAllowed_109 : decode cX3_isAllowed 109 = .ok (.iload_n 2, 1) := by decide +kernel
theorem dX3_isAllowed_110 : decode cX3_isAllowed 110 = .ok (.invokestatic 71, 3) := by decide +kernel
theorem dX3_isAllowed_113 : decode cX3_isAllowed 113 = .ok (.ifCond .eq 24, 3) := by decide +kernel
theorem dX3_isAllowed_116 : decode cX3_isAllowed 116 = .ok (.iload_n 0, 1) := by decide +kernel
theorem dX3_isAllowed_117 : decode cX3_isAllowed 117 = .ok (.iconst 3, 1) := by decide +kernel
theorem dX3_isAllowed_118 : decode cX3_isAllowed 118 = .ok (.if_icmp .lt 15, 3) := by decide +kernel
theorem dX3_isAllowed_121 : decode cX3_isAllowed 121 = .ok (.iload_n 0, 1) := by decide +kernel
theorem dX3_isAllowed_122 : decode cX3_isAllowed 122 = .ok (.bipush 7, 2) := by decide +kernel
theorem dX3_isAllowed_124 : decode cX3_isAllowed 124 = .ok (.if_icmp .eq 9, 3) := by decide +kernel
theorem dX3_isAllowed_127 : decode cX3_isAllowed 127 = .ok (.iload_n 0, 1) := by decide +kernel
theorem dX3_isAllowed_128 : decode cX3_isAllowed 128 = .ok (.bipush 8, 2) := by decide +kernel
theorem dX3_isAllowed_130 : decode cX3_isAllowed 130 = .ok (.if_icmp .ne 7, 3) := by decide +kernel
theorem dX3_isAllowed_133 : decode cX3_isAllowed 133 = .ok (.iconst 1, 1) := by decide +kernel
theorem dX3_isAllowed_134 : decode cX3_isAllowed 134 = .ok (.goto 4, 3) := by decide +kernel
theorem dX3_isAllowed_137 : decode cX3_isAllowed 137 = .ok (.iconst 0, 1) := by decide +kernel
theorem dX3_isAllowed_138 : decode cX3_isAllowed 138 = .ok (.ireturn, 1) := by decide +kernel
set_option maxRecDepth 20000 in
theorem ggX3_kindOf_X3_isAllowed : GoodIn wsX3_kindOf wsX3_isAllowed := goodIn_r _ [4, 5, 6, 3, 7, 8, 9, 10] (by decide +kernel) (by decide +kernel)
set_option maxRecDepth 20000 in
theorem gX3_kindOf_X3_isAllowed : GoodIn wsX3_kindOf (va_wsS RX3 80 yX3_isAllowed wsX3_isAllowed) := goodIn_app (goodIn_of _ (by decide +kernel)) ggX3_kindOf_X3_isAllowed
set_option maxRecDepth 20000 in
theorem ggX3_kindOf_X3_leads : GoodIn wsX3_kindOf wsX3_leads := goodIn_ca (goodIn_r _ [14, 15, 16, 3, 17, 5, 6, 7, 8, 9, 10, 18, 19, 20, 21, 22, 23, 24, 25, 26, 27, 28, 29, 30, 31, 32, 33, 34, 35, 36, 37, 38, 39, 40, 41, 42, 43, 44, 45, 46] (by decide +kernel) (by decide +kernel)) (goodIn_sub (fun _ h => List.mem_cons_of_mem _ (List.mem_append_right _ h)) (by decide +kernel))
set_option maxRecDepth 20000 in
theorem gX3_kindOf_X3_leads : GoodIn wsX3_kindOf (wsV RX3 83 RX3 yX3_leads wsX3_leads) := goodIn_app (goodIn_of _ (by decide +kernel)) ggX3_kindOf_X3_leads
theorem dX3_kindOf_0 : decode cX3_kindOf 0 = .ok (.iconst 1, 1) := by decide +kernel
theorem dX3_kindOf_1 : decode cX3_kindOf 1 = .ok (.istore 4, 2) := by decide +kernel
theorem dX3_kindOf_3 : decode cX3_kindOf 3 = .ok (.iload 4, 2) := by decide +kernel
theorem dX3_kindOf_5 : decode cX3_kindOf 5 = .ok (.bipush 13, 2) := by decide +kernel
theorem dX3_kindOf_7 : decode cX3_kindOf 7 = .ok (.if_icmp .ge 33, 3) := by decide +kernel
theorem dX3_kindOf_10 : decode cX3_kindOf 10 = .ok (.iload 4, 2) := by decide +kernel
theorem dX3_kindOf_12 : decode cX3_kindOf 12 = .ok (.iload_n 3, 1) := by decide +kernel
theorem dX3_kindOf_13 : decode cX3_kindOf 13 = .ok (.iload_n 2, 1) := by decide +kernel
theorem dX3_kindOf_14 : decode cX3_kindOf 14 = .ok (.invokestatic 80, 3) := by decide +kernel
theorem dX3_kindOf_17 : decode cX3_kindOf 17 = .ok (.ifCond .eq 17, 3) := by decide +kernel
theorem dX3_kindOf_20 : decode cX3_kindOf 20 = .ok (.aload_n 0, 1) := by decide +kernel
theorem dX3_kindOf_21 : decode cX3_kindOf 21 = .ok (.iload 4, 2) := by decide +kernel
theorem dX3_kindOf_23 : decode cX3_kindOf 23 = .ok (.iload_n 1, 1) := by decide +kernel
theorem dX3_kindOf_24 : decode cX3_kindOf 24 = .ok (.iload_n 2, 1) := by decide +kernel
theorem dX3_kindOf_25 : decode cX3_kindOf 25 = .ok (.invokevirtual 83, 3) := by decide +kernel
theorem dX3_kindOf_28 : decode cX3_kindOf 28 = .ok (.ifCond .eq 6, 3) := by decide +kernel
theorem dX3_kindOf_31 : decode cX3_kindOf 31 = .ok (.iload 4, 2) := by decide +kernel
theorem dX3_kindOf_33 : decode cX3_kindOf 33 = .ok (.ireturn, 1) := by decide +kernel
theorem dX3_kindOf_34 : decode cX3_kindOf 34 = .ok (.iinc 4 1, 3) := by decide +kernel
theorem dX3_kindOf_37 : decode cX3_kindOf 37 = .ok (.goto (-34), 3) := by decide +kernel
theorem dX3_kindOf_40 : decode cX3_kindOf 40 = .ok (.iconst 0, 1) := by decide +kernel
theorem dX3_kindOf_41 : decode cX3_kindOf 41 = .ok (.ireturn, 1) := by decide +kernel
set_option maxRecDepth 20000 in
theorem ggX3_kind_X3_isType : GoodIn wsX3_kind wsX3_isType := goodIn_r _ [6, 7, 8, 9, 5, 10, 47, 48, 49, 50, 51, 52, 53, 54, 55, 56] (by decide +kernel) (by decide +kernel)
set_option maxRecDepth 20000 in
theorem gX3_kind_X3_isType : GoodIn wsX3_kind (wsV RX3 59 RX3 yX3_isType wsX3_isType) := goodIn_app (goodIn_of _ (by decide +kernel)) ggX3_kind_X3_isType
set_option maxRecDepth 20000 in
theorem ggX3_kind_X3_in : GoodIn wsX3_kind wsX3_in := goodIn_r _ [10] (by decide +kernel) (by decide +kernel)
set_option maxRecDepth 20000 in
theorem gX3_kind_X3_in : GoodIn wsX3_kind (va_wsS RX3 47 yX3_in wsX3_in) := goodIn_app (goodIn_of _ (by decide +kernel)) ggX3_kind_X3_in
set_option maxRecDepth 20000 in
theorem ggX3_kind_X3_kindOf : GoodIn wsX3_kind wsX3_kindOf := goodIn_ca (goodIn_r _ [14, 15, 16, 5, 17, 8, 9, 10, 18, 19, 20, 21, 22, 23, 24, 25, 26, 27, 28, 29, 30, 31, 32, 33, 34, 35, 36, 37, 38, 39, 40, 41, 42, 43, 44, 45, 46, 47, 48, 49, 50, 51, 52, 53, 54, 55, 56] (by decide +kernel) (by decide +kernel)) (goodIn_sub (fun _ h => List.mem_cons_of_mem _ (List.mem_append_right _ h)) (by decide +kernel))
set_option maxRecDepth 20000 in
theorem gX3_kind_X3_kindOf : GoodIn wsX3_kind (wsV RX3 86 RX3 yX3_kindOf wsX3_kindOf) := goodIn_app (goodIn_of _ (by decide +kernel)) ggX3_kind_X3_kindOf
theorem dX3_kind_0 : decode cX3_kind 0 = .ok (.aload_n 0, 1) := by decide +kernel
theorem dX3_kind_1 : decode cX3_kind 1 = .ok (.iconst 0, 1) := by decide +kernel
theorem dX3_kind_2 : decode cX3_kind 2 = .ok (.putfield 40, 3) := by decide +kernel
theorem dX3_kind_5 : decode cX3_kind 5 = .ok (.aload_n 0, 1) := by decide +kernel
theorem dX3_kind_6 : decode cX3_kind 6 = .ok (.iload_n 1, 1) := by decide +kernel
theorem dX3_kind_7 : decode cX3_kind 7 = .ok (.invokevirtual 59, 3) := by decide +kernel
theorem dX3_kind_10 : decode cX3_kind 10 = .ok (.ifCond .eq 20, 3) := by decide +kernel
theorem dX3_kind_13 : decode cX3_kind 13 = .ok (.aload_n 0, 1) := by decide +kernel
theorem dX3_kind_14 : decode cX3_kind 14 = .ok (.iload_n 2, 1) := by decide +kernel
theorem dX3_kind_15 : decode cX3_kind 15 = .ok (.invokevirtual 59, 3) := by decide +kernel
theorem dX3_kind_18 : decode cX3_kind 18 = .ok (.ifCond .eq 12, 3) := by decide +kernel
theorem dX3_kind_21 : decode cX3_kind 21 = .ok (.iload_n 3, 1) := by decide +kernel
theorem dX3_kind_22 : decode cX3_kind 22 = .ok (.iconst 0, 1) := by decide +kernel
theorem dX3_kind_23 : decode cX3_kind 23 = .ok (.iconst 5, 1) := by decide +kernel
theorem dX3_kind_24 : decode cX3_kind 24 = .ok (.invokestatic 47, 3) := by decide +kernel
theorem dX3_kind_27 : decode cX3_kind 27 = .ok (.ifCond .ne 5, 3) := by decide +kernel
theorem dX3_kind_30 : decode cX3_kind 30 = .ok (.iconst (-1), 1) := by decide +kernel
theorem dX3_kind_31 : decode cX3_kind 31 = .ok (.ireturn, 1) := by decide +kernel
theorem dX3_kind_32 : decode cX3_kind 32 = .ok (.aload_n 0, 1) := by decide +kernel
theorem dX3_kind_33 : decode cX3_kind 33 = .ok (.iload_n 1, 1) := by decide +kernel
theorem dX3_kind_34 : decode cX3_kind 34 = .ok (.iload_n 2, 1) := by decide +kernel
theorem dX3_kind_35 : decode cX3_kind 35 = .ok (.iload_n 3, 1) := by decide +kernel
theorem dX3_kind_36 : decode cX3_kind 36 = .ok (.invokevirtual 86, 3) := by decide +kernel
theorem dX3_kind_39 : decode cX3_kind 39 = .ok (.ireturn, 1) := by decide +kernel
theorem dX3_has_0 : decode cX3_has 0 = .ok (.iload_n 0, 1) := by decide +kernel
theorem dX3_has_1 : decode cX3_has 1 = .ok (.tableswitch 117 1 4 #[31, 51, 73, 95], 31) := by decide +kernel
theorem dX3_has_32 : decode cX3_has 32 = .ok (.lload_n 1, 1) := by decide +kernel
theorem dX3_has_33 : decode cX3_has 33 = .ok (.lconst 0, 1) := by decide +kernel
theorem dX3_has_34 : decode cX3_has 34 = .ok (.lcmp, 1) := by decide +kernel
theorem dX3_has_35 : decode cX3_has 35 = .ok (.ifCond .lt 15, 3) := by decide +kernel
theorem dX3_has_38 : decode cX3_has 38 = .ok (.lload_n 1, 1) := by decide +kernel
theorem dX3_has_39 : decode cX3_has 39 = .ok (.ldc2_w 90, 3) := by decide +kernel
theorem dX3_has_42 : decode cX3_has 42 = .ok (.lcmp, 1) := by decide +kernel
theorem dX3_has_43 : decode cX3_has 43 = .ok (.ifCond .gt 7, 3) := by decide +kernel
theorem dX3_has_46 : decode cX3_has 46 = .ok (.iconst 1, 1) := by decide +kernel
theorem dX3_has_47 : decode cX3_has 47 = .ok (.goto 4, 3) := by decide +kernel
theorem dX3_has_50 : decode cX3_has 50 = .ok (.iconst 0, 1) := by decide +kernel
theorem dX3_has_51 : decode cX3_has 51 = .ok (.ireturn, 1) := by decide +kernel
theorem dX3_has_52 : decode cX3_has 52 = .ok (.lload_n 1, 1) := by decide +kernel
theorem dX3_has_53 : decode cX3_has 53 = .ok (.ldc2_w 92, 3) := by decide +kernel
theorem dX3_has_56 : decode cX3_has 56 = .ok (.lcmp, 1) := by decide +kernel
theorem dX3_has_57 : decode cX3_has 57 = .ok (.ifCond .lt 15, 3) := by decide +kernel
theorem dX3_has_60 : decode cX3_has 60 = .ok (.lload_n 1, 1) := by decide +kernel
theorem dX3_has_61 : decode cX3_has 61 = .ok (.ldc2_w 94, 3) := by decide +kernel
theorem dX3_has_64 : decode cX3_has 64 = .ok (.lcmp, 1) := by decide +kernel
theorem dX3_has_65 : decode cX3_has 65 = .ok (.ifCond .gt 7, 3) := by decide +kernel
theorem dX3_has_68 : decode cX3_has 68 = .ok (.iconst 1, 1) := by decide +kernel
theorem dX3_has_69 : decode cX3_has 69 = .ok (.goto 4, 3) := by decide +kernel
theorem dX3_has_72 : decode cX3_has 72 = .ok (.iconst 0, 1) := by decide +kernel
theorem dX3_has_73 : decode cX3_has 73 = .ok (.ireturn, 1) := by decide +kernel
theorem dX3_has_74 : decode cX3_has 74 = .ok (.lload_n 1, 1) := by decide +kernel
theorem dX3_has_75 : decode cX3_has 75 = .ok (.ldc2_w 96, 3) := by decide +kernel
theorem dX3_has_78 : decode cX3_has 78 = .ok (.lcmp, 1) := by decide +kernel
theorem dX3_has_79 : decode cX3_has 79 = .ok (.ifCond .lt 15, 3) := by decide +kernel
theorem dX3_has_82 : decode cX3_has 82 = .ok (.lload_n 1, 1) := by decide +kernel
theorem dX3_has_83 : decode cX3_has 83 = .ok (.ldc2_w 98, 3) := by decide +kernel
theorem dX3_has_86 : decode cX3_has 86 = .ok (.lcmp, 1) := by decide +kernel
theorem dX3_has_87 : decode cX3_has 87 = .ok (.ifCond .gt 7, 3) := by decide +kernel
theorem dX3_has_90 : decode cX3_has 90 = .ok (.iconst 1, 1) := by decide +kernel
theorem dX3_has_91 : decode cX3_has 91 = .ok (.goto 4, 3) := by decide +kernel
theorem dX3_has_94 : decode cX3_has 94 = .ok (.iconst 0, 1) := by decide +kernel
theorem dX3_has_95 : decode cX3_has 95 = .ok (.ireturn, 1) := by decide +kernel
theorem dX3_has_96 : decode cX3_has 96 = .ok (.lload_n 1, 1) := by decide +kernel
theorem dX3_has_97 : decode cX3_has 97 = .ok (.ldc2_w 100, 3) := by decide +kernel
theorem dX3_has_100 : decode cX3_has 100 = .ok (.lcmp, 1) := by decide +kernel
theorem dX3_has_101 : decode cX3_has 101 = .ok (.ifCond .lt 15, 3) := by decide +kernel
theorem dX3_has_104 : decode cX3_has 104 = .ok (.lload_n 1, 1) := by decide +kernel
theorem dX3_has_105 : decode cX3_has 105 = .ok (.ldc2_w 102, 3) := by decide +kernel
theorem dX3_has_108 : decode cX3_has 108 = .ok (.lcmp, 1) := by decide +kernel
theorem dX3_has_109 : decode cX3_has 109 = .ok (.ifCond .gt 7, 3) := by decide +kernel
theorem dX3_has_112 : decode cX3_has 112 = .ok (.iconst 1, 1) := by decide +kernel
theorem dX3_has_113 : decode cX3_has 113 = .ok (.goto 4, 3) := by decide +kernel
theorem dX3_has_116 : decode cX3_has 116 = .ok (.iconst 0, 1) := by decide +kernel
theorem dX3_has_117 : decode cX3_has 117 = .ok (.ireturn, 1) := by decide +kernel
theorem dX3_has_118 : decode cX3_has 118 = .ok (.iconst 1, 1) := by decide +kernel
theorem dX3_has_119 : decode cX3_has 119 = .ok (.ireturn, 1) := by decide +kernel
set_option maxRecDepth 20000 in
theorem ggX3_given_X3_isType : GoodIn wsX3_given wsX3_isType := goodIn_r _ [6, 7, 8, 9, 5, 10, 57, 58, 59, 60, 61, 62, 63, 64, 65, 66] (by decide +kernel) (by decide +kernel)
set_option maxRecDepth 20000 in
theorem gX3_given_X3_isType : GoodIn wsX3_given (wsV RX3 59 RX3 yX3_isType wsX3_isType) := goodIn_app (goodIn_of _ (by decide +kernel)) ggX3_given_X3_isType
set_option maxRecDepth 20000 in
theorem ggX3_given_X3_in : GoodIn wsX3_given wsX3_in := goodIn_r _ [10] (by decide +kernel) (by decide +kernel)
set_option maxRecDepth 20000 in
theorem gX3_given_X3_in : GoodIn wsX3_given (va_wsS RX3 47 yX3_in wsX3_in) := goodIn_app (goodIn_of _ (by decide +kernel)) ggX3_given_X3_in
set_option maxRecDepth 20000 in
theorem ggX3_given_X3_has : GoodIn wsX3_given wsX3_has := goodIn_r _ [13, 14, 15, 16, 17, 18, 19, 20] (by decide +kernel) (by decide +kernel)
set_option maxRecDepth 20000 in
theorem gX3_given_X3_has : GoodIn wsX3_given (va_wsS RX3 104 yX3_has wsX3_has) := goodIn_app (goodIn_of _ (by decide +kernel)) ggX3_given_X3_has
set_option maxRecDepth 20000 in
theorem ggX3_given_X3_isBox : GoodIn wsX3_given wsX3_isBox := goodIn_r _ [23, 8, 9, 5, 10] (by decide +kernel) (by decide +kernel)
set_option maxRecDepth 20000 in
theorem gX3_given_X3_isBox : GoodIn wsX3_given (va_wsS RX3 74 yX3_isBox wsX3_isBox) := goodIn_app (goodIn_of _ (by decide +kernel)) ggX3_given_X3_isBox
set_option maxRecDepth 20000 in
theorem ggX3_given_X3_kindOf : GoodIn wsX3_given wsX3_kindOf := goodIn_ca (goodIn_r _ [27, 28, 29, 5, 30, 8, 9, 10, 31, 32, 33, 34, 35, 36, 37, 38, 39, 40, 41, 42, 43, 44, 45, 46, 47, 48, 49, 21, 22, 23, 50, 51, 52, 53, 54, 55, 56, 57, 58, 59, 60, 61, 62, 63, 64, 65, 66] (by decide +kernel) (by decide +kernel)) (goodIn_sub (fun _ h => List.mem_cons_of_mem _ (List.mem_append_right _ h)) (by decide +kernel))
set_option maxRecDepth 20000 in
theorem gX3_given_X3_kindOf : GoodIn wsX3_given (wsV RX3 86 RX3 yX3_kindOf wsX3_kindOf) := goodIn_app (goodIn_of _ (by decide +kernel)) ggX3_given_X3_kindOf
theorem dX3_given_0 : decode cX3_given 0 = .ok (.aload_n 0, 1) := by decide +kernel
theorem dX3_given_1 : decode cX3_given 1 = .ok (.iconst 0, 1) := by decide +kernel
theorem dX3_given_2 : decode cX3_given 2 = .ok (.putfield 40, 3) := by decide +kernel
theorem dX3_given_5 : decode cX3_given 5 = .ok (.aload_n 0, 1) := by decide +kernel
theorem dX3_given_6 : decode cX3_given 6 = .ok (.iload_n 3, 1) := by decide +kernel
theorem dX3_given_7 : decode cX3_given 7 = .ok (.invokevirtual 59, 3) := by decide +kernel
theorem dX3_given_10 : decode cX3_given 10 = .ok (.ifCond .eq 12, 3) := by decide +kernel
theorem dX3_given_13 : decode cX3_given 13 = .ok (.aload_n 0, 1) := by decide +kernel
theorem dX3_given_14 : decode cX3_given 14 = .ok (.iload 4, 2) := by decide +kernel
theorem dX3_given_16 : decode cX3_given 16 = .ok (.invokevirtual 59, 3) := by decide +kernel
theorem dX3_given_19 : decode cX3_given 19 = .ok (.ifCond .ne 5, 3) := by decide +kernel
theorem dX3_given_22 : decode cX3_given 22 = .ok (.iconst (-1), 1) := by decide +kernel
theorem dX3_given_23 : decode cX3_given 23 = .ok (.ireturn, 1) := by decide +kernel
theorem dX3_given_24 : decode cX3_given 24 = .ok (.iload_n 3, 1) := by decide +kernel
theorem dX3_given_25 : decode cX3_given 25 = .ok (.iconst 1, 1) := by decide +kernel
theorem dX3_given_26 : decode cX3_given 26 = .ok (.iconst 5, 1) := by decide +kernel
theorem dX3_given_27 : decode cX3_given 27 = .ok (.invokestatic 47, 3) := by decide +kernel
theorem dX3_given_30 : decode cX3_given 30 = .ok (.ifCond .eq 11, 3) := by decide +kernel
theorem dX3_given_33 : decode cX3_given 33 = .ok (.iload_n 3, 1) := by decide +kernel
theorem dX3_given_34 : decode cX3_given 34 = .ok (.lload_n 1, 1) := by decide +kernel
theorem dX3_given_35 : decode cX3_given 35 = .ok (.invokestatic 104, 3) := by decide +kernel
theorem dX3_given_38 : decode cX3_given 38 = .ok (.ifCond .ne 6, 3) := by decide +kernel
theorem dX3_given_41 : decode cX3_given 41 = .ok (.bipush (-2), 2) := by decide +kernel
theorem dX3_given_43 : decode cX3_given 43 = .ok (.ireturn, 1) := by decide +kernel
theorem dX3_given_44 : decode cX3_given 44 = .ok (.iload 4, 2) := by decide +kernel
theorem dX3_given_46 : decode cX3_given 46 = .ok (.invokestatic 74, 3) := by decide +kernel
theorem dX3_given_49 : decode cX3_given 49 = .ok (.ifCond .eq 11, 3) := by decide +kernel
theorem dX3_given_52 : decode cX3_given 52 = .ok (.iload 4, 2) := by decide +kernel
theorem dX3_given_54 : decode cX3_given 54 = .ok (.bipush 8, 2) := by decide +kernel
theorem dX3_given_56 : decode cX3_given 56 = .ok (.isub, 1) := by decide +kernel
theorem dX3_given_57 : decode cX3_given 57 = .ok (.goto 5, 3) := by decide +kernel
theorem dX3_given_60 : decode cX3_given 60 = .ok (.iload 4, 2) := by decide +kernel
theorem dX3_given_62 : decode cX3_given 62 = .ok (.istore 5, 2) := by decide +kernel
theorem dX3_given_64 : decode cX3_given 64 = .ok (.iload_n 3, 1) := by decide +kernel
theorem dX3_given_65 : decode cX3_given 65 = .ok (.iconst 5, 1) := by decide +kernel
theorem dX3_given_66 : decode cX3_given 66 = .ok (.if_icmp .ge 26, 3) := by decide +kernel
theorem dX3_given_69 : decode cX3_given 69 = .ok (.iload 5, 2) := by decide +kernel
theorem dX3_given_71 : decode cX3_given 71 = .ok (.iconst 1, 1) := by decide +kernel
theorem dX3_given_72 : decode cX3_given 72 = .ok (.iconst 3, 1) := by decide +kernel
theorem dX3_given_73 : decode cX3_given 73 = .ok (.invokestatic 47, 3) := by decide +kernel
theorem dX3_given_76 : decode cX3_given 76 = .ok (.ifCond .eq 16, 3) := by decide +kernel
theorem dX3_given_79 : decode cX3_given 79 = .ok (.iload 5, 2) := by decide +kernel
theorem dX3_given_81 : decode cX3_given 81 = .ok (.lload_n 1, 1) := by decide +kernel
theorem dX3_given_82 : decode cX3_given 82 = .ok (.invokestatic 104, 3) := by decide +kernel
theorem dX3_given_85 : decode cX3_given 85 = .ok (.ifCond .eq 7, 3) := by decide +kernel
theorem dX3_given_88 : decode cX3_given 88 = .ok (.iconst 1, 1) := by decide +kernel
theorem dX3_given_89 : decode cX3_given 89 = .ok (.goto 4, 3) := by decide +kernel
theorem dX3_given_92 : decode cX3_given 92 = .ok (.iconst 0, 1) := by decide +kernel
theorem dX3_given_93 : decode cX3_given 93 = .ok (.istore 6, 2) := by decide +kernel
theorem dX3_given_95 : decode cX3_given 95 = .ok (.iload 6, 2) := by decide +kernel
theorem dX3_given_97 : decode cX3_given 97 = .ok (.ifCond .ne 14, 3) := by decide +kernel
theorem dX3_given_100 : decode cX3_given 100 = .ok (.aload_n 0, 1) := by decide +kernel
theorem dX3_given_101 : decode cX3_given 101 = .ok (.iload_n 3, 1) := by decide +kernel
theorem dX3_given_102 : decode cX3_given 102 = .ok (.iload 4, 2) := by decide +kernel
theorem dX3_given_104 : decode cX3_given 104 = .ok (.iconst 2, 1) := by decide +kernel
theorem dX3_given_105 : decode cX3_given 105 = .ok (.invokevirtual 86, 3) := by decide +kernel
theorem dX3_given_108 : decode cX3_given 108 = .ok (.ifCond .le 7, 3) := by decide +kernel
theorem dX3_given_111 : decode cX3_given 111 = .ok (.iconst 1, 1) := by decide +kernel
theorem dX3_given_112 : decode cX3_given 112 = .ok (.goto 4, 3) := by decide +kernel
theorem dX3_given_115 : decode cX3_given 115 = .ok (.iconst 0, 1) := by decide +kernel
theorem dX3_given_116 : decode cX3_given 116 = .ok (.ireturn, 1) := by decide +kernel
set_option maxRecDepth 20000 in
theorem ggX3_targets_X3_isType : GoodIn wsX3_targets wsX3_isType := goodIn_r _ [7, 2, 8, 9, 6, 10, 47, 48, 49, 50, 51, 52, 53, 54, 55, 56] (by decide +kernel) (by decide +kernel)
set_option maxRecDepth 20000 in
theorem gX3_targets_X3_isType : GoodIn wsX3_targets (wsV RX3 59 RX3 yX3_isType wsX3_isType) := goodIn_app (goodIn_of _ (by decide +kernel)) ggX3_targets_X3_isType
set_option maxRecDepth 20000 in
theorem ggX3_targets_X3_in : GoodIn wsX3_targets wsX3_in := goodIn_r _ [10] (by decide +kernel) (by decide +kernel)
set_option maxRecDepth 20000 in
theorem gX3_targets_X3_in : GoodIn wsX3_targets (va_wsS RX3 47 yX3_in wsX3_in) := goodIn_app (goodIn_of _ (by decide +kernel)) ggX3_targets_X3_in
set_option maxRecDepth 20000 in
theorem ggX3_targets_X3_kindOf : GoodIn wsX3_targets wsX3_kindOf := goodIn_ca (goodIn_r _ [14, 15, 16, 6, 17, 8, 9, 10, 18, 19, 20, 21, 22, 23, 24, 25, 26, 27, 28, 29, 30, 31, 32, 33, 34, 35, 36, 37, 38, 39, 40, 41, 42, 43, 44, 45, 46, 47, 48, 49, 50, 51, 52, 53, 54, 55, 56] (by decide +kernel) (by decide +kernel)) (goodIn_sub (fun _ h => List.mem_cons_of_mem _ (List.mem_append_right _ h)) (by decide +kernel))
set_option maxRecDepth 20000 in
theorem gX3_targets_X3_kindOf : GoodIn wsX3_targets (wsV RX3 86 RX3 yX3_kindOf wsX3_kindOf) := goodIn_app (goodIn_of _ (by decide +kernel)) ggX3_targets_X3_kindOf
theorem dX3_targets_0 : decode cX3_targets 0 = .ok (.aload_n 0, 1) := by decide +kernel
theorem dX3_targets_1 : decode cX3_targets 1 = .ok (.iconst 0, 1) := by decide +kernel
theorem dX3_targets_2 : decode cX3_targets 2 = .ok (.putfield 40, 3) := by decide +kernel
theorem dX3_targets_5 : decode cX3_targets 5 = .ok (.aload_n 0, 1) := by decide +kernel
theorem dX3_targets_6 : decode cX3_targets 6 = .ok (.iload_n 1, 1) := by decide +kernel
theorem dX3_targets_7 : decode cX3_targets 7 = .ok (.invokevirtual 59, 3) := by decide +kernel
theorem dX3_targets_10 : decode cX3_targets 10 = .ok (.ifCond .eq 12, 3) := by decide +kernel
theorem dX3_targets_13 : decode cX3_targets 13 = .ok (.iload_n 2, 1) := by decide +kernel
theorem dX3_targets_14 : decode cX3_targets 14 = .ok (.iconst 0, 1) := by decide +kernel
theorem dX3_targets_15 : decode cX3_targets 15 = .ok (.iconst 5, 1) := by decide +kernel
theorem dX3_targets_16 : decode cX3_targets 16 = .ok (.invokestatic 47, 3) := by decide +kernel
theorem dX3_targets_19 : decode cX3_targets 19 = .ok (.ifCond .ne 5, 3) := by decide +kernel
theorem dX3_targets_22 : decode cX3_targets 22 = .ok (.iconst (-1), 1) := by decide +kernel
theorem dX3_targets_23 : decode cX3_targets 23 = .ok (.ireturn, 1) := by decide +kernel
theorem dX3_targets_24 : decode cX3_targets 24 = .ok (.iconst 0, 1) := by decide +kernel
theorem dX3_targets_25 : decode cX3_targets 25 = .ok (.istore_n 3, 1) := by decide +kernel
theorem dX3_targets_26 : decode cX3_targets 26 = .ok (.iconst 0, 1) := by decide +kernel
theorem dX3_targets_27 : decode cX3_targets 27 = .ok (.istore 4, 2) := by decide +kernel
theorem dX3_targets_29 : decode cX3_targets 29 = .ok (.iload 4, 2) := by decide +kernel
theorem dX3_targets_31 : decode cX3_targets 31 = .ok (.aload_n 0, 1) := by decide +kernel
theorem dX3_targets_32 : decode cX3_targets 32 = .ok (.getfield 44, 3) := by decide +kernel
theorem dX3_targets_35 : decode cX3_targets 35 = .ok (.if_icmp .ge 28, 3) := by decide +kernel
theorem dX3_targets_38 : decode cX3_targets 38 = .ok (.iload_n 3, 1) := by decide +kernel
theorem dX3_targets_39 : decode cX3_targets 39 = .ok (.aload_n 0, 1) := by decide +kernel
theorem dX3_targets_40 : decode cX3_targets 40 = .ok (.iload_n 1, 1) := by decide +kernel
theorem dX3_targets_41 : decode cX3_targets 41 = .ok (.iload 4, 2) := by decide +kernel
theorem dX3_targets_43 : decode cX3_targets 43 = .ok (.iload_n 2, 1) := by decide +kernel
theorem dX3_targets_44 : decode cX3_targets 44 = .ok (.invokevirtual 86, 3) := by decide +kernel
theorem dX3_targets_47 : decode cX3_targets 47 = .ok (.ifCond .le 7, 3) := by decide +kernel
theorem dX3_targets_50 : decode cX3_targets 50 = .ok (.iconst 1, 1) := by decide +kernel
theorem dX3_targets_51 : decode cX3_targets 51 = .ok (.goto 4, 3) := by decide +kernel
theorem dX3_targets_54 : decode cX3_targets 54 = .ok (.iconst 0, 1) := by decide +kernel
theorem dX3_targets_55 : decode cX3_targets 55 = .ok (.iadd, 1) := by decide +kernel
theorem dX3_targets_56 : decode cX3_targets 56 = .ok (.istore_n 3, 1) := by decide +kernel
theorem dX3_targets_57 : decode cX3_targets 57 = .ok (.iinc 4 1, 3) := by decide +kernel
theorem dX3_targets_60 : decode cX3_targets 60 = .ok (.goto (-31), 3) := by decide +kernel
theorem dX3_targets_63 : decode cX3_targets 63 = .ok (.iload_n 3, 1) := by decide +kernel
theorem dX3_targets_64 : decode cX3_targets 64 = .ok (.ireturn, 1) := by decide +kernel
set_option maxRecDepth 20000 in
theorem ggX3_isBits_X3_has : GoodIn wsX3_isBits wsX3_has := goodIn_r _ [4, 5, 6, 7, 8, 9, 10, 11] (by decide +kernel) (by decide +kernel)
set_option maxRecDepth 20000 in
theorem gX3_isBits_X3_has : GoodIn wsX3_isBits (va_wsS RX3 104 yX3_has wsX3_has) := goodIn_app (goodIn_of _ (by decide +kernel)) ggX3_isBits_X3_has
theorem dX3_isBits_0 : decode cX3_isBits 0 = .ok (.iload_n 0, 1) := by decide +kernel
theorem dX3_isBits_1 : decode cX3_isBits 1 = .ok (.lookupswitch 61 #[(0, 35), (6, 53), (7, 59)], 35) := by decide +kernel
theorem dX3_isBits_36 : decode cX3_isBits 36 = .ok (.lload_n 1, 1) := by decide +kernel
theorem dX3_isBits_37 : decode cX3_isBits 37 = .ok (.lconst 0, 1) := by decide +kernel
theorem dX3_isBits_38 : decode cX3_isBits 38 = .ok (.lcmp, 1) := by decide +kernel
theorem dX3_isBits_39 : decode cX3_isBits 39 = .ok (.ifCond .eq 9, 3) := by decide +kernel
theorem dX3_isBits_42 : decode cX3_isBits 42 = .ok (.lload_n 1, 1) := by decide +kernel
theorem dX3_isBits_43 : decode cX3_isBits 43 = .ok (.lconst 1, 1) := by decide +kernel
theorem dX3_isBits_44 : decode cX3_isBits 44 = .ok (.lcmp, 1) := by decide +kernel
theorem dX3_isBits_45 : decode cX3_isBits 45 = .ok (.ifCond .ne 7, 3) := by decide +kernel
theorem dX3_isBits_48 : decode cX3_isBits 48 = .ok (.iconst 1, 1) := by decide +kernel
theorem dX3_isBits_49 : decode cX3_isBits 49 = .ok (.goto 4, 3) := by decide +kernel
theorem dX3_isBits_52 : decode cX3_isBits 52 = .ok (.iconst 0, 1) := by decide +kernel
theorem dX3_isBits_53 : decode cX3_isBits 53 = .ok (.ireturn, 1) := by decide +kernel
theorem dX3_isBits_54 : decode cX3_isBits 54 = .ok (.iconst 4, 1) := by decide +kernel
theorem dX3_isBits_55 : decode cX3_isBits 55 = .ok (.lload_n 1, 1) := by decide +kernel
theorem dX3_isBits_56 : decode cX3_isBits 56 = .ok (.invokestatic 104, 3) := by decide +kernel
theorem dX3_isBits_59 : decode cX3_isBits 59 = .ok (.ireturn, 1) := by decide +kernel
theorem dX3_isBits_60 : decode cX3_isBits 60 = .ok (.iconst 1, 1) := by decide +kernel
theorem dX3_isBits_61 : decode cX3_isBits 61 = .ok (.ireturn, 1) := by decide +kernel
theorem dX3_isBits_62 : decode cX3_isBits 62 = .ok (.iload_n 0, 1) := by decide +kernel
theorem dX3_isBits_63 : decode cX3_isBits 63 = .ok (.lload_n 1, 1) := by decide +kernel
theorem dX3_isBits_64 : decode cX3_isBits 64 = .ok (.invokestatic 104, 3) := by decide +kernel
theorem dX3_isBits_67 : decode cX3_isBits 67 = .ok (.ireturn, 1) := by decide +kernel
theorem dX3_one_0 : decode cX3_one 0 = .ok (.iload_n 0, 1) := by decide +kernel
theorem dX3_one_1 : decode cX3_one 1 = .ok (.bipush 6, 2) := by decide +kernel
theorem dX3_one_3 : decode cX3_one 3 = .ok (.if_icmp .ne 19, 3) := by decide +kernel
theorem dX3_one_6 : decode cX3_one 6 = .ok (.lload_n 1, 1) := by decide +kernel
theorem dX3_one_7 : decode cX3_one 7 = .ok (.ldc2_w 102, 3) := by decide +kernel
theorem dX3_one_10 : decode cX3_one 10 = .ok (.land, 1) := by decide +kernel
theorem dX3_one_11 : decode cX3_one 11 = .ok (.ldc2_w 108, 3) := by decide +kernel
theorem dX3_one_14 : decode cX3_one 14 = .ok (.lcmp, 1) := by decide +kernel
theorem dX3_one_15 : decode cX3_one 15 = .ok (.ifCond .le 7, 3) := by decide +kernel
theorem dX3_one_18 : decode cX3_one 18 = .ok (.ldc2_w 110, 3) := by decide +kernel
theorem dX3_one_21 : decode cX3_one 21 = .ok (.lreturn, 1) := by decide +kernel
theorem dX3_one_22 : decode cX3_one 22 = .ok (.iload_n 0, 1) := by decide +kernel
theorem dX3_one_23 : decode cX3_one 23 = .ok (.bipush 7, 2) := by decide +kernel
theorem dX3_one_25 : decode cX3_one 25 = .ok (.if_icmp .ne 21, 3) := by decide +kernel
theorem dX3_one_28 : decode cX3_one 28 = .ok (.lload_n 1, 1) := by decide +kernel
theorem dX3_one_29 : decode cX3_one 29 = .ok (.ldc2_w 112, 3) := by decide +kernel
theorem dX3_one_32 : decode cX3_one 32 = .ok (.land, 1) := by decide +kernel
theorem dX3_one_33 : decode cX3_one 33 = .ok (.ldc2_w 114, 3) := by decide +kernel
theorem dX3_one_36 : decode cX3_one 36 = .ok (.lcmp, 1) := by decide +kernel
theorem dX3_one_37 : decode cX3_one 37 = .ok (.ifCond .le 9, 3) := by decide +kernel
theorem dX3_one_40 : decode cX3_one 40 = .ok (.ldc2_w 116, 3) := by decide +kernel
theorem dX3_one_43 : decode cX3_one 43 = .ok (.goto 4, 3) := by decide +kernel
theorem dX3_one_46 : decode cX3_one 46 = .ok (.lload_n 1, 1) := by decide +kernel
theorem dX3_one_47 : decode cX3_one 47 = .ok (.lreturn, 1) := by decide +kernel
theorem dX3_real_0 : decode cX3_real 0 = .ok (.lload_n 0, 1) := by decide +kernel
theorem dX3_real_1 : decode cX3_real 1 = .ok (.lconst 0, 1) := by decide +kernel
theorem dX3_real_2 : decode cX3_real 2 = .ok (.lcmp, 1) := by decide +kernel
theorem dX3_real_3 : decode cX3_real 3 = .ok (.ifCond .ne 5, 3) := by decide +kernel
theorem dX3_real_6 : decode cX3_real 6 = .ok (.lconst 0, 1) := by decide +kernel
theorem dX3_real_7 : decode cX3_real 7 = .ok (.lreturn, 1) := by decide +kernel
theorem dX3_real_8 : decode cX3_real 8 = .ok (.lload_n 0, 1) := by decide +kernel
theorem dX3_real_9 : decode cX3_real 9 = .ok (.lconst 0, 1) := by decide +kernel
theorem dX3_real_10 : decode cX3_real 10 = .ok (.lcmp, 1) := by decide +kernel
theorem dX3_real_11 : decode cX3_real 11 = .ok (.ifCond .ge 8, 3) := by decide +kernel
theorem dX3_real_14 : decode cX3_real 14 = .ok (.lload_n 0, 1) := by decide +kernel
theorem dX3_real_15 : decode cX3_real 15 = .ok (.lneg, 1) := by decide +kernel
theorem dX3_real_16 : decode cX3_real 16 = .ok (.goto 4, 3) := by decide +kernel
theorem dX3_real_19 : decode cX3_real 19 = .ok (.lload_n 0, 1) := by decide +kernel
theorem dX3_real_20 : decode cX3_real 20 = .ok (.lstore 6, 2) := by decide +kernel
theorem dX3_real_22 : decode cX3_real 22 = .ok (.iconst 0, 1) := by decide +kernel
theorem dX3_real_23 : decode cX3_real 23 = .ok (.istore 8, 2) := by decide +kernel
theorem dX3_real_25 : decode cX3_real 25 = .ok (.lload 6, 2) := by decide +kernel
theorem dX3_real_27 : decode cX3_real 27 = .ok (.lstore 9, 2) := by decide +kernel
theorem dX3_real_29 : decode cX3_real 29 = .ok (.lload 9, 2) := by decide +kernel
theorem dX3_real_31 : decode cX3_real 31 = .ok (.lconst 0, 1) := by decide +kernel
theorem dX3_real_32 : decode cX3_real 32 = .ok (.lcmp, 1) := by decide +kernel
theorem dX3_real_33 : decode cX3_real 33 = .ok (.ifCond .eq 15, 3) := by decide +kernel
theorem dX3_real_36 : decode cX3_real 36 = .ok (.iinc 8 1, 3) := by decide +kernel
theorem dX3_real_39 : decode cX3_real 39 = .ok (.lload 9, 2) := by decide +kernel
theorem dX3_real_41 : decode cX3_real 41 = .ok (.iconst 1, 1) := by decide +kernel
theorem dX3_real_42 : decode cX3_real 42 = .ok (.lushr, 1) := by decide +kernel
theorem dX3_real_43 : decode cX3_real 43 = .ok (.lstore 9, 2) := by decide +kernel
theorem dX3_real_45 : decode cX3_real 45 = .ok (.goto (-16), 3) := by decide +kernel
theorem dX3_real_48 : decode cX3_real 48 = .ok (.iload 8, 2) := by decide +kernel
theorem dX3_real_50 : decode cX3_real 50 = .ok (.iload_n 2, 1) := by decide +kernel
theorem dX3_real_51 : decode cX3_real 51 = .ok (.if_icmp .gt 15, 3) := by decide +kernel
theorem dX3_real_54 : decode cX3_real 54 = .ok (.lload 6, 2) := by decide +kernel
theorem dX3_real_56 : decode cX3_real 56 = .ok (.iload_n 2, 1) := by decide +kernel
theorem dX3_real_57 : decode cX3_real 57 = .ok (.iload 8, 2) := by decide +kernel
theorem dX3_real_59 : decode cX3_real 59 = .ok (.isub, 1) := by decide +kernel
theorem dX3_real_60 : decode cX3_real 60 = .ok (.lshl, 1) := by decide +kernel
theorem dX3_real_61 : decode cX3_real 61 = .ok (.lstore 6, 2) := by decide +kernel
theorem dX3_real_63 : decode cX3_real 63 = .ok (.goto 84, 3) := by decide +kernel
theorem dX3_real_66 : decode cX3_real 66 = .ok (.iload 8, 2) := by decide +kernel
theorem dX3_real_68 : decode cX3_real 68 = .ok (.iload_n 2, 1) := by decide +kernel
theorem dX3_real_69 : decode cX3_real 69 = .ok (.isub, 1) := by decide +kernel
theorem dX3_real_70 : decode cX3_real 70 = .ok (.istore 9, 2) := by decide +kernel
theorem dX3_real_72 : decode cX3_real 72 = .ok (.lload 6, 2) := by decide +kernel
theorem dX3_real_74 : decode cX3_real 74 = .ok (.lconst 1, 1) := by decide +kernel
theorem dX3_real_75 : decode cX3_real 75 = .ok (.iload 9, 2) := by decide +kernel
theorem dX3_real_77 : decode cX3_real 77 = .ok (.lshl, 1) := by decide +kernel
theorem dX3_real_78 : decode cX3_real 78 = .ok (.lconst 1, 1) := by decide +kernel
theorem dX3_real_79 : decode cX3_real 79 = .ok (.lsub, 1) := by decide +kernel
theorem dX3_real_80 : decode cX3_real 80 = .ok (.land, 1) := by decide +kernel
theorem dX3_real_81 : decode cX3_real 81 = .ok (.lstore 10, 2) := by decide +kernel
theorem dX3_real_83 : decode cX3_real 83 = .ok (.lconst 1, 1) := by decide +kernel
theorem dX3_real_84 : decode cX3_real 84 = .ok (.iload 9, 2) := by decide +kernel
theorem dX3_real_86 : decode cX3_real 86 = .ok (.iconst 1, 1) := by decide +kernel
theorem dX3_real_87 : decode cX3_real 87 = .ok (.isub, 1) := by decide +kernel
theorem dX3_real_88 : decode cX3_real 88 = .ok (.lshl, 1) := by decide +kernel
theorem dX3_real_89 : decode cX3_real 89 = .ok (.lstore 12, 2) := by decide +kernel
theorem dX3_real_91 : decode cX3_real 91 = .ok (.lload 6, 2) := by decide +kernel
theorem dX3_real_93 : decode cX3_real 93 = .ok (.iload 9, 2) := by decide +kernel
theorem dX3_real_95 : decode cX3_real 95 = .ok (.lushr, 1) := by decide +kernel
theorem dX3_real_96 : decode cX3_real 96 = .ok (.lstore 6, 2) := by decide +kernel
theorem dX3_real_98 : decode cX3_real 98 = .ok (.lload 10, 2) := by decide +kernel
theorem dX3_real_100 : decode cX3_real 100 = .ok (.lload 12, 2) := by decide +kernel
theorem dX3_real_102 : decode cX3_real 102 = .ok (.lcmp, 1) := by decide +kernel
theorem dX3_real_103 : decode cX3_real 103 = .ok (.ifCond .gt 20, 3) := by decide +kernel
theorem dX3_real_106 : decode cX3_real 106 = .ok (.lload 10, 2) := by decide +kernel
theorem dX3_real_108 : decode cX3_real 108 = .ok (.lload 12, 2) := by decide +kernel
theorem dX3_real_110 : decode cX3_real 110 = .ok (.lcmp, 1) := by decide +kernel
theorem dX3_real_111 : decode cX3_real 111 = .ok (.ifCond .ne 18, 3) := by decide +kernel
theorem dX3_real_114 : decode cX3_real 114 = .ok (.lload 6, 2) := by decide +kernel
theorem dX3_real_116 : decode cX3_real 116 = .ok (.lconst 1, 1) := by decide +kernel
theorem dX3_real_117 : decode cX3_real 117 = .ok (.land, 1) := by decide +kernel
theorem dX3_real_118 : decode cX3_real 118 = .ok (.lconst 1, 1) := by decide +kernel
theorem dX3_real_119 : decode cX3_real 119 = .ok (.lcmp, 1) := by decide +kernel
theorem dX3_real_120 : decode cX3_real 120 = .ok (.ifCond .ne 9, 3) := by decide +kernel
theorem dX3_real_123 : decode cX3_real 123 = .ok (.lload 6, 2) := by decide +kernel
theorem dX3_real_125 : decode cX3_real 125 = .ok (.lconst 1, 1) := by decide +kernel
theorem dX3_real_126 : decode cX3_real 126 = .ok (.ladd, 1) := by decide +kernel
theorem dX3_real_127 : decode cX3_real 127 = .ok (.lstore 6, 2) := by decide +kernel
theorem dX3_real_129 : decode cX3_real 129 = .ok (.lload 6, 2) := by decide +kernel
theorem dX3_real_131 : decode cX3_real 131 = .ok (.lconst 1, 1) := by decide +kernel
theorem dX3_real_132 : decode cX3_real 132 = .ok (.iload_n 2, 1) := by decide +kernel
theorem dX3_real_133 : decode cX3_real 133 = .ok (.lshl, 1) := by decide +kernel
theorem dX3_real_134 : decode cX3_real 134 = .ok (.lcmp, 1) := by decide +kernel
theorem dX3_real_135 : decode cX3_real 135 = .ok (.ifCond .ne 12, 3) := by decide +kernel
theorem dX3_real_138 : decode cX3_real 138 = .ok (.lload 6, 2) := by decide +kernel
theorem dX3_real_140 : decode cX3_real 140 = .ok (.iconst 1, 1) := by decide +kernel
theorem dX3_real_141 : decode cX3_real 141 = .ok (.lushr, 1) := by decide +kernel
theorem dX3_real_142 : decode cX3_real 142 = .ok (.lstore 6, 2) := by decide +kernel
theorem dX3_real_144 : decode cX3_real 144 = .ok (.iinc 8 1, 3) := by decide +kernel
theorem dX3_real_147 : decode cX3_real 147 = .ok (.lload_n 0, 1) := by decide +kernel
theorem dX3_real_148 : decode cX3_real 148 = .ok (.lconst 0, 1) := by decide +kernel
theorem dX3_real_149 : decode cX3_real 149 = .ok (.lcmp, 1) := by decide +kernel
theorem dX3_real_150 : decode cX3_real 150 = .ok (.ifCond .ge 8, 3) := by decide +kernel
theorem dX3_real_153 : decode cX3_real 153 = .ok (.lload 4, 2) := by decide +kernel
theorem dX3_real_155 : decode cX3_real 155 = .ok (.goto 4, 3) := by decide +kernel
theorem dX3_real_158 : decode cX3_real 158 = .ok (.lconst 0, 1) := by decide +kernel
theorem dX3_real_159 : decode cX3_real 159 = .ok (.iload 8, 2) := by decide +kernel
theorem dX3_real_161 : decode cX3_real 161 = .ok (.iconst 1, 1) := by decide +kernel
theorem dX3_real_162 : decode cX3_real 162 = .ok (.isub, 1) := by decide +kernel
theorem dX3_real_163 : decode cX3_real 163 = .ok (.iload_n 3, 1) := by decide +kernel
theorem dX3_real_164 : decode cX3_real 164 = .ok (.iadd, 1) := by decide +kernel
theorem dX3_real_165 : decode cX3_real 165 = .ok (.i2l, 1) := by decide +kernel
theorem dX3_real_166 : decode cX3_real 166 = .ok (.iload_n 2, 1) := by decide +kernel
theorem dX3_real_167 : decode cX3_real 167 = .ok (.iconst 1, 1) := by decide +kernel
theorem dX3_real_168 : decode cX3_real 168 = .ok (.isub, 1) := by decide +kernel
theorem dX3_real_169 : decode cX3_real 169 = .ok (.lshl, 1) := by decide +kernel
theorem dX3_real_170 : decode cX3_real 170 = .ok (.lor, 1) := by decide +kernel
theorem dX3_real_171 : decode cX3_real 171 = .ok (.lload 6, 2) := by decide +kernel
theorem dX3_real_173 : decode cX3_real 173 = .ok (.lconst 1, 1) := by decide +kernel
theorem dX3_real_174 : decode cX3_real 174 = .ok (.iload_n 2, 1) := by decide +kernel
theorem dX3_real_175 : decode cX3_real 175 = .ok (.iconst 1, 1) := by decide +kernel
theorem dX3_real_176 : decode cX3_real 176 = .ok (.isub, 1) := by decide +kernel
theorem dX3_real_177 : decode cX3_real 177 = .ok (.lshl, 1) := by decide +kernel
theorem dX3_real_178 : decode cX3_real 178 = .ok (.lconst 1, 1) := by decide +kernel
theorem dX3_real_179 : decode cX3_real 179 = .ok (.lsub, 1) := by decide +kernel
theorem dX3_real_180 : decode cX3_real 180 = .ok (.land, 1) := by decide +kernel
theorem dX3_real_181 : decode cX3_real 181 = .ok (.lor, 1) := by decide +kernel
theorem dX3_real_182 : decode cX3_real 182 = .ok (.lreturn, 1) := by decide +kernel
theorem dX3_wide_0 : decode cX3_wide 0 = .ok (.lload_n 0, 1) := by decide +kernel
theorem dX3_wide_1 : decode cX3_wide 1 = .ok (.lconst 0, 1) := by decide +kernel
theorem dX3_wide_2 : decode cX3_wide 2 = .ok (.lcmp, 1) := by decide +kernel
theorem dX3_wide_3 : decode cX3_wide 3 = .ok (.ifCond .ge 9, 3) := by decide +kernel
theorem dX3_wide_6 : decode cX3_wide 6 = .ok (.ldc2_w 118, 3) := by decide +kernel
theorem dX3_wide_9 : decode cX3_wide 9 = .ok (.goto 4, 3) := by decide +kernel
theorem dX3_wide_12 : decode cX3_wide 12 = .ok (.lconst 0, 1) := by decide +kernel
theorem dX3_wide_13 : decode cX3_wide 13 = .ok (.lstore_n 2, 1) := by decide +kernel
theorem dX3_wide_14 : decode cX3_wide 14 = .ok (.lload_n 0, 1) := by decide +kernel
theorem dX3_wide_15 : decode cX3_wide 15 = .ok (.bipush 23, 2) := by decide +kernel
theorem dX3_wide_17 : decode cX3_wide 17 = .ok (.lshr, 1) := by decide +kernel
theorem dX3_wide_18 : decode cX3_wide 18 = .ok (.l2i, 1) := by decide +kernel
theorem dX3_wide_19 : decode cX3_wide 19 = .ok (.sipush 255, 3) := by decide +kernel
theorem dX3_wide_22 : decode cX3_wide 22 = .ok (.iand, 1) := by decide +kernel
theorem dX3_wide_23 : decode cX3_wide 23 = .ok (.istore 4, 2) := by decide +kernel
theorem dX3_wide_25 : decode cX3_wide 25 = .ok (.lload_n 0, 1) := by decide +kernel
theorem dX3_wide_26 : decode cX3_wide 26 = .ok (.ldc2_w 120, 3) := by decide +kernel
theorem dX3_wide_29 : decode cX3_wide 29 = .ok (.land, 1) := by decide +kernel
theorem dX3_wide_30 : decode cX3_wide 30 = .ok (.lstore 5, 2) := by decide +kernel
theorem dX3_wide_32 : decode cX3_wide 32 = .ok (.iload 4, 2) := by decide +kernel
theorem dX3_wide_34 : decode cX3_wide 34 = .ok (.sipush 255, 3) := by decide +kernel
theorem dX3_wide_37 : decode cX3_wide 37 = .ok (.if_icmp .ne 22, 3) := by decide +kernel
theorem dX3_wide_40 : decode cX3_wide 40 = .ok (.lload 5, 2) := by decide +kernel
theorem dX3_wide_42 : decode cX3_wide 42 = .ok (.lconst 0, 1) := by decide +kernel
theorem dX3_wide_43 : decode cX3_wide 43 = .ok (.lcmp, 1) := by decide +kernel
theorem dX3_wide_44 : decode cX3_wide 44 = .ok (.ifCond .ne 11, 3) := by decide +kernel
theorem dX3_wide_47 : decode cX3_wide 47 = .ok (.lload_n 2, 1) := by decide +kernel
theorem dX3_wide_48 : decode cX3_wide 48 = .ok (.ldc2_w 114, 3) := by decide +kernel
theorem dX3_wide_51 : decode cX3_wide 51 = .ok (.lor, 1) := by decide +kernel
theorem dX3_wide_52 : decode cX3_wide 52 = .ok (.goto 6, 3) := by decide +kernel
theorem dX3_wide_55 : decode cX3_wide 55 = .ok (.ldc2_w 116, 3) := by decide +kernel
theorem dX3_wide_58 : decode cX3_wide 58 = .ok (.lreturn, 1) := by decide +kernel
theorem dX3_wide_59 : decode cX3_wide 59 = .ok (.iload 4, 2) := by decide +kernel
theorem dX3_wide_61 : decode cX3_wide 61 = .ok (.ifCond .ne 12, 3) := by decide +kernel
theorem dX3_wide_64 : decode cX3_wide 64 = .ok (.lload 5, 2) := by decide +kernel
theorem dX3_wide_66 : decode cX3_wide 66 = .ok (.lconst 0, 1) := by decide +kernel
theorem dX3_wide_67 : decode cX3_wide 67 = .ok (.lcmp, 1) := by decide +kernel
theorem dX3_wide_68 : decode cX3_wide 68 = .ok (.ifCond .ne 5, 3) := by decide +kernel
theorem dX3_wide_71 : decode cX3_wide 71 = .ok (.lload_n 2, 1) := by decide +kernel
theorem dX3_wide_72 : decode cX3_wide 72 = .ok (.lreturn, 1) := by decide +kernel
theorem dX3_wide_73 : decode cX3_wide 73 = .ok (.iload 4, 2) := by decide +kernel
theorem dX3_wide_75 : decode cX3_wide 75 = .ok (.bipush 127, 2) := by decide +kernel
theorem dX3_wide_77 : decode cX3_wide 77 = .ok (.isub, 1) := by decide +kernel
theorem dX3_wide_78 : decode cX3_wide 78 = .ok (.istore 7, 2) := by decide +kernel
theorem dX3_wide_80 : decode cX3_wide 80 = .ok (.iload 4, 2) := by decide +kernel
theorem dX3_wide_82 : decode cX3_wide 82 = .ok (.ifCond .ne 30, 3) := by decide +kernel
theorem dX3_wide_85 : decode cX3_wide 85 = .ok (.bipush (-126), 2) := by decide +kernel
theorem dX3_wide_87 : decode cX3_wide 87 = .ok (.istore 7, 2) := by decide +kernel
theorem dX3_wide_89 : decode cX3_wide 89 = .ok (.lload 5, 2) := by decide +kernel
theorem dX3_wide_91 : decode cX3_wide 91 = .ok (.ldc2_w 122, 3) := by decide +kernel
theorem dX3_wide_94 : decode cX3_wide 94 = .ok (.land, 1) := by decide +kernel
theorem dX3_wide_95 : decode cX3_wide 95 = .ok (.lconst 0, 1) := by decide +kernel
theorem dX3_wide_96 : decode cX3_wide 96 = .ok (.lcmp, 1) := by decide +kernel
theorem dX3_wide_97 : decode cX3_wide 97 = .ok (.ifCond .ne 15, 3) := by decide +kernel
theorem dX3_wide_100 : decode cX3_wide 100 = .ok (.lload 5, 2) := by decide +kernel
theorem dX3_wide_102 : decode cX3_wide 102 = .ok (.iconst 1, 1) := by decide +kernel
theorem dX3_wide_103 : decode cX3_wide 103 = .ok (.lshl, 1) := by decide +kernel
theorem dX3_wide_104 : decode cX3_wide 104 = .ok (.lstore 5, 2) := by decide +kernel
theorem dX3_wide_106 : decode cX3_wide 106 = .ok (.iinc 7 (-1), 3) := by decide +kernel
theorem dX3_wide_109 : decode cX3_wide 109 = .ok (.goto (-20), 3) := by decide +kernel
theorem dX3_wide_112 : decode cX3_wide 112 = .ok (.lload_n 2, 1) := by decide +kernel
theorem dX3_wide_113 : decode cX3_wide 113 = .ok (.iload 7, 2) := by decide +kernel
theorem dX3_wide_115 : decode cX3_wide 115 = .ok (.sipush 1023, 3) := by decide +kernel
theorem dX3_wide_118 : decode cX3_wide 118 = .ok (.iadd, 1) := by decide +kernel
theorem dX3_wide_119 : decode cX3_wide 119 = .ok (.i2l, 1) := by decide +kernel
theorem dX3_wide_120 : decode cX3_wide 120 = .ok (.bipush 52, 2) := by decide +kernel
theorem dX3_wide_122 : decode cX3_wide 122 = .ok (.lshl, 1) := by decide +kernel
theorem dX3_wide_123 : decode cX3_wide 123 = .ok (.lor, 1) := by decide +kernel
theorem dX3_wide_124 : decode cX3_wide 124 = .ok (.lload 5, 2) := by decide +kernel
theorem dX3_wide_126 : decode cX3_wide 126 = .ok (.ldc2_w 120, 3) := by decide +kernel
theorem dX3_wide_129 : decode cX3_wide 129 = .ok (.land, 1) := by decide +kernel
theorem dX3_wide_130 : decode cX3_wide 130 = .ok (.bipush 29, 2) := by decide +kernel
theorem dX3_wide_132 : decode cX3_wide 132 = .ok (.lshl, 1) := by decide +kernel
theorem dX3_wide_133 : decode cX3_wide 133 = .ok (.lor, 1) := by decide +kernel
theorem dX3_wide_134 : decode cX3_wide 134 = .ok (.lreturn, 1) := by decide +kernel
theorem dX3_narrow_0 : decode cX3_narrow 0 = .ok (.lload_n 0, 1) := by decide +kernel
theorem dX3_narrow_1 : decode cX3_narrow 1 = .ok (.lconst 0, 1) := by decide +kernel
theorem dX3_narrow_2 : decode cX3_narrow 2 = .ok (.lcmp, 1) := by decide +kernel
theorem dX3_narrow_3 : decode cX3_narrow 3 = .ok (.ifCond .ge 9, 3) := by decide +kernel
theorem dX3_narrow_6 : decode cX3_narrow 6 = .ok (.ldc2_w 100, 3) := by decide +kernel
theorem dX3_narrow_9 : decode cX3_narrow 9 = .ok (.goto 4, 3) := by decide +kernel
theorem dX3_narrow_12 : decode cX3_narrow 12 = .ok (.lconst 0, 1) := by decide +kernel
theorem dX3_narrow_13 : decode cX3_narrow 13 = .ok (.lstore_n 2, 1) := by decide +kernel
theorem dX3_narrow_14 : decode cX3_narrow 14 = .ok (.lload_n 0, 1) := by decide +kernel
theorem dX3_narrow_15 : decode cX3_narrow 15 = .ok (.bipush 52, 2) := by decide +kernel
theorem dX3_narrow_17 : decode cX3_narrow 17 = .ok (.lushr, 1) := by decide +kernel
theorem dX3_narrow_18 : decode cX3_narrow 18 = .ok (.l2i, 1) := by decide +kernel
theorem dX3_narrow_19 : decode cX3_narrow 19 = .ok (.sipush 2047, 3) := by decide +kernel
theorem dX3_narrow_22 : decode cX3_narrow 22 = .ok (.iand, 1) := by decide +kernel
theorem dX3_narrow_23 : decode cX3_narrow 23 = .ok (.istore 4, 2) := by decide +kernel
theorem dX3_narrow_25 : decode cX3_narrow 25 = .ok (.lload_n 0, 1) := by decide +kernel
theorem dX3_narrow_26 : decode cX3_narrow 26 = .ok (.ldc2_w 124, 3) := by decide +kernel
theorem dX3_narrow_29 : decode cX3_narrow 29 = .ok (.land, 1) := by decide +kernel
theorem dX3_narrow_30 : decode cX3_narrow 30 = .ok (.lstore 5, 2) := by decide +kernel
theorem dX3_narrow_32 : decode cX3_narrow 32 = .ok (.iload 4, 2) := by decide +kernel
theorem dX3_narrow_34 : decode cX3_narrow 34 = .ok (.sipush 2047, 3) := by decide +kernel
theorem dX3_narrow_37 : decode cX3_narrow 37 = .ok (.if_icmp .ne 22, 3) := by decide +kernel
theorem dX3_narrow_40 : decode cX3_narrow 40 = .ok (.lload 5, 2) := by decide +kernel
theorem dX3_narrow_42 : decode cX3_narrow 42 = .ok (.lconst 0, 1) := by decide +kernel
theorem dX3_narrow_43 : decode cX3_narrow 43 = .ok (.lcmp, 1) := by decide +kernel
theorem dX3_narrow_44 : decode cX3_narrow 44 = .ok (.ifCond .ne 11, 3) := by decide +kernel
theorem dX3_narrow_47 : decode cX3_narrow 47 = .ok (.lload_n 2, 1) := by decide +kernel
theorem dX3_narrow_48 : decode cX3_narrow 48 = .ok (.ldc2_w 108, 3) := by decide +kernel
theorem dX3_narrow_51 : decode cX3_narrow 51 = .ok (.lor, 1) := by decide +kernel
theorem dX3_narrow_52 : decode cX3_narrow 52 = .ok (.goto 6, 3) := by decide +kernel
theorem dX3_narrow_55 : decode cX3_narrow 55 = .ok (.ldc2_w 110, 3) := by decide +kernel
theorem dX3_narrow_58 : decode cX3_narrow 58 = .ok (.lreturn, 1) := by decide +kernel
theorem dX3_narrow_59 : decode cX3_narrow 59 = .ok (.iload 4, 2) := by decide +kernel
theorem dX3_narrow_61 : decode cX3_narrow 61 = .ok (.ifCond .ne 5, 3) := by decide +kernel
theorem dX3_narrow_64 : decode cX3_narrow 64 = .ok (.lload_n 2, 1) := by decide +kernel
theorem dX3_narrow_65 : decode cX3_narrow 65 = .ok (.lreturn, 1) := by decide +kernel
theorem dX3_narrow_66 : decode cX3_narrow 66 = .ok (.lload 5, 2) := by decide +kernel
theorem dX3_narrow_68 : decode cX3_narrow 68 = .ok (.ldc2_w 126, 3) := by decide +kernel
theorem dX3_narrow_71 : decode cX3_narrow 71 = .ok (.lor, 1) := by decide +kernel
theorem dX3_narrow_72 : decode cX3_narrow 72 = .ok (.lstore 5, 2) := by decide +kernel
theorem dX3_narrow_74 : decode cX3_narrow 74 = .ok (.iload 4, 2) := by decide +kernel
theorem dX3_narrow_76 : decode cX3_narrow 76 = .ok (.sipush 1023, 3) := by decide +kernel
theorem dX3_narrow_79 : decode cX3_narrow 79 = .ok (.isub, 1) := by decide +kernel
theorem dX3_narrow_80 : decode cX3_narrow 80 = .ok (.istore 7, 2) := by decide +kernel
theorem dX3_narrow_82 : decode cX3_narrow 82 = .ok (.iload 7, 2) := by decide +kernel
theorem dX3_narrow_84 : decode cX3_narrow 84 = .ok (.bipush (-126), 2) := by decide +kernel
theorem dX3_narrow_86 : decode cX3_narrow 86 = .ok (.if_icmp .ge 11, 3) := by decide +kernel
theorem dX3_narrow_89 : decode cX3_narrow 89 = .ok (.bipush (-97), 2) := by decide +kernel
theorem dX3_narrow_91 : decode cX3_narrow 91 = .ok (.iload 7, 2) := by decide +kernel
theorem dX3_narrow_93 : decode cX3_narrow 93 = .ok (.isub, 1) := by decide +kernel
theorem dX3_narrow_94 : decode cX3_narrow 94 = .ok (.goto 5, 3) := by decide +kernel
theorem dX3_narrow_97 : decode cX3_narrow 97 = .ok (.bipush 29, 2) := by decide +kernel
theorem dX3_narrow_99 : decode cX3_narrow 99 = .ok (.istore 8, 2) := by decide +kernel
theorem dX3_narrow_101 : decode cX3_narrow 101 = .ok (.iload 8, 2) := by decide +kernel
theorem dX3_narrow_103 : decode cX3_narrow 103 = .ok (.bipush 54, 2) := by decide +kernel
theorem dX3_narrow_105 : decode cX3_narrow 105 = .ok (.if_icmp .le 5, 3) := by decide +kernel
theorem dX3_narrow_108 : decode cX3_narrow 108 = .ok (.lload_n 2, 1) := by decide +kernel
theorem dX3_narrow_109 : decode cX3_narrow 109 = .ok (.lreturn, 1) := by decide +kernel
theorem dX3_narrow_110 : decode cX3_narrow 110 = .ok (.lload 5, 2) := by decide +kernel
theorem dX3_narrow_112 : decode cX3_narrow 112 = .ok (.lconst 1, 1) := by decide +kernel
theorem dX3_narrow_113 : decode cX3_narrow 113 = .ok (.iload 8, 2) := by decide +kernel
theorem dX3_narrow_115 : decode cX3_narrow 115 = .ok (.lshl, 1) := by decide +kernel
theorem dX3_narrow_116 : decode cX3_narrow 116 = .ok (.lconst 1, 1) := by decide +kernel
theorem dX3_narrow_117 : decode cX3_narrow 117 = .ok (.lsub, 1) := by decide +kernel
theorem dX3_narrow_118 : decode cX3_narrow 118 = .ok (.land, 1) := by decide +kernel
theorem dX3_narrow_119 : decode cX3_narrow 119 = .ok (.lstore 9, 2) := by decide +kernel
theorem dX3_narrow_121 : decode cX3_narrow 121 = .ok (.lconst 1, 1) := by decide +kernel
theorem dX3_narrow_122 : decode cX3_narrow 122 = .ok (.iload 8, 2) := by decide +kernel
theorem dX3_narrow_124 : decode cX3_narrow 124 = .ok (.iconst 1, 1) := by decide +kernel
theorem dX3_narrow_125 : decode cX3_narrow 125 = .ok (.isub, 1) := by decide +kernel
theorem dX3_narrow_126 : decode cX3_narrow 126 = .ok (.lshl, 1) := by decide +kernel
theorem dX3_narrow_127 : decode cX3_narrow 127 = .ok (.lstore 11, 2) := by decide +kernel
theorem dX3_narrow_129 : decode cX3_narrow 129 = .ok (.lload 5, 2) := by decide +kernel
theorem dX3_narrow_131 : decode cX3_narrow 131 = .ok (.iload 8, 2) := by decide +kernel
theorem dX3_narrow_133 : decode cX3_narrow 133 = .ok (.lushr, 1) := by decide +kernel
theorem dX3_narrow_134 : decode cX3_narrow 134 = .ok (.lstore 5, 2) := by decide +kernel
theorem dX3_narrow_136 : decode cX3_narrow 136 = .ok (.lload 9, 2) := by decide +kernel
theorem dX3_narrow_138 : decode cX3_narrow 138 = .ok (.lload 11, 2) := by decide +kernel
theorem dX3_narrow_140 : decode cX3_narrow 140 = .ok (.lcmp, 1) := by decide +kernel
theorem dX3_narrow_141 : decode cX3_narrow 141 = .ok (.ifCond .gt 20, 3) := by decide +kernel
theorem dX3_narrow_144 : decode cX3_narrow 144 = .ok (.lload 9, 2) := by decide +kernel
theorem dX3_narrow_146 : decode cX3_narrow 146 = .ok (.lload 11, 2) := by decide +kernel
theorem dX3_narrow_148 : decode cX3_narrow 148 = .ok (.lcmp, 1) := by decide +kernel
theorem dX3_narrow_149 : decode cX3_narrow 149 = .ok (.ifCond .ne 18, 3) := by decide +kernel
theorem dX3_narrow_152 : decode cX3_narrow 152 = .ok (.lload 5, 2) := by decide +kernel
theorem dX3_narrow_154 : decode cX3_narrow 154 = .ok (.lconst 1, 1) := by decide +kernel
theorem dX3_narrow_155 : decode cX3_narrow 155 = .ok (.land, 1) := by decide +kernel
theorem dX3_narrow_156 : decode cX3_narrow 156 = .ok (.lconst 1, 1) := by decide +kernel
theorem dX3_narrow_157 : decode cX3_narrow 157 = .ok (.lcmp, 1) := by decide +kernel
theorem dX3_narrow_158 : decode cX3_narrow 158 = .ok (.ifCond .ne 9, 3) := by decide +kernel
theorem dX3_narrow_161 : decode cX3_narrow 161 = .ok (.lload 5, 2) := by decide +kernel
theorem dX3_narrow_163 : decode cX3_narrow 163 = .ok (.lconst 1, 1) := by decide +kernel
theorem dX3_narrow_164 : decode cX3_narrow 164 = .ok (.ladd, 1) := by decide +kernel
theorem dX3_narrow_165 : decode cX3_narrow 165 = .ok (.lstore 5, 2) := by decide +kernel
theorem dX3_narrow_167 : decode cX3_narrow 167 = .ok (.iload 7, 2) := by decide +kernel
theorem dX3_narrow_169 : decode cX3_narrow 169 = .ok (.bipush (-126), 2) := by decide +kernel
theorem dX3_narrow_171 : decode cX3_narrow 171 = .ok (.if_icmp .ge 8, 3) := by decide +kernel
theorem dX3_narrow_174 : decode cX3_narrow 174 = .ok (.lload 5, 2) := by decide +kernel
theorem dX3_narrow_176 : decode cX3_narrow 176 = .ok (.goto 15, 3) := by decide +kernel
theorem dX3_narrow_179 : decode cX3_narrow 179 = .ok (.iload 7, 2) := by decide +kernel
theorem dX3_narrow_181 : decode cX3_narrow 181 = .ok (.bipush 126, 2) := by decide +kernel
theorem dX3_narrow_183 : decode cX3_narrow 183 = .ok (.iadd, 1) := by decide +kernel
theorem dX3_narrow_184 : decode cX3_narrow 184 = .ok (.i2l, 1) := by decide +kernel
theorem dX3_narrow_185 : decode cX3_narrow 185 = .ok (.bipush 23, 2) := by decide +kernel
theorem dX3_narrow_187 : decode cX3_narrow 187 = .ok (.lshl, 1) := by decide +kernel
theorem dX3_narrow_188 : decode cX3_narrow 188 = .ok (.lload 5, 2) := by decide +kernel
theorem dX3_narrow_190 : decode cX3_narrow 190 = .ok (.ladd, 1) := by decide +kernel
theorem dX3_narrow_191 : decode cX3_narrow 191 = .ok (.lstore 13, 2) := by decide +kernel
theorem dX3_narrow_193 : decode cX3_narrow 193 = .ok (.lload_n 2, 1) := by decide +kernel
theorem dX3_narrow_194 : decode cX3_narrow 194 = .ok (.lload 13, 2) := by decide +kernel
theorem dX3_narrow_196 : decode cX3_narrow 196 = .ok (.ldc2_w 108, 3) := by decide +kernel
theorem dX3_narrow_199 : decode cX3_narrow 199 = .ok (.lcmp, 1) := by decide +kernel
theorem dX3_narrow_200 : decode cX3_narrow 200 = .ok (.ifCond .lt 9, 3) := by decide +kernel
theorem dX3_narrow_203 : decode cX3_narrow 203 = .ok (.ldc2_w 108, 3) := by decide +kernel
theorem dX3_narrow_206 : decode cX3_narrow 206 = .ok (.goto 5, 3) := by decide +kernel
theorem dX3_narrow_209 : decode cX3_narrow 209 = .ok (.lload 13, 2) := by decide +kernel
theorem dX3_narrow_211 : decode cX3_narrow 211 = .ok (.lor, 1) := by decide +kernel
theorem dX3_narrow_212 : decode cX3_narrow 212 = .ok (.lreturn, 1) := by decide +kernel
theorem dX3_whole_0 : decode cX3_whole 0 = .ok (.lload_n 0, 1) := by decide +kernel
theorem dX3_whole_1 : decode cX3_whole 1 = .ok (.bipush 52, 2) := by decide +kernel
theorem dX3_whole_3 : decode cX3_whole 3 = .ok (.lushr, 1) := by decide +kernel
theorem dX3_whole_4 : decode cX3_whole 4 = .ok (.l2i, 1) := by decide +kernel
theorem dX3_whole_5 : decode cX3_whole 5 = .ok (.sipush 2047, 3) := by decide +kernel
theorem dX3_whole_8 : decode cX3_whole 8 = .ok (.iand, 1) := by decide +kernel
theorem dX3_whole_9 : decode cX3_whole 9 = .ok (.istore 6, 2) := by decide +kernel
theorem dX3_whole_11 : decode cX3_whole 11 = .ok (.lload_n 0, 1) := by decide +kernel
theorem dX3_whole_12 : decode cX3_whole 12 = .ok (.ldc2_w 124, 3) := by decide +kernel
theorem dX3_whole_15 : decode cX3_whole 15 = .ok (.land, 1) := by decide +kernel
theorem dX3_whole_16 : decode cX3_whole 16 = .ok (.lstore 7, 2) := by decide +kernel
theorem dX3_whole_18 : decode cX3_whole 18 = .ok (.iload 6, 2) := by decide +kernel
theorem dX3_whole_20 : decode cX3_whole 20 = .ok (.sipush 2047, 3) := by decide +kernel
theorem dX3_whole_23 : decode cX3_whole 23 = .ok (.if_icmp .ne 12, 3) := by decide +kernel
theorem dX3_whole_26 : decode cX3_whole 26 = .ok (.lload 7, 2) := by decide +kernel
theorem dX3_whole_28 : decode cX3_whole 28 = .ok (.lconst 0, 1) := by decide +kernel
theorem dX3_whole_29 : decode cX3_whole 29 = .ok (.lcmp, 1) := by decide +kernel
theorem dX3_whole_30 : decode cX3_whole 30 = .ok (.ifCond .eq 5, 3) := by decide +kernel
theorem dX3_whole_33 : decode cX3_whole 33 = .ok (.lconst 0, 1) := by decide +kernel
theorem dX3_whole_34 : decode cX3_whole 34 = .ok (.lreturn, 1) := by decide +kernel
theorem dX3_whole_35 : decode cX3_whole 35 = .ok (.lload_n 0, 1) := by decide +kernel
theorem dX3_whole_36 : decode cX3_whole 36 = .ok (.lconst 0, 1) := by decide +kernel
theorem dX3_whole_37 : decode cX3_whole 37 = .ok (.lcmp, 1) := by decide +kernel
theorem dX3_whole_38 : decode cX3_whole 38 = .ok (.ifCond .ge 7, 3) := by decide +kernel
theorem dX3_whole_41 : decode cX3_whole 41 = .ok (.iconst 1, 1) := by decide +kernel
theorem dX3_whole_42 : decode cX3_whole 42 = .ok (.goto 4, 3) := by decide +kernel
theorem dX3_whole_45 : decode cX3_whole 45 = .ok (.iconst 0, 1) := by decide +kernel
theorem dX3_whole_46 : decode cX3_whole 46 = .ok (.istore 9, 2) := by decide +kernel
theorem dX3_whole_48 : decode cX3_whole 48 = .ok (.iload 6, 2) := by decide +kernel
theorem dX3_whole_50 : decode cX3_whole 50 = .ok (.sipush 1023, 3) := by decide +kernel
theorem dX3_whole_53 : decode cX3_whole 53 = .ok (.isub, 1) := by decide +kernel
theorem dX3_whole_54 : decode cX3_whole 54 = .ok (.istore 10, 2) := by decide +kernel
theorem dX3_whole_56 : decode cX3_whole 56 = .ok (.iload 10, 2) := by decide +kernel
theorem dX3_whole_58 : decode cX3_whole 58 = .ok (.ifCond .ge 5, 3) := by decide +kernel
theorem dX3_whole_61 : decode cX3_whole 61 = .ok (.lconst 0, 1) := by decide +kernel
theorem dX3_whole_62 : decode cX3_whole 62 = .ok (.lreturn, 1) := by decide +kernel
theorem dX3_whole_63 : decode cX3_whole 63 = .ok (.iload 10, 2) := by decide +kernel
theorem dX3_whole_65 : decode cX3_whole 65 = .ok (.bipush 62, 2) := by decide +kernel
theorem dX3_whole_67 : decode cX3_whole 67 = .ok (.if_icmp .le 15, 3) := by decide +kernel
theorem dX3_whole_70 : decode cX3_whole 70 = .ok (.iload 9, 2) := by decide +kernel
theorem dX3_whole_72 : decode cX3_whole 72 = .ok (.ifCond .eq 7, 3) := by decide +kernel
theorem dX3_whole_75 : decode cX3_whole 75 = .ok (.lload_n 2, 1) := by decide +kernel
theorem dX3_whole_76 : decode cX3_whole 76 = .ok (.goto 5, 3) := by decide +kernel
theorem dX3_whole_79 : decode cX3_whole 79 = .ok (.lload 4, 2) := by decide +kernel
theorem dX3_whole_81 : decode cX3_whole 81 = .ok (.lreturn, 1) := by decide +kernel
theorem dX3_whole_82 : decode cX3_whole 82 = .ok (.lload 7, 2) := by decide +kernel
theorem dX3_whole_84 : decode cX3_whole 84 = .ok (.ldc2_w 126, 3) := by decide +kernel
theorem dX3_whole_87 : decode cX3_whole 87 = .ok (.lor, 1) := by decide +kernel
theorem dX3_whole_88 : decode cX3_whole 88 = .ok (.lstore 7, 2) := by decide +kernel
theorem dX3_whole_90 : decode cX3_whole 90 = .ok (.iload 10, 2) := by decide +kernel
theorem dX3_whole_92 : decode cX3_whole 92 = .ok (.bipush 52, 2) := by decide +kernel
theorem dX3_whole_94 : decode cX3_whole 94 = .ok (.if_icmp .le 14, 3) := by decide +kernel
theorem dX3_whole_97 : decode cX3_whole 97 = .ok (.lload 7, 2) := by decide +kernel
theorem dX3_whole_99 : decode cX3_whole 99 = .ok (.iload 10, 2) := by decide +kernel
theorem dX3_whole_101 : decode cX3_whole 101 = .ok (.bipush 52, 2) := by decide +kernel
theorem dX3_whole_103 : decode cX3_whole 103 = .ok (.isub, 1) := by decide +kernel
theorem dX3_whole_104 : decode cX3_whole 104 = .ok (.lshl, 1) := by decide +kernel
theorem dX3_whole_105 : decode cX3_whole 105 = .ok (.goto 11, 3) := by decide +kernel
theorem dX3_whole_108 : decode cX3_whole 108 = .ok (.lload 7, 2) := by decide +kernel
theorem dX3_whole_110 : decode cX3_whole 110 = .ok (.bipush 52, 2) := by decide +kernel
theorem dX3_whole_112 : decode cX3_whole 112 = .ok (.iload 10, 2) := by decide +kernel
theorem dX3_whole_114 : decode cX3_whole 114 = .ok (.isub, 1) := by decide +kernel
theorem dX3_whole_115 : decode cX3_whole 115 = .ok (.lushr, 1) := by decide +kernel
theorem dX3_whole_116 : decode cX3_whole 116 = .ok (.lstore 11, 2) := by decide +kernel
theorem dX3_whole_118 : decode cX3_whole 118 = .ok (.iload 9, 2) := by decide +kernel
theorem dX3_whole_120 : decode cX3_whole 120 = .ok (.ifCond .eq 9, 3) := by decide +kernel
theorem dX3_whole_123 : decode cX3_whole 123 = .ok (.lload 11, 2) := by decide +kernel
theorem dX3_whole_125 : decode cX3_whole 125 = .ok (.lneg, 1) := by decide +kernel
theorem dX3_whole_126 : decode cX3_whole 126 = .ok (.goto 5, 3) := by decide +kernel
theorem dX3_whole_129 : decode cX3_whole 129 = .ok (.lload 11, 2) := by decide +kernel
theorem dX3_whole_131 : decode cX3_whole 131 = .ok (.lstore 11, 2) := by decide +kernel
theorem dX3_whole_133 : decode cX3_whole 133 = .ok (.lload 11, 2) := by decide +kernel
theorem dX3_whole_135 : decode cX3_whole 135 = .ok (.lload_n 2, 1) := by decide +kernel
theorem dX3_whole_136 : decode cX3_whole 136 = .ok (.lcmp, 1) := by decide +kernel
theorem dX3_whole_137 : decode cX3_whole 137 = .ok (.ifCond .ge 7, 3) := by decide +kernel
theorem dX3_whole_140 : decode cX3_whole 140 = .ok (.lload_n 2, 1) := by decide +kernel
theorem dX3_whole_141 : decode cX3_whole 141 = .ok (.goto 18, 3) := by decide +kernel
theorem dX3_whole_144 : decode cX3_whole 144 = .ok (.lload 11, 2) := by decide +kernel
theorem dX3_whole_146 : decode cX3_whole 146 = .ok (.lload 4, 2) := by decide +kernel
theorem dX3_whole_148 : decode cX3_whole 148 = .ok (.lcmp, 1) := by decide +kernel
theorem dX3_whole_149 : decode cX3_whole 149 = .ok (.ifCond .le 8, 3) := by decide +kernel
theorem dX3_whole_152 : decode cX3_whole 152 = .ok (.lload 4, 2) := by decide +kernel
theorem dX3_whole_154 : decode cX3_whole 154 = .ok (.goto 5, 3) := by decide +kernel
theorem dX3_whole_157 : decode cX3_whole 157 = .ok (.lload 11, 2) := by decide +kernel
theorem dX3_whole_159 : decode cX3_whole 159 = .ok (.lreturn, 1) := by decide +kernel
theorem dX3_cutTo_0 : decode cX3_cutTo 0 = .ok (.iload_n 0, 1) := by decide +kernel
theorem dX3_cutTo_1 : decode cX3_cutTo 1 = .ok (.tableswitch 51 1 4 #[31, 37, 42, 47], 31) := by decide +kernel
theorem dX3_cutTo_32 : decode cX3_cutTo 32 = .ok (.lload_n 1, 1) := by decide +kernel
theorem dX3_cutTo_33 : decode cX3_cutTo 33 = .ok (.ldc2_w 90, 3) := by decide +kernel
theorem dX3_cutTo_36 : decode cX3_cutTo 36 = .ok (.land, 1) := by decide +kernel
theorem dX3_cutTo_37 : decode cX3_cutTo 37 = .ok (.lreturn, 1) := by decide +kernel
theorem dX3_cutTo_38 : decode cX3_cutTo 38 = .ok (.lload_n 1, 1) := by decide +kernel
theorem dX3_cutTo_39 : decode cX3_cutTo 39 = .ok (.l2i, 1) := by decide +kernel
theorem dX3_cutTo_40 : decode cX3_cutTo 40 = .ok (.i2b, 1) := by decide +kernel
theorem dX3_cutTo_41 : decode cX3_cutTo 41 = .ok (.i2l, 1) := by decide +kernel
theorem dX3_cutTo_42 : decode cX3_cutTo 42 = .ok (.lreturn, 1) := by decide +kernel
theorem dX3_cutTo_43 : decode cX3_cutTo 43 = .ok (.lload_n 1, 1) := by decide +kernel
theorem dX3_cutTo_44 : decode cX3_cutTo 44 = .ok (.l2i, 1) := by decide +kernel
theorem dX3_cutTo_45 : decode cX3_cutTo 45 = .ok (.i2s, 1) := by decide +kernel
theorem dX3_cutTo_46 : decode cX3_cutTo 46 = .ok (.i2l, 1) := by decide +kernel
theorem dX3_cutTo_47 : decode cX3_cutTo 47 = .ok (.lreturn, 1) := by decide +kernel
theorem dX3_cutTo_48 : decode cX3_cutTo 48 = .ok (.lload_n 1, 1) := by decide +kernel
theorem dX3_cutTo_49 : decode cX3_cutTo 49 = .ok (.l2i, 1) := by decide +kernel
theorem dX3_cutTo_50 : decode cX3_cutTo 50 = .ok (.i2l, 1) := by decide +kernel
theorem dX3_cutTo_51 : decode cX3_cutTo 51 = .ok (.lreturn, 1) := by decide +kernel
theorem dX3_cutTo_52 : decode cX3_cutTo 52 = .ok (.lload_n 1, 1) := by decide +kernel
theorem dX3_cutTo_53 : decode cX3_cutTo 53 = .ok (.lreturn, 1) := by decide +kernel
set_option maxRecDepth 20000 in
theorem ggX3_turned_X3_isType : GoodIn wsX3_turned wsX3_isType := goodIn_r _ [12, 13, 14, 15, 11, 16, 57, 58, 59, 60, 61, 62, 63, 64, 65, 66] (by decide +kernel) (by decide +kernel)
set_option maxRecDepth 20000 in
theorem gX3_turned_X3_isType : GoodIn wsX3_turned (wsV RX3 59 RX3 yX3_isType wsX3_isType) := goodIn_app (goodIn_of _ (by decide +kernel)) ggX3_turned_X3_isType
set_option maxRecDepth 20000 in
theorem ggX3_turned_X3_isNumber : GoodIn wsX3_turned wsX3_isNumber := goodIn_r _ [19, 14, 15, 11, 16] (by decide +kernel) (by decide +kernel)
set_option maxRecDepth 20000 in
theorem gX3_turned_X3_isNumber : GoodIn wsX3_turned (va_wsS RX3 71 yX3_isNumber wsX3_isNumber) := goodIn_app (goodIn_of _ (by decide +kernel)) ggX3_turned_X3_isNumber
set_option maxRecDepth 20000 in
theorem ggX3_turned_X3_isBits : GoodIn wsX3_turned wsX3_isBits := goodIn_r _ [22, 23, 24, 11, 25, 26, 27, 28, 29, 30, 4, 7] (by decide +kernel) (by decide +kernel)
set_option maxRecDepth 20000 in
theorem gX3_turned_X3_isBits : GoodIn wsX3_turned (va_wsS RX3 130 yX3_isBits wsX3_isBits) := goodIn_app (goodIn_of _ (by decide +kernel)) ggX3_turned_X3_isBits
set_option maxRecDepth 20000 in
theorem ggX3_turned_X3_one : GoodIn wsX3_turned wsX3_one := goodIn_r _ [33, 7, 34, 35, 6, 36, 37] (by decide +kernel) (by decide +kernel)
set_option maxRecDepth 20000 in
theorem gX3_turned_X3_one : GoodIn wsX3_turned (va_wsS RX3 135 yX3_one wsX3_one) := goodIn_app (goodIn_of _ (by decide +kernel)) ggX3_turned_X3_one
