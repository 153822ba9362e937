theorem dX4_columnOf_0 : decode cX4_columnOf 0 = .ok (.iload_n 0, 1) := by decide +kernel
theorem dX4_columnOf_1 : decode cX4_columnOf 1 = .ok (.bipush 12, 2) := by decide +kernel
theorem dX4_columnOf_3 : decode cX4_columnOf 3 = .ok (.idiv, 1) := by decide +kernel
theorem dX4_columnOf_4 : decode cX4_columnOf 4 = .ok (.ireturn, 1) := by decide +kernel
theorem dX4_lineOf_0 : decode cX4_lineOf 0 = .ok (.iload_n 0, 1) := by decide +kernel
theorem dX4_lineOf_1 : decode cX4_lineOf 1 = .ok (.bipush 12, 2) := by decide +kernel
theorem dX4_lineOf_3 : decode cX4_lineOf 3 = .ok (.irem, 1) := by decide +kernel
theorem dX4_lineOf_4 : decode cX4_lineOf 4 = .ok (.iconst 2, 1) := by decide +kernel
theorem dX4_lineOf_5 : decode cX4_lineOf 5 = .ok (.idiv, 1) := by decide +kernel
theorem dX4_lineOf_6 : decode cX4_lineOf 6 = .ok (.ireturn, 1) := by decide +kernel
theorem dX4_search_0 : decode cX4_search 0 = .ok (.iload 4, 2) := by decide +kernel
theorem dX4_search_2 : decode cX4_search 2 = .ok (.iload 5, 2) := by decide +kernel
theorem dX4_search_4 : decode cX4_search 4 = .ok (.if_icmp .ge 9, 3) := by decide +kernel
theorem dX4_search_13 : decode cX4_search 13 = .ok (.iload_n 2, 1) := by decide +kernel
theorem dX4_search_14 : decode cX4_search 14 = .ok (.iload_n 3, 1) := by decide +kernel
theorem dX4_search_15 : decode cX4_search 15 = .ok (.invokestatic 50, 3) := by decide +kernel
theorem dX4_search_18 : decode cX4_search 18 = .ok (.ireturn, 1) := by decide +kernel
theorem dX4_search_7 : decode cX4_search 7 = .ok (.iload 4, 2) := by decide +kernel
theorem dX4_search_9 : decode cX4_search 9 = .ok (.iconst 3, 1) := by decide +kernel
theorem dX4_search_10 : decode cX4_search 10 = .ok (.if_icmp .lt 9, 3) := by decide +kernel
theorem dX4_search_19 : decode cX4_search 19 = .ok (.iconst 0, 1) := by decide +kernel
theorem dX4_search_20 : decode cX4_search 20 = .ok (.istore 6, 2) := by decide +kernel
theorem dX4_search_22 : decode cX4_search 22 = .ok (.iload 6, 2) := by decide +kernel
theorem dX4_search_24 : decode cX4_search 24 = .ok (.bipush 24, 2) := by decide +kernel
theorem dX4_search_26 : decode cX4_search 26 = .ok (.if_icmp .ge 124, 3) := by decide +kernel
theorem dX4_search_29 : decode cX4_search 29 = .ok (.aload_n 1, 1) := by decide +kernel
theorem dX4_search_30 : decode cX4_search 30 = .ok (.iload 6, 2) := by decide +kernel
theorem dX4_search_32 : decode cX4_search 32 = .ok (.invokestatic 54, 3) := by decide +kernel
theorem dX4_search_35 : decode cX4_search 35 = .ok (.iload 6, 2) := by decide +kernel
theorem dX4_search_37 : decode cX4_search 37 = .ok (.invokestatic 58, 3) := by decide +kernel
theorem dX4_search_40 : decode cX4_search 40 = .ok (.invokevirtual 61, 3) := by decide +kernel
theorem dX4_search_43 : decode cX4_search 43 = .ok (.ifCond .ne 6, 3) := by decide +kernel
theorem dX4_search_49 : decode cX4_search 49 = .ok (.aload_n 1, 1) := by decide +kernel
theorem dX4_search_50 : decode cX4_search 50 = .ok (.iload_n 2, 1) := by decide +kernel
theorem dX4_search_51 : decode cX4_search 51 = .ok (.iload 6, 2) := by decide +kernel
theorem dX4_search_53 : decode cX4_search 53 = .ok (.invokestatic 54, 3) := by decide +kernel
theorem dX4_search_56 : decode cX4_search 56 = .ok (.iload 6, 2) := by decide +kernel
theorem dX4_search_58 : decode cX4_search 58 = .ok (.invokestatic 58, 3) := by decide +kernel
theorem dX4_search_61 : decode cX4_search 61 = .ok (.iload 6, 2) := by decide +kernel
theorem dX4_search_63 : decode cX4_search 63 = .ok (.iconst 2, 1) := by decide +kernel
theorem dX4_search_64 : decode cX4_search 64 = .ok (.irem, 1) := by decide +kernel
theorem dX4_search_65 : decode cX4_search 65 = .ok (.invokevirtual 64, 3) := by decide +kernel
theorem dX4_search_68 : decode cX4_search 68 = .ok (.istore 7, 2) := by decide +kernel
theorem dX4_search_70 : decode cX4_search 70 = .ok (.aload_n 1, 1) := by decide +kernel
theorem dX4_search_71 : decode cX4_search 71 = .ok (.iload_n 3, 1) := by decide +kernel
theorem dX4_search_72 : decode cX4_search 72 = .ok (.iload 6, 2) := by decide +kernel
theorem dX4_search_74 : decode cX4_search 74 = .ok (.invokestatic 54, 3) := by decide +kernel
theorem dX4_search_77 : decode cX4_search 77 = .ok (.iload 6, 2) := by decide +kernel
theorem dX4_search_79 : decode cX4_search 79 = .ok (.invokestatic 58, 3) := by decide +kernel
theorem dX4_search_82 : decode cX4_search 82 = .ok (.iload 6, 2) := by decide +kernel
theorem dX4_search_84 : decode cX4_search 84 = .ok (.iconst 2, 1) := by decide +kernel
theorem dX4_search_85 : decode cX4_search 85 = .ok (.irem, 1) := by decide +kernel
theorem dX4_search_86 : decode cX4_search 86 = .ok (.invokevirtual 64, 3) := by decide +kernel
theorem dX4_search_89 : decode cX4_search 89 = .ok (.istore 8, 2) := by decide +kernel
theorem dX4_search_91 : decode cX4_search 91 = .ok (.iload 7, 2) := by decide +kernel
theorem dX4_search_93 : decode cX4_search 93 = .ok (.iload_n 2, 1) := by decide +kernel
theorem dX4_search_94 : decode cX4_search 94 = .ok (.if_icmp .ne 9, 3) := by decide +kernel
theorem dX4_search_103 : decode cX4_search 103 = .ok (.iconst 1, 1) := by decide +kernel
theorem dX4_search_104 : decode cX4_search 104 = .ok (.goto 4, 3) := by decide +kernel
theorem dX4_search_97 : decode cX4_search 97 = .ok (.iload 8, 2) := by decide +kernel
theorem dX4_search_99 : decode cX4_search 99 = .ok (.iload_n 3, 1) := by decide +kernel
theorem dX4_search_100 : decode cX4_search 100 = .ok (.if_icmp .eq 7, 3) := by decide +kernel
theorem dX4_search_107 : decode cX4_search 107 = .ok (.iconst 0, 1) := by decide +kernel
theorem dX4_search_108 : decode cX4_search 108 = .ok (.istore 9, 2) := by decide +kernel
theorem dX4_search_110 : decode cX4_search 110 = .ok (.aload_n 0, 1) := by decide +kernel
theorem dX4_search_111 : decode cX4_search 111 = .ok (.getfield 11, 3) := by decide +kernel
theorem dX4_search_114 : decode cX4_search 114 = .ok (.iload 4, 2) := by decide +kernel
theorem dX4_search_116 : decode cX4_search 116 = .ok (.iload 6, 2) := by decide +kernel
theorem dX4_search_118 : decode cX4_search 118 = .ok (.iastore, 1) := by decide +kernel
theorem dX4_search_119 : decode cX4_search 119 = .ok (.iload 9, 2) := by decide +kernel
theorem dX4_search_121 : decode cX4_search 121 = .ok (.ifCond .eq 23, 3) := by decide +kernel
theorem dX4_search_144 : decode cX4_search 144 = .ok (.iinc 6 1, 3) := by decide +kernel
theorem dX4_search_147 : decode cX4_search 147 = .ok (.goto (-125), 3) := by decide +kernel
theorem dX4_search_124 : decode cX4_search 124 = .ok (.aload_n 0, 1) := by decide +kernel
theorem dX4_search_125 : decode cX4_search 125 = .ok (.aload_n 1, 1) := by decide +kernel
theorem dX4_search_126 : decode cX4_search 126 = .ok (.iload 7, 2) := by decide +kernel
theorem dX4_search_128 : decode cX4_search 128 = .ok (.iload 8, 2) := by decide +kernel
theorem dX4_search_130 : decode cX4_search 130 = .ok (.iload 4, 2) := by decide +kernel
theorem dX4_search_132 : decode cX4_search 132 = .ok (.iconst 1, 1) := by decide +kernel
theorem dX4_search_133 : decode cX4_search 133 = .ok (.iadd, 1) := by decide +kernel
theorem dX4_search_134 : decode cX4_search 134 = .ok (.iload 5, 2) := by decide +kernel
theorem dX4_search_136 : decode cX4_search 136 = .ok (.invokevirtual 40, 3) := by decide +kernel
theorem dX4_search_139 : decode cX4_search 139 = .ok (.ifCond .eq 5, 3) := by decide +kernel
theorem dX4_search_142 : decode cX4_search 142 = .ok (.iconst 1, 1) := by decide +kernel
theorem dX4_search_143 : decode cX4_search 143 = .ok (.ireturn, 1) := by decide +kernel
theorem dX4_search_46 : decode cX4_search 46 = .ok (.goto 98, 3) := by decide +kernel
theorem dX4_search_150 : decode cX4_search 150 = .ok (.iconst 0, 1) := by decide +kernel
theorem dX4_search_151 : decode cX4_search 151 = .ok (.ireturn, 1) := by decide +kernel
theorem dX4_find_0 : decode cX4_find 0 = .ok (.aload_n 1, 1) := by decide +kernel
theorem dX4_find_1 : decode cX4_find 1 = .ok (.iload_n 2, 1) := by decide +kernel
theorem dX4_find_2 : decode cX4_find 2 = .ok (.invokevirtual 22, 3) := by decide +kernel
theorem dX4_find_5 : decode cX4_find 5 = .ok (.ifCond .eq 19, 3) := by decide +kernel
theorem dX4_find_8 : decode cX4_find 8 = .ok (.aload_n 1, 1) := by decide +kernel
theorem dX4_find_9 : decode cX4_find 9 = .ok (.iload_n 3, 1) := by decide +kernel
theorem dX4_find_10 : decode cX4_find 10 = .ok (.invokevirtual 28, 3) := by decide +kernel
theorem dX4_find_13 : decode cX4_find 13 = .ok (.ifCond .eq 11, 3) := by decide +kernel
theorem dX4_find_16 : decode cX4_find 16 = .ok (.aload_n 1, 1) := by decide +kernel
theorem dX4_find_17 : decode cX4_find 17 = .ok (.iload_n 2, 1) := by decide +kernel
theorem dX4_find_18 : decode cX4_find 18 = .ok (.invokevirtual 31, 3) := by decide +kernel
theorem dX4_find_21 : decode cX4_find 21 = .ok (.ifCond .eq 5, 3) := by decide +kernel
theorem dX4_find_24 : decode cX4_find 24 = .ok (.iconst (-1), 1) := by decide +kernel
theorem dX4_find_25 : decode cX4_find 25 = .ok (.ireturn, 1) := by decide +kernel
theorem dX4_find_26 : decode cX4_find 26 = .ok (.iconst 0, 1) := by decide +kernel
theorem dX4_find_27 : decode cX4_find 27 = .ok (.istore 4, 2) := by decide +kernel
theorem dX4_find_29 : decode cX4_find 29 = .ok (.iload 4, 2) := by decide +kernel
theorem dX4_find_31 : decode cX4_find 31 = .ok (.iconst 3, 1) := by decide +kernel
theorem dX4_find_32 : decode cX4_find 32 = .ok (.if_icmp .gt 55, 3) := by decide +kernel
theorem dX4_find_35 : decode cX4_find 35 = .ok (.aload_n 0, 1) := by decide +kernel
theorem dX4_find_36 : decode cX4_find 36 = .ok (.aload_n 1, 1) := by decide +kernel
theorem dX4_find_37 : decode cX4_find 37 = .ok (.aload_n 1, 1) := by decide +kernel
theorem dX4_find_38 : decode cX4_find 38 = .ok (.getfield 34, 3) := by decide +kernel
theorem dX4_find_41 : decode cX4_find 41 = .ok (.iload_n 2, 1) := by decide +kernel
theorem dX4_find_42 : decode cX4_find 42 = .ok (.iaload, 1) := by decide +kernel
theorem dX4_find_43 : decode cX4_find 43 = .ok (.aload_n 1, 1) := by decide +kernel
theorem dX4_find_44 : decode cX4_find 44 = .ok (.getfield 37, 3) := by decide +kernel
theorem dX4_find_47 : decode cX4_find 47 = .ok (.iload_n 3, 1) := by decide +kernel
theorem dX4_find_48 : decode cX4_find 48 = .ok (.iaload, 1) := by decide +kernel
theorem dX4_find_49 : decode cX4_find 49 = .ok (.iconst 0, 1) := by decide +kernel
theorem dX4_find_50 : decode cX4_find 50 = .ok (.iload 4, 2) := by decide +kernel
theorem dX4_find_52 : decode cX4_find 52 = .ok (.invokevirtual 40, 3) := by decide +kernel
theorem dX4_find_55 : decode cX4_find 55 = .ok (.ifCond .eq 26, 3) := by decide +kernel
theorem dX4_find_81 : decode cX4_find 81 = .ok (.iinc 4 1, 3) := by decide +kernel
theorem dX4_find_84 : decode cX4_find 84 = .ok (.goto (-55), 3) := by decide +kernel
theorem dX4_find_58 : decode cX4_find 58 = .ok (.aload_n 0, 1) := by decide +kernel
theorem dX4_find_59 : decode cX4_find 59 = .ok (.getfield 11, 3) := by decide +kernel
theorem dX4_find_62 : decode cX4_find 62 = .ok (.iconst 0, 1) := by decide +kernel
theorem dX4_find_63 : decode cX4_find 63 = .ok (.aload_n 0, 1) := by decide +kernel
theorem dX4_find_64 : decode cX4_find 64 = .ok (.getfield 15, 3) := by decide +kernel
theorem dX4_find_67 : decode cX4_find 67 = .ok (.iconst 0, 1) := by decide +kernel
theorem dX4_find_68 : decode cX4_find 68 = .ok (.iconst 3, 1) := by decide +kernel
theorem dX4_find_69 : decode cX4_find 69 = .ok (.invokestatic 44, 3) := by decide +kernel
theorem dX4_find_72 : decode cX4_find 72 = .ok (.aload_n 0, 1) := by decide +kernel
theorem dX4_find_73 : decode cX4_find 73 = .ok (.iload 4, 2) := by decide +kernel
theorem dX4_find_75 : decode cX4_find 75 = .ok (.putfield 18, 3) := by decide +kernel
theorem dX4_find_78 : decode cX4_find 78 = .ok (.iload 4, 2) := by decide +kernel
theorem dX4_find_80 : decode cX4_find 80 = .ok (.ireturn, 1) := by decide +kernel
theorem dX4_find_87 : decode cX4_find 87 = .ok (.iconst (-1), 1) := by decide +kernel
theorem dX4_find_88 : decode cX4_find 88 = .ok (.ireturn, 1) := by decide +kernel
theorem dX4_stirAt_0 : decode cX4_stirAt 0 = .ok (.iload_n 1, 1) := by decide +kernel
theorem dX4_stirAt_1 : decode cX4_stirAt 1 = .ok (.ifCond .lt 11, 3) := by decide +kernel
theorem dX4_stirAt_12 : decode cX4_stirAt 12 = .ok (.iconst (-1), 1) := by decide +kernel
theorem dX4_stirAt_13 : decode cX4_stirAt 13 = .ok (.ireturn, 1) := by decide +kernel
theorem dX4_stirAt_4 : decode cX4_stirAt 4 = .ok (.iload_n 1, 1) := by decide +kernel
theorem dX4_stirAt_5 : decode cX4_stirAt 5 = .ok (.aload_n 0, 1) := by decide +kernel
theorem dX4_stirAt_6 : decode cX4_stirAt 6 = .ok (.getfield 18, 3) := by decide +kernel
theorem dX4_stirAt_9 : decode cX4_stirAt 9 = .ok (.if_icmp .lt 5, 3) := by decide +kernel
theorem dX4_stirAt_14 : decode cX4_stirAt 14 = .ok (.iload_n 2, 1) := by decide +kernel
theorem dX4_stirAt_15 : decode cX4_stirAt 15 = .ok (.tableswitch 54 0 2 #[25, 35, 45], 25) := by decide +kernel
theorem dX4_stirAt_69 : decode cX4_stirAt 69 = .ok (.iconst (-1), 1) := by decide +kernel
theorem dX4_stirAt_70 : decode cX4_stirAt 70 = .ok (.ireturn, 1) := by decide +kernel
theorem dX4_stirAt_40 : decode cX4_stirAt 40 = .ok (.aload_n 0, 1) := by decide +kernel
theorem dX4_stirAt_41 : decode cX4_stirAt 41 = .ok (.getfield 15, 3) := by decide +kernel
theorem dX4_stirAt_44 : decode cX4_stirAt 44 = .ok (.iload_n 1, 1) := by decide +kernel
theorem dX4_stirAt_45 : decode cX4_stirAt 45 = .ok (.iaload, 1) := by decide +kernel
theorem dX4_stirAt_46 : decode cX4_stirAt 46 = .ok (.invokestatic 54, 3) := by decide +kernel
theorem dX4_stirAt_49 : decode cX4_stirAt 49 = .ok (.ireturn, 1) := by decide +kernel
theorem dX4_stirAt_50 : decode cX4_stirAt 50 = .ok (.aload_n 0, 1) := by decide +kernel
theorem dX4_stirAt_51 : decode cX4_stirAt 51 = .ok (.getfield 15, 3) := by decide +kernel
theorem dX4_stirAt_54 : decode cX4_stirAt 54 = .ok (.iload_n 1, 1) := by decide +kernel
theorem dX4_stirAt_55 : decode cX4_stirAt 55 = .ok (.iaload, 1) := by decide +kernel
theorem dX4_stirAt_56 : decode cX4_stirAt 56 = .ok (.invokestatic 58, 3) := by decide +kernel
theorem dX4_stirAt_59 : decode cX4_stirAt 59 = .ok (.ireturn, 1) := by decide +kernel
theorem dX4_stirAt_60 : decode cX4_stirAt 60 = .ok (.aload_n 0, 1) := by decide +kernel
theorem dX4_stirAt_61 : decode cX4_stirAt 61 = .ok (.getfield 15, 3) := by decide +kernel
theorem dX4_stirAt_64 : decode cX4_stirAt 64 = .ok (.iload_n 1, 1) := by decide +kernel
theorem dX4_stirAt_65 : decode cX4_stirAt 65 = .ok (.iaload, 1) := by decide +kernel
theorem dX4_stirAt_66 : decode cX4_stirAt 66 = .ok (.iconst 2, 1) := by decide +kernel
theorem dX4_stirAt_67 : decode cX4_stirAt 67 = .ok (.irem, 1) := by decide +kernel
theorem dX4_stirAt_68 : decode cX4_stirAt 68 = .ok (.ireturn, 1) := by decide +kernel
set_option maxRecDepth 100000 in
theorem ggX4_search_X7_areNear : GoodIn wsX4_search wsX7_areNear := goodIn_r _ [5, 6, 7, 8, 9] rfl (by decide +kernel)
set_option maxRecDepth 100000 in
theorem ggX4_search_X4_columnOf : GoodIn wsX4_search wsX4_columnOf := goodIn_r _ [13] rfl (by decide +kernel)
set_option maxRecDepth 100000 in
theorem ggX4_search_X4_lineOf : GoodIn wsX4_search wsX4_lineOf := goodIn_r _ [16] rfl (by decide +kernel)
set_option maxRecDepth 100000 in
theorem ggX4_search_X7_isLine : GoodIn wsX4_search wsX7_isLine := goodIn_r _ [20, 21, 22, 36, 37, 38, 39, 40, 41, 42, 43, 44, 45, 46, 47, 48, 49, 50, 51, 52, 53, 54] rfl (by decide +kernel)
set_option maxRecDepth 100000 in
theorem ggX4_search_X7_stirredTo : GoodIn wsX4_search wsX7_stirredTo := goodIn_r _ [26, 22, 21, 27, 28, 4, 29, 36, 37, 38, 39, 40, 41, 42, 43, 44, 45, 46, 47, 48, 49, 50, 51, 52, 53, 54] rfl (by decide +kernel)
set_option maxRecDepth 100000 in
theorem ggX4_search_X4_search : GoodIn wsX4_search wsX4_search := goodIn_r _ [0, 1, 2, 3, 4, 5, 6, 7, 8, 9, 10, 11, 12, 13, 14, 15, 16, 17, 18, 19, 20, 21, 22, 23, 24, 25, 26, 27, 28, 29, 30, 31, 32, 33, 34, 35, 36, 37, 38, 39, 40, 41, 42, 43, 44, 45, 46, 47, 48, 49, 50, 51, 52, 53, 54] rfl (by decide +kernel)
set_option maxRecDepth 100000 in
theorem ggX4_find_X7_isBoat : GoodIn wsX4_find wsX7_isBoat := goodIn_r _ [14, 15, 58, 59, 60, 61, 62, 63, 64, 65, 66, 67, 68, 69, 70, 71, 72, 73, 74, 75, 76] rfl (by decide +kernel)
set_option maxRecDepth 100000 in
theorem ggX4_find_X7_isLump : GoodIn wsX4_find wsX7_isLump := goodIn_r _ [19, 20, 58, 59, 60, 61, 62, 63, 64, 65, 66, 67, 68, 69, 70, 71, 72, 73, 74, 75, 76] rfl (by decide +kernel)
set_option maxRecDepth 100000 in
theorem ggX4_find_X7_isEaten : GoodIn wsX4_find wsX7_isEaten := goodIn_r _ [24, 25, 26, 11, 12, 13, 14, 15, 58, 59, 60, 61, 62, 63, 64, 65, 66, 67, 68, 69, 70, 71, 72, 73, 74, 75, 76] rfl (by decide +kernel)
set_option maxRecDepth 100000 in
theorem ggX4_find_X4_search : GoodIn wsX4_find wsX4_search := goodIn_r _ [31, 3, 32, 33, 13, 34, 35, 36, 37, 38, 39, 40, 30, 41, 42, 43, 44, 45, 46, 47, 48, 49, 50, 51, 52, 53, 54, 55, 56, 57, 27, 28, 29, 77, 78, 79, 58, 59, 60, 61, 62, 63, 64, 65, 66, 67, 68, 69, 70, 71, 72, 73, 74, 75, 76] rfl (by decide +kernel)
set_option maxRecDepth 100000 in
theorem ggX4_stirAt_X4_columnOf : GoodIn wsX4_stirAt wsX4_columnOf := goodIn_r _ [6] rfl (by decide +kernel)
set_option maxRecDepth 100000 in
theorem ggX4_stirAt_X4_lineOf : GoodIn wsX4_stirAt wsX4_lineOf := goodIn_r _ [9] rfl (by decide +kernel)
set_option maxRecDepth 100000 in
theorem gX4_search_X7_areNear : GoodIn wsX4_search (va_wsS RX4 50 yX7_areNear wsX7_areNear) := goodIn_app (goodIn_of _ (by decide +kernel)) ggX4_search_X7_areNear
set_option maxRecDepth 100000 in
theorem gX4_search_X4_columnOf : GoodIn wsX4_search (va_wsS RX4 54 yX4_columnOf wsX4_columnOf) := goodIn_app (goodIn_of _ (by decide +kernel)) ggX4_search_X4_columnOf
set_option maxRecDepth 100000 in
theorem gX4_search_X4_lineOf : GoodIn wsX4_search (va_wsS RX4 58 yX4_lineOf wsX4_lineOf) := goodIn_app (goodIn_of _ (by decide +kernel)) ggX4_search_X4_lineOf
set_option maxRecDepth 100000 in
theorem gX4_search_X7_isLine : GoodIn wsX4_search (wsV RX4 61 RX7 yX7_isLine wsX7_isLine) := goodIn_app (goodIn_of _ (by decide +kernel)) ggX4_search_X7_isLine
set_option maxRecDepth 100000 in
theorem gX4_search_X7_stirredTo : GoodIn wsX4_search (wsV RX4 64 RX7 yX7_stirredTo wsX7_stirredTo) := goodIn_app (goodIn_of _ (by decide +kernel)) ggX4_search_X7_stirredTo
set_option maxRecDepth 100000 in
theorem gX4_search_X4_search : GoodIn wsX4_search (wsV RX4 40 RX4 yX4_search wsX4_search) := goodIn_app (goodIn_of _ (by decide +kernel)) ggX4_search_X4_search
set_option maxRecDepth 100000 in
theorem gX4_find_X7_isBoat : GoodIn wsX4_find (wsV RX4 22 RX7 yX7_isBoat wsX7_isBoat) := goodIn_app (goodIn_of _ (by decide +kernel)) ggX4_find_X7_isBoat
set_option maxRecDepth 100000 in
theorem gX4_find_X7_isLump : GoodIn wsX4_find (wsV RX4 28 RX7 yX7_isLump wsX7_isLump) := goodIn_app (goodIn_of _ (by decide +kernel)) ggX4_find_X7_isLump
set_option maxRecDepth 100000 in
theorem gX4_find_X7_isEaten : GoodIn wsX4_find (wsV RX4 31 RX7 yX7_isEaten wsX7_isEaten) := goodIn_app (goodIn_of _ (by decide +kernel)) ggX4_find_X7_isEaten
set_option maxRecDepth 100000 in
theorem gX4_find_X4_search : GoodIn wsX4_find (wsV RX4 40 RX4 yX4_search wsX4_search) := goodIn_app (goodIn_of _ (by decide +kernel)) ggX4_find_X4_search
set_option maxRecDepth 100000 in
theorem gX4_stirAt_X4_columnOf : GoodIn wsX4_stirAt (va_wsS RX4 54 yX4_columnOf wsX4_columnOf) := goodIn_app (goodIn_of _ (by decide +kernel)) ggX4_stirAt_X4_columnOf
set_option maxRecDepth 100000 in
theorem gX4_stirAt_X4_lineOf : GoodIn wsX4_stirAt (va_wsS RX4 58 yX4_lineOf wsX4_lineOf) := goodIn_app (goodIn_of _ (by decide +kernel)) ggX4_stirAt_X4_lineOf
set_option maxHeartbeats 4000000 in
set_option maxRecDepth 100000 in
theorem c_m_columnOf (l : Launch) (dC : Nat → ClassId) (dI : Nat → Nat → Nat) (ky : Nat → ClassId) (x : Int32)  : Met l yX4_columnOf wsX4_columnOf ({ frames := 0, cells := 0, slots := 0, locals := 0 }) (PcP dC dI ky [.int x] []) (vp_Si (fun r : Int32 => True)) 0 0 (fun _ => False) := by
  refine Met.ofW (cc := cX4_columnOf) (maxL := 1) (ret := (some .int)) (by decide) rfl ?_
  intro p e s m args below meth c s₁ B hml hv
  obtain ⟨rfl, hP, hK⟩ := hv
  have hx := B.exec
  have hb := B.bytes
  have hr := B.returns
  have hts := atoms_spec (ws := wsX4_columnOf) B.pre
  have hown : s.vm.findClass RX4 = some m.cls := findClass_of_methodNamed B.named
  have hlocks := B.notSynchronized
  have hl := lv_entry ([.int x]) (n := 1) (Nat.le_of_ble_eq_true rfl)
  rw [lg_entry_eq]
  generalize (lg_sl ([.int x]) ++ List.replicate (1 - (lg_sl ([.int x])).length) Slot.unset).toArray = ls at hl ⊢
  have hl : lv_has ls 1 [(0, .int x)] := hl
  refine q_name (fun Q hQ => ?_)
  generalize ([.int x] : List Value).toArray = args at hts hQ ⊢
  refine lv_iload_n hx hb dX4_columnOf_0 rfl (lv_at hl 0 rfl) ?_
  refine lv_bipush (v := nI 12) hx hb dX4_columnOf_1 (by decide) ?_
  refine lv_idiv hx hb dX4_columnOf_3 (by decide) ?_
  refine lv_topi (fun y1 e2 => ?_)
  rw [hQ]
  exact W.iret (v := y1) hx hb hr (fun t9 ht9 hW9 => ⟨y1, rfl, trivial, ht9⟩) (fun _ h => absurd h List.not_mem_nil) dX4_columnOf_4
set_option maxHeartbeats 4000000 in
set_option maxRecDepth 100000 in
theorem c_m_lineOf (l : Launch) (dC : Nat → ClassId) (dI : Nat → Nat → Nat) (ky : Nat → ClassId) (x : Int32)  : Met l yX4_lineOf wsX4_lineOf ({ frames := 0, cells := 0, slots := 0, locals := 0 }) (PcP dC dI ky [.int x] []) (vp_Si (fun r : Int32 => True)) 0 0 (fun _ => False) := by
  refine Met.ofW (cc := cX4_lineOf) (maxL := 1) (ret := (some .int)) (by decide) rfl ?_
  intro p e s m args below meth c s₁ B hml hv
  obtain ⟨rfl, hP, hK⟩ := hv
  have hx := B.exec
  have hb := B.bytes
  have hr := B.returns
  have hts := atoms_spec (ws := wsX4_lineOf) B.pre
  have hown : s.vm.findClass RX4 = some m.cls := findClass_of_methodNamed B.named
  have hlocks := B.notSynchronized
  have hl := lv_entry ([.int x]) (n := 1) (Nat.le_of_ble_eq_true rfl)
  rw [lg_entry_eq]
  generalize (lg_sl ([.int x]) ++ List.replicate (1 - (lg_sl ([.int x])).length) Slot.unset).toArray = ls at hl ⊢
  have hl : lv_has ls 1 [(0, .int x)] := hl
  refine q_name (fun Q hQ => ?_)
  generalize ([.int x] : List Value).toArray = args at hts hQ ⊢
  refine lv_iload_n hx hb dX4_lineOf_0 rfl (lv_at hl 0 rfl) ?_
  refine lv_bipush (v := nI 12) hx hb dX4_lineOf_1 (by decide) ?_
  refine lv_irem hx hb dX4_lineOf_3 (by decide) ?_
  refine lv_topi (fun y1 e2 => ?_)
  refine lv_iconst (v := nI 2) hx hb dX4_lineOf_4 (by decide) ?_
  refine lv_idiv hx hb dX4_lineOf_5 (by decide) ?_
  refine lv_topi (fun y3 e4 => ?_)
  rw [hQ]
  exact W.iret (v := y3) hx hb hr (fun t9 ht9 hW9 => ⟨y3, rfl, trivial, ht9⟩) (fun _ h => absurd h List.not_mem_nil) dX4_lineOf_6
set_option maxRecDepth 20000 in
theorem lf_m_search3_1 (r2 : Int32) (p3 : r2 = nI 0 ∨ r2 = nI 1) : narrow .boolean (.int r2) = .int r2 := by
  have h : r2 = 0 ∨ r2 = 1 := by
    have b_r2 := ia_b r2
    try have k_0 := ia_n 0 (by first | decide | omega)
    try have k_1 := ia_n 1 (by first | decide | omega)
    try simp only [ia_lt, ia_le, ia_eq, ia_m1, ia_0, ia_1, ne_eq, true_and, and_true, false_and, and_false, or_false, false_or, or_true, true_or, not_true_eq_false, not_false_eq_true] at *
    all_goals omega
  rcases h with h | h <;> rw [h] <;> rfl
set_option maxRecDepth 20000 in
theorem lf_m_search3_2 (r5 : Int32) (p6 : r5 = nI 0 ∨ r5 = nI 1) : narrow .boolean (.int r5) = .int r5 := by
  have h : r5 = 0 ∨ r5 = 1 := by
    have b_r5 := ia_b r5
    try have k_0 := ia_n 0 (by first | decide | omega)
    try have k_1 := ia_n 1 (by first | decide | omega)
    try simp only [ia_lt, ia_le, ia_eq, ia_m1, ia_0, ia_1, ne_eq, true_and, and_true, false_and, and_false, or_false, false_or, or_true, true_or, not_true_eq_false, not_false_eq_true] at *
    all_goals omega
  rcases h with h | h <;> rw [h] <;> rfl
set_option maxHeartbeats 4000000 in
set_option maxRecDepth 100000 in
theorem c_m_search3 (l : Launch) (dC : Nat → ClassId) (dI : Nat → Nat → Nat) (ky : Nat → ClassId) (me : Nat) (mtried : Nat) (mfound : Nat) (mfoundCount : Nat) (mtriedF : Nat → Int32) (mfoundF : Nat → Int32) (a : Nat) (wide : Nat) (high : Nat) (heat : Int32) (cools : Int32) (skinHeat : Int32) (today : Int32) (stirs : Int32) (steps : Int32) (lumps : Nat) (boats : Nat) (thickness : Nat) (lumpNames : Nat) (lumpCells : Nat) (boatNames : Nat) (boatCells : Nat) (loads : Nat) (spoons : Nat) (spoonsLeft : Nat) (depths : Nat) (x : Int32) (y : Int32) (z : Int32) (iv_mme_0 : mfoundCount ≤ 3) (iv_a_0 : 2 ≤ wide) (iv_a_1 : wide ≤ 6) (iv_a_2 : 2 ≤ high) (iv_a_3 : high ≤ 6) (iv_a_4 : lumps ≤ 6) (iv_a_5 : boats ≤ 6) : Met l yX4_search wsX4_search ({ frames := 2, cells := 0, slots := 0, locals := 36 }) (PcP dC dI ky [.ref me, .ref a, .int x, .int y, .int (nI 3), .int z] [(me, .inr (4, [.ref mtried, .ref mfound, .int (nI mfoundCount)])), (mtried, .inl (ky 0, 3, .inl mtriedF)), (mfound, .inl (ky 0, 3, .inl mfoundF)), (a, .inr (7, [.int (nI wide), .int (nI high), .int heat, .int cools, .int skinHeat, .int today, .int stirs, .int steps, .int (nI lumps), .int (nI boats), .ref thickness, .ref lumpNames, .ref lumpCells, .ref boatNames, .ref boatCells, .ref loads, .ref spoons, .ref spoonsLeft, .ref depths]))]) (vp_Si (fun r : Int32 => r = nI 0 ∨ r = nI 1)) 0 0 (fun _ => False) := by
  refine Met.ofW (cc := cX4_search) (maxL := 10) (ret := (some .boolean)) (by decide) rfl ?_
  intro p e s m args below meth c s₁ B hml hv
  obtain ⟨rfl, hP, hK⟩ := hv
  have hx := B.exec
  have hb := B.bytes
  have hr := B.returns
  have hts := atoms_spec (ws := wsX4_search) B.pre
  have hown : s.vm.findClass RX4 = some m.cls := findClass_of_methodNamed B.named
  have hlocks := B.notSynchronized
  have hl := lv_entry ([.ref me, .ref a, .int x, .int y, .int (nI 3), .int z]) (n := 10) (Nat.le_of_ble_eq_true rfl)
  rw [lg_entry_eq]
  generalize (lg_sl ([.ref me, .ref a, .int x, .int y, .int (nI 3), .int z]) ++ List.replicate (10 - (lg_sl ([.ref me, .ref a, .int x, .int y, .int (nI 3), .int z])).length) Slot.unset).toArray = ls at hl ⊢
  have hl : lv_has ls 10 [(0, .ref me), (1, .ref a), (2, .int x), (3, .int y), (4, .int (nI 3)), (5, .int z)] := hl
  refine q_name (fun Q hQ => ?_)
  generalize ([.ref me, .ref a, .int x, .int y, .int (nI 3), .int z] : List Value).toArray = args at hts hQ ⊢
  refine lv_iload hx hb dX4_search_0 (lv_at hl 4 rfl) ?_
  refine lv_iload hx hb dX4_search_2 (lv_at hl 5 rfl) ?_
  refine lv_icmp_ge (tgt := 13) hx hb dX4_search_4 (by decide) (fun c1 => ?_) (fun c1 => ?_)
  · refine lv_iload_n hx hb dX4_search_13 rfl (lv_at hl 2 rfl) ?_
    refine lv_iload_n hx hb dX4_search_14 rfl (lv_at hl 3 rfl) ?_
    refine vp_callSi (W.runS (As := [.int x, .int y]) (rest := []) ⟨hx, hb, hml, hown, hts⟩ (c_s_areNear l dC dI ky x y) (va_cwS 2 hts gX4_search_X7_areNear rfl rfl rfl (by decide +kernel) ⟨(Nat.le_of_ble_eq_true rfl), (Nat.le_of_ble_eq_true rfl)⟩) (pre_PS hK hP [] rfl) rfl rfl hl.1 rfl (lv_room (Nat.le_of_ble_eq_true rfl)) dX4_search_15 ⟨(Nat.le_of_ble_eq_true rfl), (Nat.le_of_ble_eq_true rfl)⟩) (fun r2 p3 => ?_)
    rw [hQ]
    exact W.zret (v := r2) hx hb hr ((lf_m_search3_1 r2 p3)) (fun t9 ht9 hW9 => ⟨r2, rfl, p3, ht9⟩) (fun _ h => absurd h List.not_mem_nil) dX4_search_18
  · refine lv_iload hx hb dX4_search_7 (lv_at hl 4 rfl) ?_
    refine lv_iconst (v := nI 3) hx hb dX4_search_9 (by decide) ?_
    refine lv_icmp_lt (tgt := 19) hx hb dX4_search_10 (by decide) (fun c4 => absurd c4 (by decide)) (fun c4 => ?_)
    refine lv_iload_n hx hb dX4_search_13 rfl (lv_at hl 2 rfl) ?_
    refine lv_iload_n hx hb dX4_search_14 rfl (lv_at hl 3 rfl) ?_
    refine vp_callSi (W.runS (As := [.int x, .int y]) (rest := []) ⟨hx, hb, hml, hown, hts⟩ (c_s_areNear l dC dI ky x y) (va_cwS 2 hts gX4_search_X7_areNear rfl rfl rfl (by decide +kernel) ⟨(Nat.le_of_ble_eq_true rfl), (Nat.le_of_ble_eq_true rfl)⟩) (pre_PS hK hP [] rfl) rfl rfl hl.1 rfl (lv_room (Nat.le_of_ble_eq_true rfl)) dX4_search_15 ⟨(Nat.le_of_ble_eq_true rfl), (Nat.le_of_ble_eq_true rfl)⟩) (fun r5 p6 => ?_)
    rw [hQ]
    exact W.zret (v := r5) hx hb hr ((lf_m_search3_2 r5 p6)) (fun t9 ht9 hW9 => ⟨r5, rfl, p6, ht9⟩) (fun _ h => absurd h List.not_mem_nil) dX4_search_18
set_option maxRecDepth 20000 in
theorem lf_m_search2_1 (r2 : Int32) (p3 : r2 = nI 0 ∨ r2 = nI 1) : narrow .boolean (.int r2) = .int r2 := by
  have h : r2 = 0 ∨ r2 = 1 := by
    have b_r2 := ia_b r2
    try have k_0 := ia_n 0 (by first | decide | omega)
    try have k_1 := ia_n 1 (by first | decide | omega)
    try simp only [ia_lt, ia_le, ia_eq, ia_m1, ia_0, ia_1, ne_eq, true_and, and_true, false_and, and_false, or_false, false_or, or_true, true_or, not_true_eq_false, not_false_eq_true] at *
    all_goals omega
  rcases h with h | h <;> rw [h] <;> rfl
set_option maxRecDepth 20000 in
theorem lf_m_search2_2   : (nI 0) = nI 0 ∨ (nI 0) = nI 1 := by
  try have k_0 := ia_n 0 (by first | decide | omega)
  try have k_1 := ia_n 1 (by first | decide | omega)
  try simp only [ia_lt, ia_le, ia_eq, ia_m1, ia_0, ia_1, ne_eq, true_and, and_true, false_and, and_false, or_false, false_or, or_true, true_or, not_true_eq_false, not_false_eq_true] at *
  all_goals omega
set_option maxRecDepth 20000 in
theorem lf_m_search2_3 (k11 : Nat) (n15 : Nat) (j13 : k11 ≤ 24) (hm17 : 24 - k11 < n15 + 1) (c18 : k11 < 24) (p20 : True) (p22 : True) (p30 : True) (p32 : True) (p34 : True) (p36 : True) (p38 : True) (p40 : True) : (k11 + 1) ≤ 24 := by
  try simp only [ia_lt, ia_le, ia_eq, ia_m1, ia_0, ia_1, ne_eq, true_and, and_true, false_and, and_false, or_false, false_or, or_true, true_or, not_true_eq_false, not_false_eq_true] at *
  all_goals omega
set_option maxRecDepth 20000 in
theorem lf_m_search2_4 (k11 : Nat) (n15 : Nat) (j13 : k11 ≤ 24) (hm17 : 24 - k11 < n15 + 1) (c18 : k11 < 24) (p20 : True) (p22 : True) (p30 : True) (p32 : True) (p34 : True) (p36 : True) (p38 : True) (p40 : True) : 24 - (k11 + 1) < n15 := by
  try simp only [ia_lt, ia_le, ia_eq, ia_m1, ia_0, ia_1, ne_eq, true_and, and_true, false_and, and_false, or_false, false_or, or_true, true_or, not_true_eq_false, not_false_eq_true] at *
  all_goals omega
set_option maxRecDepth 20000 in
theorem lf_m_search2_5 (k11 : Nat) (n15 : Nat) (j13 : k11 ≤ 24) (hm17 : 24 - k11 < n15 + 1) (c18 : k11 < 24) (p20 : True) (p22 : True) (p30 : True) (p32 : True) (p34 : True) (p36 : True) (p38 : True) (p40 : True) : (k11 + 1) ≤ 24 := by
  try simp only [ia_lt, ia_le, ia_eq, ia_m1, ia_0, ia_1, ne_eq, true_and, and_true, false_and, and_false, or_false, false_or, or_true, true_or, not_true_eq_false, not_false_eq_true] at *
  all_goals omega
set_option maxRecDepth 20000 in
theorem lf_m_search2_6 (k11 : Nat) (n15 : Nat) (j13 : k11 ≤ 24) (hm17 : 24 - k11 < n15 + 1) (c18 : k11 < 24) (p20 : True) (p22 : True) (p30 : True) (p32 : True) (p34 : True) (p36 : True) (p38 : True) (p40 : True) : 24 - (k11 + 1) < n15 := by
  try simp only [ia_lt, ia_le, ia_eq, ia_m1, ia_0, ia_1, ne_eq, true_and, and_true, false_and, and_false, or_false, false_or, or_true, true_or, not_true_eq_false, not_false_eq_true] at *
  all_goals omega
set_option maxRecDepth 20000 in
theorem lf_m_search2_7  (p20 : True) (p22 : True) (p30 : True) (p32 : True) (p34 : True) (p36 : True) (p38 : True) (p40 : True) : (nI 1) = nI 0 ∨ (nI 1) = nI 1 := by
  try have k_0 := ia_n 1 (by first | decide | omega)
  try have k_1 := ia_n 0 (by first | decide | omega)
  try simp only [ia_lt, ia_le, ia_eq, ia_m1, ia_0, ia_1, ne_eq, true_and, and_true, false_and, and_false, or_false, false_or, or_true, true_or, not_true_eq_false, not_false_eq_true] at *
  all_goals omega
set_option maxRecDepth 20000 in
theorem lf_m_search2_8  (p20 : True) (p22 : True) (p30 : True) (p32 : True) (p34 : True) (p36 : True) (p38 : True) (p40 : True) : (nI 1) = nI 0 ∨ (nI 1) = nI 1 := by
  try have k_0 := ia_n 1 (by first | decide | omega)
  try have k_1 := ia_n 0 (by first | decide | omega)
  try simp only [ia_lt, ia_le, ia_eq, ia_m1, ia_0, ia_1, ne_eq, true_and, and_true, false_and, and_false, or_false, false_or, or_true, true_or, not_true_eq_false, not_false_eq_true] at *
  all_goals omega
set_option maxRecDepth 20000 in
theorem lf_m_search2_9  (p20 : True) (p22 : True) (p30 : True) (p32 : True) (p34 : True) (p36 : True) (p38 : True) (p40 : True) : (nI 0) = nI 0 ∨ (nI 0) = nI 1 := by
  try have k_0 := ia_n 0 (by first | decide | omega)
  try have k_1 := ia_n 1 (by first | decide | omega)
  try simp only [ia_lt, ia_le, ia_eq, ia_m1, ia_0, ia_1, ne_eq, true_and, and_true, false_and, and_false, or_false, false_or, or_true, true_or, not_true_eq_false, not_false_eq_true] at *
  all_goals omega
set_option maxRecDepth 20000 in
theorem lf_m_search2_10  (p20 : True) (p22 : True) (p30 : True) (p32 : True) (p34 : True) (p36 : True) (p38 : True) (p40 : True) : (nI 1) = nI 0 ∨ (nI 1) = nI 1 := by
  try have k_0 := ia_n 1 (by first | decide | omega)
  try have k_1 := ia_n 0 (by first | decide | omega)
  try simp only [ia_lt, ia_le, ia_eq, ia_m1, ia_0, ia_1, ne_eq, true_and, and_true, false_and, and_false, or_false, false_or, or_true, true_or, not_true_eq_false, not_false_eq_true] at *
  all_goals omega
set_option maxRecDepth 20000 in
theorem lf_m_search2_11 (k11 : Nat) (n15 : Nat) (j13 : k11 ≤ 24) (hm17 : 24 - k11 < n15 + 1) (c18 : k11 < 24) (p20 : True) (p22 : True) (t27 : True) : (k11 + 1) ≤ 24 := by
  try simp only [ia_lt, ia_le, ia_eq, ia_m1, ia_0, ia_1, ne_eq, true_and, and_true, false_and, and_false, or_false, false_or, or_true, true_or, not_true_eq_false, not_false_eq_true] at *
  all_goals omega
set_option maxRecDepth 20000 in
theorem lf_m_search2_12 (k11 : Nat) (n15 : Nat) (j13 : k11 ≤ 24) (hm17 : 24 - k11 < n15 + 1) (c18 : k11 < 24) (p20 : True) (p22 : True) (t27 : True) : 24 - (k11 + 1) < n15 := by
  try simp only [ia_lt, ia_le, ia_eq, ia_m1, ia_0, ia_1, ne_eq, true_and, and_true, false_and, and_false, or_false, false_or, or_true, true_or, not_true_eq_false, not_false_eq_true] at *
  all_goals omega
set_option maxRecDepth 20000 in
theorem lf_m_search2_13   : 0 ≤ 24 := by
  try simp only [ia_lt, ia_le, ia_eq, ia_m1, ia_0, ia_1, ne_eq, true_and, and_true, false_and, and_false, or_false, false_or, or_true, true_or, not_true_eq_false, not_false_eq_true] at *
  all_goals omega
set_option maxHeartbeats 4000000 in
set_option maxRecDepth 100000 in
theorem c_m_search2 (l : Launch) (dC : Nat → ClassId) (dI : Nat → Nat → Nat) (ky : Nat → ClassId) (sz : Nat) (me : Nat) (mtried : Nat) (mfound : Nat) (mfoundCount : Nat) (mtriedF : Nat → Int32) (mfoundF : Nat → Int32) (a : Nat) (wide : Nat) (high : Nat) (heat : Int32) (cools : Int32) (skinHeat : Int32) (today : Int32) (stirs : Int32) (steps : Int32) (lumps : Nat) (boats : Nat) (thickness : Nat) (lumpNames : Nat) (lumpCells : Nat) (boatNames : Nat) (boatCells : Nat) (loads : Nat) (spoons : Nat) (spoonsLeft : Nat) (depths : Nat) (x : Int32) (y : Int32) (z : Int32) (iv_mme_0 : mfoundCount ≤ 3) (iv_a_0 : 2 ≤ wide) (iv_a_1 : wide ≤ 6) (iv_a_2 : 2 ≤ high) (iv_a_3 : high ≤ 6) (iv_a_4 : lumps ≤ 6) (iv_a_5 : boats ≤ 6) : Met l yX4_search wsX4_search ({ frames := 3, cells := 0, slots := 0, locals := 65 }) (PcU dC dI ky [.ref me, .ref a, .int x, .int y, .int (nI 2), .int z] [(me, .inr (4, [.ref mtried, .ref mfound, .int (nI mfoundCount)])), (mtried, .inl (ky 0, 3, .inl mtriedF)), (mfound, .inl (ky 0, 3, .inl mfoundF)), (a, .inr (7, [.int (nI wide), .int (nI high), .int heat, .int cools, .int skinHeat, .int today, .int stirs, .int steps, .int (nI lumps), .int (nI boats), .ref thickness, .ref lumpNames, .ref lumpCells, .ref boatNames, .ref boatCells, .ref loads, .ref spoons, .ref spoonsLeft, .ref depths]))] sz) (va_Qi (fun (r : Int32) (mtriedG : (Nat → Int32)) => r = nI 0 ∨ r = nI 1) (BU dC dI ky (fun (mtriedG : (Nat → Int32)) => [(me, .inr (4, [.ref mtried, .ref mfound, .int (nI mfoundCount)])), (mtried, .inl (ky 0, 3, .inl mtriedG)), (mfound, .inl (ky 0, 3, .inl mfoundF)), (a, .inr (7, [.int (nI wide), .int (nI high), .int heat, .int cools, .int skinHeat, .int today, .int stirs, .int steps, .int (nI lumps), .int (nI boats), .ref thickness, .ref lumpNames, .ref lumpCells, .ref boatNames, .ref boatCells, .ref loads, .ref spoons, .ref spoonsLeft, .ref depths]))]) (va_A [(me, .inr (4, [.ref mtried, .ref mfound, .int (nI mfoundCount)])), (mtried, .inl (ky 0, 3, .inl mtriedF)), (mfound, .inl (ky 0, 3, .inl mfoundF)), (a, .inr (7, [.int (nI wide), .int (nI high), .int heat, .int cools, .int skinHeat, .int today, .int stirs, .int steps, .int (nI lumps), .int (nI boats), .ref thickness, .ref lumpNames, .ref lumpCells, .ref boatNames, .ref boatCells, .ref loads, .ref spoons, .ref spoonsLeft, .ref depths]))] sz)) (va_A [(me, .inr (4, [.ref mtried, .ref mfound, .int (nI mfoundCount)])), (mtried, .inl (ky 0, 3, .inl mtriedF)), (mfound, .inl (ky 0, 3, .inl mfoundF)), (a, .inr (7, [.int (nI wide), .int (nI high), .int heat, .int cools, .int skinHeat, .int today, .int stirs, .int steps, .int (nI lumps), .int (nI boats), .ref thickness, .ref lumpNames, .ref lumpCells, .ref boatNames, .ref boatCells, .ref loads, .ref spoons, .ref spoonsLeft, .ref depths]))] sz)) 0 0 (va_A [(me, .inr (4, [.ref mtried, .ref mfound, .int (nI mfoundCount)])), (mtried, .inl (ky 0, 3, .inl mtriedF)), (mfound, .inl (ky 0, 3, .inl mfoundF)), (a, .inr (7, [.int (nI wide), .int (nI high), .int heat, .int cools, .int skinHeat, .int today, .int stirs, .int steps, .int (nI lumps), .int (nI boats), .ref thickness, .ref lumpNames, .ref lumpCells, .ref boatNames, .ref boatCells, .ref loads, .ref spoons, .ref spoonsLeft, .ref depths]))] sz) := by
  refine Met.ofW (cc := cX4_search) (maxL := 10) (ret := (some .boolean)) (by decide) rfl ?_
  intro p e s m args below meth c s₁ B hml hv
  obtain ⟨rfl, hsz, hP, hK, hD0⟩ := hv
  have hx := B.exec
  have hb := B.bytes
  have hr := B.returns
  have hts := atoms_spec (ws := wsX4_search) B.pre
  have hown : s.vm.findClass RX4 = some m.cls := findClass_of_methodNamed B.named
  have hlocks := B.notSynchronized
  have hin4 : ∀ w ∈ u_ws RX4 TX4 3, w ∈ wsX4_search := by decide +kernel
  subst hsz
  have hD := hD0.self (sz := s.heap.size)
  generalize hAe : va_A [(me, .inr (4, [.ref mtried, .ref mfound, .int (nI mfoundCount)])), (mtried, .inl (ky 0, 3, .inl mtriedF)), (mfound, .inl (ky 0, 3, .inl mfoundF)), (a, .inr (7, [.int (nI wide), .int (nI high), .int heat, .int cools, .int skinHeat, .int today, .int stirs, .int steps, .int (nI lumps), .int (nI boats), .ref thickness, .ref lumpNames, .ref lumpCells, .ref boatNames, .ref boatCells, .ref loads, .ref spoons, .ref spoonsLeft, .ref depths]))] s.heap.size = A at hD ⊢
  have hA : ∀ q : Nat, s.heap.size ≤ q → A q := fun q h => by rw [← hAe]; exact Or.inr h
  have hS : va_S A s.heap s.heap [] := va_S.rf
  have hl := lv_entry ([.ref me, .ref a, .int x, .int y, .int (nI 2), .int z]) (n := 10) (Nat.le_of_ble_eq_true rfl)
  rw [lg_entry_eq]
  generalize (lg_sl ([.ref me, .ref a, .int x, .int y, .int (nI 2), .int z]) ++ List.replicate (10 - (lg_sl ([.ref me, .ref a, .int x, .int y, .int (nI 2), .int z])).length) Slot.unset).toArray = ls at hl ⊢
  have hl : lv_has ls 10 [(0, .ref me), (1, .ref a), (2, .int x), (3, .int y), (4, .int (nI 2)), (5, .int z)] := hl
  refine q_name (fun Q hQ => ?_)
  generalize ([.ref me, .ref a, .int x, .int y, .int (nI 2), .int z] : List Value).toArray = args at hts hQ ⊢
  refine lv_iload hx hb dX4_search_0 (lv_at hl 4 rfl) ?_
  refine lv_iload hx hb dX4_search_2 (lv_at hl 5 rfl) ?_
  refine lv_icmp_ge (tgt := 13) hx hb dX4_search_4 (by decide) (fun c1 => ?_) (fun c1 => ?_)
  · refine lv_iload_n hx hb dX4_search_13 rfl (lv_at hl 2 rfl) ?_
    refine lv_iload_n hx hb dX4_search_14 rfl (lv_at hl 3 rfl) ?_
    refine vp_callSi (W.runS (As := [.int x, .int y]) (rest := []) ⟨hx, hb, hml, hown, hts⟩ (c_s_areNear l dC dI ky x y) (va_cwS 2 hts gX4_search_X7_areNear rfl rfl rfl (by decide +kernel) ⟨(Nat.le_of_ble_eq_true rfl), (Nat.le_of_ble_eq_true rfl)⟩) (pre_PS hK hP [] rfl) rfl rfl hl.1 rfl (lv_room (Nat.le_of_ble_eq_true rfl)) dX4_search_15 ⟨(Nat.le_of_ble_eq_true rfl), (Nat.le_of_ble_eq_true rfl)⟩) (fun r2 p3 => ?_)
    rw [hQ]
    exact W.zret (v := r2) hx hb hr ((lf_m_search2_1 r2 p3)) (fun t9 ht9 hW9 => ⟨⟨r2, mtriedF, rfl, p3, by rw [ht9]; exact hP, va_K.moved hW9.alike hK, hD⟩, hS.F ht9⟩) hS.2.2 dX4_search_18
  · refine lv_iload hx hb dX4_search_7 (lv_at hl 4 rfl) ?_
    refine lv_iconst (v := nI 3) hx hb dX4_search_9 (by decide) ?_
    refine lv_icmp_lt (tgt := 19) hx hb dX4_search_10 (by decide) (fun c4 => ?_) (fun c4 => absurd (by decide) c4)
    refine lv_iconst (v := nI 0) hx hb dX4_search_19 (by decide) ?_
    refine lv_istore (lv' := [(6, .int (nI 0)), (0, .ref me), (1, .ref a), (2, .int x), (3, .int y), (4, .int (nI 2)), (5, .int z)]) hx hb dX4_search_20 hl (by decide) rfl (fun ls hl => ?_)
    have hL14 : ∀ (n15 : Nat) (k11 : Nat) (f12 : Nat → Int32), (k11 ≤ 24) → 24 - k11 < n15 → ∀ (H : Heap) (locs : List Loc) (ls : Array Slot), va_P (dC, dI) vwCl [(me, .inr (4, [.ref mtried, .ref mfound, .int (nI mfoundCount)])), (mtried, .inl (ky 0, 3, .inl f12)), (mfound, .inl (ky 0, 3, .inl mfoundF)), (a, .inr (7, [.int (nI wide), .int (nI high), .int heat, .int cools, .int skinHeat, .int today, .int stirs, .int steps, .int (nI lumps), .int (nI boats), .ref thickness, .ref lumpNames, .ref lumpCells, .ref boatNames, .ref boatCells, .ref loads, .ref spoons, .ref spoonsLeft, .ref depths]))] H → va_D A [(me, .inr (4, [.ref mtried, .ref mfound, .int (nI mfoundCount)])), (mtried, .inl (ky 0, 3, .inl f12)), (mfound, .inl (ky 0, 3, .inl mfoundF)), (a, .inr (7, [.int (nI wide), .int (nI high), .int heat, .int cools, .int skinHeat, .int today, .int stirs, .int steps, .int (nI lumps), .int (nI boats), .ref thickness, .ref lumpNames, .ref lumpCells, .ref boatNames, .ref boatCells, .ref loads, .ref spoons, .ref spoonsLeft, .ref depths]))] → va_S A s.heap H locs → lv_has ls 10 [(6, .int (nI k11)), (0, .ref me), (1, .ref a), (2, .int x), (3, .int y), (4, .int (nI 2)), (5, .int z)] → W p l e (headSpec wsX4_search ({ frames := 3, cells := 0, slots := 0, locals := 65 })).room s m args below meth c H locs 0 0 Q (F0 m 22 ls []) := by
      intro n15
      induction n15 with
      | zero => intro k11 f12 _ h9; exact absurd h9 (Nat.not_lt_zero _)
      | succ n15 ih16 =>
        intro k11 f12 j13 hm17 H locs ls hP hD hS hl
        refine lv_iload hx hb dX4_search_22 (lv_at hl 0 rfl) ?_
        refine lv_bipush (v := nI 24) hx hb dX4_search_24 (by decide) ?_
        refine n_icmp_ge (x := k11) (y := 24) (tgt := 150) hx hb (by omega) (by omega) dX4_search_26 (by decide) (fun c18 => ?_) (fun c18 => ?_)
        · refine lv_iconst (v := nI 0) hx hb dX4_search_150 (by decide) ?_
          rw [hQ]
          exact W.zret (v := nI 0) hx hb hr (by decide) (fun t9 ht9 hW9 => ⟨⟨nI 0, f12, rfl, (lf_m_search2_2), by rw [ht9]; exact hP, va_K.moved hW9.alike hK, hD⟩, hS.F ht9⟩) hS.2.2 dX4_search_151
        · refine lv_aload_n hx hb dX4_search_29 rfl (lv_at hl 2 rfl) ?_
          refine lv_iload hx hb dX4_search_30 (lv_at hl 0 rfl) ?_
          refine vp_callSi (W.runS (As := [.int (nI k11)]) (rest := [.ref a]) ⟨hx, hb, hml, hown, hts⟩ (c_m_columnOf l dC dI ky (nI k11)) (va_cwS 1 hts gX4_search_X4_columnOf rfl rfl rfl (by decide +kernel) ⟨(Nat.le_of_ble_eq_true rfl), (Nat.le_of_ble_eq_true rfl)⟩) (pre_PS hK hP [] rfl) rfl rfl hl.1 rfl (lv_room (Nat.le_of_ble_eq_true rfl)) dX4_search_32 ⟨(Nat.le_of_ble_eq_true rfl), (Nat.le_of_ble_eq_true rfl)⟩) (fun r19 p20 => ?_)
          refine lv_iload hx hb dX4_search_35 (lv_at hl 0 rfl) ?_
          refine vp_callSi (W.runS (As := [.int (nI k11)]) (rest := [.int r19, .ref a]) ⟨hx, hb, hml, hown, hts⟩ (c_m_lineOf l dC dI ky (nI k11)) (va_cwS 1 hts gX4_search_X4_lineOf rfl rfl rfl (by decide +kernel) ⟨(Nat.le_of_ble_eq_true rfl), (Nat.le_of_ble_eq_true rfl)⟩) (pre_PS hK hP [] rfl) rfl rfl hl.1 rfl (lv_room (Nat.le_of_ble_eq_true rfl)) dX4_search_37 ⟨(Nat.le_of_ble_eq_true rfl), (Nat.le_of_ble_eq_true rfl)⟩) (fun r21 p22 => ?_)
          refine vp_callSi (W.runV (As := [.int r19, .int r21]) (rest := []) ⟨hx, hb, hml, hown, hts⟩ (c_s_isLine l dC dI ky a wide high heat cools skinHeat today stirs steps lumps boats thickness lumpNames lumpCells boatNames boatCells loads spoons spoonsLeft depths r19 r21 iv_a_0 iv_a_1 iv_a_2 iv_a_3 iv_a_4 iv_a_5) (cwV 2 hts gX4_search_X7_isLine rfl rfl rfl (by decide +kernel) ⟨(Nat.le_of_ble_eq_true rfl), (Nat.le_of_ble_eq_true rfl)⟩) (pre_PV hK hP [3] rfl (ci := 7) (q0 := 3) rfl rfl) rfl rfl hl.1 rfl (lv_room (Nat.le_of_ble_eq_true rfl)) dX4_search_40 ⟨(Nat.le_of_ble_eq_true rfl), (Nat.le_of_ble_eq_true rfl)⟩) (fun r23 p24 => ?_)
          rcases p24 with ⟨rfl, t25, t26⟩ | ⟨rfl, t27⟩
          · refine lv_if_ne (tgt := 49) hx hb dX4_search_43 (by decide) (fun c28 => ?_) (fun c28 => absurd c28 (by decide))
            refine lv_aload_n hx hb dX4_search_49 rfl (lv_at hl 2 rfl) ?_
            refine lv_iload_n hx hb dX4_search_50 rfl (lv_at hl 3 rfl) ?_
            refine lv_iload hx hb dX4_search_51 (lv_at hl 0 rfl) ?_
            refine vp_callSi (W.runS (As := [.int (nI k11)]) (rest := [.int x, .ref a]) ⟨hx, hb, hml, hown, hts⟩ (c_m_columnOf l dC dI ky (nI k11)) (va_cwS 1 hts gX4_search_X4_columnOf rfl rfl rfl (by decide +kernel) ⟨(Nat.le_of_ble_eq_true rfl), (Nat.le_of_ble_eq_true rfl)⟩) (pre_PS hK hP [] rfl) rfl rfl hl.1 rfl (lv_room (Nat.le_of_ble_eq_true rfl)) dX4_search_53 ⟨(Nat.le_of_ble_eq_true rfl), (Nat.le_of_ble_eq_true rfl)⟩) (fun r29 p30 => ?_)
            refine lv_iload hx hb dX4_search_56 (lv_at hl 0 rfl) ?_
            refine vp_callSi (W.runS (As := [.int (nI k11)]) (rest := [.int r29, .int x, .ref a]) ⟨hx, hb, hml, hown, hts⟩ (c_m_lineOf l dC dI ky (nI k11)) (va_cwS 1 hts gX4_search_X4_lineOf rfl rfl rfl (by decide +kernel) ⟨(Nat.le_of_ble_eq_true rfl), (Nat.le_of_ble_eq_true rfl)⟩) (pre_PS hK hP [] rfl) rfl rfl hl.1 rfl (lv_room (Nat.le_of_ble_eq_true rfl)) dX4_search_58 ⟨(Nat.le_of_ble_eq_true rfl), (Nat.le_of_ble_eq_true rfl)⟩) (fun r31 p32 => ?_)
            refine lv_iload hx hb dX4_search_61 (lv_at hl 0 rfl) ?_
            refine lv_iconst (v := nI 2) hx hb dX4_search_63 (by decide) ?_
            refine lv_irem hx hb dX4_search_64 (by decide) ?_
            refine r_ti (nI (k11 % 2)) (pk_rem (by omega) (by omega) (by omega)) ?_
            refine vp_callSi (W.runV (As := [.int x, .int r29, .int r31, .int (nI (k11 % 2))]) (rest := []) ⟨hx, hb, hml, hown, hts⟩ (c_s_stirredTo l dC dI ky a wide high heat cools skinHeat today stirs steps lumps boats thickness lumpNames lumpCells boatNames boatCells loads spoons spoonsLeft depths x r29 r31 (nI (k11 % 2)) iv_a_0 iv_a_1 iv_a_2 iv_a_3 iv_a_4 iv_a_5) (cwV 4 hts gX4_search_X7_stirredTo rfl rfl rfl (by decide +kernel) ⟨(Nat.le_of_ble_eq_true rfl), (Nat.le_of_ble_eq_true rfl)⟩) (pre_PV hK hP [3] rfl (ci := 7) (q0 := 3) rfl rfl) rfl rfl hl.1 rfl (lv_room (Nat.le_of_ble_eq_true rfl)) dX4_search_65 ⟨(Nat.le_of_ble_eq_true rfl), (Nat.le_of_ble_eq_true rfl)⟩) (fun r33 p34 => ?_)
            refine lv_istore (lv' := [(7, .int r33), (6, .int (nI k11)), (0, .ref me), (1, .ref a), (2, .int x), (3, .int y), (4, .int (nI 2)), (5, .int z)]) hx hb dX4_search_68 hl (by decide) rfl (fun ls hl => ?_)
            refine lv_aload_n hx hb dX4_search_70 rfl (lv_at hl 3 rfl) ?_
            refine lv_iload_n hx hb dX4_search_71 rfl (lv_at hl 5 rfl) ?_
            refine lv_iload hx hb dX4_search_72 (lv_at hl 1 rfl) ?_
            refine vp_callSi (W.runS (As := [.int (nI k11)]) (rest := [.int y, .ref a]) ⟨hx, hb, hml, hown, hts⟩ (c_m_columnOf l dC dI ky (nI k11)) (va_cwS 1 hts gX4_search_X4_columnOf rfl rfl rfl (by decide +kernel) ⟨(Nat.le_of_ble_eq_true rfl), (Nat.le_of_ble_eq_true rfl)⟩) (pre_PS hK hP [] rfl) rfl rfl hl.1 rfl (lv_room (Nat.le_of_ble_eq_true rfl)) dX4_search_74 ⟨(Nat.le_of_ble_eq_true rfl), (Nat.le_of_ble_eq_true rfl)⟩) (fun r35 p36 => ?_)
            refine lv_iload hx hb dX4_search_77 (lv_at hl 1 rfl) ?_
            refine vp_callSi (W.runS (As := [.int (nI k11)]) (rest := [.int r35, .int y, .ref a]) ⟨hx, hb, hml, hown, hts⟩ (c_m_lineOf l dC dI ky (nI k11)) (va_cwS 1 hts gX4_search_X4_lineOf rfl rfl rfl (by decide +kernel) ⟨(Nat.le_of_ble_eq_true rfl), (Nat.le_of_ble_eq_true rfl)⟩) (pre_PS hK hP [] rfl) rfl rfl hl.1 rfl (lv_room (Nat.le_of_ble_eq_true rfl)) dX4_search_79 ⟨(Nat.le_of_ble_eq_true rfl), (Nat.le_of_ble_eq_true rfl)⟩) (fun r37 p38 => ?_)
            refine lv_iload hx hb dX4_search_82 (lv_at hl 1 rfl) ?_
            refine lv_iconst (v := nI 2) hx hb dX4_search_84 (by decide) ?_
            refine lv_irem hx hb dX4_search_85 (by decide) ?_
            refine r_ti (nI (k11 % 2)) (pk_rem (by omega) (by omega) (by omega)) ?_
            refine vp_callSi (W.runV (As := [.int y, .int r35, .int r37, .int (nI (k11 % 2))]) (rest := []) ⟨hx, hb, hml, hown, hts⟩ (c_s_stirredTo l dC dI ky a wide high heat cools skinHeat today stirs steps lumps boats thickness lumpNames lumpCells boatNames boatCells loads spoons spoonsLeft depths y r35 r37 (nI (k11 % 2)) iv_a_0 iv_a_1 iv_a_2 iv_a_3 iv_a_4 iv_a_5) (cwV 4 hts gX4_search_X7_stirredTo rfl rfl rfl (by decide +kernel) ⟨(Nat.le_of_ble_eq_true rfl), (Nat.le_of_ble_eq_true rfl)⟩) (pre_PV hK hP [3] rfl (ci := 7) (q0 := 3) rfl rfl) rfl rfl hl.1 rfl (lv_room (Nat.le_of_ble_eq_true rfl)) dX4_search_86 ⟨(Nat.le_of_ble_eq_true rfl), (Nat.le_of_ble_eq_true rfl)⟩) (fun r39 p40 => ?_)
            refine lv_istore (lv' := [(8, .int r39), (7, .int r33), (6, .int (nI k11)), (0, .ref me), (1, .ref a), (2, .int x), (3, .int y), (4, .int (nI 2)), (5, .int z)]) hx hb dX4_search_89 hl (by decide) rfl (fun ls hl => ?_)
            refine lv_iload hx hb dX4_search_91 (lv_at hl 1 rfl) ?_
            refine lv_iload_n hx hb dX4_search_93 rfl (lv_at hl 5 rfl) ?_
            have hJ44 : ∀ (x42 : Int32), (x42 = nI 0 ∨ x42 = nI 1) → ∀ (H : Heap) (locs : List Loc) (ls : Array Slot), va_P (dC, dI) vwCl [(me, .inr (4, [.ref mtried, .ref mfound, .int (nI mfoundCount)])), (mtried, .inl (ky 0, 3, .inl f12)), (mfound, .inl (ky 0, 3, .inl mfoundF)), (a, .inr (7, [.int (nI wide), .int (nI high), .int heat, .int cools, .int skinHeat, .int today, .int stirs, .int steps, .int (nI lumps), .int (nI boats), .ref thickness, .ref lumpNames, .ref lumpCells, .ref boatNames, .ref boatCells, .ref loads, .ref spoons, .ref spoonsLeft, .ref depths]))] H → va_D A [(me, .inr (4, [.ref mtried, .ref mfound, .int (nI mfoundCount)])), (mtried, .inl (ky 0, 3, .inl f12)), (mfound, .inl (ky 0, 3, .inl mfoundF)), (a, .inr (7, [.int (nI wide), .int (nI high), .int heat, .int cools, .int skinHeat, .int today, .int stirs, .int steps, .int (nI lumps), .int (nI boats), .ref thickness, .ref lumpNames, .ref lumpCells, .ref boatNames, .ref boatCells, .ref loads, .ref spoons, .ref spoonsLeft, .ref depths]))] → va_S A s.heap H locs → lv_has ls 10 [(8, .int r39), (7, .int r33), (6, .int (nI k11)), (0, .ref me), (1, .ref a), (2, .int x), (3, .int y), (4, .int (nI 2)), (5, .int z)] → W p l e (headSpec wsX4_search ({ frames := 3, cells := 0, slots := 0, locals := 65 })).room s m args below meth c H locs 0 0 Q (F0 m 108 ls [.int x42]) := by
              intro x42 j43 H locs ls hP hD hS hl
              refine lv_istore (lv' := [(9, .int x42), (8, .int r39), (7, .int r33), (6, .int (nI k11)), (0, .ref me), (1, .ref a), (2, .int x), (3, .int y), (4, .int (nI 2)), (5, .int z)]) hx hb dX4_search_108 hl (by decide) rfl (fun ls hl => ?_)
              refine lv_aload_n hx hb dX4_search_110 rfl (lv_at hl 4 rfl) ?_
              refine va_get (D := (dC, dI)) (ci := 4) (v := .ref mtried) (C := RX4) (T := TX4) (N := 3) hx hb hts hin4 hown hK hP 0 rfl rfl 0 (by decide) (hts (.fieldLink RX4 11 "PorridgeSea$Meeting" "tried" "[I") (List.mem_of_getElem? (i := 1) rfl)) (fun _ h9 => h9) rfl dX4_search_111 ?_
              refine lv_iload hx hb dX4_search_114 (lv_at hl 8 rfl) ?_
              refine lv_iload hx hb dX4_search_116 (lv_at hl 3 rfl) ?_
              refine r_iast (x := (nI k11)) hx hb hK hP hD hS 1 rfl 2 (by decide) (by decide) dX4_search_118 (fun H locs hP hD hS => ?_)
              obtain ⟨g45, e46⟩ : ∃ z9, z9 = upd f12 2 (nI k11) := ⟨_, rfl⟩
              rw [← e46] at hP hD
              have hP : va_P (dC, dI) vwCl [(me, .inr (4, [.ref mtried, .ref mfound, .int (nI mfoundCount)])), (mtried, .inl (ky 0, 3, .inl g45)), (mfound, .inl (ky 0, 3, .inl mfoundF)), (a, .inr (7, [.int (nI wide), .int (nI high), .int heat, .int cools, .int skinHeat, .int today, .int stirs, .int steps, .int (nI lumps), .int (nI boats), .ref thickness, .ref lumpNames, .ref lumpCells, .ref boatNames, .ref boatCells, .ref loads, .ref spoons, .ref spoonsLeft, .ref depths]))] H := hP
              have hD : va_D A [(me, .inr (4, [.ref mtried, .ref mfound, .int (nI mfoundCount)])), (mtried, .inl (ky 0, 3, .inl g45)), (mfound, .inl (ky 0, 3, .inl mfoundF)), (a, .inr (7, [.int (nI wide), .int (nI high), .int heat, .int cools, .int skinHeat, .int today, .int stirs, .int steps, .int (nI lumps), .int (nI boats), .ref thickness, .ref lumpNames, .ref lumpCells, .ref boatNames, .ref boatCells, .ref loads, .ref spoons, .ref spoonsLeft, .ref depths]))] := hD
              refine lv_iload hx hb dX4_search_119 (lv_at hl 0 rfl) ?_
              refine lv_if_eq (tgt := 144) hx hb dX4_search_121 (by decide) (fun c47 => ?_) (fun c47 => ?_)
              · refine lv_iinc (v := nI (k11 + 1)) (lv' := [(6, .int (nI (k11 + 1))), (9, .int x42), (8, .int r39), (7, .int r33), (0, .ref me), (1, .ref a), (2, .int x), (3, .int y), (4, .int (nI 2)), (5, .int z)]) hx hb dX4_search_144 hl (k := 3) rfl (show nI k11 + nI 1 = nI (k11 + 1) from nI_add _ _) (by decide) rfl (fun ls hl => ?_)
                refine lv_goto (tgt := 22) hx hb dX4_search_147 (by decide) ?_
                exact ih16 (k11 + 1) g45 (lf_m_search2_3 k11 n15 j13 hm17 c18 p20 p22 p30 p32 p34 p36 p38 p40) (lf_m_search2_4 k11 n15 j13 hm17 c18 p20 p22 p30 p32 p34 p36 p38 p40) _ _ _ hP hD hS (lv_sub hl [0, 4, 5, 6, 7, 8, 9] rfl)
              · refine lv_aload_n hx hb dX4_search_124 rfl (lv_at hl 4 rfl) ?_
                refine lv_aload_n hx hb dX4_search_125 rfl (lv_at hl 5 rfl) ?_
                refine lv_iload hx hb dX4_search_126 (lv_at hl 2 rfl) ?_
                refine lv_iload hx hb dX4_search_128 (lv_at hl 1 rfl) ?_
                refine lv_iload hx hb dX4_search_130 (lv_at hl 8 rfl) ?_
                refine lv_iconst (v := nI 1) hx hb dX4_search_132 (by decide) ?_
                refine lv_iadd hx hb dX4_search_133 ?_
                refine r_ti (nI 3) (by decide) ?_
                refine lv_iload hx hb dX4_search_134 (lv_at hl 9 rfl) ?_
                refine vp_callSi (W.runV (As := [.ref a, .int r33, .int r39, .int (nI 3), .int z]) (rest := []) ⟨hx, hb, hml, hown, hts⟩ (c_m_search3 l dC dI ky me mtried mfound mfoundCount g45 mfoundF a wide high heat cools skinHeat today stirs steps lumps boats thickness lumpNames lumpCells boatNames boatCells loads spoons spoonsLeft depths r33 r39 z iv_mme_0 iv_a_0 iv_a_1 iv_a_2 iv_a_3 iv_a_4 iv_a_5) (cwV 5 hts gX4_search_X4_search rfl rfl rfl (by decide +kernel) ⟨(Nat.le_of_ble_eq_true rfl), (Nat.le_of_ble_eq_true rfl)⟩) (pre_PV hK hP [0, 1, 2, 3] rfl (ci := 4) (q0 := 0) rfl rfl) rfl rfl hl.1 rfl (lv_room (Nat.le_of_ble_eq_true rfl)) dX4_search_136 ⟨(Nat.le_of_ble_eq_true rfl), (Nat.le_of_ble_eq_true rfl)⟩) (fun r48 p49 => ?_)
                refine lv_if_eq (tgt := 144) hx hb dX4_search_139 (by decide) (fun c50 => ?_) (fun c50 => ?_)
                · refine lv_iinc (v := nI (k11 + 1)) (lv' := [(6, .int (nI (k11 + 1))), (9, .int x42), (8, .int r39), (7, .int r33), (0, .ref me), (1, .ref a), (2, .int x), (3, .int y), (4, .int (nI 2)), (5, .int z)]) hx hb dX4_search_144 hl (k := 3) rfl (show nI k11 + nI 1 = nI (k11 + 1) from nI_add _ _) (by decide) rfl (fun ls hl => ?_)
                  refine lv_goto (tgt := 22) hx hb dX4_search_147 (by decide) ?_
                  exact ih16 (k11 + 1) g45 (lf_m_search2_5 k11 n15 j13 hm17 c18 p20 p22 p30 p32 p34 p36 p38 p40) (lf_m_search2_6 k11 n15 j13 hm17 c18 p20 p22 p30 p32 p34 p36 p38 p40) _ _ _ hP hD hS (lv_sub hl [0, 4, 5, 6, 7, 8, 9] rfl)
                · refine lv_iconst (v := nI 1) hx hb dX4_search_142 (by decide) ?_
                  rw [hQ]
                  exact W.zret (v := nI 1) hx hb hr (by decide) (fun t9 ht9 hW9 => ⟨⟨nI 1, g45, rfl, (lf_m_search2_7 p20 p22 p30 p32 p34 p36 p38 p40), by rw [ht9]; exact hP, va_K.moved hW9.alike hK, hD⟩, hS.F ht9⟩) hS.2.2 dX4_search_143
            refine lv_icmp_ne (tgt := 103) hx hb dX4_search_94 (by decide) (fun c41 => ?_) (fun c41 => ?_)
            · refine lv_iconst (v := nI 1) hx hb dX4_search_103 (by decide) ?_
              refine lv_goto (tgt := 108) hx hb dX4_search_104 (by decide) ?_
              exact hJ44 (nI 1) (lf_m_search2_8 p20 p22 p30 p32 p34 p36 p38 p40) _ _ _ hP hD hS (lv_sub hl [0, 1, 2, 3, 4, 5, 6, 7, 8] rfl)
            · refine lv_iload hx hb dX4_search_97 (lv_at hl 0 rfl) ?_
              refine lv_iload_n hx hb dX4_search_99 rfl (lv_at hl 6 rfl) ?_
              refine lv_icmp_eq (tgt := 107) hx hb dX4_search_100 (by decide) (fun c51 => ?_) (fun c51 => ?_)
              · refine lv_iconst (v := nI 0) hx hb dX4_search_107 (by decide) ?_
                exact hJ44 (nI 0) (lf_m_search2_9 p20 p22 p30 p32 p34 p36 p38 p40) _ _ _ hP hD hS (lv_sub hl [0, 1, 2, 3, 4, 5, 6, 7, 8] rfl)
              · refine lv_iconst (v := nI 1) hx hb dX4_search_103 (by decide) ?_
                refine lv_goto (tgt := 108) hx hb dX4_search_104 (by decide) ?_
                exact hJ44 (nI 1) (lf_m_search2_10 p20 p22 p30 p32 p34 p36 p38 p40) _ _ _ hP hD hS (lv_sub hl [0, 1, 2, 3, 4, 5, 6, 7, 8] rfl)
          · refine lv_if_ne (tgt := 49) hx hb dX4_search_43 (by decide) (fun c52 => absurd c52 (by decide)) (fun c52 => ?_)
            refine lv_goto (tgt := 144) hx hb dX4_search_46 (by decide) ?_
            refine lv_iinc (v := nI (k11 + 1)) (lv' := [(6, .int (nI (k11 + 1))), (0, .ref me), (1, .ref a), (2, .int x), (3, .int y), (4, .int (nI 2)), (5, .int z)]) hx hb dX4_search_144 hl (k := 0) rfl (show nI k11 + nI 1 = nI (k11 + 1) from nI_add _ _) (by decide) rfl (fun ls hl => ?_)
            refine lv_goto (tgt := 22) hx hb dX4_search_147 (by decide) ?_
            exact ih16 (k11 + 1) f12 (lf_m_search2_11 k11 n15 j13 hm17 c18 p20 p22 t27) (lf_m_search2_12 k11 n15 j13 hm17 c18 p20 p22 t27) _ _ _ hP hD hS (lv_sub hl [0, 1, 2, 3, 4, 5, 6] rfl)
    exact hL14 ((24 - 0) + 1) 0 mtriedF (lf_m_search2_13) (Nat.lt_succ_self _) _ _ _ hP hD hS (lv_sub hl [0, 1, 2, 3, 4, 5, 6] rfl)
set_option maxRecDepth 20000 in
theorem lf_m_search1_1 (r2 : Int32) (p3 : r2 = nI 0 ∨ r2 = nI 1) : narrow .boolean (.int r2) = .int r2 := by
  have h : r2 = 0 ∨ r2 = 1 := by
    have b_r2 := ia_b r2
    try have k_0 := ia_n 0 (by first | decide | omega)
    try have k_1 := ia_n 1 (by first | decide | omega)
    try simp only [ia_lt, ia_le, ia_eq, ia_m1, ia_0, ia_1, ne_eq, true_and, and_true, false_and, and_false, or_false, false_or, or_true, true_or, not_true_eq_false, not_false_eq_true] at *
    all_goals omega
  rcases h with h | h <;> rw [h] <;> rfl
set_option maxRecDepth 20000 in
theorem lf_m_search1_2   : (nI 0) = nI 0 ∨ (nI 0) = nI 1 := by
  try have k_0 := ia_n 0 (by first | decide | omega)
  try have k_1 := ia_n 1 (by first | decide | omega)
  try simp only [ia_lt, ia_le, ia_eq, ia_m1, ia_0, ia_1, ne_eq, true_and, and_true, false_and, and_false, or_false, false_or, or_true, true_or, not_true_eq_false, not_false_eq_true] at *
  all_goals omega
set_option maxRecDepth 20000 in
theorem lf_m_search1_3 (k11 : Nat) (n15 : Nat) (j13 : k11 ≤ 24) (hm17 : 24 - k11 < n15 + 1) (c18 : k11 < 24) (p20 : True) (p22 : True) (p30 : True) (p32 : True) (p34 : True) (p36 : True) (p38 : True) (p40 : True) : (k11 + 1) ≤ 24 := by
  try simp only [ia_lt, ia_le, ia_eq, ia_m1, ia_0, ia_1, ne_eq, true_and, and_true, false_and, and_false, or_false, false_or, or_true, true_or, not_true_eq_false, not_false_eq_true] at *
  all_goals omega
set_option maxRecDepth 20000 in
theorem lf_m_search1_4 (k11 : Nat) (n15 : Nat) (j13 : k11 ≤ 24) (hm17 : 24 - k11 < n15 + 1) (c18 : k11 < 24) (p20 : True) (p22 : True) (p30 : True) (p32 : True) (p34 : True) (p36 : True) (p38 : True) (p40 : True) : 24 - (k11 + 1) < n15 := by
  try simp only [ia_lt, ia_le, ia_eq, ia_m1, ia_0, ia_1, ne_eq, true_and, and_true, false_and, and_false, or_false, false_or, or_true, true_or, not_true_eq_false, not_false_eq_true] at *
  all_goals omega
set_option maxRecDepth 20000 in
theorem lf_m_search1_5 (k11 : Nat) (n15 : Nat) (j13 : k11 ≤ 24) (hm17 : 24 - k11 < n15 + 1) (c18 : k11 < 24) (p20 : True) (p22 : True) (p30 : True) (p32 : True) (p34 : True) (p36 : True) (p38 : True) (p40 : True) : (k11 + 1) ≤ 24 := by
  try simp only [ia_lt, ia_le, ia_eq, ia_m1, ia_0, ia_1, ne_eq, true_and, and_true, false_and, and_false, or_false, false_or, or_true, true_or, not_true_eq_false, not_false_eq_true] at *
  all_goals omega
set_option maxRecDepth 20000 in
theorem lf_m_search1_6 (k11 : Nat) (n15 : Nat) (j13 : k11 ≤ 24) (hm17 : 24 - k11 < n15 + 1) (c18 : k11 < 24) (p20 : True) (p22 : True) (p30 : True) (p32 : True) (p34 : True) (p36 : True) (p38 : True) (p40 : True) : 24 - (k11 + 1) < n15 := by
  try simp only [ia_lt, ia_le, ia_eq, ia_m1, ia_0, ia_1, ne_eq, true_and, and_true, false_and, and_false, or_false, false_or, or_true, true_or, not_true_eq_false, not_false_eq_true] at *
  all_goals omega
set_option maxRecDepth 20000 in
theorem lf_m_search1_7  (p20 : True) (p22 : True) (p30 : True) (p32 : True) (p34 : True) (p36 : True) (p38 : True) (p40 : True) : (nI 1) = nI 0 ∨ (nI 1) = nI 1 := by
  try have k_0 := ia_n 1 (by first | decide | omega)
  try have k_1 := ia_n 0 (by first | decide | omega)
  try simp only [ia_lt, ia_le, ia_eq, ia_m1, ia_0, ia_1, ne_eq, true_and, and_true, false_and, and_false, or_false, false_or, or_true, true_or, not_true_eq_false, not_false_eq_true] at *
  all_goals omega
set_option maxRecDepth 20000 in
theorem lf_m_search1_8  (p20 : True) (p22 : True) (p30 : True) (p32 : True) (p34 : True) (p36 : True) (p38 : True) (p40 : True) : (nI 1) = nI 0 ∨ (nI 1) = nI 1 := by
  try have k_0 := ia_n 1 (by first | decide | omega)
  try have k_1 := ia_n 0 (by first | decide | omega)
  try simp only [ia_lt, ia_le, ia_eq, ia_m1, ia_0, ia_1, ne_eq, true_and, and_true, false_and, and_false, or_false, false_or, or_true, true_or, not_true_eq_false, not_false_eq_true] at *
  all_goals omega
set_option maxRecDepth 20000 in
theorem lf_m_search1_9  (p20 : True) (p22 : True) (p30 : True) (p32 : True) (p34 : True) (p36 : True) (p38 : True) (p40 : True) : (nI 0) = nI 0 ∨ (nI 0) = nI 1 := by
  try have k_0 := ia_n 0 (by first | decide | omega)
  try have k_1 := ia_n 1 (by first | decide | omega)
  try simp only [ia_lt, ia_le, ia_eq, ia_m1, ia_0, ia_1, ne_eq, true_and, and_true, false_and, and_false, or_false, false_or, or_true, true_or, not_true_eq_false, not_false_eq_true] at *
  all_goals omega
set_option maxRecDepth 20000 in
theorem lf_m_search1_10  (p20 : True) (p22 : True) (p30 : True) (p32 : True) (p34 : True) (p36 : True) (p38 : True) (p40 : True) : (nI 1) = nI 0 ∨ (nI 1) = nI 1 := by
  try have k_0 := ia_n 1 (by first | decide | omega)
  try have k_1 := ia_n 0 (by first | decide | omega)
  try simp only [ia_lt, ia_le, ia_eq, ia_m1, ia_0, ia_1, ne_eq, true_and, and_true, false_and, and_false, or_false, false_or, or_true, true_or, not_true_eq_false, not_false_eq_true] at *
  all_goals omega
set_option maxRecDepth 20000 in
theorem lf_m_search1_11 (k11 : Nat) (n15 : Nat) (j13 : k11 ≤ 24) (hm17 : 24 - k11 < n15 + 1) (c18 : k11 < 24) (p20 : True) (p22 : True) (t27 : True) : (k11 + 1) ≤ 24 := by
  try simp only [ia_lt, ia_le, ia_eq, ia_m1, ia_0, ia_1, ne_eq, true_and, and_true, false_and, and_false, or_false, false_or, or_true, true_or, not_true_eq_false, not_false_eq_true] at *
  all_goals omega
set_option maxRecDepth 20000 in
theorem lf_m_search1_12 (k11 : Nat) (n15 : Nat) (j13 : k11 ≤ 24) (hm17 : 24 - k11 < n15 + 1) (c18 : k11 < 24) (p20 : True) (p22 : True) (t27 : True) : 24 - (k11 + 1) < n15 := by
  try simp only [ia_lt, ia_le, ia_eq, ia_m1, ia_0, ia_1, ne_eq, true_and, and_true, false_and, and_false, or_false, false_or, or_true, true_or, not_true_eq_false, not_false_eq_true] at *
  all_goals omega
set_option maxRecDepth 20000 in
theorem lf_m_search1_13   : 0 ≤ 24 := by
  try simp only [ia_lt, ia_le, ia_eq, ia_m1, ia_0, ia_1, ne_eq, true_and, and_true, false_and, and_false, or_false, false_or, or_true, true_or, not_true_eq_false, not_false_eq_true] at *
  all_goals omega
set_option maxHeartbeats 4000000 in
set_option maxRecDepth 100000 in
theorem c_m_search1 (l : Launch) (dC : Nat → ClassId) (dI : Nat → Nat → Nat) (ky : Nat → ClassId) (sz : Nat) (me : Nat) (mtried : Nat) (mfound : Nat) (mfoundCount : Nat) (mtriedF : Nat → Int32) (mfoundF : Nat → Int32) (a : Nat) (wide : Nat) (high : Nat) (heat : Int32) (cools : Int32) (skinHeat : Int32) (today : Int32) (stirs : Int32) (steps : Int32) (lumps : Nat) (boats : Nat) (thickness : Nat) (lumpNames : Nat) (lumpCells : Nat) (boatNames : Nat) (boatCells : Nat) (loads : Nat) (spoons : Nat) (spoonsLeft : Nat) (depths : Nat) (x : Int32) (y : Int32) (z : Int32) (iv_mme_0 : mfoundCount ≤ 3) (iv_a_0 : 2 ≤ wide) (iv_a_1 : wide ≤ 6) (iv_a_2 : 2 ≤ high) (iv_a_3 : high ≤ 6) (iv_a_4 : lumps ≤ 6) (iv_a_5 : boats ≤ 6) : Met l yX4_search wsX4_search ({ frames := 4, cells := 0, slots := 0, locals := 94 }) (PcU dC dI ky [.ref me, .ref a, .int x, .int y, .int (nI 1), .int z] [(me, .inr (4, [.ref mtried, .ref mfound, .int (nI mfoundCount)])), (mtried, .inl (ky 0, 3, .inl mtriedF)), (mfound, .inl (ky 0, 3, .inl mfoundF)), (a, .inr (7, [.int (nI wide), .int (nI high), .int heat, .int cools, .int skinHeat, .int today, .int stirs, .int steps, .int (nI lumps), .int (nI boats), .ref thickness, .ref lumpNames, .ref lumpCells, .ref boatNames, .ref boatCells, .ref loads, .ref spoons, .ref spoonsLeft, .ref depths]))] sz) (va_Qi (fun (r : Int32) (mtriedG : (Nat → Int32)) => r = nI 0 ∨ r = nI 1) (BU dC dI ky (fun (mtriedG : (Nat → Int32)) => [(me, .inr (4, [.ref mtried, .ref mfound, .int (nI mfoundCount)])), (mtried, .inl (ky 0, 3, .inl mtriedG)), (mfound, .inl (ky 0, 3, .inl mfoundF)), (a, .inr (7, [.int (nI wide), .int (nI high), .int heat, .int cools, .int skinHeat, .int today, .int stirs, .int steps, .int (nI lumps), .int (nI boats), .ref thickness, .ref lumpNames, .ref lumpCells, .ref boatNames, .ref boatCells, .ref loads, .ref spoons, .ref spoonsLeft, .ref depths]))]) (va_A [(me, .inr (4, [.ref mtried, .ref mfound, .int (nI mfoundCount)])), (mtried, .inl (ky 0, 3, .inl mtriedF)), (mfound, .inl (ky 0, 3, .inl mfoundF)), (a, .inr (7, [.int (nI wide), .int (nI high), .int heat, .int cools, .int skinHeat, .int today, .int stirs, .int steps, .int (nI lumps), .int (nI boats), .ref thickness, .ref lumpNames, .ref lumpCells, .ref boatNames, .ref boatCells, .ref loads, .ref spoons, .ref spoonsLeft, .ref depths]))] sz)) (va_A [(me, .inr (4, [.ref mtried, .ref mfound, .int (nI mfoundCount)])), (mtried, .inl (ky 0, 3, .inl mtriedF)), (mfound, .inl (ky 0, 3, .inl mfoundF)), (a, .inr (7, [.int (nI wide), .int (nI high), .int heat, .int cools, .int skinHeat, .int today, .int stirs, .int steps, .int (nI lumps), .int (nI boats), .ref thickness, .ref lumpNames, .ref lumpCells, .ref boatNames, .ref boatCells, .ref loads, .ref spoons, .ref spoonsLeft, .ref depths]))] sz)) 0 0 (va_A [(me, .inr (4, [.ref mtried, .ref mfound, .int (nI mfoundCount)])), (mtried, .inl (ky 0, 3, .inl mtriedF)), (mfound, .inl (ky 0, 3, .inl mfoundF)), (a, .inr (7, [.int (nI wide), .int (nI high), .int heat, .int cools, .int skinHeat, .int today, .int stirs, .int steps, .int (nI lumps), .int (nI boats), .ref thickness, .ref lumpNames, .ref lumpCells, .ref boatNames, .ref boatCells, .ref loads, .ref spoons, .ref spoonsLeft, .ref depths]))] sz) := by
  refine Met.ofW (cc := cX4_search) (maxL := 10) (ret := (some .boolean)) (by decide) rfl ?_
  intro p e s m args below meth c s₁ B hml hv
  obtain ⟨rfl, hsz, hP, hK, hD0⟩ := hv
  have hx := B.exec
  have hb := B.bytes
  have hr := B.returns
  have hts := atoms_spec (ws := wsX4_search) B.pre
  have hown : s.vm.findClass RX4 = some m.cls := findClass_of_methodNamed B.named
  have hlocks := B.notSynchronized
  have hin4 : ∀ w ∈ u_ws RX4 TX4 3, w ∈ wsX4_search := by decide +kernel
  subst hsz
  have hD := hD0.self (sz := s.heap.size)
  generalize hAe : va_A [(me, .inr (4, [.ref mtried, .ref mfound, .int (nI mfoundCount)])), (mtried, .inl (ky 0, 3, .inl mtriedF)), (mfound, .inl (ky 0, 3, .inl mfoundF)), (a, .inr (7, [.int (nI wide), .int (nI high), .int heat, .int cools, .int skinHeat, .int today, .int stirs, .int steps, .int (nI lumps), .int (nI boats), .ref thickness, .ref lumpNames, .ref lumpCells, .ref boatNames, .ref boatCells, .ref loads, .ref spoons, .ref spoonsLeft, .ref depths]))] s.heap.size = A at hD ⊢
  have hA : ∀ q : Nat, s.heap.size ≤ q → A q := fun q h => by rw [← hAe]; exact Or.inr h
  have hS : va_S A s.heap s.heap [] := va_S.rf
  have hl := lv_entry ([.ref me, .ref a, .int x, .int y, .int (nI 1), .int z]) (n := 10) (Nat.le_of_ble_eq_true rfl)
  rw [lg_entry_eq]
  generalize (lg_sl ([.ref me, .ref a, .int x, .int y, .int (nI 1), .int z]) ++ List.replicate (10 - (lg_sl ([.ref me, .ref a, .int x, .int y, .int (nI 1), .int z])).length) Slot.unset).toArray = ls at hl ⊢
  have hl : lv_has ls 10 [(0, .ref me), (1, .ref a), (2, .int x), (3, .int y), (4, .int (nI 1)), (5, .int z)] := hl
  refine q_name (fun Q hQ => ?_)
  generalize ([.ref me, .ref a, .int x, .int y, .int (nI 1), .int z] : List Value).toArray = args at hts hQ ⊢
  refine lv_iload hx hb dX4_search_0 (lv_at hl 4 rfl) ?_
  refine lv_iload hx hb dX4_search_2 (lv_at hl 5 rfl) ?_
  refine lv_icmp_ge (tgt := 13) hx hb dX4_search_4 (by decide) (fun c1 => ?_) (fun c1 => ?_)
  · refine lv_iload_n hx hb dX4_search_13 rfl (lv_at hl 2 rfl) ?_
    refine lv_iload_n hx hb dX4_search_14 rfl (lv_at hl 3 rfl) ?_
    refine vp_callSi (W.runS (As := [.int x, .int y]) (rest := []) ⟨hx, hb, hml, hown, hts⟩ (c_s_areNear l dC dI ky x y) (va_cwS 2 hts gX4_search_X7_areNear rfl rfl rfl (by decide +kernel) ⟨(Nat.le_of_ble_eq_true rfl), (Nat.le_of_ble_eq_true rfl)⟩) (pre_PS hK hP [] rfl) rfl rfl hl.1 rfl (lv_room (Nat.le_of_ble_eq_true rfl)) dX4_search_15 ⟨(Nat.le_of_ble_eq_true rfl), (Nat.le_of_ble_eq_true rfl)⟩) (fun r2 p3 => ?_)
    rw [hQ]
    exact W.zret (v := r2) hx hb hr ((lf_m_search1_1 r2 p3)) (fun t9 ht9 hW9 => ⟨⟨r2, mtriedF, rfl, p3, by rw [ht9]; exact hP, va_K.moved hW9.alike hK, hD⟩, hS.F ht9⟩) hS.2.2 dX4_search_18
  · refine lv_iload hx hb dX4_search_7 (lv_at hl 4 rfl) ?_
    refine lv_iconst (v := nI 3) hx hb dX4_search_9 (by decide) ?_
    refine lv_icmp_lt (tgt := 19) hx hb dX4_search_10 (by decide) (fun c4 => ?_) (fun c4 => absurd (by decide) c4)
    refine lv_iconst (v := nI 0) hx hb dX4_search_19 (by decide) ?_
    refine lv_istore (lv' := [(6, .int (nI 0)), (0, .ref me), (1, .ref a), (2, .int x), (3, .int y), (4, .int (nI 1)), (5, .int z)]) hx hb dX4_search_20 hl (by decide) rfl (fun ls hl => ?_)
    have hL14 : ∀ (n15 : Nat) (k11 : Nat) (f12 : Nat → Int32), (k11 ≤ 24) → 24 - k11 < n15 → ∀ (H : Heap) (locs : List Loc) (ls : Array Slot), va_P (dC, dI) vwCl [(me, .inr (4, [.ref mtried, .ref mfound, .int (nI mfoundCount)])), (mtried, .inl (ky 0, 3, .inl f12)), (mfound, .inl (ky 0, 3, .inl mfoundF)), (a, .inr (7, [.int (nI wide), .int (nI high), .int heat, .int cools, .int skinHeat, .int today, .int stirs, .int steps, .int (nI lumps), .int (nI boats), .ref thickness, .ref lumpNames, .ref lumpCells, .ref boatNames, .ref boatCells, .ref loads, .ref spoons, .ref spoonsLeft, .ref depths]))] H → va_D A [(me, .inr (4, [.ref mtried, .ref mfound, .int (nI mfoundCount)])), (mtried, .inl (ky 0, 3, .inl f12)), (mfound, .inl (ky 0, 3, .inl mfoundF)), (a, .inr (7, [.int (nI wide), .int (nI high), .int heat, .int cools, .int skinHeat, .int today, .int stirs, .int steps, .int (nI lumps), .int (nI boats), .ref thickness, .ref lumpNames, .ref lumpCells, .ref boatNames, .ref boatCells, .ref loads, .ref spoons, .ref spoonsLeft, .ref depths]))] → va_S A s.heap H locs → lv_has ls 10 [(6, .int (nI k11)), (0, .ref me), (1, .ref a), (2, .int x), (3, .int y), (4, .int (nI 1)), (5, .int z)] → W p l e (headSpec wsX4_search ({ frames := 4, cells := 0, slots := 0, locals := 94 })).room s m args below meth c H locs 0 0 Q (F0 m 22 ls []) := by
      intro n15
      induction n15 with
      | zero => intro k11 f12 _ h9; exact absurd h9 (Nat.not_lt_zero _)
      | succ n15 ih16 =>
        intro k11 f12 j13 hm17 H locs ls hP hD hS hl
        refine lv_iload hx hb dX4_search_22 (lv_at hl 0 rfl) ?_
        refine lv_bipush (v := nI 24) hx hb dX4_search_24 (by decide) ?_
        refine n_icmp_ge (x := k11) (y := 24) (tgt := 150) hx hb (by omega) (by omega) dX4_search_26 (by decide) (fun c18 => ?_) (fun c18 => ?_)
        · refine lv_iconst (v := nI 0) hx hb dX4_search_150 (by decide) ?_
          rw [hQ]
          exact W.zret (v := nI 0) hx hb hr (by decide) (fun t9 ht9 hW9 => ⟨⟨nI 0, f12, rfl, (lf_m_search1_2), by rw [ht9]; exact hP, va_K.moved hW9.alike hK, hD⟩, hS.F ht9⟩) hS.2.2 dX4_search_151
        · refine lv_aload_n hx hb dX4_search_29 rfl (lv_at hl 2 rfl) ?_
          refine lv_iload hx hb dX4_search_30 (lv_at hl 0 rfl) ?_
          refine vp_callSi (W.runS (As := [.int (nI k11)]) (rest := [.ref a]) ⟨hx, hb, hml, hown, hts⟩ (c_m_columnOf l dC dI ky (nI k11)) (va_cwS 1 hts gX4_search_X4_columnOf rfl rfl rfl (by decide +kernel) ⟨(Nat.le_of_ble_eq_true rfl), (Nat.le_of_ble_eq_true rfl)⟩) (pre_PS hK hP [] rfl) rfl rfl hl.1 rfl (lv_room (Nat.le_of_ble_eq_true rfl)) dX4_search_32 ⟨(Nat.le_of_ble_eq_true rfl), (Nat.le_of_ble_eq_true rfl)⟩) (fun r19 p20 => ?_)
          refine lv_iload hx hb dX4_search_35 (lv_at hl 0 rfl) ?_
          refine vp_callSi (W.runS (As := [.int (nI k11)]) (rest := [.int r19, .ref a]) ⟨hx, hb, hml, hown, hts⟩ (c_m_lineOf l dC dI ky (nI k11)) (va_cwS 1 hts gX4_search_X4_lineOf rfl rfl rfl (by decide +kernel) ⟨(Nat.le_of_ble_eq_true rfl), (Nat.le_of_ble_eq_true rfl)⟩) (pre_PS hK hP [] rfl) rfl rfl hl.1 rfl (lv_room (Nat.le_of_ble_eq_true rfl)) dX4_search_37 ⟨(Nat.le_of_ble_eq_true rfl), (Nat.le_of_ble_eq_true rfl)⟩) (fun r21 p22 => ?_)
          refine vp_callSi (W.runV (As := [.int r19, .int r21]) (rest := []) ⟨hx, hb, hml, hown, hts⟩ (c_s_isLine l dC dI ky a wide high heat cools skinHeat today stirs steps lumps boats thickness lumpNames lumpCells boatNames boatCells loads spoons spoonsLeft depths r19 r21 iv_a_0 iv_a_1 iv_a_2 iv_a_3 iv_a_4 iv_a_5) (cwV 2 hts gX4_search_X7_isLine rfl rfl rfl (by decide +kernel) ⟨(Nat.le_of_ble_eq_true rfl), (Nat.le_of_ble_eq_true rfl)⟩) (pre_PV hK hP [3] rfl (ci := 7) (q0 := 3) rfl rfl) rfl rfl hl.1 rfl (lv_room (Nat.le_of_ble_eq_true rfl)) dX4_search_40 ⟨(Nat.le_of_ble_eq_true rfl), (Nat.le_of_ble_eq_true rfl)⟩) (fun r23 p24 => ?_)
          rcases p24 with ⟨rfl, t25, t26⟩ | ⟨rfl, t27⟩
          · refine lv_if_ne (tgt := 49) hx hb dX4_search_43 (by decide) (fun c28 => ?_) (fun c28 => absurd c28 (by decide))
            refine lv_aload_n hx hb dX4_search_49 rfl (lv_at hl 2 rfl) ?_
            refine lv_iload_n hx hb dX4_search_50 rfl (lv_at hl 3 rfl) ?_
            refine lv_iload hx hb dX4_search_51 (lv_at hl 0 rfl) ?_
            refine vp_callSi (W.runS (As := [.int (nI k11)]) (rest := [.int x, .ref a]) ⟨hx, hb, hml, hown, hts⟩ (c_m_columnOf l dC dI ky (nI k11)) (va_cwS 1 hts gX4_search_X4_columnOf rfl rfl rfl (by decide +kernel) ⟨(Nat.le_of_ble_eq_true rfl), (Nat.le_of_ble_eq_true rfl)⟩) (pre_PS hK hP [] rfl) rfl rfl hl.1 rfl (lv_room (Nat.le_of_ble_eq_true rfl)) dX4_search_53 ⟨(Nat.le_of_ble_eq_true rfl), (Nat.le_of_ble_eq_true rfl)⟩) (fun r29 p30 => ?_)
            refine lv_iload hx hb dX4_search_56 (lv_at hl 0 rfl) ?_
            refine vp_callSi (W.runS (As := [.int (nI k11)]) (rest := [.int r29, .int x, .ref a]) ⟨hx, hb, hml, hown, hts⟩ (c_m_lineOf l dC dI ky (nI k11)) (va_cwS 1 hts gX4_search_X4_lineOf rfl rfl rfl (by decide +kernel) ⟨(Nat.le_of_ble_eq_true rfl), (Nat.le_of_ble_eq_true rfl)⟩) (pre_PS hK hP [] rfl) rfl rfl hl.1 rfl (lv_room (Nat.le_of_ble_eq_true rfl)) dX4_search_58 ⟨(Nat.le_of_ble_eq_true rfl), (Nat.le_of_ble_eq_true rfl)⟩) (fun r31 p32 => ?_)
            refine lv_iload hx hb dX4_search_61 (lv_at hl 0 rfl) ?_
            refine lv_iconst (v := nI 2) hx hb dX4_search_63 (by decide) ?_
            refine lv_irem hx hb dX4_search_64 (by decide) ?_
            refine r_ti (nI (k11 % 2)) (pk_rem (by omega) (by omega) (by omega)) ?_
            refine vp_callSi (W.runV (As := [.int x, .int r29, .int r31, .int (nI (k11 % 2))]) (rest := []) ⟨hx, hb, hml, hown, hts⟩ (c_s_stirredTo l dC dI ky a wide high heat cools skinHeat today stirs steps lumps boats thickness lumpNames lumpCells boatNames boatCells loads spoons spoonsLeft depths x r29 r31 (nI (k11 % 2)) iv_a_0 iv_a_1 iv_a_2 iv_a_3 iv_a_4 iv_a_5) (cwV 4 hts gX4_search_X7_stirredTo rfl rfl rfl (by decide +kernel) ⟨(Nat.le_of_ble_eq_true rfl), (Nat.le_of_ble_eq_true rfl)⟩) (pre_PV hK hP [3] rfl (ci := 7) (q0 := 3) rfl rfl) rfl rfl hl.1 rfl (lv_room (Nat.le_of_ble_eq_true rfl)) dX4_search_65 ⟨(Nat.le_of_ble_eq_true rfl), (Nat.le_of_ble_eq_true rfl)⟩) (fun r33 p34 => ?_)
            refine lv_istore (lv' := [(7, .int r33), (6, .int (nI k11)), (0, .ref me), (1, .ref a), (2, .int x), (3, .int y), (4, .int (nI 1)), (5, .int z)]) hx hb dX4_search_68 hl (by decide) rfl (fun ls hl => ?_)
            refine lv_aload_n hx hb dX4_search_70 rfl (lv_at hl 3 rfl) ?_
            refine lv_iload_n hx hb dX4_search_71 rfl (lv_at hl 5 rfl) ?_
            refine lv_iload hx hb dX4_search_72 (lv_at hl 1 rfl) ?_
            refine vp_callSi (W.runS (As := [.int (nI k11)]) (rest := [.int y, .ref a]) ⟨hx, hb, hml, hown, hts⟩ (c_m_columnOf l dC dI ky (nI k11)) (va_cwS 1 hts gX4_search_X4_columnOf rfl rfl rfl (by decide +kernel) ⟨(Nat.le_of_ble_eq_true rfl), (Nat.le_of_ble_eq_true rfl)⟩) (pre_PS hK hP [] rfl) rfl rfl hl.1 rfl (lv_room (Nat.le_of_ble_eq_true rfl)) dX4_search_74 ⟨(Nat.le_of_ble_eq_true rfl), (Nat.le_of_ble_eq_true rfl)⟩) (fun r35 p36 => ?_)
            refine lv_iload hx hb dX4_search_77 (lv_at hl 1 rfl) ?_
            refine vp_callSi (W.runS (As := [.int (nI k11)]) (rest := [.int r35, .int y, .ref a]) ⟨hx, hb, hml, hown, hts⟩ (c_m_lineOf l dC dI ky (nI k11)) (va_cwS 1 hts gX4_search_X4_lineOf rfl rfl rfl (by decide +kernel) ⟨(Nat.le_of_ble_eq_true rfl), (Nat.le_of_ble_eq_true rfl)⟩) (pre_PS hK hP [] rfl) rfl rfl hl.1 rfl (lv_room (Nat.le_of_ble_eq_true rfl)) dX4_search_79 ⟨(Nat.le_of_ble_eq_true rfl), (Nat.le_of_ble_eq_true rfl)⟩) (fun r37 p38 => ?_)
            refine lv_iload hx hb dX4_search_82 (lv_at hl 1 rfl) ?_
            refine lv_iconst (v := nI 2) hx hb dX4_search_84 (by decide) ?_
            refine lv_irem hx hb dX4_search_85 (by decide) ?_
            refine r_ti (nI (k11 % 2)) (pk_rem (by omega) (by omega) (by omega)) ?_
            refine vp_callSi (W.runV (As := [.int y, .int r35, .int r37, .int (nI (k11 % 2))]) (rest := []) ⟨hx, hb, hml, hown, hts⟩ (c_s_stirredTo l dC dI ky a wide high heat cools skinHeat today stirs steps lumps boats thickness lumpNames lumpCells boatNames boatCells loads spoons spoonsLeft depths y r35 r37 (nI (k11 % 2)) iv_a_0 iv_a_1 iv_a_2 iv_a_3 iv_a_4 iv_a_5) (cwV 4 hts gX4_search_X7_stirredTo rfl rfl rfl (by decide +kernel) ⟨(Nat.le_of_ble_eq_true rfl), (Nat.le_of_ble_eq_true rfl)⟩) (pre_PV hK hP [3] rfl (ci := 7) (q0 := 3) rfl rfl) rfl rfl hl.1 rfl (lv_room (Nat.le_of_ble_eq_true rfl)) dX4_search_86 ⟨(Nat.le_of_ble_eq_true rfl), (Nat.le_of_ble_eq_true rfl)⟩) (fun r39 p40 => ?_)
            refine lv_istore (lv' := [(8, .int r39), (7, .int r33), (6, .int (nI k11)), (0, .ref me), (1, .ref a), (2, .int x), (3, .int y), (4, .int (nI 1)), (5, .int z)]) hx hb dX4_search_89 hl (by decide) rfl (fun ls hl => ?_)
            refine lv_iload hx hb dX4_search_91 (lv_at hl 1 rfl) ?_
            refine lv_iload_n hx hb dX4_search_93 rfl (lv_at hl 5 rfl) ?_
            have hJ44 : ∀ (x42 : Int32), (x42 = nI 0 ∨ x42 = nI 1) → ∀ (H : Heap) (locs : List Loc) (ls : Array Slot), va_P (dC, dI) vwCl [(me, .inr (4, [.ref mtried, .ref mfound, .int (nI mfoundCount)])), (mtried, .inl (ky 0, 3, .inl f12)), (mfound, .inl (ky 0, 3, .inl mfoundF)), (a, .inr (7, [.int (nI wide), .int (nI high), .int heat, .int cools, .int skinHeat, .int today, .int stirs, .int steps, .int (nI lumps), .int (nI boats), .ref thickness, .ref lumpNames, .ref lumpCells, .ref boatNames, .ref boatCells, .ref loads, .ref spoons, .ref spoonsLeft, .ref depths]))] H → va_D A [(me, .inr (4, [.ref mtried, .ref mfound, .int (nI mfoundCount)])), (mtried, .inl (ky 0, 3, .inl f12)), (mfound, .inl (ky 0, 3, .inl mfoundF)), (a, .inr (7, [.int (nI wide), .int (nI high), .int heat, .int cools, .int skinHeat, .int today, .int stirs, .int steps, .int (nI lumps), .int (nI boats), .ref thickness, .ref lumpNames, .ref lumpCells, .ref boatNames, .ref boatCells, .ref loads, .ref spoons, .ref spoonsLeft, .ref depths]))] → va_S A s.heap H locs → lv_has ls 10 [(8, .int r39), (7, .int r33), (6, .int (nI k11)), (0, .ref me), (1, .ref a), (2, .int x), (3, .int y), (4, .int (nI 1)), (5, .int z)] → W p l e (headSpec wsX4_search ({ frames := 4, cells := 0, slots := 0, locals := 94 })).room s m args below meth c H locs 0 0 Q (F0 m 108 ls [.int x42]) := by
              intro x42 j43 H locs ls hP hD hS hl
              refine lv_istore (lv' := [(9, .int x42), (8, .int r39), (7, .int r33), (6, .int (nI k11)), (0, .ref me), (1, .ref a), (2, .int x), (3, .int y), (4, .int (nI 1)), (5, .int z)]) hx hb dX4_search_108 hl (by decide) rfl (fun ls hl => ?_)
              refine lv_aload_n hx hb dX4_search_110 rfl (lv_at hl 4 rfl) ?_
              refine va_get (D := (dC, dI)) (ci := 4) (v := .ref mtried) (C := RX4) (T := TX4) (N := 3) hx hb hts hin4 hown hK hP 0 rfl rfl 0 (by decide) (hts (.fieldLink RX4 11 "PorridgeSea$Meeting" "tried" "[I") (List.mem_of_getElem? (i := 1) rfl)) (fun _ h9 => h9) rfl dX4_search_111 ?_
              refine lv_iload hx hb dX4_search_114 (lv_at hl 8 rfl) ?_
              refine lv_iload hx hb dX4_search_116 (lv_at hl 3 rfl) ?_
              refine r_iast (x := (nI k11)) hx hb hK hP hD hS 1 rfl 1 (by decide) (by decide) dX4_search_118 (fun H locs hP hD hS => ?_)
              obtain ⟨g45, e46⟩ : ∃ z9, z9 = upd f12 1 (nI k11) := ⟨_, rfl⟩
              rw [← e46] at hP hD
              have hP : va_P (dC, dI) vwCl [(me, .inr (4, [.ref mtried, .ref mfound, .int (nI mfoundCount)])), (mtried, .inl (ky 0, 3, .inl g45)), (mfound, .inl (ky 0, 3, .inl mfoundF)), (a, .inr (7, [.int (nI wide), .int (nI high), .int heat, .int cools, .int skinHeat, .int today, .int stirs, .int steps, .int (nI lumps), .int (nI boats), .ref thickness, .ref lumpNames, .ref lumpCells, .ref boatNames, .ref boatCells, .ref loads, .ref spoons, .ref spoonsLeft, .ref depths]))] H := hP
              have hD : va_D A [(me, .inr (4, [.ref mtried, .ref mfound, .int (nI mfoundCount)])), (mtried, .inl (ky 0, 3, .inl g45)), (mfound, .inl (ky 0, 3, .inl mfoundF)), (a, .inr (7, [.int (nI wide), .int (nI high), .int heat, .int cools, .int skinHeat, .int today, .int stirs, .int steps, .int (nI lumps), .int (nI boats), .ref thickness, .ref lumpNames, .ref lumpCells, .ref boatNames, .ref boatCells, .ref loads, .ref spoons, .ref spoonsLeft, .ref depths]))] := hD
              refine lv_iload hx hb dX4_search_119 (lv_at hl 0 rfl) ?_
              refine lv_if_eq (tgt := 144) hx hb dX4_search_121 (by decide) (fun c47 => ?_) (fun c47 => ?_)
              · refine lv_iinc (v := nI (k11 + 1)) (lv' := [(6, .int (nI (k11 + 1))), (9, .int x42), (8, .int r39), (7, .int r33), (0, .ref me), (1, .ref a), (2, .int x), (3, .int y), (4, .int (nI 1)), (5, .int z)]) hx hb dX4_search_144 hl (k := 3) rfl (show nI k11 + nI 1 = nI (k11 + 1) from nI_add _ _) (by decide) rfl (fun ls hl => ?_)
                refine lv_goto (tgt := 22) hx hb dX4_search_147 (by decide) ?_
                exact ih16 (k11 + 1) g45 (lf_m_search1_3 k11 n15 j13 hm17 c18 p20 p22 p30 p32 p34 p36 p38 p40) (lf_m_search1_4 k11 n15 j13 hm17 c18 p20 p22 p30 p32 p34 p36 p38 p40) _ _ _ hP hD hS (lv_sub hl [0, 4, 5, 6, 7, 8, 9] rfl)
              · refine lv_aload_n hx hb dX4_search_124 rfl (lv_at hl 4 rfl) ?_
                refine lv_aload_n hx hb dX4_search_125 rfl (lv_at hl 5 rfl) ?_
                refine lv_iload hx hb dX4_search_126 (lv_at hl 2 rfl) ?_
                refine lv_iload hx hb dX4_search_128 (lv_at hl 1 rfl) ?_
                refine lv_iload hx hb dX4_search_130 (lv_at hl 8 rfl) ?_
                refine lv_iconst (v := nI 1) hx hb dX4_search_132 (by decide) ?_
                refine lv_iadd hx hb dX4_search_133 ?_
                refine r_ti (nI 2) (by decide) ?_
                refine lv_iload hx hb dX4_search_134 (lv_at hl 9 rfl) ?_
                refine r_call_i (wr := []) (va_runV (As := [.ref a, .int r33, .int r39, .int (nI 2), .int z]) (rest := []) ⟨hx, hb, hml, hown, hts⟩ (c_m_search2 l dC dI ky H.size me mtried mfound mfoundCount g45 mfoundF a wide high heat cools skinHeat today stirs steps lumps boats thickness lumpNames lumpCells boatNames boatCells loads spoons spoonsLeft depths r33 r39 z iv_mme_0 iv_a_0 iv_a_1 iv_a_2 iv_a_3 iv_a_4 iv_a_5) (cwV 5 hts gX4_search_X4_search rfl rfl rfl (by decide +kernel) ⟨(Nat.le_of_ble_eq_true rfl), (Nat.le_of_ble_eq_true rfl)⟩) (pre_UV hK hP hD [0, 1, 2, 3] (by decide) rfl (ci := 4) (q0 := 0) rfl rfl) rfl rfl hl.1 rfl (lv_room (Nat.le_of_ble_eq_true rfl)) dX4_search_136 ⟨(Nat.le_of_ble_eq_true rfl), (Nat.le_of_ble_eq_true rfl)⟩) hP hD hS hA [0, 1, 2, 3] [] rfl rfl (by decide) (by decide) (fun r50 u48 H locs p49 hP hD hS => ?_)
                obtain ⟨mtriedG_51, rfl⟩ : ∃ z, z = u48 := ⟨_, rfl⟩
                try dsimp only at p49
                have p52 := p49
                refine W.widen (k := 0) (n := 0) (Nat.le_of_ble_eq_true rfl) (Nat.le_of_ble_eq_true rfl) ?_
                have hP : va_P (dC, dI) vwCl [(me, .inr (4, [.ref mtried, .ref mfound, .int (nI mfoundCount)])), (mtried, .inl (ky 0, 3, .inl mtriedG_51)), (mfound, .inl (ky 0, 3, .inl mfoundF)), (a, .inr (7, [.int (nI wide), .int (nI high), .int heat, .int cools, .int skinHeat, .int today, .int stirs, .int steps, .int (nI lumps), .int (nI boats), .ref thickness, .ref lumpNames, .ref lumpCells, .ref boatNames, .ref boatCells, .ref loads, .ref spoons, .ref spoonsLeft, .ref depths]))] H := hP
                have hD : va_D A [(me, .inr (4, [.ref mtried, .ref mfound, .int (nI mfoundCount)])), (mtried, .inl (ky 0, 3, .inl mtriedG_51)), (mfound, .inl (ky 0, 3, .inl mfoundF)), (a, .inr (7, [.int (nI wide), .int (nI high), .int heat, .int cools, .int skinHeat, .int today, .int stirs, .int steps, .int (nI lumps), .int (nI boats), .ref thickness, .ref lumpNames, .ref lumpCells, .ref boatNames, .ref boatCells, .ref loads, .ref spoons, .ref spoonsLeft, .ref depths]))] := hD
                refine lv_if_eq (tgt := 144) hx hb dX4_search_139 (by decide) (fun c53 => ?_) (fun c53 => ?_)
                · refine lv_iinc (v := nI (k11 + 1)) (lv' := [(6, .int (nI (k11 + 1))), (9, .int x42), (8, .int r39), (7, .int r33), (0, .ref me), (1, .ref a), (2, .int x), (3, .int y), (4, .int (nI 1)), (5, .int z)]) hx hb dX4_search_144 hl (k := 3) rfl (show nI k11 + nI 1 = nI (k11 + 1) from nI_add _ _) (by decide) rfl (fun ls hl => ?_)
                  refine lv_goto (tgt := 22) hx hb dX4_search_147 (by decide) ?_
                  exact ih16 (k11 + 1) mtriedG_51 (lf_m_search1_5 k11 n15 j13 hm17 c18 p20 p22 p30 p32 p34 p36 p38 p40) (lf_m_search1_6 k11 n15 j13 hm17 c18 p20 p22 p30 p32 p34 p36 p38 p40) _ _ _ hP hD hS (lv_sub hl [0, 4, 5, 6, 7, 8, 9] rfl)
                · refine lv_iconst (v := nI 1) hx hb dX4_search_142 (by decide) ?_
                  rw [hQ]
                  exact W.zret (v := nI 1) hx hb hr (by decide) (fun t9 ht9 hW9 => ⟨⟨nI 1, mtriedG_51, rfl, (lf_m_search1_7 p20 p22 p30 p32 p34 p36 p38 p40), by rw [ht9]; exact hP, va_K.moved hW9.alike hK, hD⟩, hS.F ht9⟩) hS.2.2 dX4_search_143
            refine lv_icmp_ne (tgt := 103) hx hb dX4_search_94 (by decide) (fun c41 => ?_) (fun c41 => ?_)
            · refine lv_iconst (v := nI 1) hx hb dX4_search_103 (by decide) ?_
              refine lv_goto (tgt := 108) hx hb dX4_search_104 (by decide) ?_
              exact hJ44 (nI 1) (lf_m_search1_8 p20 p22 p30 p32 p34 p36 p38 p40) _ _ _ hP hD hS (lv_sub hl [0, 1, 2, 3, 4, 5, 6, 7, 8] rfl)
            · refine lv_iload hx hb dX4_search_97 (lv_at hl 0 rfl) ?_
              refine lv_iload_n hx hb dX4_search_99 rfl (lv_at hl 6 rfl) ?_
              refine lv_icmp_eq (tgt := 107) hx hb dX4_search_100 (by decide) (fun c54 => ?_) (fun c54 => ?_)
              · refine lv_iconst (v := nI 0) hx hb dX4_search_107 (by decide) ?_
                exact hJ44 (nI 0) (lf_m_search1_9 p20 p22 p30 p32 p34 p36 p38 p40) _ _ _ hP hD hS (lv_sub hl [0, 1, 2, 3, 4, 5, 6, 7, 8] rfl)
              · refine lv_iconst (v := nI 1) hx hb dX4_search_103 (by decide) ?_
                refine lv_goto (tgt := 108) hx hb dX4_search_104 (by decide) ?_
                exact hJ44 (nI 1) (lf_m_search1_10 p20 p22 p30 p32 p34 p36 p38 p40) _ _ _ hP hD hS (lv_sub hl [0, 1, 2, 3, 4, 5, 6, 7, 8] rfl)
          · refine lv_if_ne (tgt := 49) hx hb dX4_search_43 (by decide) (fun c55 => absurd c55 (by decide)) (fun c55 => ?_)
            refine lv_goto (tgt := 144) hx hb dX4_search_46 (by decide) ?_
            refine lv_iinc (v := nI (k11 + 1)) (lv' := [(6, .int (nI (k11 + 1))), (0, .ref me), (1, .ref a), (2, .int x), (3, .int y), (4, .int (nI 1)), (5, .int z)]) hx hb dX4_search_144 hl (k := 0) rfl (show nI k11 + nI 1 = nI (k11 + 1) from nI_add _ _) (by decide) rfl (fun ls hl => ?_)
            refine lv_goto (tgt := 22) hx hb dX4_search_147 (by decide) ?_
            exact ih16 (k11 + 1) f12 (lf_m_search1_11 k11 n15 j13 hm17 c18 p20 p22 t27) (lf_m_search1_12 k11 n15 j13 hm17 c18 p20 p22 t27) _ _ _ hP hD hS (lv_sub hl [0, 1, 2, 3, 4, 5, 6] rfl)
    exact hL14 ((24 - 0) + 1) 0 mtriedF (lf_m_search1_13) (Nat.lt_succ_self _) _ _ _ hP hD hS (lv_sub hl [0, 1, 2, 3, 4, 5, 6] rfl)
set_option maxRecDepth 20000 in
theorem lf_m_search0_1 (r2 : Int32) (p3 : r2 = nI 0 ∨ r2 = nI 1) : narrow .boolean (.int r2) = .int r2 := by
  have h : r2 = 0 ∨ r2 = 1 := by
    have b_r2 := ia_b r2
    try have k_0 := ia_n 0 (by first | decide | omega)
    try have k_1 := ia_n 1 (by first | decide | omega)
    try simp only [ia_lt, ia_le, ia_eq, ia_m1, ia_0, ia_1, ne_eq, true_and, and_true, false_and, and_false, or_false, false_or, or_true, true_or, not_true_eq_false, not_false_eq_true] at *
    all_goals omega
  rcases h with h | h <;> rw [h] <;> rfl
set_option maxRecDepth 20000 in
theorem lf_m_search0_2   : (nI 0) = nI 0 ∨ (nI 0) = nI 1 := by
  try have k_0 := ia_n 0 (by first | decide | omega)
  try have k_1 := ia_n 1 (by first | decide | omega)
  try simp only [ia_lt, ia_le, ia_eq, ia_m1, ia_0, ia_1, ne_eq, true_and, and_true, false_and, and_false, or_false, false_or, or_true, true_or, not_true_eq_false, not_false_eq_true] at *
  all_goals omega
set_option maxRecDepth 20000 in
theorem lf_m_search0_3 (k11 : Nat) (n15 : Nat) (j13 : k11 ≤ 24) (hm17 : 24 - k11 < n15 + 1) (c18 : k11 < 24) (p20 : True) (p22 : True) (p30 : True) (p32 : True) (p34 : True) (p36 : True) (p38 : True) (p40 : True) : (k11 + 1) ≤ 24 := by
  try simp only [ia_lt, ia_le, ia_eq, ia_m1, ia_0, ia_1, ne_eq, true_and, and_true, false_and, and_false, or_false, false_or, or_true, true_or, not_true_eq_false, not_false_eq_true] at *
  all_goals omega
set_option maxRecDepth 20000 in
theorem lf_m_search0_4 (k11 : Nat) (n15 : Nat) (j13 : k11 ≤ 24) (hm17 : 24 - k11 < n15 + 1) (c18 : k11 < 24) (p20 : True) (p22 : True) (p30 : True) (p32 : True) (p34 : True) (p36 : True) (p38 : True) (p40 : True) : 24 - (k11 + 1) < n15 := by
  try simp only [ia_lt, ia_le, ia_eq, ia_m1, ia_0, ia_1, ne_eq, true_and, and_true, false_and, and_false, or_false, false_or, or_true, true_or, not_true_eq_false, not_false_eq_true] at *
  all_goals omega
set_option maxRecDepth 20000 in
theorem lf_m_search0_5 (k11 : Nat) (n15 : Nat) (j13 : k11 ≤ 24) (hm17 : 24 - k11 < n15 + 1) (c18 : k11 < 24) (p20 : True) (p22 : True) (p30 : True) (p32 : True) (p34 : True) (p36 : True) (p38 : True) (p40 : True) : (k11 + 1) ≤ 24 := by
  try simp only [ia_lt, ia_le, ia_eq, ia_m1, ia_0, ia_1, ne_eq, true_and, and_true, false_and, and_false, or_false, false_or, or_true, true_or, not_true_eq_false, not_false_eq_true] at *
  all_goals omega
set_option maxRecDepth 20000 in
theorem lf_m_search0_6 (k11 : Nat) (n15 : Nat) (j13 : k11 ≤ 24) (hm17 : 24 - k11 < n15 + 1) (c18 : k11 < 24) (p20 : True) (p22 : True) (p30 : True) (p32 : True) (p34 : True) (p36 : True) (p38 : True) (p40 : True) : 24 - (k11 + 1) < n15 := by
  try simp only [ia_lt, ia_le, ia_eq, ia_m1, ia_0, ia_1, ne_eq, true_and, and_true, false_and, and_false, or_false, false_or, or_true, true_or, not_true_eq_false, not_false_eq_true] at *
  all_goals omega
set_option maxRecDepth 20000 in
theorem lf_m_search0_7  (p20 : True) (p22 : True) (p30 : True) (p32 : True) (p34 : True) (p36 : True) (p38 : True) (p40 : True) : (nI 1) = nI 0 ∨ (nI 1) = nI 1 := by
  try have k_0 := ia_n 1 (by first | decide | omega)
  try have k_1 := ia_n 0 (by first | decide | omega)
  try simp only [ia_lt, ia_le, ia_eq, ia_m1, ia_0, ia_1, ne_eq, true_and, and_true, false_and, and_false, or_false, false_or, or_true, true_or, not_true_eq_false, not_false_eq_true] at *
  all_goals omega
set_option maxRecDepth 20000 in
theorem lf_m_search0_8  (p20 : True) (p22 : True) (p30 : True) (p32 : True) (p34 : True) (p36 : True) (p38 : True) (p40 : True) : (nI 1) = nI 0 ∨ (nI 1) = nI 1 := by
  try have k_0 := ia_n 1 (by first | decide | omega)
  try have k_1 := ia_n 0 (by first | decide | omega)
  try simp only [ia_lt, ia_le, ia_eq, ia_m1, ia_0, ia_1, ne_eq, true_and, and_true, false_and, and_false, or_false, false_or, or_true, true_or, not_true_eq_false, not_false_eq_true] at *
  all_goals omega
set_option maxRecDepth 20000 in
theorem lf_m_search0_9  (p20 : True) (p22 : True) (p30 : True) (p32 : True) (p34 : True) (p36 : True) (p38 : True) (p40 : True) : (nI 0) = nI 0 ∨ (nI 0) = nI 1 := by
  try have k_0 := ia_n 0 (by first | decide | omega)
  try have k_1 := ia_n 1 (by first | decide | omega)
  try simp only [ia_lt, ia_le, ia_eq, ia_m1, ia_0, ia_1, ne_eq, true_and, and_true, false_and, and_false, or_false, false_or, or_true, true_or, not_true_eq_false, not_false_eq_true] at *
  all_goals omega
set_option maxRecDepth 20000 in
theorem lf_m_search0_10  (p20 : True) (p22 : True) (p30 : True) (p32 : True) (p34 : True) (p36 : True) (p38 : True) (p40 : True) : (nI 1) = nI 0 ∨ (nI 1) = nI 1 := by
  try have k_0 := ia_n 1 (by first | decide | omega)
  try have k_1 := ia_n 0 (by first | decide | omega)
  try simp only [ia_lt, ia_le, ia_eq, ia_m1, ia_0, ia_1, ne_eq, true_and, and_true, false_and, and_false, or_false, false_or, or_true, true_or, not_true_eq_false, not_false_eq_true] at *
  all_goals omega
set_option maxRecDepth 20000 in
theorem lf_m_search0_11 (k11 : Nat) (n15 : Nat) (j13 : k11 ≤ 24) (hm17 : 24 - k11 < n15 + 1) (c18 : k11 < 24) (p20 : True) (p22 : True) (t27 : True) : (k11 + 1) ≤ 24 := by
  try simp only [ia_lt, ia_le, ia_eq, ia_m1, ia_0, ia_1, ne_eq, true_and, and_true, false_and, and_false, or_false, false_or, or_true, true_or, not_true_eq_false, not_false_eq_true] at *
  all_goals omega
set_option maxRecDepth 20000 in
theorem lf_m_search0_12 (k11 : Nat) (n15 : Nat) (j13 : k11 ≤ 24) (hm17 : 24 - k11 < n15 + 1) (c18 : k11 < 24) (p20 : True) (p22 : True) (t27 : True) : 24 - (k11 + 1) < n15 := by
  try simp only [ia_lt, ia_le, ia_eq, ia_m1, ia_0, ia_1, ne_eq, true_and, and_true, false_and, and_false, or_false, false_or, or_true, true_or, not_true_eq_false, not_false_eq_true] at *
  all_goals omega
set_option maxRecDepth 20000 in
theorem lf_m_search0_13   : 0 ≤ 24 := by
  try simp only [ia_lt, ia_le, ia_eq, ia_m1, ia_0, ia_1, ne_eq, true_and, and_true, false_and, and_false, or_false, false_or, or_true, true_or, not_true_eq_false, not_false_eq_true] at *
  all_goals omega
set_option maxHeartbeats 4000000 in
set_option maxRecDepth 100000 in
theorem c_m_search0 (l : Launch) (dC : Nat → ClassId) (dI : Nat → Nat → Nat) (ky : Nat → ClassId) (sz : Nat) (me : Nat) (mtried : Nat) (mfound : Nat) (mfoundCount : Nat) (mtriedF : Nat → Int32) (mfoundF : Nat → Int32) (a : Nat) (wide : Nat) (high : Nat) (heat : Int32) (cools : Int32) (skinHeat : Int32) (today : Int32) (stirs : Int32) (steps : Int32) (lumps : Nat) (boats : Nat) (thickness : Nat) (lumpNames : Nat) (lumpCells : Nat) (boatNames : Nat) (boatCells : Nat) (loads : Nat) (spoons : Nat) (spoonsLeft : Nat) (depths : Nat) (x : Int32) (y : Int32) (z : Int32) (iv_mme_0 : mfoundCount ≤ 3) (iv_a_0 : 2 ≤ wide) (iv_a_1 : wide ≤ 6) (iv_a_2 : 2 ≤ high) (iv_a_3 : high ≤ 6) (iv_a_4 : lumps ≤ 6) (iv_a_5 : boats ≤ 6) : Met l yX4_search wsX4_search ({ frames := 5, cells := 0, slots := 0, locals := 123 }) (PcU dC dI ky [.ref me, .ref a, .int x, .int y, .int (nI 0), .int z] [(me, .inr (4, [.ref mtried, .ref mfound, .int (nI mfoundCount)])), (mtried, .inl (ky 0, 3, .inl mtriedF)), (mfound, .inl (ky 0, 3, .inl mfoundF)), (a, .inr (7, [.int (nI wide), .int (nI high), .int heat, .int cools, .int skinHeat, .int today, .int stirs, .int steps, .int (nI lumps), .int (nI boats), .ref thickness, .ref lumpNames, .ref lumpCells, .ref boatNames, .ref boatCells, .ref loads, .ref spoons, .ref spoonsLeft, .ref depths]))] sz) (va_Qi (fun (r : Int32) (mtriedG : (Nat → Int32)) => r = nI 0 ∨ r = nI 1) (BU dC dI ky (fun (mtriedG : (Nat → Int32)) => [(me, .inr (4, [.ref mtried, .ref mfound, .int (nI mfoundCount)])), (mtried, .inl (ky 0, 3, .inl mtriedG)), (mfound, .inl (ky 0, 3, .inl mfoundF)), (a, .inr (7, [.int (nI wide), .int (nI high), .int heat, .int cools, .int skinHeat, .int today, .int stirs, .int steps, .int (nI lumps), .int (nI boats), .ref thickness, .ref lumpNames, .ref lumpCells, .ref boatNames, .ref boatCells, .ref loads, .ref spoons, .ref spoonsLeft, .ref depths]))]) (va_A [(me, .inr (4, [.ref mtried, .ref mfound, .int (nI mfoundCount)])), (mtried, .inl (ky 0, 3, .inl mtriedF)), (mfound, .inl (ky 0, 3, .inl mfoundF)), (a, .inr (7, [.int (nI wide), .int (nI high), .int heat, .int cools, .int skinHeat, .int today, .int stirs, .int steps, .int (nI lumps), .int (nI boats), .ref thickness, .ref lumpNames, .ref lumpCells, .ref boatNames, .ref boatCells, .ref loads, .ref spoons, .ref spoonsLeft, .ref depths]))] sz)) (va_A [(me, .inr (4, [.ref mtried, .ref mfound, .int (nI mfoundCount)])), (mtried, .inl (ky 0, 3, .inl mtriedF)), (mfound, .inl (ky 0, 3, .inl mfoundF)), (a, .inr (7, [.int (nI wide), .int (nI high), .int heat, .int cools, .int skinHeat, .int today, .int stirs, .int steps, .int (nI lumps), .int (nI boats), .ref thickness, .ref lumpNames, .ref lumpCells, .ref boatNames, .ref boatCells, .ref loads, .ref spoons, .ref spoonsLeft, .ref depths]))] sz)) 0 0 (va_A [(me, .inr (4, [.ref mtried, .ref mfound, .int (nI mfoundCount)])), (mtried, .inl (ky 0, 3, .inl mtriedF)), (mfound, .inl (ky 0, 3, .inl mfoundF)), (a, .inr (7, [.int (nI wide), .int (nI high), .int heat, .int cools, .int skinHeat, .int today, .int stirs, .int steps, .int (nI lumps), .int (nI boats), .ref thickness, .ref lumpNames, .ref lumpCells, .ref boatNames, .ref boatCells, .ref loads, .ref spoons, .ref spoonsLeft, .ref depths]))] sz) := by
  refine Met.ofW (cc := cX4_search) (maxL := 10) (ret := (some .boolean)) (by decide) rfl ?_
  intro p e s m args below meth c s₁ B hml hv
  obtain ⟨rfl, hsz, hP, hK, hD0⟩ := hv
  have hx := B.exec
  have hb := B.bytes
  have hr := B.returns
  have hts := atoms_spec (ws := wsX4_search) B.pre
  have hown : s.vm.findClass RX4 = some m.cls := findClass_of_methodNamed B.named
  have hlocks := B.notSynchronized
  have hin4 : ∀ w ∈ u_ws RX4 TX4 3, w ∈ wsX4_search := by decide +kernel
  subst hsz
  have hD := hD0.self (sz := s.heap.size)
  generalize hAe : va_A [(me, .inr (4, [.ref mtried, .ref mfound, .int (nI mfoundCount)])), (mtried, .inl (ky 0, 3, .inl mtriedF)), (mfound, .inl (ky 0, 3, .inl mfoundF)), (a, .inr (7, [.int (nI wide), .int (nI high), .int heat, .int cools, .int skinHeat, .int today, .int stirs, .int steps, .int (nI lumps), .int (nI boats), .ref thickness, .ref lumpNames, .ref lumpCells, .ref boatNames, .ref boatCells, .ref loads, .ref spoons, .ref spoonsLeft, .ref depths]))] s.heap.size = A at hD ⊢
  have hA : ∀ q : Nat, s.heap.size ≤ q → A q := fun q h => by rw [← hAe]; exact Or.inr h
  have hS : va_S A s.heap s.heap [] := va_S.rf
  have hl := lv_entry ([.ref me, .ref a, .int x, .int y, .int (nI 0), .int z]) (n := 10) (Nat.le_of_ble_eq_true rfl)
  rw [lg_entry_eq]
  generalize (lg_sl ([.ref me, .ref a, .int x, .int y, .int (nI 0), .int z]) ++ List.replicate (10 - (lg_sl ([.ref me, .ref a, .int x, .int y, .int (nI 0), .int z])).length) Slot.unset).toArray = ls at hl ⊢
  have hl : lv_has ls 10 [(0, .ref me), (1, .ref a), (2, .int x), (3, .int y), (4, .int (nI 0)), (5, .int z)] := hl
  refine q_name (fun Q hQ => ?_)
  generalize ([.ref me, .ref a, .int x, .int y, .int (nI 0), .int z] : List Value).toArray = args at hts hQ ⊢
  refine lv_iload hx hb dX4_search_0 (lv_at hl 4 rfl) ?_
  refine lv_iload hx hb dX4_search_2 (lv_at hl 5 rfl) ?_
  refine lv_icmp_ge (tgt := 13) hx hb dX4_search_4 (by decide) (fun c1 => ?_) (fun c1 => ?_)
  · refine lv_iload_n hx hb dX4_search_13 rfl (lv_at hl 2 rfl) ?_
    refine lv_iload_n hx hb dX4_search_14 rfl (lv_at hl 3 rfl) ?_
    refine vp_callSi (W.runS (As := [.int x, .int y]) (rest := []) ⟨hx, hb, hml, hown, hts⟩ (c_s_areNear l dC dI ky x y) (va_cwS 2 hts gX4_search_X7_areNear rfl rfl rfl (by decide +kernel) ⟨(Nat.le_of_ble_eq_true rfl), (Nat.le_of_ble_eq_true rfl)⟩) (pre_PS hK hP [] rfl) rfl rfl hl.1 rfl (lv_room (Nat.le_of_ble_eq_true rfl)) dX4_search_15 ⟨(Nat.le_of_ble_eq_true rfl), (Nat.le_of_ble_eq_true rfl)⟩) (fun r2 p3 => ?_)
    rw [hQ]
    exact W.zret (v := r2) hx hb hr ((lf_m_search0_1 r2 p3)) (fun t9 ht9 hW9 => ⟨⟨r2, mtriedF, rfl, p3, by rw [ht9]; exact hP, va_K.moved hW9.alike hK, hD⟩, hS.F ht9⟩) hS.2.2 dX4_search_18
  · refine lv_iload hx hb dX4_search_7 (lv_at hl 4 rfl) ?_
    refine lv_iconst (v := nI 3) hx hb dX4_search_9 (by decide) ?_
    refine lv_icmp_lt (tgt := 19) hx hb dX4_search_10 (by decide) (fun c4 => ?_) (fun c4 => absurd (by decide) c4)
    refine lv_iconst (v := nI 0) hx hb dX4_search_19 (by decide) ?_
    refine lv_istore (lv' := [(6, .int (nI 0)), (0, .ref me), (1, .ref a), (2, .int x), (3, .int y), (4, .int (nI 0)), (5, .int z)]) hx hb dX4_search_20 hl (by decide) rfl (fun ls hl => ?_)
    have hL14 : ∀ (n15 : Nat) (k11 : Nat) (f12 : Nat → Int32), (k11 ≤ 24) → 24 - k11 < n15 → ∀ (H : Heap) (locs : List Loc) (ls : Array Slot), va_P (dC, dI) vwCl [(me, .inr (4, [.ref mtried, .ref mfound, .int (nI mfoundCount)])), (mtried, .inl (ky 0, 3, .inl f12)), (mfound, .inl (ky 0, 3, .inl mfoundF)), (a, .inr (7, [.int (nI wide), .int (nI high), .int heat, .int cools, .int skinHeat, .int today, .int stirs, .int steps, .int (nI lumps), .int (nI boats), .ref thickness, .ref lumpNames, .ref lumpCells, .ref boatNames, .ref boatCells, .ref loads, .ref spoons, .ref spoonsLeft, .ref depths]))] H → va_D A [(me, .inr (4, [.ref mtried, .ref mfound, .int (nI mfoundCount)])), (mtried, .inl (ky 0, 3, .inl f12)), (mfound, .inl (ky 0, 3, .inl mfoundF)), (a, .inr (7, [.int (nI wide), .int (nI high), .int heat, .int cools, .int skinHeat, .int today, .int stirs, .int steps, .int (nI lumps), .int (nI boats), .ref thickness, .ref lumpNames, .ref lumpCells, .ref boatNames, .ref boatCells, .ref loads, .ref spoons, .ref spoonsLeft, .ref depths]))] → va_S A s.heap H locs → lv_has ls 10 [(6, .int (nI k11)), (0, .ref me), (1, .ref a), (2, .int x), (3, .int y), (4, .int (nI 0)), (5, .int z)] → W p l e (headSpec wsX4_search ({ frames := 5, cells := 0, slots := 0, locals := 123 })).room s m args below meth c H locs 0 0 Q (F0 m 22 ls []) := by
      intro n15
      induction n15 with
      | zero => intro k11 f12 _ h9; exact absurd h9 (Nat.not_lt_zero _)
      | succ n15 ih16 =>
        intro k11 f12 j13 hm17 H locs ls hP hD hS hl
        refine lv_iload hx hb dX4_search_22 (lv_at hl 0 rfl) ?_
        refine lv_bipush (v := nI 24) hx hb dX4_search_24 (by decide) ?_
        refine n_icmp_ge (x := k11) (y := 24) (tgt := 150) hx hb (by omega) (by omega) dX4_search_26 (by decide) (fun c18 => ?_) (fun c18 => ?_)
        · refine lv_iconst (v := nI 0) hx hb dX4_search_150 (by decide) ?_
          rw [hQ]
          exact W.zret (v := nI 0) hx hb hr (by decide) (fun t9 ht9 hW9 => ⟨⟨nI 0, f12, rfl, (lf_m_search0_2), by rw [ht9]; exact hP, va_K.moved hW9.alike hK, hD⟩, hS.F ht9⟩) hS.2.2 dX4_search_151
        · refine lv_aload_n hx hb dX4_search_29 rfl (lv_at hl 2 rfl) ?_
          refine lv_iload hx hb dX4_search_30 (lv_at hl 0 rfl) ?_
          refine vp_callSi (W.runS (As := [.int (nI k11)]) (rest := [.ref a]) ⟨hx, hb, hml, hown, hts⟩ (c_m_columnOf l dC dI ky (nI k11)) (va_cwS 1 hts gX4_search_X4_columnOf rfl rfl rfl (by decide +kernel) ⟨(Nat.le_of_ble_eq_true rfl), (Nat.le_of_ble_eq_true rfl)⟩) (pre_PS hK hP [] rfl) rfl rfl hl.1 rfl (lv_room (Nat.le_of_ble_eq_true rfl)) dX4_search_32 ⟨(Nat.le_of_ble_eq_true rfl), (Nat.le_of_ble_eq_true rfl)⟩) (fun r19 p20 => ?_)
          refine lv_iload hx hb dX4_search_35 (lv_at hl 0 rfl) ?_
          refine vp_callSi (W.runS (As := [.int (nI k11)]) (rest := [.int r19, .ref a]) ⟨hx, hb, hml, hown, hts⟩ (c_m_lineOf l dC dI ky (nI k11)) (va_cwS 1 hts gX4_search_X4_lineOf rfl rfl rfl (by decide +kernel) ⟨(Nat.le_of_ble_eq_true rfl), (Nat.le_of_ble_eq_true rfl)⟩) (pre_PS hK hP [] rfl) rfl rfl hl.1 rfl (lv_room (Nat.le_of_ble_eq_true rfl)) dX4_search_37 ⟨(Nat.le_of_ble_eq_true rfl), (Nat.le_of_ble_eq_true rfl)⟩) (fun r21 p22 => ?_)
          refine vp_callSi (W.runV (As := [.int r19, .int r21]) (rest := []) ⟨hx, hb, hml, hown, hts⟩ (c_s_isLine l dC dI ky a wide high heat cools skinHeat today stirs steps lumps boats thickness lumpNames lumpCells boatNames boatCells loads spoons spoonsLeft depths r19 r21 iv_a_0 iv_a_1 iv_a_2 iv_a_3 iv_a_4 iv_a_5) (cwV 2 hts gX4_search_X7_isLine rfl rfl rfl (by decide +kernel) ⟨(Nat.le_of_ble_eq_true rfl), (Nat.le_of_ble_eq_true rfl)⟩) (pre_PV hK hP [3] rfl (ci := 7) (q0 := 3) rfl rfl) rfl rfl hl.1 rfl (lv_room (Nat.le_of_ble_eq_true rfl)) dX4_search_40 ⟨(Nat.le_of_ble_eq_true rfl), (Nat.le_of_ble_eq_true rfl)⟩) (fun r23 p24 => ?_)
          rcases p24 with ⟨rfl, t25, t26⟩ | ⟨rfl, t27⟩
          · refine lv_if_ne (tgt := 49) hx hb dX4_search_43 (by decide) (fun c28 => ?_) (fun c28 => absurd c28 (by decide))
            refine lv_aload_n hx hb dX4_search_49 rfl (lv_at hl 2 rfl) ?_
            refine lv_iload_n hx hb dX4_search_50 rfl (lv_at hl 3 rfl) ?_
            refine lv_iload hx hb dX4_search_51 (lv_at hl 0 rfl) ?_
            refine vp_callSi (W.runS (As := [.int (nI k11)]) (rest := [.int x, .ref a]) ⟨hx, hb, hml, hown, hts⟩ (c_m_columnOf l dC dI ky (nI k11)) (va_cwS 1 hts gX4_search_X4_columnOf rfl rfl rfl (by decide +kernel) ⟨(Nat.le_of_ble_eq_true rfl), (Nat.le_of_ble_eq_true rfl)⟩) (pre_PS hK hP [] rfl) rfl rfl hl.1 rfl (lv_room (Nat.le_of_ble_eq_true rfl)) dX4_search_53 ⟨(Nat.le_of_ble_eq_true rfl), (Nat.le_of_ble_eq_true rfl)⟩) (fun r29 p30 => ?_)
            refine lv_iload hx hb dX4_search_56 (lv_at hl 0 rfl) ?_
            refine vp_callSi (W.runS (As := [.int (nI k11)]) (rest := [.int r29, .int x, .ref a]) ⟨hx, hb, hml, hown, hts⟩ (c_m_lineOf l dC dI ky (nI k11)) (va_cwS 1 hts gX4_search_X4_lineOf rfl rfl rfl (by decide +kernel) ⟨(Nat.le_of_ble_eq_true rfl), (Nat.le_of_ble_eq_true rfl)⟩) (pre_PS hK hP [] rfl) rfl rfl hl.1 rfl (lv_room (Nat.le_of_ble_eq_true rfl)) dX4_search_58 ⟨(Nat.le_of_ble_eq_true rfl), (Nat.le_of_ble_eq_true rfl)⟩) (fun r31 p32 => ?_)
            refine lv_iload hx hb dX4_search_61 (lv_at hl 0 rfl) ?_
            refine lv_iconst (v := nI 2) hx hb dX4_search_63 (by decide) ?_
            refine lv_irem hx hb dX4_search_64 (by decide) ?_
            refine r_ti (nI (k11 % 2)) (pk_rem (by omega) (by omega) (by omega)) ?_
            refine vp_callSi (W.runV (As := [.int x, .int r29, .int r31, .int (nI (k11 % 2))]) (rest := []) ⟨hx, hb, hml, hown, hts⟩ (c_s_stirredTo l dC dI ky a wide high heat cools skinHeat today stirs steps lumps boats thickness lumpNames lumpCells boatNames boatCells loads spoons spoonsLeft depths x r29 r31 (nI (k11 % 2)) iv_a_0 iv_a_1 iv_a_2 iv_a_3 iv_a_4 iv_a_5) (cwV 4 hts gX4_search_X7_stirredTo rfl rfl rfl (by decide +kernel) ⟨(Nat.le_of_ble_eq_true rfl), (Nat.le_of_ble_eq_true rfl)⟩) (pre_PV hK hP [3] rfl (ci := 7) (q0 := 3) rfl rfl) rfl rfl hl.1 rfl (lv_room (Nat.le_of_ble_eq_true rfl)) dX4_search_65 ⟨(Nat.le_of_ble_eq_true rfl), (Nat.le_of_ble_eq_true rfl)⟩) (fun r33 p34 => ?_)
            refine lv_istore (lv' := [(7, .int r33), (6, .int (nI k11)), (0, .ref me), (1, .ref a), (2, .int x), (3, .int y), (4, .int (nI 0)), (5, .int z)]) hx hb dX4_search_68 hl (by decide) rfl (fun ls hl => ?_)
            refine lv_aload_n hx hb dX4_search_70 rfl (lv_at hl 3 rfl) ?_
            refine lv_iload_n hx hb dX4_search_71 rfl (lv_at hl 5 rfl) ?_
            refine lv_iload hx hb dX4_search_72 (lv_at hl 1 rfl) ?_
            refine vp_callSi (W.runS (As := [.int (nI k11)]) (rest := [.int y, .ref a]) ⟨hx, hb, hml, hown, hts⟩ (c_m_columnOf l dC dI ky (nI k11)) (va_cwS 1 hts gX4_search_X4_columnOf rfl rfl rfl (by decide +kernel) ⟨(Nat.le_of_ble_eq_true rfl), (Nat.le_of_ble_eq_true rfl)⟩) (pre_PS hK hP [] rfl) rfl rfl hl.1 rfl (lv_room (Nat.le_of_ble_eq_true rfl)) dX4_search_74 ⟨(Nat.le_of_ble_eq_true rfl), (Nat.le_of_ble_eq_true rfl)⟩) (fun r35 p36 => ?_)
            refine lv_iload hx hb dX4_search_77 (lv_at hl 1 rfl) ?_
            refine vp_callSi (W.runS (As := [.int (nI k11)]) (rest := [.int r35, .int y, .ref a]) ⟨hx, hb, hml, hown, hts⟩ (c_m_lineOf l dC dI ky (nI k11)) (va_cwS 1 hts gX4_search_X4_lineOf rfl rfl rfl (by decide +kernel) ⟨(Nat.le_of_ble_eq_true rfl), (Nat.le_of_ble_eq_true rfl)⟩) (pre_PS hK hP [] rfl) rfl rfl hl.1 rfl (lv_room (Nat.le_of_ble_eq_true rfl)) dX4_search_79 ⟨(Nat.le_of_ble_eq_true rfl), (Nat.le_of_ble_eq_true rfl)⟩) (fun r37 p38 => ?_)
            refine lv_iload hx hb dX4_search_82 (lv_at hl 1 rfl) ?_
            refine lv_iconst (v := nI 2) hx hb dX4_search_84 (by decide) ?_
            refine lv_irem hx hb dX4_search_85 (by decide) ?_
            refine r_ti (nI (k11 % 2)) (pk_rem (by omega) (by omega) (by omega)) ?_
            refine vp_callSi (W.runV (As := [.int y, .int r35, .int r37, .int (nI (k11 % 2))]) (rest := []) ⟨hx, hb, hml, hown, hts⟩ (c_s_stirredTo l dC dI ky a wide high heat cools skinHeat today stirs steps lumps boats thickness lumpNames lumpCells boatNames boatCells loads spoons spoonsLeft depths y r35 r37 (nI (k11 % 2)) iv_a_0 iv_a_1 iv_a_2 iv_a_3 iv_a_4 iv_a_5) (cwV 4 hts gX4_search_X7_stirredTo rfl rfl rfl (by decide +kernel) ⟨(Nat.le_of_ble_eq_true rfl), (Nat.le_of_ble_eq_true rfl)⟩) (pre_PV hK hP [3] rfl (ci := 7) (q0 := 3) rfl rfl) rfl rfl hl.1 rfl (lv_room (Nat.le_of_ble_eq_true rfl)) dX4_search_86 ⟨(Nat.le_of_ble_eq_true rfl), (Nat.le_of_ble_eq_true rfl)⟩) (fun r39 p40 => ?_)
            refine lv_istore (lv' := [(8, .int r39), (7, .int r33), (6, .int (nI k11)), (0, .ref me), (1, .ref a), (2, .int x), (3, .int y), (4, .int (nI 0)), (5, .int z)]) hx hb dX4_search_89 hl (by decide) rfl (fun ls hl => ?_)
            refine lv_iload hx hb dX4_search_91 (lv_at hl 1 rfl) ?_
            refine lv_iload_n hx hb dX4_search_93 rfl (lv_at hl 5 rfl) ?_
            have hJ44 : ∀ (x42 : Int32), (x42 = nI 0 ∨ x42 = nI 1) → ∀ (H : Heap) (locs : List Loc) (ls : Array Slot), va_P (dC, dI) vwCl [(me, .inr (4, [.ref mtried, .ref mfound, .int (nI mfoundCount)])), (mtried, .inl (ky 0, 3, .inl f12)), (mfound, .inl (ky 0, 3, .inl mfoundF)), (a, .inr (7, [.int (nI wide), .int (nI high), .int heat, .int cools, .int skinHeat, .int today, .int stirs, .int steps, .int (nI lumps), .int (nI boats), .ref thickness, .ref lumpNames, .ref lumpCells, .ref boatNames, .ref boatCells, .ref loads, .ref spoons, .ref spoonsLeft, .ref depths]))] H → va_D A [(me, .inr (4, [.ref mtried, .ref mfound, .int (nI mfoundCount)])), (mtried, .inl (ky 0, 3, .inl f12)), (mfound, .inl (ky 0, 3, .inl mfoundF)), (a, .inr (7, [.int (nI wide), .int (nI high), .int heat, .int cools, .int skinHeat, .int today, .int stirs, .int steps, .int (nI lumps), .int (nI boats), .ref thickness, .ref lumpNames, .ref lumpCells, .ref boatNames, .ref boatCells, .ref loads, .ref spoons, .ref spoonsLeft, .ref depths]))] → va_S A s.heap H locs → lv_has ls 10 [(8, .int r39), (7, .int r33), (6, .int (nI k11)), (0, .ref me), (1, .ref a), (2, .int x), (3, .int y), (4, .int (nI 0)), (5, .int z)] → W p l e (headSpec wsX4_search ({ frames := 5, cells := 0, slots := 0, locals := 123 })).room s m args below meth c H locs 0 0 Q (F0 m 108 ls [.int x42]) := by
              intro x42 j43 H locs ls hP hD hS hl
              refine lv_istore (lv' := [(9, .int x42), (8, .int r39), (7, .int r33), (6, .int (nI k11)), (0, .ref me), (1, .ref a), (2, .int x), (3, .int y), (4, .int (nI 0)), (5, .int z)]) hx hb dX4_search_108 hl (by decide) rfl (fun ls hl => ?_)
              refine lv_aload_n hx hb dX4_search_110 rfl (lv_at hl 4 rfl) ?_
              refine va_get (D := (dC, dI)) (ci := 4) (v := .ref mtried) (C := RX4) (T := TX4) (N := 3) hx hb hts hin4 hown hK hP 0 rfl rfl 0 (by decide) (hts (.fieldLink RX4 11 "PorridgeSea$Meeting" "tried" "[I") (List.mem_of_getElem? (i := 1) rfl)) (fun _ h9 => h9) rfl dX4_search_111 ?_
              refine lv_iload hx hb dX4_search_114 (lv_at hl 8 rfl) ?_
              refine lv_iload hx hb dX4_search_116 (lv_at hl 3 rfl) ?_
              refine r_iast (x := (nI k11)) hx hb hK hP hD hS 1 rfl 0 (by decide) (by decide) dX4_search_118 (fun H locs hP hD hS => ?_)
              obtain ⟨g45, e46⟩ : ∃ z9, z9 = upd f12 0 (nI k11) := ⟨_, rfl⟩
              rw [← e46] at hP hD
              have hP : va_P (dC, dI) vwCl [(me, .inr (4, [.ref mtried, .ref mfound, .int (nI mfoundCount)])), (mtried, .inl (ky 0, 3, .inl g45)), (mfound, .inl (ky 0, 3, .inl mfoundF)), (a, .inr (7, [.int (nI wide), .int (nI high), .int heat, .int cools, .int skinHeat, .int today, .int stirs, .int steps, .int (nI lumps), .int (nI boats), .ref thickness, .ref lumpNames, .ref lumpCells, .ref boatNames, .ref boatCells, .ref loads, .ref spoons, .ref spoonsLeft, .ref depths]))] H := hP
              have hD : va_D A [(me, .inr (4, [.ref mtried, .ref mfound, .int (nI mfoundCount)])), (mtried, .inl (ky 0, 3, .inl g45)), (mfound, .inl (ky 0, 3, .inl mfoundF)), (a, .inr (7, [.int (nI wide), .int (nI high), .int heat, .int cools, .int skinHeat, .int today, .int stirs, .int steps, .int (nI lumps), .int (nI boats), .ref thickness, .ref lumpNames, .ref lumpCells, .ref boatNames, .ref boatCells, .ref loads, .ref spoons, .ref spoonsLeft, .ref depths]))] := hD
              refine lv_iload hx hb dX4_search_119 (lv_at hl 0 rfl) ?_
              refine lv_if_eq (tgt := 144) hx hb dX4_search_121 (by decide) (fun c47 => ?_) (fun c47 => ?_)
              · refine lv_iinc (v := nI (k11 + 1)) (lv' := [(6, .int (nI (k11 + 1))), (9, .int x42), (8, .int r39), (7, .int r33), (0, .ref me), (1, .ref a), (2, .int x), (3, .int y), (4, .int (nI 0)), (5, .int z)]) hx hb dX4_search_144 hl (k := 3) rfl (show nI k11 + nI 1 = nI (k11 + 1) from nI_add _ _) (by decide) rfl (fun ls hl => ?_)
                refine lv_goto (tgt := 22) hx hb dX4_search_147 (by decide) ?_
                exact ih16 (k11 + 1) g45 (lf_m_search0_3 k11 n15 j13 hm17 c18 p20 p22 p30 p32 p34 p36 p38 p40) (lf_m_search0_4 k11 n15 j13 hm17 c18 p20 p22 p30 p32 p34 p36 p38 p40) _ _ _ hP hD hS (lv_sub hl [0, 4, 5, 6, 7, 8, 9] rfl)
              · refine lv_aload_n hx hb dX4_search_124 rfl (lv_at hl 4 rfl) ?_
                refine lv_aload_n hx hb dX4_search_125 rfl (lv_at hl 5 rfl) ?_
                refine lv_iload hx hb dX4_search_126 (lv_at hl 2 rfl) ?_
                refine lv_iload hx hb dX4_search_128 (lv_at hl 1 rfl) ?_
                refine lv_iload hx hb dX4_search_130 (lv_at hl 8 rfl) ?_
                refine lv_iconst (v := nI 1) hx hb dX4_search_132 (by decide) ?_
                refine lv_iadd hx hb dX4_search_133 ?_
                refine r_ti (nI 1) (by decide) ?_
                refine lv_iload hx hb dX4_search_134 (lv_at hl 9 rfl) ?_
                refine r_call_i (wr := []) (va_runV (As := [.ref a, .int r33, .int r39, .int (nI 1), .int z]) (rest := []) ⟨hx, hb, hml, hown, hts⟩ (c_m_search1 l dC dI ky H.size me mtried mfound mfoundCount g45 mfoundF a wide high heat cools skinHeat today stirs steps lumps boats thickness lumpNames lumpCells boatNames boatCells loads spoons spoonsLeft depths r33 r39 z iv_mme_0 iv_a_0 iv_a_1 iv_a_2 iv_a_3 iv_a_4 iv_a_5) (cwV 5 hts gX4_search_X4_search rfl rfl rfl (by decide +kernel) ⟨(Nat.le_of_ble_eq_true rfl), (Nat.le_of_ble_eq_true rfl)⟩) (pre_UV hK hP hD [0, 1, 2, 3] (by decide) rfl (ci := 4) (q0 := 0) rfl rfl) rfl rfl hl.1 rfl (lv_room (Nat.le_of_ble_eq_true rfl)) dX4_search_136 ⟨(Nat.le_of_ble_eq_true rfl), (Nat.le_of_ble_eq_true rfl)⟩) hP hD hS hA [0, 1, 2, 3] [] rfl rfl (by decide) (by decide) (fun r50 u48 H locs p49 hP hD hS => ?_)
                obtain ⟨mtriedG_51, rfl⟩ : ∃ z, z = u48 := ⟨_, rfl⟩
                try dsimp only at p49
                have p52 := p49
                refine W.widen (k := 0) (n := 0) (Nat.le_of_ble_eq_true rfl) (Nat.le_of_ble_eq_true rfl) ?_
                have hP : va_P (dC, dI) vwCl [(me, .inr (4, [.ref mtried, .ref mfound, .int (nI mfoundCount)])), (mtried, .inl (ky 0, 3, .inl mtriedG_51)), (mfound, .inl (ky 0, 3, .inl mfoundF)), (a, .inr (7, [.int (nI wide), .int (nI high), .int heat, .int cools, .int skinHeat, .int today, .int stirs, .int steps, .int (nI lumps), .int (nI boats), .ref thickness, .ref lumpNames, .ref lumpCells, .ref boatNames, .ref boatCells, .ref loads, .ref spoons, .ref spoonsLeft, .ref depths]))] H := hP
                have hD : va_D A [(me, .inr (4, [.ref mtried, .ref mfound, .int (nI mfoundCount)])), (mtried, .inl (ky 0, 3, .inl mtriedG_51)), (mfound, .inl (ky 0, 3, .inl mfoundF)), (a, .inr (7, [.int (nI wide), .int (nI high), .int heat, .int cools, .int skinHeat, .int today, .int stirs, .int steps, .int (nI lumps), .int (nI boats), .ref thickness, .ref lumpNames, .ref lumpCells, .ref boatNames, .ref boatCells, .ref loads, .ref spoons, .ref spoonsLeft, .ref depths]))] := hD
                refine lv_if_eq (tgt := 144) hx hb dX4_search_139 (by decide) (fun c53 => ?_) (fun c53 => ?_)
                · refine lv_iinc (v := nI (k11 + 1)) (lv' := [(6, .int (nI (k11 + 1))), (9, .int x42), (8, .int r39), (7, .int r33), (0, .ref me), (1, .ref a), (2, .int x), (3, .int y), (4, .int (nI 0)), (5, .int z)]) hx hb dX4_search_144 hl (k := 3) rfl (show nI k11 + nI 1 = nI (k11 + 1) from nI_add _ _) (by decide) rfl (fun ls hl => ?_)
                  refine lv_goto (tgt := 22) hx hb dX4_search_147 (by decide) ?_
                  exact ih16 (k11 + 1) mtriedG_51 (lf_m_search0_5 k11 n15 j13 hm17 c18 p20 p22 p30 p32 p34 p36 p38 p40) (lf_m_search0_6 k11 n15 j13 hm17 c18 p20 p22 p30 p32 p34 p36 p38 p40) _ _ _ hP hD hS (lv_sub hl [0, 4, 5, 6, 7, 8, 9] rfl)
                · refine lv_iconst (v := nI 1) hx hb dX4_search_142 (by decide) ?_
                  rw [hQ]
                  exact W.zret (v := nI 1) hx hb hr (by decide) (fun t9 ht9 hW9 => ⟨⟨nI 1, mtriedG_51, rfl, (lf_m_search0_7 p20 p22 p30 p32 p34 p36 p38 p40), by rw [ht9]; exact hP, va_K.moved hW9.alike hK, hD⟩, hS.F ht9⟩) hS.2.2 dX4_search_143
            refine lv_icmp_ne (tgt := 103) hx hb dX4_search_94 (by decide) (fun c41 => ?_) (fun c41 => ?_)
            · refine lv_iconst (v := nI 1) hx hb dX4_search_103 (by decide) ?_
              refine lv_goto (tgt := 108) hx hb dX4_search_104 (by decide) ?_
              exact hJ44 (nI 1) (lf_m_search0_8 p20 p22 p30 p32 p34 p36 p38 p40) _ _ _ hP hD hS (lv_sub hl [0, 1, 2, 3, 4, 5, 6, 7, 8] rfl)
            · refine lv_iload hx hb dX4_search_97 (lv_at hl 0 rfl) ?_
              refine lv_iload_n hx hb dX4_search_99 rfl (lv_at hl 6 rfl) ?_
              refine lv_icmp_eq (tgt := 107) hx hb dX4_search_100 (by decide) (fun c54 => ?_) (fun c54 => ?_)
              · refine lv_iconst (v := nI 0) hx hb dX4_search_107 (by decide) ?_
                exact hJ44 (nI 0) (lf_m_search0_9 p20 p22 p30 p32 p34 p36 p38 p40) _ _ _ hP hD hS (lv_sub hl [0, 1, 2, 3, 4, 5, 6, 7, 8] rfl)
              · refine lv_iconst (v := nI 1) hx hb dX4_search_103 (by decide) ?_
                refine lv_goto (tgt := 108) hx hb dX4_search_104 (by decide) ?_
                exact hJ44 (nI 1) (lf_m_search0_10 p20 p22 p30 p32 p34 p36 p38 p40) _ _ _ hP hD hS (lv_sub hl [0, 1, 2, 3, 4, 5, 6, 7, 8] rfl)
          · refine lv_if_ne (tgt := 49) hx hb dX4_search_43 (by decide) (fun c55 => absurd c55 (by decide)) (fun c55 => ?_)
            refine lv_goto (tgt := 144) hx hb dX4_search_46 (by decide) ?_
            refine lv_iinc (v := nI (k11 + 1)) (lv' := [(6, .int (nI (k11 + 1))), (0, .ref me), (1, .ref a), (2, .int x), (3, .int y), (4, .int (nI 0)), (5, .int z)]) hx hb dX4_search_144 hl (k := 0) rfl (show nI k11 + nI 1 = nI (k11 + 1) from nI_add _ _) (by decide) rfl (fun ls hl => ?_)
            refine lv_goto (tgt := 22) hx hb dX4_search_147 (by decide) ?_
            exact ih16 (k11 + 1) f12 (lf_m_search0_11 k11 n15 j13 hm17 c18 p20 p22 t27) (lf_m_search0_12 k11 n15 j13 hm17 c18 p20 p22 t27) _ _ _ hP hD hS (lv_sub hl [0, 1, 2, 3, 4, 5, 6] rfl)
    exact hL14 ((24 - 0) + 1) 0 mtriedF (lf_m_search0_13) (Nat.lt_succ_self _) _ _ _ hP hD hS (lv_sub hl [0, 1, 2, 3, 4, 5, 6] rfl)
set_option maxRecDepth 20000 in
theorem lf_m_find_1 (boats : Nat) (x : Int32) (iv_a_5 : boats ≤ 6) (t3 : 0 ≤ x.toInt) (t4 : x.toInt < boats) (t17 : True) : 0 ≤ x.toInt ∧ x.toInt < ((6 : Nat) : Int) := by
  have b_x := ia_b x
  try simp only [ia_lt, ia_le, ia_eq, ia_m1, ia_0, ia_1, ne_eq, true_and, and_true, false_and, and_false, or_false, false_or, or_true, true_or, not_true_eq_false, not_false_eq_true] at *
  all_goals omega
set_option maxRecDepth 20000 in
theorem lf_m_find_2 (lumps : Nat) (y : Int32) (iv_a_4 : lumps ≤ 6) (t9 : 0 ≤ y.toInt) (t10 : y.toInt < lumps) (t17 : True) : 0 ≤ y.toInt ∧ y.toInt < ((6 : Nat) : Int) := by
  have b_y := ia_b y
  try simp only [ia_lt, ia_le, ia_eq, ia_m1, ia_0, ia_1, ne_eq, true_and, and_true, false_and, and_false, or_false, false_or, or_true, true_or, not_true_eq_false, not_false_eq_true] at *
  all_goals omega
set_option maxRecDepth 20000 in
theorem lf_m_find_3 (k26 : Nat) (n30 : Nat) (t17 : True) (j28 : k26 ≤ 4) (hm32 : 4 - k26 < n30 + 1) (c33 : k26 ≤ 3) : (k26 + 1) ≤ 4 := by
  try simp only [ia_lt, ia_le, ia_eq, ia_m1, ia_0, ia_1, ne_eq, true_and, and_true, false_and, and_false, or_false, false_or, or_true, true_or, not_true_eq_false, not_false_eq_true] at *
  all_goals omega
set_option maxRecDepth 20000 in
theorem lf_m_find_4 (k26 : Nat) (n30 : Nat) (t17 : True) (j28 : k26 ≤ 4) (hm32 : 4 - k26 < n30 + 1) (c33 : k26 ≤ 3) : 4 - (k26 + 1) < n30 := by
  try simp only [ia_lt, ia_le, ia_eq, ia_m1, ia_0, ia_1, ne_eq, true_and, and_true, false_and, and_false, or_false, false_or, or_true, true_or, not_true_eq_false, not_false_eq_true] at *
  all_goals omega
set_option maxRecDepth 20000 in
theorem lf_m_find_5  (t17 : True) : 0 ≤ 4 := by
  try simp only [ia_lt, ia_le, ia_eq, ia_m1, ia_0, ia_1, ne_eq, true_and, and_true, false_and, and_false, or_false, false_or, or_true, true_or, not_true_eq_false, not_false_eq_true] at *
  all_goals omega
set_option maxHeartbeats 4000000 in
set_option maxRecDepth 100000 in
theorem c_m_find (l : Launch) (dC : Nat → ClassId) (dI : Nat → Nat → Nat) (ky : Nat → ClassId) (sz : Nat) (me : Nat) (mtried : Nat) (mfound : Nat) (mfoundCount : Nat) (mtriedF : Nat → Int32) (mfoundF : Nat → Int32) (a : Nat) (wide : Nat) (high : Nat) (heat : Int32) (cools : Int32) (skinHeat : Int32) (today : Int32) (stirs : Int32) (steps : Int32) (lumps : Nat) (boats : Nat) (thickness : Nat) (lumpNames : Nat) (lumpCells : Nat) (boatNames : Nat) (boatCells : Nat) (loads : Nat) (spoons : Nat) (spoonsLeft : Nat) (depths : Nat) (lumpCellsF : Nat → Int32) (boatCellsF : Nat → Int32) (depthsF : Nat → Int32) (x : Int32) (y : Int32) (iv_mme_0 : mfoundCount ≤ 3) (iv_a_0 : 2 ≤ wide) (iv_a_1 : wide ≤ 6) (iv_a_2 : 2 ≤ high) (iv_a_3 : high ≤ 6) (iv_a_4 : lumps ≤ 6) (iv_a_5 : boats ≤ 6) : Met l yX4_find wsX4_find ({ frames := 6, cells := 0, slots := 0, locals := 152 }) (PcU dC dI ky [.ref me, .ref a, .int x, .int y] [(me, .inr (4, [.ref mtried, .ref mfound, .int (nI mfoundCount)])), (mtried, .inl (ky 0, 3, .inl mtriedF)), (mfound, .inl (ky 0, 3, .inl mfoundF)), (a, .inr (7, [.int (nI wide), .int (nI high), .int heat, .int cools, .int skinHeat, .int today, .int stirs, .int steps, .int (nI lumps), .int (nI boats), .ref thickness, .ref lumpNames, .ref lumpCells, .ref boatNames, .ref boatCells, .ref loads, .ref spoons, .ref spoonsLeft, .ref depths])), (lumpCells, .inl (ky 0, 6, .inl lumpCellsF)), (boatCells, .inl (ky 0, 6, .inl boatCellsF)), (depths, .inl (ky 0, 6, .inl depthsF))] sz) (va_Qi (fun (r : Int32) (u : Nat × (Nat → Int32) × (Nat → Int32)) => match u with | (mfoundCountG, mtriedG, mfoundG) => mfoundCountG ≤ 3) (BU dC dI ky (fun (u : Nat × (Nat → Int32) × (Nat → Int32)) => match u with | (mfoundCountG, mtriedG, mfoundG) => [(me, .inr (4, [.ref mtried, .ref mfound, .int (nI mfoundCountG)])), (mtried, .inl (ky 0, 3, .inl mtriedG)), (mfound, .inl (ky 0, 3, .inl mfoundG)), (a, .inr (7, [.int (nI wide), .int (nI high), .int heat, .int cools, .int skinHeat, .int today, .int stirs, .int steps, .int (nI lumps), .int (nI boats), .ref thickness, .ref lumpNames, .ref lumpCells, .ref boatNames, .ref boatCells, .ref loads, .ref spoons, .ref spoonsLeft, .ref depths])), (lumpCells, .inl (ky 0, 6, .inl lumpCellsF)), (boatCells, .inl (ky 0, 6, .inl boatCellsF)), (depths, .inl (ky 0, 6, .inl depthsF))]) (va_A [(me, .inr (4, [.ref mtried, .ref mfound, .int (nI mfoundCount)])), (mtried, .inl (ky 0, 3, .inl mtriedF)), (mfound, .inl (ky 0, 3, .inl mfoundF)), (a, .inr (7, [.int (nI wide), .int (nI high), .int heat, .int cools, .int skinHeat, .int today, .int stirs, .int steps, .int (nI lumps), .int (nI boats), .ref thickness, .ref lumpNames, .ref lumpCells, .ref boatNames, .ref boatCells, .ref loads, .ref spoons, .ref spoonsLeft, .ref depths])), (lumpCells, .inl (ky 0, 6, .inl lumpCellsF)), (boatCells, .inl (ky 0, 6, .inl boatCellsF)), (depths, .inl (ky 0, 6, .inl depthsF))] sz)) (va_A [(me, .inr (4, [.ref mtried, .ref mfound, .int (nI mfoundCount)])), (mtried, .inl (ky 0, 3, .inl mtriedF)), (mfound, .inl (ky 0, 3, .inl mfoundF)), (a, .inr (7, [.int (nI wide), .int (nI high), .int heat, .int cools, .int skinHeat, .int today, .int stirs, .int steps, .int (nI lumps), .int (nI boats), .ref thickness, .ref lumpNames, .ref lumpCells, .ref boatNames, .ref boatCells, .ref loads, .ref spoons, .ref spoonsLeft, .ref depths])), (lumpCells, .inl (ky 0, 6, .inl lumpCellsF)), (boatCells, .inl (ky 0, 6, .inl boatCellsF)), (depths, .inl (ky 0, 6, .inl depthsF))] sz)) 0 0 (va_A [(me, .inr (4, [.ref mtried, .ref mfound, .int (nI mfoundCount)])), (mtried, .inl (ky 0, 3, .inl mtriedF)), (mfound, .inl (ky 0, 3, .inl mfoundF)), (a, .inr (7, [.int (nI wide), .int (nI high), .int heat, .int cools, .int skinHeat, .int today, .int stirs, .int steps, .int (nI lumps), .int (nI boats), .ref thickness, .ref lumpNames, .ref lumpCells, .ref boatNames, .ref boatCells, .ref loads, .ref spoons, .ref spoonsLeft, .ref depths])), (lumpCells, .inl (ky 0, 6, .inl lumpCellsF)), (boatCells, .inl (ky 0, 6, .inl boatCellsF)), (depths, .inl (ky 0, 6, .inl depthsF))] sz) := by
  refine Met.ofW (cc := cX4_find) (maxL := 5) (ret := (some .int)) (by decide) rfl ?_
  intro p e s m args below meth c s₁ B hml hv
  obtain ⟨rfl, hsz, hP, hK, hD0⟩ := hv
  have hx := B.exec
  have hb := B.bytes
  have hr := B.returns
  have hts := atoms_spec (ws := wsX4_find) B.pre
  have hown : s.vm.findClass RX4 = some m.cls := findClass_of_methodNamed B.named
  have hlocks := B.notSynchronized
  have hin4 : ∀ w ∈ u_ws RX4 TX4 3, w ∈ wsX4_find := by decide +kernel
  have hin7 : ∀ w ∈ u_ws RX7 TX7 19, w ∈ wsX4_find := by decide +kernel
  subst hsz
  have hD := hD0.self (sz := s.heap.size)
  generalize hAe : va_A [(me, .inr (4, [.ref mtried, .ref mfound, .int (nI mfoundCount)])), (mtried, .inl (ky 0, 3, .inl mtriedF)), (mfound, .inl (ky 0, 3, .inl mfoundF)), (a, .inr (7, [.int (nI wide), .int (nI high), .int heat, .int cools, .int skinHeat, .int today, .int stirs, .int steps, .int (nI lumps), .int (nI boats), .ref thickness, .ref lumpNames, .ref lumpCells, .ref boatNames, .ref boatCells, .ref loads, .ref spoons, .ref spoonsLeft, .ref depths])), (lumpCells, .inl (ky 0, 6, .inl lumpCellsF)), (boatCells, .inl (ky 0, 6, .inl boatCellsF)), (depths, .inl (ky 0, 6, .inl depthsF))] s.heap.size = A at hD ⊢
  have hA : ∀ q : Nat, s.heap.size ≤ q → A q := fun q h => by rw [← hAe]; exact Or.inr h
  have hS : va_S A s.heap s.heap [] := va_S.rf
  have hl := lv_entry ([.ref me, .ref a, .int x, .int y]) (n := 5) (Nat.le_of_ble_eq_true rfl)
  rw [lg_entry_eq]
  generalize (lg_sl ([.ref me, .ref a, .int x, .int y]) ++ List.replicate (5 - (lg_sl ([.ref me, .ref a, .int x, .int y])).length) Slot.unset).toArray = ls at hl ⊢
  have hl : lv_has ls 5 [(0, .ref me), (1, .ref a), (2, .int x), (3, .int y)] := hl
  refine q_name (fun Q hQ => ?_)
  generalize ([.ref me, .ref a, .int x, .int y] : List Value).toArray = args at hts hQ ⊢
  refine lv_aload_n hx hb dX4_find_0 rfl (lv_at hl 1 rfl) ?_
  refine lv_iload_n hx hb dX4_find_1 rfl (lv_at hl 2 rfl) ?_
  refine vp_callSi (W.runV (As := [.int x]) (rest := []) ⟨hx, hb, hml, hown, hts⟩ (c_s_isBoat l dC dI ky a wide high heat cools skinHeat today stirs steps lumps boats thickness lumpNames lumpCells boatNames boatCells loads spoons spoonsLeft depths x iv_a_0 iv_a_1 iv_a_2 iv_a_3 iv_a_4 iv_a_5) (cwV 1 hts gX4_find_X7_isBoat rfl rfl rfl (by decide +kernel) ⟨(Nat.le_of_ble_eq_true rfl), (Nat.le_of_ble_eq_true rfl)⟩) (pre_PV hK hP [3] rfl (ci := 7) (q0 := 3) rfl rfl) rfl rfl hl.1 rfl (lv_room (Nat.le_of_ble_eq_true rfl)) dX4_find_2 ⟨(Nat.le_of_ble_eq_true rfl), (Nat.le_of_ble_eq_true rfl)⟩) (fun r1 p2 => ?_)
  rcases p2 with ⟨rfl, t3, t4⟩ | ⟨rfl, t5⟩
  · refine lv_if_eq (tgt := 24) hx hb dX4_find_5 (by decide) (fun c6 => absurd c6 (by decide)) (fun c6 => ?_)
    refine lv_aload_n hx hb dX4_find_8 rfl (lv_at hl 1 rfl) ?_
    refine lv_iload_n hx hb dX4_find_9 rfl (lv_at hl 3 rfl) ?_
    refine vp_callSi (W.runV (As := [.int y]) (rest := []) ⟨hx, hb, hml, hown, hts⟩ (c_s_isLump l dC dI ky a wide high heat cools skinHeat today stirs steps lumps boats thickness lumpNames lumpCells boatNames boatCells loads spoons spoonsLeft depths y iv_a_0 iv_a_1 iv_a_2 iv_a_3 iv_a_4 iv_a_5) (cwV 1 hts gX4_find_X7_isLump rfl rfl rfl (by decide +kernel) ⟨(Nat.le_of_ble_eq_true rfl), (Nat.le_of_ble_eq_true rfl)⟩) (pre_PV hK hP [3] rfl (ci := 7) (q0 := 3) rfl rfl) rfl rfl hl.1 rfl (lv_room (Nat.le_of_ble_eq_true rfl)) dX4_find_10 ⟨(Nat.le_of_ble_eq_true rfl), (Nat.le_of_ble_eq_true rfl)⟩) (fun r7 p8 => ?_)
    rcases p8 with ⟨rfl, t9, t10⟩ | ⟨rfl, t11⟩
    · refine lv_if_eq (tgt := 24) hx hb dX4_find_13 (by decide) (fun c12 => absurd c12 (by decide)) (fun c12 => ?_)
      refine lv_aload_n hx hb dX4_find_16 rfl (lv_at hl 1 rfl) ?_
      refine lv_iload_n hx hb dX4_find_17 rfl (lv_at hl 2 rfl) ?_
      refine vp_callSi (W.runV (As := [.int x]) (rest := []) ⟨hx, hb, hml, hown, hts⟩ (c_s_isEaten l dC dI ky a wide high heat cools skinHeat today stirs steps lumps boats thickness lumpNames lumpCells boatNames boatCells loads spoons spoonsLeft depths depthsF x iv_a_0 iv_a_1 iv_a_2 iv_a_3 iv_a_4 iv_a_5) (cwV 1 hts gX4_find_X7_isEaten rfl rfl rfl (by decide +kernel) ⟨(Nat.le_of_ble_eq_true rfl), (Nat.le_of_ble_eq_true rfl)⟩) (pre_PV hK hP [3, 6] rfl (ci := 7) (q0 := 3) rfl rfl) rfl rfl hl.1 rfl (lv_room (Nat.le_of_ble_eq_true rfl)) dX4_find_18 ⟨(Nat.le_of_ble_eq_true rfl), (Nat.le_of_ble_eq_true rfl)⟩) (fun r13 p14 => ?_)
      rcases p14 with ⟨rfl, t15, t16⟩ | ⟨rfl, t17⟩
      · refine lv_if_eq (tgt := 26) hx hb dX4_find_21 (by decide) (fun c18 => absurd c18 (by decide)) (fun c18 => ?_)
        refine lv_iconst (v := (-1 : Int32)) hx hb dX4_find_24 (by decide) ?_
        rw [hQ]
        exact W.iret (v := (-1 : Int32)) hx hb hr (fun t9 ht9 hW9 => ⟨⟨(-1 : Int32), (mfoundCount, mtriedF, mfoundF), rfl, iv_mme_0, by rw [ht9]; exact hP, va_K.moved hW9.alike hK, hD⟩, hS.F ht9⟩) hS.2.2 dX4_find_25
      · refine lv_if_eq (tgt := 26) hx hb dX4_find_21 (by decide) (fun c19 => ?_) (fun c19 => absurd (by decide) c19)
        refine lv_iconst (v := nI 0) hx hb dX4_find_26 (by decide) ?_
        refine lv_istore (lv' := [(4, .int (nI 0)), (0, .ref me), (1, .ref a), (2, .int x), (3, .int y)]) hx hb dX4_find_27 hl (by decide) rfl (fun ls hl => ?_)
        have hL29 : ∀ (n30 : Nat) (k26 : Nat) (f27 : Nat → Int32), (k26 ≤ 4) → 4 - k26 < n30 → ∀ (H : Heap) (locs : List Loc) (ls : Array Slot), va_P (dC, dI) vwCl [(me, .inr (4, [.ref mtried, .ref mfound, .int (nI mfoundCount)])), (mtried, .inl (ky 0, 3, .inl f27)), (mfound, .inl (ky 0, 3, .inl mfoundF)), (a, .inr (7, [.int (nI wide), .int (nI high), .int heat, .int cools, .int skinHeat, .int today, .int stirs, .int steps, .int (nI lumps), .int (nI boats), .ref thickness, .ref lumpNames, .ref lumpCells, .ref boatNames, .ref boatCells, .ref loads, .ref spoons, .ref spoonsLeft, .ref depths])), (lumpCells, .inl (ky 0, 6, .inl lumpCellsF)), (boatCells, .inl (ky 0, 6, .inl boatCellsF)), (depths, .inl (ky 0, 6, .inl depthsF))] H → va_D A [(me, .inr (4, [.ref mtried, .ref mfound, .int (nI mfoundCount)])), (mtried, .inl (ky 0, 3, .inl f27)), (mfound, .inl (ky 0, 3, .inl mfoundF)), (a, .inr (7, [.int (nI wide), .int (nI high), .int heat, .int cools, .int skinHeat, .int today, .int stirs, .int steps, .int (nI lumps), .int (nI boats), .ref thickness, .ref lumpNames, .ref lumpCells, .ref boatNames, .ref boatCells, .ref loads, .ref spoons, .ref spoonsLeft, .ref depths])), (lumpCells, .inl (ky 0, 6, .inl lumpCellsF)), (boatCells, .inl (ky 0, 6, .inl boatCellsF)), (depths, .inl (ky 0, 6, .inl depthsF))] → va_S A s.heap H locs → lv_has ls 5 [(4, .int (nI k26)), (0, .ref me), (1, .ref a), (2, .int x), (3, .int y)] → W p l e (headSpec wsX4_find ({ frames := 6, cells := 0, slots := 0, locals := 152 })).room s m args below meth c H locs 0 0 Q (F0 m 29 ls []) := by
          intro n30
          induction n30 with
          | zero => intro k26 f27 _ h9; exact absurd h9 (Nat.not_lt_zero _)
          | succ n30 ih31 =>
            intro k26 f27 j28 hm32 H locs ls hP hD hS hl
            refine lv_iload hx hb dX4_find_29 (lv_at hl 0 rfl) ?_
            refine lv_iconst (v := nI 3) hx hb dX4_find_31 (by decide) ?_
            refine n_icmp_gt (x := k26) (y := 3) (tgt := 87) hx hb (by omega) (by omega) dX4_find_32 (by decide) (fun c33 => ?_) (fun c33 => ?_)
            · refine lv_iconst (v := (-1 : Int32)) hx hb dX4_find_87 (by decide) ?_
              rw [hQ]
              exact W.iret (v := (-1 : Int32)) hx hb hr (fun t9 ht9 hW9 => ⟨⟨(-1 : Int32), (mfoundCount, f27, mfoundF), rfl, iv_mme_0, by rw [ht9]; exact hP, va_K.moved hW9.alike hK, hD⟩, hS.F ht9⟩) hS.2.2 dX4_find_88
            · refine lv_aload_n hx hb dX4_find_35 rfl (lv_at hl 1 rfl) ?_
              refine lv_aload_n hx hb dX4_find_36 rfl (lv_at hl 2 rfl) ?_
              refine lv_aload_n hx hb dX4_find_37 rfl (lv_at hl 2 rfl) ?_
              refine va_get (D := (dC, dI)) (ci := 7) (v := .ref boatCells) (C := RX7) (T := TX7) (N := 19) hx hb hts hin7 hown hK hP 3 rfl rfl 14 (by decide) (hts (.fieldLink RX4 34 "PorridgeSea$Sea" "boatCells" "[I") (List.mem_of_getElem? (i := 1) rfl)) (fun _ h9 => h9) rfl dX4_find_38 ?_
              refine lv_iload_n hx hb dX4_find_41 rfl (lv_at hl 3 rfl) ?_
              obtain ⟨n34, h35, e36⟩ := nat_of x 6 (by decide) (lf_m_find_1 boats x iv_a_5 t3 t4 t17)
              rw [e36]
              obtain ⟨y37, e38⟩ : ∃ z9, z9 = boatCellsF n34 := ⟨_, rfl⟩
              refine r_iald hx hb hK hP 5 rfl n34 (by omega) (by decide) y37 e38.symm dX4_find_42 ?_
              refine lv_aload_n hx hb dX4_find_43 rfl (lv_at hl 2 rfl) ?_
              refine va_get (D := (dC, dI)) (ci := 7) (v := .ref lumpCells) (C := RX7) (T := TX7) (N := 19) hx hb hts hin7 hown hK hP 3 rfl rfl 12 (by decide) (hts (.fieldLink RX4 37 "PorridgeSea$Sea" "lumpCells" "[I") (List.mem_of_getElem? (i := 2) rfl)) (fun _ h9 => h9) rfl dX4_find_44 ?_
              refine lv_iload_n hx hb dX4_find_47 rfl (lv_at hl 4 rfl) ?_
              obtain ⟨n39, h40, e41⟩ := nat_of y 6 (by decide) (lf_m_find_2 lumps y iv_a_4 t9 t10 t17)
              rw [e41]
              obtain ⟨y42, e43⟩ : ∃ z9, z9 = lumpCellsF n39 := ⟨_, rfl⟩
              refine r_iald hx hb hK hP 4 rfl n39 (by omega) (by decide) y42 e43.symm dX4_find_48 ?_
              refine lv_iconst (v := nI 0) hx hb dX4_find_49 (by decide) ?_
              refine lv_iload hx hb dX4_find_50 (lv_at hl 0 rfl) ?_
              refine r_call_i (wr := [(lumpCells, .inl (ky 0, 6, .inl lumpCellsF)), (boatCells, .inl (ky 0, 6, .inl boatCellsF)), (depths, .inl (ky 0, 6, .inl depthsF))]) (va_runV (As := [.ref a, .int y37, .int y42, .int (nI 0), .int (nI k26)]) (rest := []) ⟨hx, hb, hml, hown, hts⟩ (c_m_search0 l dC dI ky H.size me mtried mfound mfoundCount f27 mfoundF a wide high heat cools skinHeat today stirs steps lumps boats thickness lumpNames lumpCells boatNames boatCells loads spoons spoonsLeft depths y37 y42 (nI k26) iv_mme_0 iv_a_0 iv_a_1 iv_a_2 iv_a_3 iv_a_4 iv_a_5) (cwV 5 hts gX4_find_X4_search rfl rfl rfl (by decide +kernel) ⟨(Nat.le_of_ble_eq_true rfl), (Nat.le_of_ble_eq_true rfl)⟩) (pre_UV hK hP hD [0, 1, 2, 3] (by decide) rfl (ci := 4) (q0 := 0) rfl rfl) rfl rfl hl.1 rfl (lv_room (Nat.le_of_ble_eq_true rfl)) dX4_find_52 ⟨(Nat.le_of_ble_eq_true rfl), (Nat.le_of_ble_eq_true rfl)⟩) hP hD hS hA [0, 1, 2, 3] [4, 5, 6] rfl rfl (by decide) (by decide) (fun r46 u44 H locs p45 hP hD hS => ?_)
              obtain ⟨mtriedG_47, rfl⟩ : ∃ z, z = u44 := ⟨_, rfl⟩
              try dsimp only at p45
              have p48 := p45
              refine W.widen (k := 0) (n := 0) (Nat.le_of_ble_eq_true rfl) (Nat.le_of_ble_eq_true rfl) ?_
              have hP : va_P (dC, dI) vwCl [(lumpCells, .inl (ky 0, 6, .inl lumpCellsF)), (boatCells, .inl (ky 0, 6, .inl boatCellsF)), (depths, .inl (ky 0, 6, .inl depthsF)), (me, .inr (4, [.ref mtried, .ref mfound, .int (nI mfoundCount)])), (mtried, .inl (ky 0, 3, .inl mtriedG_47)), (mfound, .inl (ky 0, 3, .inl mfoundF)), (a, .inr (7, [.int (nI wide), .int (nI high), .int heat, .int cools, .int skinHeat, .int today, .int stirs, .int steps, .int (nI lumps), .int (nI boats), .ref thickness, .ref lumpNames, .ref lumpCells, .ref boatNames, .ref boatCells, .ref loads, .ref spoons, .ref spoonsLeft, .ref depths]))] H := hP
              have hD : va_D A [(lumpCells, .inl (ky 0, 6, .inl lumpCellsF)), (boatCells, .inl (ky 0, 6, .inl boatCellsF)), (depths, .inl (ky 0, 6, .inl depthsF)), (me, .inr (4, [.ref mtried, .ref mfound, .int (nI mfoundCount)])), (mtried, .inl (ky 0, 3, .inl mtriedG_47)), (mfound, .inl (ky 0, 3, .inl mfoundF)), (a, .inr (7, [.int (nI wide), .int (nI high), .int heat, .int cools, .int skinHeat, .int today, .int stirs, .int steps, .int (nI lumps), .int (nI boats), .ref thickness, .ref lumpNames, .ref lumpCells, .ref boatNames, .ref boatCells, .ref loads, .ref spoons, .ref spoonsLeft, .ref depths]))] := hD
              refine lv_if_eq (tgt := 81) hx hb dX4_find_55 (by decide) (fun c49 => ?_) (fun c49 => ?_)
              · refine lv_iinc (v := nI (k26 + 1)) (lv' := [(4, .int (nI (k26 + 1))), (0, .ref me), (1, .ref a), (2, .int x), (3, .int y)]) hx hb dX4_find_81 hl (k := 0) rfl (show nI k26 + nI 1 = nI (k26 + 1) from nI_add _ _) (by decide) rfl (fun ls hl => ?_)
                refine lv_goto (tgt := 29) hx hb dX4_find_84 (by decide) ?_
                exact ih31 (k26 + 1) mtriedG_47 (lf_m_find_3 k26 n30 t17 j28 hm32 c33) (lf_m_find_4 k26 n30 t17 j28 hm32 c33) _ _ _ (hP.sub [3, 4, 5, 6, 0, 1, 2] rfl) (hD.sub [3, 4, 5, 6, 0, 1, 2] (by decide) rfl) hS (lv_sub hl [0, 1, 2, 3, 4] rfl)
              · refine lv_aload_n hx hb dX4_find_58 rfl (lv_at hl 1 rfl) ?_
                refine va_get (D := (dC, dI)) (ci := 4) (v := .ref mtried) (C := RX4) (T := TX4) (N := 3) hx hb hts hin4 hown hK hP 3 rfl rfl 0 (by decide) (hts (.fieldLink RX4 11 "PorridgeSea$Meeting" "tried" "[I") (List.mem_of_getElem? (i := 3) rfl)) (fun _ h9 => h9) rfl dX4_find_59 ?_
                refine lv_iconst (v := nI 0) hx hb dX4_find_62 (by decide) ?_
                refine lv_aload_n hx hb dX4_find_63 rfl (lv_at hl 1 rfl) ?_
                refine va_get (D := (dC, dI)) (ci := 4) (v := .ref mfound) (C := RX4) (T := TX4) (N := 3) hx hb hts hin4 hown hK hP 3 rfl rfl 1 (by decide) (hts (.fieldLink RX4 15 "PorridgeSea$Meeting" "found" "[I") (List.mem_of_getElem? (i := 4) rfl)) (fun _ h9 => h9) rfl dX4_find_64 ?_
                refine lv_iconst (v := nI 0) hx hb dX4_find_67 (by decide) ?_
                refine lv_iconst (v := nI 3) hx hb dX4_find_68 (by decide) ?_
                refine va_copyi hx hb (by rw [hml]; exact hl.1.symm) hown (hts _ (List.mem_of_getElem? (i := 5) rfl)) (hts _ (List.mem_of_getElem? (i := 6) rfl)) (hts _ (List.mem_of_getElem? (i := 7) rfl)) (hts _ (List.mem_of_getElem? (i := 8) rfl)) hK hP hD hS 4 5 0 0 rfl rfl rfl rfl rfl (by decide) (by decide) (by decide) (by decide) (by decide) (fun _ _ => rfl) (Nat.le_of_ble_eq_true rfl) (Nat.le_of_ble_eq_true rfl) dX4_find_69 (fun H locs hP hD hS => ?_)
                obtain ⟨g50, e51⟩ : ∃ z9, z9 = va_cpy mtriedG_47 mfoundF (nI 0).toNatClampNeg (nI 0).toNatClampNeg (nI 3).toNatClampNeg := ⟨_, rfl⟩
                rw [← e51] at hP hD
                have hP : va_P (dC, dI) vwCl [(lumpCells, .inl (ky 0, 6, .inl lumpCellsF)), (boatCells, .inl (ky 0, 6, .inl boatCellsF)), (depths, .inl (ky 0, 6, .inl depthsF)), (me, .inr (4, [.ref mtried, .ref mfound, .int (nI mfoundCount)])), (mtried, .inl (ky 0, 3, .inl mtriedG_47)), (mfound, .inl (ky 0, 3, .inl g50)), (a, .inr (7, [.int (nI wide), .int (nI high), .int heat, .int cools, .int skinHeat, .int today, .int stirs, .int steps, .int (nI lumps), .int (nI boats), .ref thickness, .ref lumpNames, .ref lumpCells, .ref boatNames, .ref boatCells, .ref loads, .ref spoons, .ref spoonsLeft, .ref depths]))] H := hP
                have hD : va_D A [(lumpCells, .inl (ky 0, 6, .inl lumpCellsF)), (boatCells, .inl (ky 0, 6, .inl boatCellsF)), (depths, .inl (ky 0, 6, .inl depthsF)), (me, .inr (4, [.ref mtried, .ref mfound, .int (nI mfoundCount)])), (mtried, .inl (ky 0, 3, .inl mtriedG_47)), (mfound, .inl (ky 0, 3, .inl g50)), (a, .inr (7, [.int (nI wide), .int (nI high), .int heat, .int cools, .int skinHeat, .int today, .int stirs, .int steps, .int (nI lumps), .int (nI boats), .ref thickness, .ref lumpNames, .ref lumpCells, .ref boatNames, .ref boatCells, .ref loads, .ref spoons, .ref spoonsLeft, .ref depths]))] := hD
                refine lv_aload_n hx hb dX4_find_72 rfl (lv_at hl 1 rfl) ?_
                refine lv_iload hx hb dX4_find_73 (lv_at hl 0 rfl) ?_
                refine va_put (D := (dC, dI)) (ci := 4) (v := .int (nI k26)) (ty := .int) (C := RX4) (T := TX4) (N := 3) hx hb hts hin4 tyX4 tyX4_ok nmX4 hown hK hP hD hS 3 rfl rfl 2 (by decide) (hts (.fieldLink RX4 18 "PorridgeSea$Meeting" "foundCount" "I") (List.mem_of_getElem? (i := 9) rfl)) (fun _ h9 => h9) rfl (by decide +kernel) rfl rfl (Nat.le_of_ble_eq_true rfl) dX4_find_75 (fun H locs hP hD hS => ?_)
                have hP : va_P (dC, dI) vwCl [(lumpCells, .inl (ky 0, 6, .inl lumpCellsF)), (boatCells, .inl (ky 0, 6, .inl boatCellsF)), (depths, .inl (ky 0, 6, .inl depthsF)), (me, .inr (4, [.ref mtried, .ref mfound, .int (nI k26)])), (mtried, .inl (ky 0, 3, .inl mtriedG_47)), (mfound, .inl (ky 0, 3, .inl g50)), (a, .inr (7, [.int (nI wide), .int (nI high), .int heat, .int cools, .int skinHeat, .int today, .int stirs, .int steps, .int (nI lumps), .int (nI boats), .ref thickness, .ref lumpNames, .ref lumpCells, .ref boatNames, .ref boatCells, .ref loads, .ref spoons, .ref spoonsLeft, .ref depths]))] H := hP
                have hD : va_D A [(lumpCells, .inl (ky 0, 6, .inl lumpCellsF)), (boatCells, .inl (ky 0, 6, .inl boatCellsF)), (depths, .inl (ky 0, 6, .inl depthsF)), (me, .inr (4, [.ref mtried, .ref mfound, .int (nI k26)])), (mtried, .inl (ky 0, 3, .inl mtriedG_47)), (mfound, .inl (ky 0, 3, .inl g50)), (a, .inr (7, [.int (nI wide), .int (nI high), .int heat, .int cools, .int skinHeat, .int today, .int stirs, .int steps, .int (nI lumps), .int (nI boats), .ref thickness, .ref lumpNames, .ref lumpCells, .ref boatNames, .ref boatCells, .ref loads, .ref spoons, .ref spoonsLeft, .ref depths]))] := hD
                refine lv_iload hx hb dX4_find_78 (lv_at hl 0 rfl) ?_
                rw [hQ]
                have hP9 := hP.sub (ws' := [(me, .inr (4, [.ref mtried, .ref mfound, .int (nI k26)])), (mtried, .inl (ky 0, 3, .inl mtriedG_47)), (mfound, .inl (ky 0, 3, .inl g50)), (a, .inr (7, [.int (nI wide), .int (nI high), .int heat, .int cools, .int skinHeat, .int today, .int stirs, .int steps, .int (nI lumps), .int (nI boats), .ref thickness, .ref lumpNames, .ref lumpCells, .ref boatNames, .ref boatCells, .ref loads, .ref spoons, .ref spoonsLeft, .ref depths])), (lumpCells, .inl (ky 0, 6, .inl lumpCellsF)), (boatCells, .inl (ky 0, 6, .inl boatCellsF)), (depths, .inl (ky 0, 6, .inl depthsF))]) [3, 4, 5, 6, 0, 1, 2] rfl
                have hD9 := hD.sub (ws' := [(me, .inr (4, [.ref mtried, .ref mfound, .int (nI k26)])), (mtried, .inl (ky 0, 3, .inl mtriedG_47)), (mfound, .inl (ky 0, 3, .inl g50)), (a, .inr (7, [.int (nI wide), .int (nI high), .int heat, .int cools, .int skinHeat, .int today, .int stirs, .int steps, .int (nI lumps), .int (nI boats), .ref thickness, .ref lumpNames, .ref lumpCells, .ref boatNames, .ref boatCells, .ref loads, .ref spoons, .ref spoonsLeft, .ref depths])), (lumpCells, .inl (ky 0, 6, .inl lumpCellsF)), (boatCells, .inl (ky 0, 6, .inl boatCellsF)), (depths, .inl (ky 0, 6, .inl depthsF))]) [3, 4, 5, 6, 0, 1, 2] (by decide) rfl
                exact W.iret (v := nI k26) hx hb hr (fun t9 ht9 hW9 => ⟨⟨nI k26, (k26, mtriedG_47, g50), rfl, c33, by rw [ht9]; exact hP9, va_K.moved hW9.alike hK, hD9⟩, hS.F ht9⟩) hS.2.2 dX4_find_80
        exact hL29 ((4 - 0) + 1) 0 mtriedF (lf_m_find_5 t17) (Nat.lt_succ_self _) _ _ _ hP hD hS (lv_sub hl [0, 1, 2, 3, 4] rfl)
    · refine lv_if_eq (tgt := 24) hx hb dX4_find_13 (by decide) (fun c52 => ?_) (fun c52 => absurd (by decide) c52)
      refine lv_iconst (v := (-1 : Int32)) hx hb dX4_find_24 (by decide) ?_
      rw [hQ]
      exact W.iret (v := (-1 : Int32)) hx hb hr (fun t9 ht9 hW9 => ⟨⟨(-1 : Int32), (mfoundCount, mtriedF, mfoundF), rfl, iv_mme_0, by rw [ht9]; exact hP, va_K.moved hW9.alike hK, hD⟩, hS.F ht9⟩) hS.2.2 dX4_find_25
  · refine lv_if_eq (tgt := 24) hx hb dX4_find_5 (by decide) (fun c53 => ?_) (fun c53 => absurd (by decide) c53)
    refine lv_iconst (v := (-1 : Int32)) hx hb dX4_find_24 (by decide) ?_
    rw [hQ]
    exact W.iret (v := (-1 : Int32)) hx hb hr (fun t9 ht9 hW9 => ⟨⟨(-1 : Int32), (mfoundCount, mtriedF, mfoundF), rfl, iv_mme_0, by rw [ht9]; exact hP, va_K.moved hW9.alike hK, hD⟩, hS.F ht9⟩) hS.2.2 dX4_find_25
set_option maxRecDepth 20000 in
theorem lf_m_stirAt_1 (mfoundCount : Nat) (x : Int32) (iv_mme_0 : mfoundCount ≤ 3) (c1 : ¬ x < 0) (c2 : x < nI mfoundCount) : 0 ≤ x.toInt ∧ x.toInt < ((3 : Nat) : Int) := by
  have b_x := ia_b x
  try have k_0 := ia_n mfoundCount (by first | decide | omega)
  try simp only [ia_lt, ia_le, ia_eq, ia_m1, ia_0, ia_1, ne_eq, true_and, and_true, false_and, and_false, or_false, false_or, or_true, true_or, not_true_eq_false, not_false_eq_true] at *
  all_goals omega
set_option maxRecDepth 20000 in
theorem lf_m_stirAt_2 (mfoundCount : Nat) (x : Int32) (iv_mme_0 : mfoundCount ≤ 3) (c1 : ¬ x < 0) (c2 : x < nI mfoundCount) : 0 ≤ x.toInt ∧ x.toInt < ((3 : Nat) : Int) := by
  have b_x := ia_b x
  try have k_0 := ia_n mfoundCount (by first | decide | omega)
  try simp only [ia_lt, ia_le, ia_eq, ia_m1, ia_0, ia_1, ne_eq, true_and, and_true, false_and, and_false, or_false, false_or, or_true, true_or, not_true_eq_false, not_false_eq_true] at *
  all_goals omega
set_option maxRecDepth 20000 in
theorem lf_m_stirAt_3 (mfoundCount : Nat) (x : Int32) (iv_mme_0 : mfoundCount ≤ 3) (c1 : ¬ x < 0) (c2 : x < nI mfoundCount) : 0 ≤ x.toInt ∧ x.toInt < ((3 : Nat) : Int) := by
  have b_x := ia_b x
  try have k_0 := ia_n mfoundCount (by first | decide | omega)
  try simp only [ia_lt, ia_le, ia_eq, ia_m1, ia_0, ia_1, ne_eq, true_and, and_true, false_and, and_false, or_false, false_or, or_true, true_or, not_true_eq_false, not_false_eq_true] at *
  all_goals omega
set_option maxHeartbeats 4000000 in
set_option maxRecDepth 100000 in
theorem c_m_stirAt (l : Launch) (dC : Nat → ClassId) (dI : Nat → Nat → Nat) (ky : Nat → ClassId) (me : Nat) (mtried : Nat) (mfound : Nat) (mfoundCount : Nat) (mtriedF : Nat → Int32) (mfoundF : Nat → Int32) (x : Int32) (y : Int32) (iv_mme_0 : mfoundCount ≤ 3) : Met l yX4_stirAt wsX4_stirAt ({ frames := 1, cells := 0, slots := 0, locals := 20 }) (PcP dC dI ky [.ref me, .int x, .int y] [(me, .inr (4, [.ref mtried, .ref mfound, .int (nI mfoundCount)])), (mtried, .inl (ky 0, 3, .inl mtriedF)), (mfound, .inl (ky 0, 3, .inl mfoundF))]) (vp_Si (fun r : Int32 => True)) 0 0 (fun _ => False) := by
  refine Met.ofW (cc := cX4_stirAt) (maxL := 3) (ret := (some .int)) (by decide) rfl ?_
  intro p e s m args below meth c s₁ B hml hv
  obtain ⟨rfl, hP, hK⟩ := hv
  have hx := B.exec
  have hb := B.bytes
  have hr := B.returns
  have hts := atoms_spec (ws := wsX4_stirAt) B.pre
  have hown : s.vm.findClass RX4 = some m.cls := findClass_of_methodNamed B.named
  have hlocks := B.notSynchronized
  have hin4 : ∀ w ∈ u_ws RX4 TX4 3, w ∈ wsX4_stirAt := by decide +kernel
  have hl := lv_entry ([.ref me, .int x, .int y]) (n := 3) (Nat.le_of_ble_eq_true rfl)
  rw [lg_entry_eq]
  generalize (lg_sl ([.ref me, .int x, .int y]) ++ List.replicate (3 - (lg_sl ([.ref me, .int x, .int y])).length) Slot.unset).toArray = ls at hl ⊢
  have hl : lv_has ls 3 [(0, .ref me), (1, .int x), (2, .int y)] := hl
  refine q_name (fun Q hQ => ?_)
  generalize ([.ref me, .int x, .int y] : List Value).toArray = args at hts hQ ⊢
  refine lv_iload_n hx hb dX4_stirAt_0 rfl (lv_at hl 1 rfl) ?_
  refine lv_if_lt (tgt := 12) hx hb dX4_stirAt_1 (by decide) (fun c1 => ?_) (fun c1 => ?_)
  · refine lv_iconst (v := (-1 : Int32)) hx hb dX4_stirAt_12 (by decide) ?_
    rw [hQ]
    exact W.iret (v := (-1 : Int32)) hx hb hr (fun t9 ht9 hW9 => ⟨(-1 : Int32), rfl, trivial, ht9⟩) (fun _ h => absurd h List.not_mem_nil) dX4_stirAt_13
  · refine lv_iload_n hx hb dX4_stirAt_4 rfl (lv_at hl 1 rfl) ?_
    refine lv_aload_n hx hb dX4_stirAt_5 rfl (lv_at hl 0 rfl) ?_
    refine va_get (D := (dC, dI)) (ci := 4) (v := .int (nI mfoundCount)) (C := RX4) (T := TX4) (N := 3) hx hb hts hin4 hown hK hP 0 rfl rfl 2 (by decide) (hts (.fieldLink RX4 18 "PorridgeSea$Meeting" "foundCount" "I") (List.mem_of_getElem? (i := 1) rfl)) (fun _ h9 => h9) rfl dX4_stirAt_6 ?_
    refine lv_icmp_lt (tgt := 14) hx hb dX4_stirAt_9 (by decide) (fun c2 => ?_) (fun c2 => ?_)
    · refine lv_iload_n hx hb dX4_stirAt_14 rfl (lv_at hl 2 rfl) ?_
      rcases sw_0_2 y with c4 | c5 | c6 | c7
      · refine lv_tableOut (tgt := 69) hx hb dX4_stirAt_15 c4 (by decide) ?_
        refine lv_iconst (v := (-1 : Int32)) hx hb dX4_stirAt_69 (by decide) ?_
        rw [hQ]
        exact W.iret (v := (-1 : Int32)) hx hb hr (fun t9 ht9 hW9 => ⟨(-1 : Int32), rfl, trivial, ht9⟩) (fun _ h => absurd h List.not_mem_nil) dX4_stirAt_70
      · refine r_ti (nI 0) c5 ?_
        rw [c5] at hl
        refine lv_tableIn (off := 25) (tgt := 40) hx hb dX4_stirAt_15 (by decide) (by decide) rfl (by decide) ?_
        refine lv_aload_n hx hb dX4_stirAt_40 rfl (lv_at hl 0 rfl) ?_
        refine va_get (D := (dC, dI)) (ci := 4) (v := .ref mfound) (C := RX4) (T := TX4) (N := 3) hx hb hts hin4 hown hK hP 0 rfl rfl 1 (by decide) (hts (.fieldLink RX4 15 "PorridgeSea$Meeting" "found" "[I") (List.mem_of_getElem? (i := 2) rfl)) (fun _ h9 => h9) rfl dX4_stirAt_41 ?_
        refine lv_iload_n hx hb dX4_stirAt_44 rfl (lv_at hl 1 rfl) ?_
        obtain ⟨n8, h9, e10⟩ := nat_of x 3 (by decide) (lf_m_stirAt_1 mfoundCount x iv_mme_0 c1 c2)
        rw [e10]
        obtain ⟨y11, e12⟩ : ∃ z9, z9 = mfoundF n8 := ⟨_, rfl⟩
        refine r_iald hx hb hK hP 2 rfl n8 (by omega) (by decide) y11 e12.symm dX4_stirAt_45 ?_
        refine vp_callSi (W.runS (As := [.int y11]) (rest := []) ⟨hx, hb, hml, hown, hts⟩ (c_m_columnOf l dC dI ky y11) (va_cwS 1 hts gX4_stirAt_X4_columnOf rfl rfl rfl (by decide +kernel) ⟨(Nat.le_of_ble_eq_true rfl), (Nat.le_of_ble_eq_true rfl)⟩) (pre_PS hK hP [] rfl) rfl rfl hl.1 rfl (lv_room (Nat.le_of_ble_eq_true rfl)) dX4_stirAt_46 ⟨(Nat.le_of_ble_eq_true rfl), (Nat.le_of_ble_eq_true rfl)⟩) (fun r13 p14 => ?_)
        rw [hQ]
        exact W.iret (v := r13) hx hb hr (fun t9 ht9 hW9 => ⟨r13, rfl, trivial, ht9⟩) (fun _ h => absurd h List.not_mem_nil) dX4_stirAt_49
      · refine r_ti (nI 1) c6 ?_
        rw [c6] at hl
        refine lv_tableIn (off := 35) (tgt := 50) hx hb dX4_stirAt_15 (by decide) (by decide) rfl (by decide) ?_
        refine lv_aload_n hx hb dX4_stirAt_50 rfl (lv_at hl 0 rfl) ?_
        refine va_get (D := (dC, dI)) (ci := 4) (v := .ref mfound) (C := RX4) (T := TX4) (N := 3) hx hb hts hin4 hown hK hP 0 rfl rfl 1 (by decide) (hts (.fieldLink RX4 15 "PorridgeSea$Meeting" "found" "[I") (List.mem_of_getElem? (i := 2) rfl)) (fun _ h9 => h9) rfl dX4_stirAt_51 ?_
        refine lv_iload_n hx hb dX4_stirAt_54 rfl (lv_at hl 1 rfl) ?_
        obtain ⟨n15, h16, e17⟩ := nat_of x 3 (by decide) (lf_m_stirAt_2 mfoundCount x iv_mme_0 c1 c2)
        rw [e17]
        obtain ⟨y18, e19⟩ : ∃ z9, z9 = mfoundF n15 := ⟨_, rfl⟩
        refine r_iald hx hb hK hP 2 rfl n15 (by omega) (by decide) y18 e19.symm dX4_stirAt_55 ?_
        refine vp_callSi (W.runS (As := [.int y18]) (rest := []) ⟨hx, hb, hml, hown, hts⟩ (c_m_lineOf l dC dI ky y18) (va_cwS 1 hts gX4_stirAt_X4_lineOf rfl rfl rfl (by decide +kernel) ⟨(Nat.le_of_ble_eq_true rfl), (Nat.le_of_ble_eq_true rfl)⟩) (pre_PS hK hP [] rfl) rfl rfl hl.1 rfl (lv_room (Nat.le_of_ble_eq_true rfl)) dX4_stirAt_56 ⟨(Nat.le_of_ble_eq_true rfl), (Nat.le_of_ble_eq_true rfl)⟩) (fun r20 p21 => ?_)
        rw [hQ]
        exact W.iret (v := r20) hx hb hr (fun t9 ht9 hW9 => ⟨r20, rfl, trivial, ht9⟩) (fun _ h => absurd h List.not_mem_nil) dX4_stirAt_59
      · refine r_ti (nI 2) c7 ?_
        rw [c7] at hl
        refine lv_tableIn (off := 45) (tgt := 60) hx hb dX4_stirAt_15 (by decide) (by decide) rfl (by decide) ?_
        refine lv_aload_n hx hb dX4_stirAt_60 rfl (lv_at hl 0 rfl) ?_
        refine va_get (D := (dC, dI)) (ci := 4) (v := .ref mfound) (C := RX4) (T := TX4) (N := 3) hx hb hts hin4 hown hK hP 0 rfl rfl 1 (by decide) (hts (.fieldLink RX4 15 "PorridgeSea$Meeting" "found" "[I") (List.mem_of_getElem? (i := 2) rfl)) (fun _ h9 => h9) rfl dX4_stirAt_61 ?_
        refine lv_iload_n hx hb dX4_stirAt_64 rfl (lv_at hl 1 rfl) ?_
        obtain ⟨n22, h23, e24⟩ := nat_of x 3 (by decide) (lf_m_stirAt_3 mfoundCount x iv_mme_0 c1 c2)
        rw [e24]
        obtain ⟨y25, e26⟩ : ∃ z9, z9 = mfoundF n22 := ⟨_, rfl⟩
        refine r_iald hx hb hK hP 2 rfl n22 (by omega) (by decide) y25 e26.symm dX4_stirAt_65 ?_
        refine lv_iconst (v := nI 2) hx hb dX4_stirAt_66 (by decide) ?_
        refine lv_irem hx hb dX4_stirAt_67 (by decide) ?_
        refine lv_topi (fun y27 e28 => ?_)
        rw [hQ]
        exact W.iret (v := y27) hx hb hr (fun t9 ht9 hW9 => ⟨y27, rfl, trivial, ht9⟩) (fun _ h => absurd h List.not_mem_nil) dX4_stirAt_68
    · refine lv_iconst (v := (-1 : Int32)) hx hb dX4_stirAt_12 (by decide) ?_
      rw [hQ]
      exact W.iret (v := (-1 : Int32)) hx hb hr (fun t9 ht9 hW9 => ⟨(-1 : Int32), rfl, trivial, ht9⟩) (fun _ h => absurd h List.not_mem_nil) dX4_stirAt_13
