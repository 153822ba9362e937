theorem dX12_row_0 : decode cX12_row 0 = .ok (.aload_n 0, 1) := by decide +kernel
theorem dX12_row_1 : decode cX12_row 1 = .ok (.iconst 0, 1) := by decide +kernel
theorem dX12_row_2 : decode cX12_row 2 = .ok (.putfield 1, 3) := by decide +kernel
theorem dX12_row_5 : decode cX12_row 5 = .ok (.aload_n 0, 1) := by decide +kernel
theorem dX12_row_6 : decode cX12_row 6 = .ok (.iconst 1, 1) := by decide +kernel
theorem dX12_row_7 : decode cX12_row 7 = .ok (.iload_n 1, 1) := by decide +kernel
theorem dX12_row_8 : decode cX12_row 8 = .ok (.iload_n 2, 1) := by decide +kernel
theorem dX12_row_9 : decode cX12_row 9 = .ok (.aload_n 0, 1) := by decide +kernel
theorem dX12_row_10 : decode cX12_row 10 = .ok (.iload_n 1, 1) := by decide +kernel
theorem dX12_row_11 : decode cX12_row 11 = .ok (.invokevirtual 260, 3) := by decide +kernel
theorem dX12_row_14 : decode cX12_row 14 = .ok (.ifCond .eq 16, 3) := by decide +kernel
theorem dX12_row_30 : decode cX12_row 30 = .ok (.iconst 0, 1) := by decide +kernel
theorem dX12_row_31 : decode cX12_row 31 = .ok (.invokevirtual 305, 3) := by decide +kernel
theorem dX12_row_34 : decode cX12_row 34 = .ok (.ireturn, 1) := by decide +kernel
theorem dX12_flour_0 : decode cX12_flour 0 = .ok (.aload_n 0, 1) := by decide +kernel
theorem dX12_flour_1 : decode cX12_flour 1 = .ok (.iconst 0, 1) := by decide +kernel
theorem dX12_flour_2 : decode cX12_flour 2 = .ok (.putfield 1, 3) := by decide +kernel
theorem dX12_flour_5 : decode cX12_flour 5 = .ok (.aload_n 0, 1) := by decide +kernel
theorem dX12_flour_6 : decode cX12_flour 6 = .ok (.iconst 2, 1) := by decide +kernel
theorem dX12_flour_7 : decode cX12_flour 7 = .ok (.bipush 6, 2) := by decide +kernel
theorem dX12_flour_9 : decode cX12_flour 9 = .ok (.iload_n 2, 1) := by decide +kernel
theorem dX12_flour_10 : decode cX12_flour 10 = .ok (.imul, 1) := by decide +kernel
theorem dX12_flour_11 : decode cX12_flour 11 = .ok (.iload_n 1, 1) := by decide +kernel
theorem dX12_flour_12 : decode cX12_flour 12 = .ok (.iadd, 1) := by decide +kernel
theorem dX12_flour_13 : decode cX12_flour 13 = .ok (.iload_n 3, 1) := by decide +kernel
theorem dX12_flour_14 : decode cX12_flour 14 = .ok (.aload_n 0, 1) := by decide +kernel
theorem dX12_flour_15 : decode cX12_flour 15 = .ok (.iload_n 1, 1) := by decide +kernel
theorem dX12_flour_16 : decode cX12_flour 16 = .ok (.iload_n 2, 1) := by decide +kernel
theorem dX12_flour_17 : decode cX12_flour 17 = .ok (.invokevirtual 252, 3) := by decide +kernel
theorem dX12_flour_20 : decode cX12_flour 20 = .ok (.ifCond .eq 17, 3) := by decide +kernel
theorem dX12_flour_37 : decode cX12_flour 37 = .ok (.iconst 0, 1) := by decide +kernel
theorem dX12_flour_38 : decode cX12_flour 38 = .ok (.invokevirtual 305, 3) := by decide +kernel
theorem dX12_flour_41 : decode cX12_flour 41 = .ok (.ireturn, 1) := by decide +kernel
theorem dX12_flour_23 : decode cX12_flour 23 = .ok (.iload_n 3, 1) := by decide +kernel
theorem dX12_flour_24 : decode cX12_flour 24 = .ok (.iconst 1, 1) := by decide +kernel
theorem dX12_flour_25 : decode cX12_flour 25 = .ok (.bipush 9, 2) := by decide +kernel
theorem dX12_flour_27 : decode cX12_flour 27 = .ok (.invokestatic 75, 3) := by decide +kernel
theorem dX12_flour_30 : decode cX12_flour 30 = .ok (.ifCond .eq 7, 3) := by decide +kernel
theorem dX12_flour_33 : decode cX12_flour 33 = .ok (.iconst 1, 1) := by decide +kernel
theorem dX12_flour_34 : decode cX12_flour 34 = .ok (.goto 4, 3) := by decide +kernel
theorem dX12_milk_0 : decode cX12_milk 0 = .ok (.aload_n 0, 1) := by decide +kernel
theorem dX12_milk_1 : decode cX12_milk 1 = .ok (.iconst 0, 1) := by decide +kernel
theorem dX12_milk_2 : decode cX12_milk 2 = .ok (.putfield 1, 3) := by decide +kernel
theorem dX12_milk_5 : decode cX12_milk 5 = .ok (.aload_n 0, 1) := by decide +kernel
theorem dX12_milk_6 : decode cX12_milk 6 = .ok (.iconst 3, 1) := by decide +kernel
theorem dX12_milk_7 : decode cX12_milk 7 = .ok (.bipush 6, 2) := by decide +kernel
theorem dX12_milk_9 : decode cX12_milk 9 = .ok (.iload_n 2, 1) := by decide +kernel
theorem dX12_milk_10 : decode cX12_milk 10 = .ok (.imul, 1) := by decide +kernel
theorem dX12_milk_11 : decode cX12_milk 11 = .ok (.iload_n 1, 1) := by decide +kernel
theorem dX12_milk_12 : decode cX12_milk 12 = .ok (.iadd, 1) := by decide +kernel
theorem dX12_milk_13 : decode cX12_milk 13 = .ok (.iload_n 3, 1) := by decide +kernel
theorem dX12_milk_14 : decode cX12_milk 14 = .ok (.aload_n 0, 1) := by decide +kernel
theorem dX12_milk_15 : decode cX12_milk 15 = .ok (.iload_n 1, 1) := by decide +kernel
theorem dX12_milk_16 : decode cX12_milk 16 = .ok (.iload_n 2, 1) := by decide +kernel
theorem dX12_milk_17 : decode cX12_milk 17 = .ok (.invokevirtual 252, 3) := by decide +kernel
theorem dX12_milk_20 : decode cX12_milk 20 = .ok (.ifCond .eq 17, 3) := by decide +kernel
theorem dX12_milk_37 : decode cX12_milk 37 = .ok (.iconst 0, 1) := by decide +kernel
theorem dX12_milk_38 : decode cX12_milk 38 = .ok (.invokevirtual 305, 3) := by decide +kernel
theorem dX12_milk_41 : decode cX12_milk 41 = .ok (.ireturn, 1) := by decide +kernel
theorem dX12_milk_23 : decode cX12_milk 23 = .ok (.iload_n 3, 1) := by decide +kernel
theorem dX12_milk_24 : decode cX12_milk 24 = .ok (.iconst 1, 1) := by decide +kernel
theorem dX12_milk_25 : decode cX12_milk 25 = .ok (.bipush 9, 2) := by decide +kernel
theorem dX12_milk_27 : decode cX12_milk 27 = .ok (.invokestatic 75, 3) := by decide +kernel
theorem dX12_milk_30 : decode cX12_milk 30 = .ok (.ifCond .eq 7, 3) := by decide +kernel
theorem dX12_milk_33 : decode cX12_milk 33 = .ok (.iconst 1, 1) := by decide +kernel
theorem dX12_milk_34 : decode cX12_milk 34 = .ok (.goto 4, 3) := by decide +kernel
theorem dX12_stove_0 : decode cX12_stove 0 = .ok (.aload_n 0, 1) := by decide +kernel
theorem dX12_stove_1 : decode cX12_stove 1 = .ok (.iconst 0, 1) := by decide +kernel
theorem dX12_stove_2 : decode cX12_stove 2 = .ok (.putfield 1, 3) := by decide +kernel
theorem dX12_stove_5 : decode cX12_stove 5 = .ok (.aload_n 0, 1) := by decide +kernel
theorem dX12_stove_6 : decode cX12_stove 6 = .ok (.iconst 4, 1) := by decide +kernel
theorem dX12_stove_7 : decode cX12_stove 7 = .ok (.iload_n 1, 1) := by decide +kernel
theorem dX12_stove_8 : decode cX12_stove 8 = .ok (.iconst 0, 1) := by decide +kernel
theorem dX12_stove_9 : decode cX12_stove 9 = .ok (.iload_n 1, 1) := by decide +kernel
theorem dX12_stove_10 : decode cX12_stove 10 = .ok (.iconst 1, 1) := by decide +kernel
theorem dX12_stove_11 : decode cX12_stove 11 = .ok (.bipush 20, 2) := by decide +kernel
theorem dX12_stove_13 : decode cX12_stove 13 = .ok (.invokestatic 75, 3) := by decide +kernel
theorem dX12_stove_16 : decode cX12_stove 16 = .ok (.invokevirtual 305, 3) := by decide +kernel
theorem dX12_stove_19 : decode cX12_stove 19 = .ok (.ireturn, 1) := by decide +kernel
theorem dX12_oneDay_0 : decode cX12_oneDay 0 = .ok (.iconst 0, 1) := by decide +kernel
theorem dX12_oneDay_1 : decode cX12_oneDay 1 = .ok (.istore_n 1, 1) := by decide +kernel
theorem dX12_oneDay_2 : decode cX12_oneDay 2 = .ok (.iload_n 1, 1) := by decide +kernel
theorem dX12_oneDay_3 : decode cX12_oneDay 3 = .ok (.aload_n 0, 1) := by decide +kernel
theorem dX12_oneDay_4 : decode cX12_oneDay 4 = .ok (.getfield 98, 3) := by decide +kernel
theorem dX12_oneDay_7 : decode cX12_oneDay 7 = .ok (.iconst 3, 1) := by decide +kernel
theorem dX12_oneDay_8 : decode cX12_oneDay 8 = .ok (.iaload, 1) := by decide +kernel
theorem dX12_oneDay_9 : decode cX12_oneDay 9 = .ok (.if_icmp .ge 69, 3) := by decide +kernel
theorem dX12_oneDay_78 : decode cX12_oneDay 78 = .ok (.aload_n 0, 1) := by decide +kernel
theorem dX12_oneDay_79 : decode cX12_oneDay 79 = .ok (.getfield 98, 3) := by decide +kernel
theorem dX12_oneDay_82 : decode cX12_oneDay 82 = .ok (.bipush 68, 2) := by decide +kernel
theorem dX12_oneDay_84 : decode cX12_oneDay 84 = .ok (.dup2, 1) := by decide +kernel
theorem dX12_oneDay_85 : decode cX12_oneDay 85 = .ok (.iaload, 1) := by decide +kernel
theorem dX12_oneDay_86 : decode cX12_oneDay 86 = .ok (.aload_n 0, 1) := by decide +kernel
theorem dX12_oneDay_87 : decode cX12_oneDay 87 = .ok (.getfield 98, 3) := by decide +kernel
theorem dX12_oneDay_90 : decode cX12_oneDay 90 = .ok (.iconst 5, 1) := by decide +kernel
theorem dX12_oneDay_91 : decode cX12_oneDay 91 = .ok (.iaload, 1) := by decide +kernel
theorem dX12_oneDay_92 : decode cX12_oneDay 92 = .ok (.aload_n 0, 1) := by decide +kernel
theorem dX12_oneDay_93 : decode cX12_oneDay 93 = .ok (.getfield 98, 3) := by decide +kernel
theorem dX12_oneDay_96 : decode cX12_oneDay 96 = .ok (.bipush 68, 2) := by decide +kernel
theorem dX12_oneDay_98 : decode cX12_oneDay 98 = .ok (.iaload, 1) := by decide +kernel
theorem dX12_oneDay_99 : decode cX12_oneDay 99 = .ok (.invokestatic 288, 3) := by decide +kernel
theorem dX12_oneDay_102 : decode cX12_oneDay 102 = .ok (.isub, 1) := by decide +kernel
theorem dX12_oneDay_103 : decode cX12_oneDay 103 = .ok (.iastore, 1) := by decide +kernel
theorem dX12_oneDay_104 : decode cX12_oneDay 104 = .ok (.aload_n 0, 1) := by decide +kernel
theorem dX12_oneDay_105 : decode cX12_oneDay 105 = .ok (.getfield 98, 3) := by decide +kernel
theorem dX12_oneDay_108 : decode cX12_oneDay 108 = .ok (.bipush 67, 2) := by decide +kernel
theorem dX12_oneDay_110 : decode cX12_oneDay 110 = .ok (.dup2, 1) := by decide +kernel
theorem dX12_oneDay_111 : decode cX12_oneDay 111 = .ok (.iaload, 1) := by decide +kernel
theorem dX12_oneDay_112 : decode cX12_oneDay 112 = .ok (.iconst 1, 1) := by decide +kernel
theorem dX12_oneDay_113 : decode cX12_oneDay 113 = .ok (.iadd, 1) := by decide +kernel
theorem dX12_oneDay_114 : decode cX12_oneDay 114 = .ok (.iastore, 1) := by decide +kernel
theorem dX12_oneDay_115 : decode cX12_oneDay 115 = .ok (.return_, 1) := by decide +kernel
theorem dX12_passDays_0 : decode cX12_passDays 0 = .ok (.iload_n 1, 1) := by decide +kernel
theorem dX12_passDays_1 : decode cX12_passDays 1 = .ok (.sipush 400, 3) := by decide +kernel
theorem dX12_passDays_4 : decode cX12_passDays 4 = .ok (.aload_n 0, 1) := by decide +kernel
theorem dX12_passDays_5 : decode cX12_passDays 5 = .ok (.getfield 98, 3) := by decide +kernel
theorem dX12_passDays_8 : decode cX12_passDays 8 = .ok (.bipush 67, 2) := by decide +kernel
theorem dX12_passDays_10 : decode cX12_passDays 10 = .ok (.iaload, 1) := by decide +kernel
theorem dX12_passDays_11 : decode cX12_passDays 11 = .ok (.isub, 1) := by decide +kernel
theorem dX12_passDays_12 : decode cX12_passDays 12 = .ok (.invokestatic 288, 3) := by decide +kernel
theorem dX12_passDays_15 : decode cX12_passDays 15 = .ok (.istore_n 2, 1) := by decide +kernel
theorem dX12_passDays_16 : decode cX12_passDays 16 = .ok (.iconst 0, 1) := by decide +kernel
theorem dX12_passDays_17 : decode cX12_passDays 17 = .ok (.istore_n 3, 1) := by decide +kernel
theorem dX12_passDays_18 : decode cX12_passDays 18 = .ok (.iload_n 3, 1) := by decide +kernel
theorem dX12_passDays_19 : decode cX12_passDays 19 = .ok (.iload_n 2, 1) := by decide +kernel
theorem dX12_passDays_20 : decode cX12_passDays 20 = .ok (.if_icmp .ge 13, 3) := by decide +kernel
theorem dX12_passDays_23 : decode cX12_passDays 23 = .ok (.aload_n 0, 1) := by decide +kernel
theorem dX12_passDays_24 : decode cX12_passDays 24 = .ok (.invokevirtual 309, 3) := by decide +kernel
theorem dX12_passDays_27 : decode cX12_passDays 27 = .ok (.iinc 3 1, 3) := by decide +kernel
theorem dX12_passDays_30 : decode cX12_passDays 30 = .ok (.goto (-12), 3) := by decide +kernel
theorem dX12_passDays_33 : decode cX12_passDays 33 = .ok (.iload_n 2, 1) := by decide +kernel
theorem dX12_passDays_34 : decode cX12_passDays 34 = .ok (.ireturn, 1) := by decide +kernel
theorem dX12_days_0 : decode cX12_days 0 = .ok (.aload_n 0, 1) := by decide +kernel
theorem dX12_days_1 : decode cX12_days 1 = .ok (.iconst 0, 1) := by decide +kernel
theorem dX12_days_2 : decode cX12_days 2 = .ok (.putfield 1, 3) := by decide +kernel
theorem dX12_days_5 : decode cX12_days 5 = .ok (.iload_n 1, 1) := by decide +kernel
theorem dX12_days_6 : decode cX12_days 6 = .ok (.iconst 1, 1) := by decide +kernel
theorem dX12_days_7 : decode cX12_days 7 = .ok (.bipush 60, 2) := by decide +kernel
theorem dX12_days_9 : decode cX12_days 9 = .ok (.invokestatic 75, 3) := by decide +kernel
theorem dX12_days_12 : decode cX12_days 12 = .ok (.ifCond .ne 5, 3) := by decide +kernel
theorem dX12_days_17 : decode cX12_days 17 = .ok (.aload_n 0, 1) := by decide +kernel
theorem dX12_days_18 : decode cX12_days 18 = .ok (.getfield 98, 3) := by decide +kernel
theorem dX12_days_21 : decode cX12_days 21 = .ok (.bipush 67, 2) := by decide +kernel
theorem dX12_days_23 : decode cX12_days 23 = .ok (.iaload, 1) := by decide +kernel
theorem dX12_days_24 : decode cX12_days 24 = .ok (.sipush 400, 3) := by decide +kernel
theorem dX12_days_27 : decode cX12_days 27 = .ok (.if_icmp .ne 5, 3) := by decide +kernel
theorem dX12_days_32 : decode cX12_days 32 = .ok (.aload_n 0, 1) := by decide +kernel
theorem dX12_days_33 : decode cX12_days 33 = .ok (.invokevirtual 295, 3) := by decide +kernel
theorem dX12_days_36 : decode cX12_days 36 = .ok (.aload_n 0, 1) := by decide +kernel
theorem dX12_days_37 : decode cX12_days 37 = .ok (.iload_n 1, 1) := by decide +kernel
theorem dX12_days_38 : decode cX12_days 38 = .ok (.invokevirtual 312, 3) := by decide +kernel
theorem dX12_days_41 : decode cX12_days 41 = .ok (.ireturn, 1) := by decide +kernel
theorem dX12_days_15 : decode cX12_days 15 = .ok (.iconst (-1), 1) := by decide +kernel
theorem dX12_days_16 : decode cX12_days 16 = .ok (.ireturn, 1) := by decide +kernel
set_option maxRecDepth 20000 in
theorem ggX12_row_X12_isBoat : GoodIn wsX12_row wsX12_isBoat := goodIn_r _ [6, 7, 8, 9, 5, 10, 65, 66, 67, 68, 69, 70, 71, 72, 73, 74, 75, 76, 77, 78, 79, 80, 81, 82, 83, 84, 85, 86, 87, 88, 89, 90, 91, 92, 93, 94, 95, 96, 97, 98, 99, 100, 101, 102, 103, 104, 105, 106, 107, 108, 109, 110, 111, 112, 113, 114, 115, 116] (by decide +kernel) (by decide +kernel)
set_option maxRecDepth 20000 in
theorem ggX12_row_X12_act : GoodIn wsX12_row wsX12_act := goodIn_r _ [14, 15, 16, 17, 5, 18, 7, 19, 20, 21, 22, 23, 24, 25, 26, 27, 28, 29, 30, 31, 32, 33, 34, 8, 9, 10, 35, 36, 37, 38, 39, 40, 41, 42, 43, 44, 45, 46, 47, 48, 49, 50, 51, 52, 53, 54, 55, 56, 57, 58, 59, 60, 61, 62, 63, 64, 65, 66, 67, 68, 69, 70, 71, 72, 73, 74, 75, 76, 77, 78, 79, 80, 81, 82, 83, 84, 85, 86, 87, 88, 89, 90, 91, 92, 93, 94, 95, 96, 97, 98, 99, 100, 101, 102, 103, 104, 105, 106, 107, 108, 109, 110, 111, 112, 113, 114, 115, 116] (by decide +kernel) (by decide +kernel)
set_option maxRecDepth 20000 in
theorem ggX12_flour_X12_isCell : GoodIn wsX12_flour wsX12_isCell := goodIn_r _ [6, 7, 8, 9, 5, 10, 61, 62, 63, 64, 65, 66, 67, 68, 69, 70, 71, 72, 73, 74, 75, 76, 77, 78, 79, 80, 81, 82, 83, 84, 85, 86, 87, 88, 89, 90, 91, 92, 93, 94, 95, 96, 97, 98, 99, 100, 101, 102, 103, 104, 105, 106, 107, 108, 109, 110, 111, 112] (by decide +kernel) (by decide +kernel)
set_option maxRecDepth 20000 in
theorem ggX12_flour_X12_act : GoodIn wsX12_flour wsX12_act := goodIn_r _ [14, 15, 16, 17, 5, 18, 7, 19, 20, 21, 22, 23, 24, 25, 26, 27, 28, 29, 30, 2, 3, 4, 6, 8, 9, 10, 31, 32, 33, 34, 35, 36, 37, 38, 39, 40, 41, 42, 43, 44, 45, 46, 47, 48, 49, 50, 51, 52, 53, 54, 55, 56, 57, 58, 59, 60, 61, 62, 63, 64, 65, 66, 67, 68, 69, 70, 71, 72, 73, 74, 75, 76, 77, 78, 79, 80, 81, 82, 83, 84, 85, 86, 87, 88, 89, 90, 91, 92, 93, 94, 95, 96, 97, 98, 99, 100, 101, 102, 103, 104, 105, 106, 107, 108, 109, 110, 111, 112] (by decide +kernel) (by decide +kernel)
set_option maxRecDepth 20000 in
theorem ggX12_flour_X12_isIn : GoodIn wsX12_flour wsX12_isIn := goodIn_r _ [10] (by decide +kernel) (by decide +kernel)
set_option maxRecDepth 20000 in
theorem ggX12_milk_X12_isCell : GoodIn wsX12_milk wsX12_isCell := goodIn_r _ [6, 7, 8, 9, 5, 10, 61, 62, 63, 64, 65, 66, 67, 68, 69, 70, 71, 72, 73, 74, 75, 76, 77, 78, 79, 80, 81, 82, 83, 84, 85, 86, 87, 88, 89, 90, 91, 92, 93, 94, 95, 96, 97, 98, 99, 100, 101, 102, 103, 104, 105, 106, 107, 108, 109, 110, 111, 112] (by decide +kernel) (by decide +kernel)
set_option maxRecDepth 20000 in
theorem ggX12_milk_X12_act : GoodIn wsX12_milk wsX12_act := goodIn_r _ [14, 15, 16, 17, 5, 18, 7, 19, 20, 21, 22, 23, 24, 25, 26, 27, 28, 29, 30, 2, 3, 4, 6, 8, 9, 10, 31, 32, 33, 34, 35, 36, 37, 38, 39, 40, 41, 42, 43, 44, 45, 46, 47, 48, 49, 50, 51, 52, 53, 54, 55, 56, 57, 58, 59, 60, 61, 62, 63, 64, 65, 66, 67, 68, 69, 70, 71, 72, 73, 74, 75, 76, 77, 78, 79, 80, 81, 82, 83, 84, 85, 86, 87, 88, 89, 90, 91, 92, 93, 94, 95, 96, 97, 98, 99, 100, 101, 102, 103, 104, 105, 106, 107, 108, 109, 110, 111, 112] (by decide +kernel) (by decide +kernel)
set_option maxRecDepth 20000 in
theorem ggX12_milk_X12_isIn : GoodIn wsX12_milk wsX12_isIn := goodIn_r _ [10] (by decide +kernel) (by decide +kernel)
set_option maxRecDepth 20000 in
theorem ggX12_stove_X12_isIn : GoodIn wsX12_stove wsX12_isIn := goodIn_r _ [5] (by decide +kernel) (by decide +kernel)
set_option maxRecDepth 20000 in
theorem ggX12_stove_X12_act : GoodIn wsX12_stove wsX12_act := goodIn_r _ [9, 10, 11, 12, 4, 13, 14, 15, 16, 17, 18, 19, 20, 21, 22, 23, 24, 25, 26, 27, 28, 29, 30, 2, 3, 5, 31, 32, 33, 34, 35, 36, 37, 38, 39, 40, 41, 42, 43, 44, 45, 46, 47, 48, 49, 50, 51, 52, 53, 54, 55, 56, 57, 58, 59, 60, 61, 62, 63, 64, 65, 66, 67, 68, 69, 70, 71, 72, 73, 74, 75, 76, 77, 78, 79, 80, 81, 82, 83, 84, 85, 86, 87, 88, 89, 90, 91, 92, 93, 94, 95, 96, 97, 98, 99, 100, 101, 102, 103, 104, 105, 106, 107, 108, 109, 110, 111, 112] (by decide +kernel) (by decide +kernel)
set_option maxRecDepth 20000 in
theorem ggX12_oneDay_X12_least : GoodIn wsX12_oneDay wsX12_least := goodIn_r _ [25] (by decide +kernel) (by decide +kernel)
set_option maxRecDepth 20000 in
theorem ggX12_passDays_X12_least : GoodIn wsX12_passDays wsX12_least := goodIn_r _ [5] (by decide +kernel) (by decide +kernel)
set_option maxRecDepth 20000 in
theorem ggX12_passDays_X12_oneDay : GoodIn wsX12_passDays wsX12_oneDay := goodIn_r _ [9, 1, 10, 11, 12, 4, 13, 14, 15, 16, 17, 18, 19, 20, 21, 22, 23, 24, 25, 26, 27, 28, 29, 2, 3, 5, 30, 31, 32, 33, 34, 35, 36, 37, 38, 39, 40, 41, 42, 43, 44, 45, 46, 47, 48, 49, 50, 51, 52, 53, 54, 55, 56, 57, 58, 59, 60, 61, 62, 63, 64, 65, 66, 67, 68, 69, 70, 71, 72, 73, 74, 75, 76, 77, 78, 79, 80, 81] (by decide +kernel) (by decide +kernel)
set_option maxRecDepth 20000 in
theorem ggX12_days_X12_isIn : GoodIn wsX12_days wsX12_isIn := goodIn_r _ [6] (by decide +kernel) (by decide +kernel)
set_option maxRecDepth 20000 in
theorem ggX12_days_X12_snap : GoodIn wsX12_days wsX12_snap := goodIn_r _ [10, 11, 12, 2, 44, 45, 46, 47, 48, 49, 50, 51, 52, 53, 54, 55, 56, 57, 58, 59, 60, 61, 62, 63, 64, 65, 66, 67, 68, 69, 70, 71, 72, 73, 74, 75, 76, 77, 78, 79, 80, 81, 82, 83, 84, 85, 86, 87, 88, 89, 90, 91, 92, 93, 94, 95] (by decide +kernel) (by decide +kernel)
set_option maxRecDepth 20000 in
theorem ggX12_days_X12_passDays : GoodIn wsX12_days wsX12_passDays := goodIn_r _ [16, 2, 17, 18, 5, 19, 20, 21, 22, 23, 24, 25, 26, 27, 28, 29, 30, 31, 32, 33, 34, 35, 36, 37, 38, 39, 40, 41, 42, 43, 44, 45, 46, 47, 48, 49, 50, 51, 52, 53, 54, 55, 56, 57, 58, 59, 60, 61, 62, 63, 64, 65, 66, 67, 68, 69, 70, 71, 72, 73, 74, 75, 76, 77, 78, 79, 80, 81, 82, 83, 84, 85, 86, 87, 88, 89, 90, 91, 92, 93, 94, 95] (by decide +kernel) (by decide +kernel)
set_option maxRecDepth 20000 in
theorem gX12_row_X12_isBoat : GoodIn wsX12_row (wsV RX12 260 RX12 yX12_isBoat wsX12_isBoat) := goodIn_app (goodIn_of _ (by decide +kernel)) ggX12_row_X12_isBoat
set_option maxRecDepth 20000 in
theorem gX12_row_X12_act : GoodIn wsX12_row (wsV RX12 305 RX12 yX12_act wsX12_act) := goodIn_app (goodIn_of _ (by decide +kernel)) ggX12_row_X12_act
set_option maxRecDepth 20000 in
theorem gX12_flour_X12_isCell : GoodIn wsX12_flour (wsV RX12 252 RX12 yX12_isCell wsX12_isCell) := goodIn_app (goodIn_of _ (by decide +kernel)) ggX12_flour_X12_isCell
set_option maxRecDepth 20000 in
theorem gX12_flour_X12_act : GoodIn wsX12_flour (wsV RX12 305 RX12 yX12_act wsX12_act) := goodIn_app (goodIn_of _ (by decide +kernel)) ggX12_flour_X12_act
set_option maxRecDepth 20000 in
theorem gX12_flour_X12_isIn : GoodIn wsX12_flour (va_wsS RX12 75 yX12_isIn wsX12_isIn) := goodIn_app (goodIn_of _ (by decide +kernel)) ggX12_flour_X12_isIn
set_option maxRecDepth 20000 in
theorem gX12_milk_X12_isCell : GoodIn wsX12_milk (wsV RX12 252 RX12 yX12_isCell wsX12_isCell) := goodIn_app (goodIn_of _ (by decide +kernel)) ggX12_milk_X12_isCell
set_option maxRecDepth 20000 in
theorem gX12_milk_X12_act : GoodIn wsX12_milk (wsV RX12 305 RX12 yX12_act wsX12_act) := goodIn_app (goodIn_of _ (by decide +kernel)) ggX12_milk_X12_act
set_option maxRecDepth 20000 in
theorem gX12_milk_X12_isIn : GoodIn wsX12_milk (va_wsS RX12 75 yX12_isIn wsX12_isIn) := goodIn_app (goodIn_of _ (by decide +kernel)) ggX12_milk_X12_isIn
set_option maxRecDepth 20000 in
theorem gX12_stove_X12_isIn : GoodIn wsX12_stove (va_wsS RX12 75 yX12_isIn wsX12_isIn) := goodIn_app (goodIn_of _ (by decide +kernel)) ggX12_stove_X12_isIn
set_option maxRecDepth 20000 in
theorem gX12_stove_X12_act : GoodIn wsX12_stove (wsV RX12 305 RX12 yX12_act wsX12_act) := goodIn_app (goodIn_of _ (by decide +kernel)) ggX12_stove_X12_act
set_option maxRecDepth 20000 in
theorem gX12_oneDay_X12_least : GoodIn wsX12_oneDay (va_wsS RX12 288 yX12_least wsX12_least) := goodIn_app (goodIn_of _ (by decide +kernel)) ggX12_oneDay_X12_least
set_option maxRecDepth 20000 in
theorem gX12_passDays_X12_least : GoodIn wsX12_passDays (va_wsS RX12 288 yX12_least wsX12_least) := goodIn_app (goodIn_of _ (by decide +kernel)) ggX12_passDays_X12_least
set_option maxRecDepth 20000 in
theorem gX12_passDays_X12_oneDay : GoodIn wsX12_passDays (wsV RX12 309 RX12 yX12_oneDay wsX12_oneDay) := goodIn_app (goodIn_of _ (by decide +kernel)) ggX12_passDays_X12_oneDay
set_option maxRecDepth 20000 in
theorem gX12_days_X12_isIn : GoodIn wsX12_days (va_wsS RX12 75 yX12_isIn wsX12_isIn) := goodIn_app (goodIn_of _ (by decide +kernel)) ggX12_days_X12_isIn
set_option maxRecDepth 20000 in
theorem gX12_days_X12_snap : GoodIn wsX12_days (wsV RX12 295 RX12 yX12_snap wsX12_snap) := goodIn_app (goodIn_of _ (by decide +kernel)) ggX12_days_X12_snap
set_option maxRecDepth 20000 in
theorem gX12_days_X12_passDays : GoodIn wsX12_days (wsV RX12 312 RX12 yX12_passDays wsX12_passDays) := goodIn_app (goodIn_of _ (by decide +kernel)) ggX12_days_X12_passDays
set_option maxHeartbeats 4000000 in
set_option maxRecDepth 100000 in
theorem c_m_row (l : Launch) (dC : Nat → ClassId) (dI : Nat → Nat → Nat) (ky : Nat → ClassId) (sz : Nat) (o : Nat) (ktape : Nat) (know : Nat) (kread : Nat) (kkept : Nat) (ksnaps : Nat) (kaside : Nat) (kname : Nat) (kreadName : Nat) (kkeptName : Nat) (kisKept : Nat) (konces : Nat) (kpoured : Nat) (kfar : Nat) (ksides : Nat) (klines : Nat) (kmet : Nat) (ksunk : Nat) (ktrying : Nat) (ktext : Nat) (kline : Nat) (kwritten : Nat) (knode : Nat) (knowF : Nat → Int32) (x : Int32) (y : Int32) (hN : NowOk knowF) : Met l yX12_row wsX12_row ({ frames := 2, cells := 0, slots := 0, locals := 43 }) (PcU dC dI ky [.ref o, .int x, .int y] [(o, .inr (12, [.int (nI 0), .ref ktape, .int (nI 0), .int (nI 0), .int (nI 0), .int (nI 0), .int (nI 0), .int (nI 0), .int (nI 0), .int (nI 0), .int (nI 0), .int (nI 0), .long 0, .int (nI 0), .ref know, .ref kread, .ref kkept, .ref ksnaps, .ref kaside, .ref kname, .ref kreadName, .ref kkeptName, .ref kisKept, .ref konces, .int (nI 0), .int (nI 0), .ref kpoured, .ref kfar, .ref ksides, .int (nI 0), .int (-1 : Int32), .int (nI 0), .ref klines, .ref kmet, .int (nI 0), .ref ksunk, .ref ktrying, .int (nI 0), .int (-1 : Int32), .int (-1 : Int32), .ref ktext, .int (nI 0), .int (nI 0), .ref kline, .ref kwritten, .int (nI 0), .int (nI 0), .ref knode, .int (nI 0), .int (nI 0), .int (nI 0), .int (nI 0)])), (know, .inl (ky 0, 373, .inl knowF))] sz) (va_Qi (fun (r : Int32) (_ : Unit) => r = (-1 : Int32)) (BU dC dI ky (fun (_ : Unit) => []) (va_A [(o, .inr (12, [.int (nI 0), .ref ktape, .int (nI 0), .int (nI 0), .int (nI 0), .int (nI 0), .int (nI 0), .int (nI 0), .int (nI 0), .int (nI 0), .int (nI 0), .int (nI 0), .long 0, .int (nI 0), .ref know, .ref kread, .ref kkept, .ref ksnaps, .ref kaside, .ref kname, .ref kreadName, .ref kkeptName, .ref kisKept, .ref konces, .int (nI 0), .int (nI 0), .ref kpoured, .ref kfar, .ref ksides, .int (nI 0), .int (-1 : Int32), .int (nI 0), .ref klines, .ref kmet, .int (nI 0), .ref ksunk, .ref ktrying, .int (nI 0), .int (-1 : Int32), .int (-1 : Int32), .ref ktext, .int (nI 0), .int (nI 0), .ref kline, .ref kwritten, .int (nI 0), .int (nI 0), .ref knode, .int (nI 0), .int (nI 0), .int (nI 0), .int (nI 0)])), (know, .inl (ky 0, 373, .inl knowF))] sz)) (va_A [(o, .inr (12, [.int (nI 0), .ref ktape, .int (nI 0), .int (nI 0), .int (nI 0), .int (nI 0), .int (nI 0), .int (nI 0), .int (nI 0), .int (nI 0), .int (nI 0), .int (nI 0), .long 0, .int (nI 0), .ref know, .ref kread, .ref kkept, .ref ksnaps, .ref kaside, .ref kname, .ref kreadName, .ref kkeptName, .ref kisKept, .ref konces, .int (nI 0), .int (nI 0), .ref kpoured, .ref kfar, .ref ksides, .int (nI 0), .int (-1 : Int32), .int (nI 0), .ref klines, .ref kmet, .int (nI 0), .ref ksunk, .ref ktrying, .int (nI 0), .int (-1 : Int32), .int (-1 : Int32), .ref ktext, .int (nI 0), .int (nI 0), .ref kline, .ref kwritten, .int (nI 0), .int (nI 0), .ref knode, .int (nI 0), .int (nI 0), .int (nI 0), .int (nI 0)])), (know, .inl (ky 0, 373, .inl knowF))] sz)) 0 0 (va_A [(o, .inr (12, [.int (nI 0), .ref ktape, .int (nI 0), .int (nI 0), .int (nI 0), .int (nI 0), .int (nI 0), .int (nI 0), .int (nI 0), .int (nI 0), .int (nI 0), .int (nI 0), .long 0, .int (nI 0), .ref know, .ref kread, .ref kkept, .ref ksnaps, .ref kaside, .ref kname, .ref kreadName, .ref kkeptName, .ref kisKept, .ref konces, .int (nI 0), .int (nI 0), .ref kpoured, .ref kfar, .ref ksides, .int (nI 0), .int (-1 : Int32), .int (nI 0), .ref klines, .ref kmet, .int (nI 0), .ref ksunk, .ref ktrying, .int (nI 0), .int (-1 : Int32), .int (-1 : Int32), .ref ktext, .int (nI 0), .int (nI 0), .ref kline, .ref kwritten, .int (nI 0), .int (nI 0), .ref knode, .int (nI 0), .int (nI 0), .int (nI 0), .int (nI 0)])), (know, .inl (ky 0, 373, .inl knowF))] sz) := by
  refine Met.ofW (cc := cX12_row) (maxL := 3) (ret := (some .int)) (by decide) rfl ?_
  intro p e s m args below meth c s₁ B hml hv
  obtain ⟨rfl, hsz, hP, hK, hD0⟩ := hv
  have hx := B.exec
  have hb := B.bytes
  have hr := B.returns
  have hts := atoms_spec (ws := wsX12_row) B.pre
  have hown : s.vm.findClass RX12 = some m.cls := findClass_of_methodNamed B.named
  have hlocks := B.notSynchronized
  have hin12 : ∀ w ∈ u_ws RX12 TX12 52, w ∈ wsX12_row := by decide +kernel
  subst hsz
  have hD := hD0.self (sz := s.heap.size)
  generalize hAe : va_A [(o, .inr (12, [.int (nI 0), .ref ktape, .int (nI 0), .int (nI 0), .int (nI 0), .int (nI 0), .int (nI 0), .int (nI 0), .int (nI 0), .int (nI 0), .int (nI 0), .int (nI 0), .long 0, .int (nI 0), .ref know, .ref kread, .ref kkept, .ref ksnaps, .ref kaside, .ref kname, .ref kreadName, .ref kkeptName, .ref kisKept, .ref konces, .int (nI 0), .int (nI 0), .ref kpoured, .ref kfar, .ref ksides, .int (nI 0), .int (-1 : Int32), .int (nI 0), .ref klines, .ref kmet, .int (nI 0), .ref ksunk, .ref ktrying, .int (nI 0), .int (-1 : Int32), .int (-1 : Int32), .ref ktext, .int (nI 0), .int (nI 0), .ref kline, .ref kwritten, .int (nI 0), .int (nI 0), .ref knode, .int (nI 0), .int (nI 0), .int (nI 0), .int (nI 0)])), (know, .inl (ky 0, 373, .inl knowF))] s.heap.size = A at hD ⊢
  have hA : ∀ q : Nat, s.heap.size ≤ q → A q := fun q h => by rw [← hAe]; exact Or.inr h
  have hS : va_S A s.heap s.heap [] := va_S.rf
  have hP : va_P (dC, dI) vwCl [(o, .inr (12, [.int (nI 0), .ref ktape, .int (nI 0), .int (nI 0), .int (nI 0), .int (nI 0), .int (nI 0), .int (nI 0), .int (nI 0), .int (nI 0), .int (nI 0), .int (nI 0), .long 0, .int (nI 0), .ref know, .ref kread, .ref kkept, .ref ksnaps, .ref kaside, .ref kname, .ref kreadName, .ref kkeptName, .ref kisKept, .ref konces, .int (nI 0), .int (nI 0), .ref kpoured, .ref kfar, .ref ksides, .int (nI 0), .int (-1 : Int32), .int (nI 0), .ref klines, .ref kmet, .int (nI 0), .ref ksunk, .ref ktrying, .int (nI 0), .int (-1 : Int32), .int (-1 : Int32), .ref ktext, .int (nI 0), .int (nI 0), .ref kline, .ref kwritten, .int (nI 0), .int (nI 0), .ref knode, .int (nI 0), .int (nI 0), .int (nI 0), .int (nI 0)])), (know, .inl (ky 0, 373, .inl knowF))] s.heap := hP
  have hl := lv_entry ([.ref o, .int x, .int y]) (n := 3) (Nat.le_of_ble_eq_true rfl)
  rw [lg_entry_eq]
  generalize (lg_sl ([.ref o, .int x, .int y]) ++ List.replicate (3 - (lg_sl ([.ref o, .int x, .int y])).length) Slot.unset).toArray = ls at hl ⊢
  have hl : lv_has ls 3 [(0, .ref o), (1, .int x), (2, .int y)] := hl
  have hH0 : True := trivial
  refine lv_aload_n hx hb dX12_row_0 rfl (lv_at hl 0 rfl) ?_
  refine lv_iconst (v := nI 0) hx hb dX12_row_1 (by decide) ?_
  refine va_put (D := (dC, dI)) (ci := 12) (v := .int (nI 0)) (ty := .int) (C := RX12) (T := TX12) (N := 52) hx hb hts hin12 tyX12 tyX12_ok nmX12 hown hK hP hD hS 0 rfl rfl 0 (by decide) (hts (.fieldLink RX12 1 "PorridgeSeaModel" "thrown" "I") (List.mem_of_getElem? (i := 1) rfl)) (fun _ h9 => h9) rfl (by decide +kernel) rfl rfl (Nat.le_of_ble_eq_true rfl) dX12_row_2 (fun H locs hP hD hS => ?_)
  have hP : va_P (dC, dI) vwCl [(o, .inr (12, [.int (nI 0), .ref ktape, .int (nI 0), .int (nI 0), .int (nI 0), .int (nI 0), .int (nI 0), .int (nI 0), .int (nI 0), .int (nI 0), .int (nI 0), .int (nI 0), .long 0, .int (nI 0), .ref know, .ref kread, .ref kkept, .ref ksnaps, .ref kaside, .ref kname, .ref kreadName, .ref kkeptName, .ref kisKept, .ref konces, .int (nI 0), .int (nI 0), .ref kpoured, .ref kfar, .ref ksides, .int (nI 0), .int (-1 : Int32), .int (nI 0), .ref klines, .ref kmet, .int (nI 0), .ref ksunk, .ref ktrying, .int (nI 0), .int (-1 : Int32), .int (-1 : Int32), .ref ktext, .int (nI 0), .int (nI 0), .ref kline, .ref kwritten, .int (nI 0), .int (nI 0), .ref knode, .int (nI 0), .int (nI 0), .int (nI 0), .int (nI 0)])), (know, .inl (ky 0, 373, .inl knowF))] H := hP
  have hD : va_D A [(o, .inr (12, [.int (nI 0), .ref ktape, .int (nI 0), .int (nI 0), .int (nI 0), .int (nI 0), .int (nI 0), .int (nI 0), .int (nI 0), .int (nI 0), .int (nI 0), .int (nI 0), .long 0, .int (nI 0), .ref know, .ref kread, .ref kkept, .ref ksnaps, .ref kaside, .ref kname, .ref kreadName, .ref kkeptName, .ref kisKept, .ref konces, .int (nI 0), .int (nI 0), .ref kpoured, .ref kfar, .ref ksides, .int (nI 0), .int (-1 : Int32), .int (nI 0), .ref klines, .ref kmet, .int (nI 0), .ref ksunk, .ref ktrying, .int (nI 0), .int (-1 : Int32), .int (-1 : Int32), .ref ktext, .int (nI 0), .int (nI 0), .ref kline, .ref kwritten, .int (nI 0), .int (nI 0), .ref knode, .int (nI 0), .int (nI 0), .int (nI 0), .int (nI 0)])), (know, .inl (ky 0, 373, .inl knowF))] := hD
  refine lv_aload_n hx hb dX12_row_5 rfl (lv_at hl 0 rfl) ?_
  refine lv_iconst (v := nI 1) hx hb dX12_row_6 (by decide) ?_
  refine lv_iload_n hx hb dX12_row_7 rfl (lv_at hl 1 rfl) ?_
  refine lv_iload_n hx hb dX12_row_8 rfl (lv_at hl 2 rfl) ?_
  refine lv_aload_n hx hb dX12_row_9 rfl (lv_at hl 0 rfl) ?_
  refine lv_iload_n hx hb dX12_row_10 rfl (lv_at hl 1 rfl) ?_
  refine vp_callSi (W.runV (As := [.int x]) (rest := [.int y, .int x, .int (nI 1), .ref o]) ⟨hx, hb, hml, hown, hts⟩ (c_m_isBoat l dC dI ky o (nI 0) ktape (nI 0) (nI 0) (nI 0) (nI 0) (nI 0) (nI 0) (nI 0) (nI 0) (nI 0) (nI 0) 0 (nI 0) know kread kkept ksnaps kaside kname kreadName kkeptName kisKept konces (nI 0) (nI 0) kpoured kfar ksides (nI 0) (-1 : Int32) (nI 0) klines kmet (nI 0) ksunk ktrying (nI 0) (-1 : Int32) (-1 : Int32) ktext (nI 0) (nI 0) kline kwritten (nI 0) (nI 0) knode (nI 0) (nI 0) (nI 0) (nI 0) knowF x (NowOk.b hN)) (cwV 1 hts gX12_row_X12_isBoat rfl rfl rfl (by decide +kernel) ⟨(Nat.le_of_ble_eq_true rfl), (Nat.le_of_ble_eq_true rfl)⟩) (pre_PV hK hP [0, 1] rfl (ci := 12) (q0 := 0) rfl rfl) rfl rfl hl.1 rfl (lv_room (Nat.le_of_ble_eq_true rfl)) dX12_row_11 ⟨(Nat.le_of_ble_eq_true rfl), (Nat.le_of_ble_eq_true rfl)⟩) (fun r1 p2 => ?_)
  subst p2
  refine lv_if_eq (tgt := 30) hx hb dX12_row_14 (by decide) (fun c3 => ?_) (fun c3 => absurd (by decide) c3)
  refine lv_iconst (v := nI 0) hx hb dX12_row_30 (by decide) ?_
  refine vp_callSi (W.runV (As := [.int (nI 1), .int x, .int y, .int (nI 0)]) (rest := []) ⟨hx, hb, hml, hown, hts⟩ (c_m_actNo l dC dI ky o (nI 0) ktape (nI 0) (nI 0) (nI 0) (nI 0) (nI 0) (nI 0) (nI 0) (nI 0) (nI 0) (nI 0) 0 (nI 0) know kread kkept ksnaps kaside kname kreadName kkeptName kisKept konces (nI 0) (nI 0) kpoured kfar ksides (nI 0) (-1 : Int32) (nI 0) klines kmet (nI 0) ksunk ktrying (nI 0) (-1 : Int32) (-1 : Int32) ktext (nI 0) (nI 0) kline kwritten (nI 0) (nI 0) knode (nI 0) (nI 0) (nI 0) (nI 0) (nI 1) x y) (cwV 4 hts gX12_row_X12_act rfl rfl rfl (by decide +kernel) ⟨(Nat.le_of_ble_eq_true rfl), (Nat.le_of_ble_eq_true rfl)⟩) (pre_PV hK hP [0] rfl (ci := 12) (q0 := 0) rfl rfl) rfl rfl hl.1 rfl (lv_room (Nat.le_of_ble_eq_true rfl)) dX12_row_31 ⟨(Nat.le_of_ble_eq_true rfl), (Nat.le_of_ble_eq_true rfl)⟩) (fun r4 p5 => ?_)
  subst p5
  have hP9 := hP.sub (ws' := []) [] rfl
  have hD9 := hD.sub (ws' := []) [] (by decide) rfl
  refine W.widen (k := 0) (n := 0) (Nat.le_of_ble_eq_true rfl) (Nat.le_of_ble_eq_true rfl) ?_
  exact W.iret (v := (-1 : Int32)) hx hb hr (fun t ht9 hW9 => ⟨⟨(-1 : Int32), (), rfl, rfl, by rw [ht9]; exact hP9, va_K.moved hW9.alike hK, hD9⟩, hS.F ht9⟩) hS.2.2 dX12_row_34
set_option maxRecDepth 20000 in
theorem lf_m_flour_1 (o : Nat) (ktape : Nat) (know : Nat) (kread : Nat) (kkept : Nat) (ksnaps : Nat) (kaside : Nat) (kname : Nat) (kreadName : Nat) (kkeptName : Nat) (kisKept : Nat) (konces : Nat) (kpoured : Nat) (kfar : Nat) (ksides : Nat) (klines : Nat) (kmet : Nat) (ksunk : Nat) (ktrying : Nat) (ktext : Nat) (kline : Nat) (kwritten : Nat) (knode : Nat) (knowF : Nat → Int32) (ksnapsF : Nat → Int32) (x : Int32) (y : Int32) (n : Int32) (hN : NowOk knowF) (hok : 0 ≤ x.toInt ∧ x.toInt < 4 ∧ 0 ≤ y.toInt ∧ y.toInt < 4 ∧ 1 ≤ n.toInt ∧ n.toInt ≤ 9) : 0 ≤ x.toInt ∧ x.toInt < ((4 : Nat) : Int) := by
  try simp only [ia_lt, ia_le, ia_eq, ia_m1, ia_0, ia_1, ne_eq, true_and, and_true, false_and, and_false, or_false, false_or, or_true, true_or, not_true_eq_false, not_false_eq_true] at *
  all_goals omega
set_option maxRecDepth 20000 in
theorem lf_m_flour_2 (o : Nat) (ktape : Nat) (know : Nat) (kread : Nat) (kkept : Nat) (ksnaps : Nat) (kaside : Nat) (kname : Nat) (kreadName : Nat) (kkeptName : Nat) (kisKept : Nat) (konces : Nat) (kpoured : Nat) (kfar : Nat) (ksides : Nat) (klines : Nat) (kmet : Nat) (ksunk : Nat) (ktrying : Nat) (ktext : Nat) (kline : Nat) (kwritten : Nat) (knode : Nat) (knowF : Nat → Int32) (ksnapsF : Nat → Int32) (y : Int32) (n : Int32) (xn : Nat) (hN : NowOk knowF) (hok : 0 ≤ (nI xn).toInt ∧ (nI xn).toInt < 4 ∧ 0 ≤ y.toInt ∧ y.toInt < 4 ∧ 1 ≤ n.toInt ∧ n.toInt ≤ 9) (h1 : xn < 4) : 0 ≤ y.toInt ∧ y.toInt < ((4 : Nat) : Int) := by
  have k_0 := ia_n xn (by omega)
  try simp only [ia_lt, ia_le, ia_eq, ia_m1, ia_0, ia_1, ne_eq, true_and, and_true, false_and, and_false, or_false, false_or, or_true, true_or, not_true_eq_false, not_false_eq_true] at *
  all_goals omega
set_option maxRecDepth 20000 in
theorem lf_m_flour_3 (o : Nat) (ktape : Nat) (know : Nat) (kread : Nat) (kkept : Nat) (ksnaps : Nat) (kaside : Nat) (kname : Nat) (kreadName : Nat) (kkeptName : Nat) (kisKept : Nat) (konces : Nat) (kpoured : Nat) (kfar : Nat) (ksides : Nat) (klines : Nat) (kmet : Nat) (ksunk : Nat) (ktrying : Nat) (ktext : Nat) (kline : Nat) (kwritten : Nat) (knode : Nat) (knowF : Nat → Int32) (ksnapsF : Nat → Int32) (n : Int32) (xn : Nat) (yn : Nat) (r3 : Int32) (hN : NowOk knowF) (hok : 0 ≤ (nI xn).toInt ∧ (nI xn).toInt < 4 ∧ 0 ≤ (nI yn).toInt ∧ (nI yn).toInt < 4 ∧ 1 ≤ n.toInt ∧ n.toInt ≤ 9) (h1 : xn < 4) (h2 : yn < 4) (p4 : (r3 = nI 1 ∧ (0 ≤ (nI xn).toInt ∧ (nI xn).toInt < 4 ∧ 0 ≤ (nI yn).toInt ∧ (nI yn).toInt < 4)) ∨ (r3 = nI 0 ∧ ¬ (0 ≤ (nI xn).toInt ∧ (nI xn).toInt < 4 ∧ 0 ≤ (nI yn).toInt ∧ (nI yn).toInt < 4))) (c5 : r3 = 0) : ((-1 : Int32) = (-1 : Int32) ∧ ¬ (0 ≤ (nI xn).toInt ∧ (nI xn).toInt < 4 ∧ 0 ≤ (nI yn).toInt ∧ (nI yn).toInt < 4 ∧ 1 ≤ n.toInt ∧ n.toInt ≤ 9)) ∨ ((-1 : Int32) = nI 0 ∧ (0 ≤ (nI xn).toInt ∧ (nI xn).toInt < 4 ∧ 0 ≤ (nI yn).toInt ∧ (nI yn).toInt < 4 ∧ 1 ≤ n.toInt ∧ n.toInt ≤ 9)) := by
  have k_0 := ia_n xn (by omega)
  have k_1 := ia_n yn (by omega)
  have k_2 := ia_n 1 (by decide)
  have k_3 := ia_n 0 (by decide)
  try simp only [ia_lt, ia_le, ia_eq, ia_m1, ia_0, ia_1, ne_eq, true_and, and_true, false_and, and_false, or_false, false_or, or_true, true_or, not_true_eq_false, not_false_eq_true] at *
  all_goals omega
set_option maxRecDepth 20000 in
theorem lf_m_flour_4 (o : Nat) (ktape : Nat) (know : Nat) (kread : Nat) (kkept : Nat) (ksnaps : Nat) (kaside : Nat) (kname : Nat) (kreadName : Nat) (kkeptName : Nat) (kisKept : Nat) (konces : Nat) (kpoured : Nat) (kfar : Nat) (ksides : Nat) (klines : Nat) (kmet : Nat) (ksunk : Nat) (ktrying : Nat) (ktext : Nat) (kline : Nat) (kwritten : Nat) (knode : Nat) (knowF : Nat → Int32) (ksnapsF : Nat → Int32) (n : Int32) (xn : Nat) (yn : Nat) (r3 : Int32) (r8 : Int32) (hN : NowOk knowF) (hok : 0 ≤ (nI xn).toInt ∧ (nI xn).toInt < 4 ∧ 0 ≤ (nI yn).toInt ∧ (nI yn).toInt < 4 ∧ 1 ≤ n.toInt ∧ n.toInt ≤ 9) (h1 : xn < 4) (h2 : yn < 4) (p4 : (r3 = nI 1 ∧ (0 ≤ (nI xn).toInt ∧ (nI xn).toInt < 4 ∧ 0 ≤ (nI yn).toInt ∧ (nI yn).toInt < 4)) ∨ (r3 = nI 0 ∧ ¬ (0 ≤ (nI xn).toInt ∧ (nI xn).toInt < 4 ∧ 0 ≤ (nI yn).toInt ∧ (nI yn).toInt < 4))) (c5 : ¬ r3 = 0) (p9 : (r8 = nI 1 ∧ (nI 1).toInt ≤ n.toInt ∧ n.toInt ≤ (nI 9).toInt) ∨ (r8 = nI 0 ∧ ¬ ((nI 1).toInt ≤ n.toInt ∧ n.toInt ≤ (nI 9).toInt))) (c10 : r8 = 0) : ((-1 : Int32) = (-1 : Int32) ∧ ¬ (0 ≤ (nI xn).toInt ∧ (nI xn).toInt < 4 ∧ 0 ≤ (nI yn).toInt ∧ (nI yn).toInt < 4 ∧ 1 ≤ n.toInt ∧ n.toInt ≤ 9)) ∨ ((-1 : Int32) = nI 0 ∧ (0 ≤ (nI xn).toInt ∧ (nI xn).toInt < 4 ∧ 0 ≤ (nI yn).toInt ∧ (nI yn).toInt < 4 ∧ 1 ≤ n.toInt ∧ n.toInt ≤ 9)) := by
  have k_0 := ia_n xn (by omega)
  have k_1 := ia_n yn (by omega)
  have k_2 := ia_n 1 (by decide)
  have k_3 := ia_n 0 (by decide)
  have k_4 := ia_n 9 (by decide)
  try simp only [ia_lt, ia_le, ia_eq, ia_m1, ia_0, ia_1, ne_eq, true_and, and_true, false_and, and_false, or_false, false_or, or_true, true_or, not_true_eq_false, not_false_eq_true] at *
  all_goals omega
set_option maxRecDepth 20000 in
theorem lf_m_flour_5 (o : Nat) (ktape : Nat) (know : Nat) (kread : Nat) (kkept : Nat) (ksnaps : Nat) (kaside : Nat) (kname : Nat) (kreadName : Nat) (kkeptName : Nat) (kisKept : Nat) (konces : Nat) (kpoured : Nat) (kfar : Nat) (ksides : Nat) (klines : Nat) (kmet : Nat) (ksunk : Nat) (ktrying : Nat) (ktext : Nat) (kline : Nat) (kwritten : Nat) (knode : Nat) (knowF : Nat → Int32) (ksnapsF : Nat → Int32) (n : Int32) (xn : Nat) (yn : Nat) (r3 : Int32) (r8 : Int32) (hN : NowOk knowF) (hok : 0 ≤ (nI xn).toInt ∧ (nI xn).toInt < 4 ∧ 0 ≤ (nI yn).toInt ∧ (nI yn).toInt < 4 ∧ 1 ≤ n.toInt ∧ n.toInt ≤ 9) (h1 : xn < 4) (h2 : yn < 4) (p4 : (r3 = nI 1 ∧ (0 ≤ (nI xn).toInt ∧ (nI xn).toInt < 4 ∧ 0 ≤ (nI yn).toInt ∧ (nI yn).toInt < 4)) ∨ (r3 = nI 0 ∧ ¬ (0 ≤ (nI xn).toInt ∧ (nI xn).toInt < 4 ∧ 0 ≤ (nI yn).toInt ∧ (nI yn).toInt < 4))) (c5 : ¬ r3 = 0) (p9 : (r8 = nI 1 ∧ (nI 1).toInt ≤ n.toInt ∧ n.toInt ≤ (nI 9).toInt) ∨ (r8 = nI 0 ∧ ¬ ((nI 1).toInt ≤ n.toInt ∧ n.toInt ≤ (nI 9).toInt))) (c10 : ¬ r8 = 0) : ((nI 0) = (-1 : Int32) ∧ ¬ (0 ≤ (nI xn).toInt ∧ (nI xn).toInt < 4 ∧ 0 ≤ (nI yn).toInt ∧ (nI yn).toInt < 4 ∧ 1 ≤ n.toInt ∧ n.toInt ≤ 9)) ∨ ((nI 0) = nI 0 ∧ (0 ≤ (nI xn).toInt ∧ (nI xn).toInt < 4 ∧ 0 ≤ (nI yn).toInt ∧ (nI yn).toInt < 4 ∧ 1 ≤ n.toInt ∧ n.toInt ≤ 9)) := by
  have k_0 := ia_n xn (by omega)
  have k_1 := ia_n yn (by omega)
  have k_2 := ia_n 1 (by decide)
  have k_3 := ia_n 0 (by decide)
  have k_4 := ia_n 9 (by decide)
  try simp only [ia_lt, ia_le, ia_eq, ia_m1, ia_0, ia_1, ne_eq, true_and, and_true, false_and, and_false, or_false, false_or, or_true, true_or, not_true_eq_false, not_false_eq_true] at *
  all_goals omega
set_option maxRecDepth 20000 in
theorem lf_m_flour_6 (o : Nat) (ktape : Nat) (know : Nat) (kread : Nat) (kkept : Nat) (ksnaps : Nat) (kaside : Nat) (kname : Nat) (kreadName : Nat) (kkeptName : Nat) (kisKept : Nat) (konces : Nat) (kpoured : Nat) (kfar : Nat) (ksides : Nat) (klines : Nat) (kmet : Nat) (ksunk : Nat) (ktrying : Nat) (ktext : Nat) (kline : Nat) (kwritten : Nat) (knode : Nat) (knowF : Nat → Int32) (ksnapsF : Nat → Int32) (x : Int32) (y : Int32) (n : Int32) (y17 : Int32) (y19 : Int32) (r21 : Int32) (hN : NowOk knowF) (hnok : ¬ (0 ≤ x.toInt ∧ x.toInt < 4 ∧ 0 ≤ y.toInt ∧ y.toInt < 4 ∧ 1 ≤ n.toInt ∧ n.toInt ≤ 9)) (e18 : y17 = (nI 6) * y) (e20 : y19 = y17 + x) (p22 : (r21 = nI 1 ∧ (0 ≤ x.toInt ∧ x.toInt < 4 ∧ 0 ≤ y.toInt ∧ y.toInt < 4)) ∨ (r21 = nI 0 ∧ ¬ (0 ≤ x.toInt ∧ x.toInt < 4 ∧ 0 ≤ y.toInt ∧ y.toInt < 4))) (c23 : r21 = 0) : ((-1 : Int32) = (-1 : Int32) ∧ ¬ (0 ≤ x.toInt ∧ x.toInt < 4 ∧ 0 ≤ y.toInt ∧ y.toInt < 4 ∧ 1 ≤ n.toInt ∧ n.toInt ≤ 9)) ∨ ((-1 : Int32) = nI 0 ∧ (0 ≤ x.toInt ∧ x.toInt < 4 ∧ 0 ≤ y.toInt ∧ y.toInt < 4 ∧ 1 ≤ n.toInt ∧ n.toInt ≤ 9)) := by
  have k_0 := ia_n 6 (by decide)
  have k_1 := ia_n 1 (by decide)
  have k_2 := ia_n 0 (by decide)
  try simp only [ia_lt, ia_le, ia_eq, ia_m1, ia_0, ia_1, ne_eq, true_and, and_true, false_and, and_false, or_false, false_or, or_true, true_or, not_true_eq_false, not_false_eq_true] at *
  all_goals omega
set_option maxRecDepth 20000 in
theorem lf_m_flour_7 (o : Nat) (ktape : Nat) (know : Nat) (kread : Nat) (kkept : Nat) (ksnaps : Nat) (kaside : Nat) (kname : Nat) (kreadName : Nat) (kkeptName : Nat) (kisKept : Nat) (konces : Nat) (kpoured : Nat) (kfar : Nat) (ksides : Nat) (klines : Nat) (kmet : Nat) (ksunk : Nat) (ktrying : Nat) (ktext : Nat) (kline : Nat) (kwritten : Nat) (knode : Nat) (knowF : Nat → Int32) (ksnapsF : Nat → Int32) (x : Int32) (y : Int32) (n : Int32) (y17 : Int32) (y19 : Int32) (r21 : Int32) (r26 : Int32) (hN : NowOk knowF) (hnok : ¬ (0 ≤ x.toInt ∧ x.toInt < 4 ∧ 0 ≤ y.toInt ∧ y.toInt < 4 ∧ 1 ≤ n.toInt ∧ n.toInt ≤ 9)) (e18 : y17 = (nI 6) * y) (e20 : y19 = y17 + x) (p22 : (r21 = nI 1 ∧ (0 ≤ x.toInt ∧ x.toInt < 4 ∧ 0 ≤ y.toInt ∧ y.toInt < 4)) ∨ (r21 = nI 0 ∧ ¬ (0 ≤ x.toInt ∧ x.toInt < 4 ∧ 0 ≤ y.toInt ∧ y.toInt < 4))) (c23 : ¬ r21 = 0) (p27 : (r26 = nI 1 ∧ (nI 1).toInt ≤ n.toInt ∧ n.toInt ≤ (nI 9).toInt) ∨ (r26 = nI 0 ∧ ¬ ((nI 1).toInt ≤ n.toInt ∧ n.toInt ≤ (nI 9).toInt))) (c28 : r26 = 0) : ((-1 : Int32) = (-1 : Int32) ∧ ¬ (0 ≤ x.toInt ∧ x.toInt < 4 ∧ 0 ≤ y.toInt ∧ y.toInt < 4 ∧ 1 ≤ n.toInt ∧ n.toInt ≤ 9)) ∨ ((-1 : Int32) = nI 0 ∧ (0 ≤ x.toInt ∧ x.toInt < 4 ∧ 0 ≤ y.toInt ∧ y.toInt < 4 ∧ 1 ≤ n.toInt ∧ n.toInt ≤ 9)) := by
  have k_0 := ia_n 6 (by decide)
  have k_1 := ia_n 1 (by decide)
  have k_2 := ia_n 0 (by decide)
  have k_3 := ia_n 9 (by decide)
  try simp only [ia_lt, ia_le, ia_eq, ia_m1, ia_0, ia_1, ne_eq, true_and, and_true, false_and, and_false, or_false, false_or, or_true, true_or, not_true_eq_false, not_false_eq_true] at *
  all_goals omega
set_option maxRecDepth 20000 in
theorem lf_m_flour_8 (o : Nat) (ktape : Nat) (know : Nat) (kread : Nat) (kkept : Nat) (ksnaps : Nat) (kaside : Nat) (kname : Nat) (kreadName : Nat) (kkeptName : Nat) (kisKept : Nat) (konces : Nat) (kpoured : Nat) (kfar : Nat) (ksides : Nat) (klines : Nat) (kmet : Nat) (ksunk : Nat) (ktrying : Nat) (ktext : Nat) (kline : Nat) (kwritten : Nat) (knode : Nat) (knowF : Nat → Int32) (ksnapsF : Nat → Int32) (x : Int32) (y : Int32) (n : Int32) (y17 : Int32) (y19 : Int32) (r21 : Int32) (r26 : Int32) (hN : NowOk knowF) (hnok : ¬ (0 ≤ x.toInt ∧ x.toInt < 4 ∧ 0 ≤ y.toInt ∧ y.toInt < 4 ∧ 1 ≤ n.toInt ∧ n.toInt ≤ 9)) (e18 : y17 = (nI 6) * y) (e20 : y19 = y17 + x) (p22 : (r21 = nI 1 ∧ (0 ≤ x.toInt ∧ x.toInt < 4 ∧ 0 ≤ y.toInt ∧ y.toInt < 4)) ∨ (r21 = nI 0 ∧ ¬ (0 ≤ x.toInt ∧ x.toInt < 4 ∧ 0 ≤ y.toInt ∧ y.toInt < 4))) (c23 : ¬ r21 = 0) (p27 : (r26 = nI 1 ∧ (nI 1).toInt ≤ n.toInt ∧ n.toInt ≤ (nI 9).toInt) ∨ (r26 = nI 0 ∧ ¬ ((nI 1).toInt ≤ n.toInt ∧ n.toInt ≤ (nI 9).toInt))) (c28 : ¬ r26 = 0) : False := by
  have k_0 := ia_n 6 (by decide)
  have k_1 := ia_n 1 (by decide)
  have k_2 := ia_n 0 (by decide)
  have k_3 := ia_n 9 (by decide)
  try simp only [ia_lt, ia_le, ia_eq, ia_m1, ia_0, ia_1, ne_eq, true_and, and_true, false_and, and_false, or_false, false_or, or_true, true_or, not_true_eq_false, not_false_eq_true] at *
  all_goals omega
set_option maxHeartbeats 4000000 in
set_option maxRecDepth 100000 in
theorem c_m_flour (l : Launch) (dC : Nat → ClassId) (dI : Nat → Nat → Nat) (ky : Nat → ClassId) (sz : Nat) (o : Nat) (ktape : Nat) (know : Nat) (kread : Nat) (kkept : Nat) (ksnaps : Nat) (kaside : Nat) (kname : Nat) (kreadName : Nat) (kkeptName : Nat) (kisKept : Nat) (konces : Nat) (kpoured : Nat) (kfar : Nat) (ksides : Nat) (klines : Nat) (kmet : Nat) (ksunk : Nat) (ktrying : Nat) (ktext : Nat) (kline : Nat) (kwritten : Nat) (knode : Nat) (knowF : Nat → Int32) (ksnapsF : Nat → Int32) (x : Int32) (y : Int32) (n : Int32) (hN : NowOk knowF) : Met l yX12_flour wsX12_flour ({ frames := 3, cells := 0, slots := 0, locals := 69 }) (PcU dC dI ky [.ref o, .int x, .int y, .int n] [(o, .inr (12, [.int (nI 0), .ref ktape, .int (nI 0), .int (nI 0), .int (nI 0), .int (nI 0), .int (nI 0), .int (nI 0), .int (nI 0), .int (nI 0), .int (nI 0), .int (nI 0), .long 0, .int (nI 0), .ref know, .ref kread, .ref kkept, .ref ksnaps, .ref kaside, .ref kname, .ref kreadName, .ref kkeptName, .ref kisKept, .ref konces, .int (nI 0), .int (nI 0), .ref kpoured, .ref kfar, .ref ksides, .int (nI 0), .int (-1 : Int32), .int (nI 0), .ref klines, .ref kmet, .int (nI 0), .ref ksunk, .ref ktrying, .int (nI 0), .int (-1 : Int32), .int (-1 : Int32), .ref ktext, .int (nI 0), .int (nI 0), .ref kline, .ref kwritten, .int (nI 0), .int (nI 0), .ref knode, .int (nI 0), .int (nI 0), .int (nI 0), .int (nI 0)])), (know, .inl (ky 0, 373, .inl knowF)), (ksnaps, .inl (ky 0, 512, .inl ksnapsF))] sz) (va_Qi (fun (r : Int32) (_ : Unit) => (r = (-1 : Int32) ∧ ¬ (0 ≤ x.toInt ∧ x.toInt < 4 ∧ 0 ≤ y.toInt ∧ y.toInt < 4 ∧ 1 ≤ n.toInt ∧ n.toInt ≤ 9)) ∨ (r = nI 0 ∧ (0 ≤ x.toInt ∧ x.toInt < 4 ∧ 0 ≤ y.toInt ∧ y.toInt < 4 ∧ 1 ≤ n.toInt ∧ n.toInt ≤ 9))) (BU dC dI ky (fun (_ : Unit) => []) (va_A [(o, .inr (12, [.int (nI 0), .ref ktape, .int (nI 0), .int (nI 0), .int (nI 0), .int (nI 0), .int (nI 0), .int (nI 0), .int (nI 0), .int (nI 0), .int (nI 0), .int (nI 0), .long 0, .int (nI 0), .ref know, .ref kread, .ref kkept, .ref ksnaps, .ref kaside, .ref kname, .ref kreadName, .ref kkeptName, .ref kisKept, .ref konces, .int (nI 0), .int (nI 0), .ref kpoured, .ref kfar, .ref ksides, .int (nI 0), .int (-1 : Int32), .int (nI 0), .ref klines, .ref kmet, .int (nI 0), .ref ksunk, .ref ktrying, .int (nI 0), .int (-1 : Int32), .int (-1 : Int32), .ref ktext, .int (nI 0), .int (nI 0), .ref kline, .ref kwritten, .int (nI 0), .int (nI 0), .ref knode, .int (nI 0), .int (nI 0), .int (nI 0), .int (nI 0)])), (know, .inl (ky 0, 373, .inl knowF)), (ksnaps, .inl (ky 0, 512, .inl ksnapsF))] sz)) (va_A [(o, .inr (12, [.int (nI 0), .ref ktape, .int (nI 0), .int (nI 0), .int (nI 0), .int (nI 0), .int (nI 0), .int (nI 0), .int (nI 0), .int (nI 0), .int (nI 0), .int (nI 0), .long 0, .int (nI 0), .ref know, .ref kread, .ref kkept, .ref ksnaps, .ref kaside, .ref kname, .ref kreadName, .ref kkeptName, .ref kisKept, .ref konces, .int (nI 0), .int (nI 0), .ref kpoured, .ref kfar, .ref ksides, .int (nI 0), .int (-1 : Int32), .int (nI 0), .ref klines, .ref kmet, .int (nI 0), .ref ksunk, .ref ktrying, .int (nI 0), .int (-1 : Int32), .int (-1 : Int32), .ref ktext, .int (nI 0), .int (nI 0), .ref kline, .ref kwritten, .int (nI 0), .int (nI 0), .ref knode, .int (nI 0), .int (nI 0), .int (nI 0), .int (nI 0)])), (know, .inl (ky 0, 373, .inl knowF)), (ksnaps, .inl (ky 0, 512, .inl ksnapsF))] sz)) 0 0 (va_A [(o, .inr (12, [.int (nI 0), .ref ktape, .int (nI 0), .int (nI 0), .int (nI 0), .int (nI 0), .int (nI 0), .int (nI 0), .int (nI 0), .int (nI 0), .int (nI 0), .int (nI 0), .long 0, .int (nI 0), .ref know, .ref kread, .ref kkept, .ref ksnaps, .ref kaside, .ref kname, .ref kreadName, .ref kkeptName, .ref kisKept, .ref konces, .int (nI 0), .int (nI 0), .ref kpoured, .ref kfar, .ref ksides, .int (nI 0), .int (-1 : Int32), .int (nI 0), .ref klines, .ref kmet, .int (nI 0), .ref ksunk, .ref ktrying, .int (nI 0), .int (-1 : Int32), .int (-1 : Int32), .ref ktext, .int (nI 0), .int (nI 0), .ref kline, .ref kwritten, .int (nI 0), .int (nI 0), .ref knode, .int (nI 0), .int (nI 0), .int (nI 0), .int (nI 0)])), (know, .inl (ky 0, 373, .inl knowF)), (ksnaps, .inl (ky 0, 512, .inl ksnapsF))] sz) := by
  refine Met.ofW (cc := cX12_flour) (maxL := 4) (ret := (some .int)) (by decide) rfl ?_
  intro p e s m args below meth c s₁ B hml hv
  obtain ⟨rfl, hsz, hP, hK, hD0⟩ := hv
  have hx := B.exec
  have hb := B.bytes
  have hr := B.returns
  have hts := atoms_spec (ws := wsX12_flour) B.pre
  have hown : s.vm.findClass RX12 = some m.cls := findClass_of_methodNamed B.named
  have hlocks := B.notSynchronized
  have hin12 : ∀ w ∈ u_ws RX12 TX12 52, w ∈ wsX12_flour := by decide +kernel
  subst hsz
  have hD := hD0.self (sz := s.heap.size)
  generalize hAe : va_A [(o, .inr (12, [.int (nI 0), .ref ktape, .int (nI 0), .int (nI 0), .int (nI 0), .int (nI 0), .int (nI 0), .int (nI 0), .int (nI 0), .int (nI 0), .int (nI 0), .int (nI 0), .long 0, .int (nI 0), .ref know, .ref kread, .ref kkept, .ref ksnaps, .ref kaside, .ref kname, .ref kreadName, .ref kkeptName, .ref kisKept, .ref konces, .int (nI 0), .int (nI 0), .ref kpoured, .ref kfar, .ref ksides, .int (nI 0), .int (-1 : Int32), .int (nI 0), .ref klines, .ref kmet, .int (nI 0), .ref ksunk, .ref ktrying, .int (nI 0), .int (-1 : Int32), .int (-1 : Int32), .ref ktext, .int (nI 0), .int (nI 0), .ref kline, .ref kwritten, .int (nI 0), .int (nI 0), .ref knode, .int (nI 0), .int (nI 0), .int (nI 0), .int (nI 0)])), (know, .inl (ky 0, 373, .inl knowF)), (ksnaps, .inl (ky 0, 512, .inl ksnapsF))] s.heap.size = A at hD ⊢
  have hA : ∀ q : Nat, s.heap.size ≤ q → A q := fun q h => by rw [← hAe]; exact Or.inr h
  have hS : va_S A s.heap s.heap [] := va_S.rf
  have hP : va_P (dC, dI) vwCl [(o, .inr (12, [.int (nI 0), .ref ktape, .int (nI 0), .int (nI 0), .int (nI 0), .int (nI 0), .int (nI 0), .int (nI 0), .int (nI 0), .int (nI 0), .int (nI 0), .int (nI 0), .long 0, .int (nI 0), .ref know, .ref kread, .ref kkept, .ref ksnaps, .ref kaside, .ref kname, .ref kreadName, .ref kkeptName, .ref kisKept, .ref konces, .int (nI 0), .int (nI 0), .ref kpoured, .ref kfar, .ref ksides, .int (nI 0), .int (-1 : Int32), .int (nI 0), .ref klines, .ref kmet, .int (nI 0), .ref ksunk, .ref ktrying, .int (nI 0), .int (-1 : Int32), .int (-1 : Int32), .ref ktext, .int (nI 0), .int (nI 0), .ref kline, .ref kwritten, .int (nI 0), .int (nI 0), .ref knode, .int (nI 0), .int (nI 0), .int (nI 0), .int (nI 0)])), (know, .inl (ky 0, 373, .inl knowF)), (ksnaps, .inl (ky 0, 512, .inl ksnapsF))] s.heap := hP
  have hl := lv_entry ([.ref o, .int x, .int y, .int n]) (n := 4) (Nat.le_of_ble_eq_true rfl)
  rw [lg_entry_eq]
  generalize (lg_sl ([.ref o, .int x, .int y, .int n]) ++ List.replicate (4 - (lg_sl ([.ref o, .int x, .int y, .int n])).length) Slot.unset).toArray = ls at hl ⊢
  have hl : lv_has ls 4 [(0, .ref o), (1, .int x), (2, .int y), (3, .int n)] := hl
  have hH0 : True := trivial
  rcases Classical.em (0 ≤ x.toInt ∧ x.toInt < 4 ∧ 0 ≤ y.toInt ∧ y.toInt < 4 ∧ 1 ≤ n.toInt ∧ n.toInt ≤ 9) with hok | hnok
  · obtain ⟨xn, h1, rfl⟩ := nat_of x 4 (by decide) (lf_m_flour_1 o ktape know kread kkept ksnaps kaside kname kreadName kkeptName kisKept konces kpoured kfar ksides klines kmet ksunk ktrying ktext kline kwritten knode knowF ksnapsF x y n hN hok)
    obtain ⟨yn, h2, rfl⟩ := nat_of y 4 (by decide) (lf_m_flour_2 o ktape know kread kkept ksnaps kaside kname kreadName kkeptName kisKept konces kpoured kfar ksides klines kmet ksunk ktrying ktext kline kwritten knode knowF ksnapsF y n xn hN hok h1)
    refine lv_aload_n hx hb dX12_flour_0 rfl (lv_at hl 0 rfl) ?_
    refine lv_iconst (v := nI 0) hx hb dX12_flour_1 (by decide) ?_
    refine va_put (D := (dC, dI)) (ci := 12) (v := .int (nI 0)) (ty := .int) (C := RX12) (T := TX12) (N := 52) hx hb hts hin12 tyX12 tyX12_ok nmX12 hown hK hP hD hS 0 rfl rfl 0 (by decide) (hts (.fieldLink RX12 1 "PorridgeSeaModel" "thrown" "I") (List.mem_of_getElem? (i := 1) rfl)) (fun _ h9 => h9) rfl (by decide +kernel) rfl rfl (Nat.le_of_ble_eq_true rfl) dX12_flour_2 (fun H locs hP hD hS => ?_)
    have hP : va_P (dC, dI) vwCl [(o, .inr (12, [.int (nI 0), .ref ktape, .int (nI 0), .int (nI 0), .int (nI 0), .int (nI 0), .int (nI 0), .int (nI 0), .int (nI 0), .int (nI 0), .int (nI 0), .int (nI 0), .long 0, .int (nI 0), .ref know, .ref kread, .ref kkept, .ref ksnaps, .ref kaside, .ref kname, .ref kreadName, .ref kkeptName, .ref kisKept, .ref konces, .int (nI 0), .int (nI 0), .ref kpoured, .ref kfar, .ref ksides, .int (nI 0), .int (-1 : Int32), .int (nI 0), .ref klines, .ref kmet, .int (nI 0), .ref ksunk, .ref ktrying, .int (nI 0), .int (-1 : Int32), .int (-1 : Int32), .ref ktext, .int (nI 0), .int (nI 0), .ref kline, .ref kwritten, .int (nI 0), .int (nI 0), .ref knode, .int (nI 0), .int (nI 0), .int (nI 0), .int (nI 0)])), (know, .inl (ky 0, 373, .inl knowF)), (ksnaps, .inl (ky 0, 512, .inl ksnapsF))] H := hP
    have hD : va_D A [(o, .inr (12, [.int (nI 0), .ref ktape, .int (nI 0), .int (nI 0), .int (nI 0), .int (nI 0), .int (nI 0), .int (nI 0), .int (nI 0), .int (nI 0), .int (nI 0), .int (nI 0), .long 0, .int (nI 0), .ref know, .ref kread, .ref kkept, .ref ksnaps, .ref kaside, .ref kname, .ref kreadName, .ref kkeptName, .ref kisKept, .ref konces, .int (nI 0), .int (nI 0), .ref kpoured, .ref kfar, .ref ksides, .int (nI 0), .int (-1 : Int32), .int (nI 0), .ref klines, .ref kmet, .int (nI 0), .ref ksunk, .ref ktrying, .int (nI 0), .int (-1 : Int32), .int (-1 : Int32), .ref ktext, .int (nI 0), .int (nI 0), .ref kline, .ref kwritten, .int (nI 0), .int (nI 0), .ref knode, .int (nI 0), .int (nI 0), .int (nI 0), .int (nI 0)])), (know, .inl (ky 0, 373, .inl knowF)), (ksnaps, .inl (ky 0, 512, .inl ksnapsF))] := hD
    refine lv_aload_n hx hb dX12_flour_5 rfl (lv_at hl 0 rfl) ?_
    refine lv_iconst (v := nI 2) hx hb dX12_flour_6 (by decide) ?_
    refine lv_bipush (v := nI 6) hx hb dX12_flour_7 (by decide) ?_
    refine lv_iload_n hx hb dX12_flour_9 rfl (lv_at hl 2 rfl) ?_
    refine lv_imul hx hb dX12_flour_10 ?_
    refine r_ti (nI (6 * yn)) (pk_mul _ _) ?_
    refine lv_iload_n hx hb dX12_flour_11 rfl (lv_at hl 1 rfl) ?_
    refine lv_iadd hx hb dX12_flour_12 ?_
    refine r_ti (nI ((6 * yn) + xn)) (nI_add _ _) ?_
    refine lv_iload_n hx hb dX12_flour_13 rfl (lv_at hl 3 rfl) ?_
    refine lv_aload_n hx hb dX12_flour_14 rfl (lv_at hl 0 rfl) ?_
    refine lv_iload_n hx hb dX12_flour_15 rfl (lv_at hl 1 rfl) ?_
    refine lv_iload_n hx hb dX12_flour_16 rfl (lv_at hl 2 rfl) ?_
    refine vp_callSi (W.runV (As := [.int (nI xn), .int (nI yn)]) (rest := [.int n, .int (nI ((6 * yn) + xn)), .int (nI 2), .ref o]) ⟨hx, hb, hml, hown, hts⟩ (c_m_isCell l dC dI ky o (nI 0) ktape (nI 0) (nI 0) (nI 0) (nI 0) (nI 0) (nI 0) (nI 0) (nI 0) (nI 0) (nI 0) 0 (nI 0) know kread kkept ksnaps kaside kname kreadName kkeptName kisKept konces (nI 0) (nI 0) kpoured kfar ksides (nI 0) (-1 : Int32) (nI 0) klines kmet (nI 0) ksunk ktrying (nI 0) (-1 : Int32) (-1 : Int32) ktext (nI 0) (nI 0) kline kwritten (nI 0) (nI 0) knode (nI 0) (nI 0) (nI 0) (nI 0) knowF (nI xn) (nI yn) (NowOk.b hN)) (cwV 2 hts gX12_flour_X12_isCell rfl rfl rfl (by decide +kernel) ⟨(Nat.le_of_ble_eq_true rfl), (Nat.le_of_ble_eq_true rfl)⟩) (pre_PV hK hP [0, 1] rfl (ci := 12) (q0 := 0) rfl rfl) rfl rfl hl.1 rfl (lv_room (Nat.le_of_ble_eq_true rfl)) dX12_flour_17 ⟨(Nat.le_of_ble_eq_true rfl), (Nat.le_of_ble_eq_true rfl)⟩) (fun r3 p4 => ?_)
    refine lv_if_eq (tgt := 37) hx hb dX12_flour_20 (by decide) (fun c5 => ?_) (fun c5 => ?_)
    · refine lv_iconst (v := nI 0) hx hb dX12_flour_37 (by decide) ?_
      refine vp_callSi (W.runV (As := [.int (nI 2), .int (nI ((6 * yn) + xn)), .int n, .int (nI 0)]) (rest := []) ⟨hx, hb, hml, hown, hts⟩ (c_m_actNo l dC dI ky o (nI 0) ktape (nI 0) (nI 0) (nI 0) (nI 0) (nI 0) (nI 0) (nI 0) (nI 0) (nI 0) (nI 0) 0 (nI 0) know kread kkept ksnaps kaside kname kreadName kkeptName kisKept konces (nI 0) (nI 0) kpoured kfar ksides (nI 0) (-1 : Int32) (nI 0) klines kmet (nI 0) ksunk ktrying (nI 0) (-1 : Int32) (-1 : Int32) ktext (nI 0) (nI 0) kline kwritten (nI 0) (nI 0) knode (nI 0) (nI 0) (nI 0) (nI 0) (nI 2) (nI ((6 * yn) + xn)) n) (cwV 4 hts gX12_flour_X12_act rfl rfl rfl (by decide +kernel) ⟨(Nat.le_of_ble_eq_true rfl), (Nat.le_of_ble_eq_true rfl)⟩) (pre_PV hK hP [0] rfl (ci := 12) (q0 := 0) rfl rfl) rfl rfl hl.1 rfl (lv_room (Nat.le_of_ble_eq_true rfl)) dX12_flour_38 ⟨(Nat.le_of_ble_eq_true rfl), (Nat.le_of_ble_eq_true rfl)⟩) (fun r6 p7 => ?_)
      subst p7
      have hP9 := hP.sub (ws' := []) [] rfl
      have hD9 := hD.sub (ws' := []) [] (by decide) rfl
      refine W.widen (k := 0) (n := 0) (Nat.le_of_ble_eq_true rfl) (Nat.le_of_ble_eq_true rfl) ?_
      exact W.iret (v := (-1 : Int32)) hx hb hr (fun t ht9 hW9 => ⟨⟨(-1 : Int32), (), rfl, (lf_m_flour_3 o ktape know kread kkept ksnaps kaside kname kreadName kkeptName kisKept konces kpoured kfar ksides klines kmet ksunk ktrying ktext kline kwritten knode knowF ksnapsF n xn yn r3 hN hok h1 h2 p4 c5), by rw [ht9]; exact hP9, va_K.moved hW9.alike hK, hD9⟩, hS.F ht9⟩) hS.2.2 dX12_flour_41
    · refine lv_iload_n hx hb dX12_flour_23 rfl (lv_at hl 3 rfl) ?_
      refine lv_iconst (v := nI 1) hx hb dX12_flour_24 (by decide) ?_
      refine lv_bipush (v := nI 9) hx hb dX12_flour_25 (by decide) ?_
      refine vp_callSi (W.runS (As := [.int n, .int (nI 1), .int (nI 9)]) (rest := [.int n, .int (nI ((6 * yn) + xn)), .int (nI 2), .ref o]) ⟨hx, hb, hml, hown, hts⟩ (c_isIn l dC dI ky n (nI 1) (nI 9)) (va_cwS 3 hts gX12_flour_X12_isIn rfl rfl rfl (by decide +kernel) ⟨(Nat.le_of_ble_eq_true rfl), (Nat.le_of_ble_eq_true rfl)⟩) (pre_PS hK hP [] rfl) rfl rfl hl.1 rfl (lv_room (Nat.le_of_ble_eq_true rfl)) dX12_flour_27 ⟨(Nat.le_of_ble_eq_true rfl), (Nat.le_of_ble_eq_true rfl)⟩) (fun r8 p9 => ?_)
      refine lv_if_eq (tgt := 37) hx hb dX12_flour_30 (by decide) (fun c10 => ?_) (fun c10 => ?_)
      · refine lv_iconst (v := nI 0) hx hb dX12_flour_37 (by decide) ?_
        refine vp_callSi (W.runV (As := [.int (nI 2), .int (nI ((6 * yn) + xn)), .int n, .int (nI 0)]) (rest := []) ⟨hx, hb, hml, hown, hts⟩ (c_m_actNo l dC dI ky o (nI 0) ktape (nI 0) (nI 0) (nI 0) (nI 0) (nI 0) (nI 0) (nI 0) (nI 0) (nI 0) (nI 0) 0 (nI 0) know kread kkept ksnaps kaside kname kreadName kkeptName kisKept konces (nI 0) (nI 0) kpoured kfar ksides (nI 0) (-1 : Int32) (nI 0) klines kmet (nI 0) ksunk ktrying (nI 0) (-1 : Int32) (-1 : Int32) ktext (nI 0) (nI 0) kline kwritten (nI 0) (nI 0) knode (nI 0) (nI 0) (nI 0) (nI 0) (nI 2) (nI ((6 * yn) + xn)) n) (cwV 4 hts gX12_flour_X12_act rfl rfl rfl (by decide +kernel) ⟨(Nat.le_of_ble_eq_true rfl), (Nat.le_of_ble_eq_true rfl)⟩) (pre_PV hK hP [0] rfl (ci := 12) (q0 := 0) rfl rfl) rfl rfl hl.1 rfl (lv_room (Nat.le_of_ble_eq_true rfl)) dX12_flour_38 ⟨(Nat.le_of_ble_eq_true rfl), (Nat.le_of_ble_eq_true rfl)⟩) (fun r11 p12 => ?_)
        subst p12
        have hP9 := hP.sub (ws' := []) [] rfl
        have hD9 := hD.sub (ws' := []) [] (by decide) rfl
        refine W.widen (k := 0) (n := 0) (Nat.le_of_ble_eq_true rfl) (Nat.le_of_ble_eq_true rfl) ?_
        exact W.iret (v := (-1 : Int32)) hx hb hr (fun t ht9 hW9 => ⟨⟨(-1 : Int32), (), rfl, (lf_m_flour_4 o ktape know kread kkept ksnaps kaside kname kreadName kkeptName kisKept konces kpoured kfar ksides klines kmet ksunk ktrying ktext kline kwritten knode knowF ksnapsF n xn yn r3 r8 hN hok h1 h2 p4 c5 p9 c10), by rw [ht9]; exact hP9, va_K.moved hW9.alike hK, hD9⟩, hS.F ht9⟩) hS.2.2 dX12_flour_41
      · refine lv_iconst (v := nI 1) hx hb dX12_flour_33 (by decide) ?_
        refine lv_goto (tgt := 38) hx hb dX12_flour_34 (by decide) ?_
        refine r_call_i (wr := []) (va_runV (As := [.int (nI 2), .int (nI ((6 * yn) + xn)), .int n, .int (nI 1)]) (rest := []) ⟨hx, hb, hml, hown, hts⟩ (c_m_act2 l dC dI ky H.size o (nI 0) ktape (nI 0) (nI 0) (nI 0) (nI 0) (nI 0) (nI 0) (nI 0) (nI 0) (nI 0) (nI 0) 0 (nI 0) know kread kkept ksnaps kaside kname kreadName kkeptName kisKept konces (nI 0) kpoured kfar ksides (nI 0) (-1 : Int32) (nI 0) klines kmet (nI 0) ksunk ktrying (nI 0) (-1 : Int32) (-1 : Int32) ktext (nI 0) (nI 0) kline kwritten (nI 0) (nI 0) knode (nI 0) (nI 0) (nI 0) (nI 0) knowF ksnapsF ((6 * yn) + xn) n hN (by omega)) (cwV 4 hts gX12_flour_X12_act rfl rfl rfl (by decide +kernel) ⟨(Nat.le_of_ble_eq_true rfl), (Nat.le_of_ble_eq_true rfl)⟩) (pre_UV hK hP hD [0, 1, 2] (by decide) rfl (ci := 12) (q0 := 0) rfl rfl) rfl rfl hl.1 rfl (lv_room (Nat.le_of_ble_eq_true rfl)) dX12_flour_38 ⟨(Nat.le_of_ble_eq_true rfl), (Nat.le_of_ble_eq_true rfl)⟩) hP hD hS hA [0, 1, 2] [] rfl rfl (by decide) (by decide) (fun r15 u13 H locs p14 hP hD hS => ?_)
        try dsimp only at p14
        have p16 := p14
        refine W.widen (k := 0) (n := 0) (Nat.le_of_ble_eq_true rfl) (Nat.le_of_ble_eq_true rfl) ?_
        have hP : va_P (dC, dI) vwCl [] H := hP
        have hD : va_D A [] := hD
        subst p16
        have hP9 := hP.sub (ws' := []) [] rfl
        have hD9 := hD.sub (ws' := []) [] (by decide) rfl
        refine W.widen (k := 0) (n := 0) (Nat.le_of_ble_eq_true rfl) (Nat.le_of_ble_eq_true rfl) ?_
        exact W.iret (v := nI 0) hx hb hr (fun t ht9 hW9 => ⟨⟨nI 0, (), rfl, (lf_m_flour_5 o ktape know kread kkept ksnaps kaside kname kreadName kkeptName kisKept konces kpoured kfar ksides klines kmet ksunk ktrying ktext kline kwritten knode knowF ksnapsF n xn yn r3 r8 hN hok h1 h2 p4 c5 p9 c10), by rw [ht9]; exact hP9, va_K.moved hW9.alike hK, hD9⟩, hS.F ht9⟩) hS.2.2 dX12_flour_41
  · refine lv_aload_n hx hb dX12_flour_0 rfl (lv_at hl 0 rfl) ?_
    refine lv_iconst (v := nI 0) hx hb dX12_flour_1 (by decide) ?_
    refine va_put (D := (dC, dI)) (ci := 12) (v := .int (nI 0)) (ty := .int) (C := RX12) (T := TX12) (N := 52) hx hb hts hin12 tyX12 tyX12_ok nmX12 hown hK hP hD hS 0 rfl rfl 0 (by decide) (hts (.fieldLink RX12 1 "PorridgeSeaModel" "thrown" "I") (List.mem_of_getElem? (i := 1) rfl)) (fun _ h9 => h9) rfl (by decide +kernel) rfl rfl (Nat.le_of_ble_eq_true rfl) dX12_flour_2 (fun H locs hP hD hS => ?_)
    have hP : va_P (dC, dI) vwCl [(o, .inr (12, [.int (nI 0), .ref ktape, .int (nI 0), .int (nI 0), .int (nI 0), .int (nI 0), .int (nI 0), .int (nI 0), .int (nI 0), .int (nI 0), .int (nI 0), .int (nI 0), .long 0, .int (nI 0), .ref know, .ref kread, .ref kkept, .ref ksnaps, .ref kaside, .ref kname, .ref kreadName, .ref kkeptName, .ref kisKept, .ref konces, .int (nI 0), .int (nI 0), .ref kpoured, .ref kfar, .ref ksides, .int (nI 0), .int (-1 : Int32), .int (nI 0), .ref klines, .ref kmet, .int (nI 0), .ref ksunk, .ref ktrying, .int (nI 0), .int (-1 : Int32), .int (-1 : Int32), .ref ktext, .int (nI 0), .int (nI 0), .ref kline, .ref kwritten, .int (nI 0), .int (nI 0), .ref knode, .int (nI 0), .int (nI 0), .int (nI 0), .int (nI 0)])), (know, .inl (ky 0, 373, .inl knowF)), (ksnaps, .inl (ky 0, 512, .inl ksnapsF))] H := hP
    have hD : va_D A [(o, .inr (12, [.int (nI 0), .ref ktape, .int (nI 0), .int (nI 0), .int (nI 0), .int (nI 0), .int (nI 0), .int (nI 0), .int (nI 0), .int (nI 0), .int (nI 0), .int (nI 0), .long 0, .int (nI 0), .ref know, .ref kread, .ref kkept, .ref ksnaps, .ref kaside, .ref kname, .ref kreadName, .ref kkeptName, .ref kisKept, .ref konces, .int (nI 0), .int (nI 0), .ref kpoured, .ref kfar, .ref ksides, .int (nI 0), .int (-1 : Int32), .int (nI 0), .ref klines, .ref kmet, .int (nI 0), .ref ksunk, .ref ktrying, .int (nI 0), .int (-1 : Int32), .int (-1 : Int32), .ref ktext, .int (nI 0), .int (nI 0), .ref kline, .ref kwritten, .int (nI 0), .int (nI 0), .ref knode, .int (nI 0), .int (nI 0), .int (nI 0), .int (nI 0)])), (know, .inl (ky 0, 373, .inl knowF)), (ksnaps, .inl (ky 0, 512, .inl ksnapsF))] := hD
    refine lv_aload_n hx hb dX12_flour_5 rfl (lv_at hl 0 rfl) ?_
    refine lv_iconst (v := nI 2) hx hb dX12_flour_6 (by decide) ?_
    refine lv_bipush (v := nI 6) hx hb dX12_flour_7 (by decide) ?_
    refine lv_iload_n hx hb dX12_flour_9 rfl (lv_at hl 2 rfl) ?_
    refine lv_imul hx hb dX12_flour_10 ?_
    refine lv_topi (fun y17 e18 => ?_)
    refine lv_iload_n hx hb dX12_flour_11 rfl (lv_at hl 1 rfl) ?_
    refine lv_iadd hx hb dX12_flour_12 ?_
    refine lv_topi (fun y19 e20 => ?_)
    refine lv_iload_n hx hb dX12_flour_13 rfl (lv_at hl 3 rfl) ?_
    refine lv_aload_n hx hb dX12_flour_14 rfl (lv_at hl 0 rfl) ?_
    refine lv_iload_n hx hb dX12_flour_15 rfl (lv_at hl 1 rfl) ?_
    refine lv_iload_n hx hb dX12_flour_16 rfl (lv_at hl 2 rfl) ?_
    refine vp_callSi (W.runV (As := [.int x, .int y]) (rest := [.int n, .int y19, .int (nI 2), .ref o]) ⟨hx, hb, hml, hown, hts⟩ (c_m_isCell l dC dI ky o (nI 0) ktape (nI 0) (nI 0) (nI 0) (nI 0) (nI 0) (nI 0) (nI 0) (nI 0) (nI 0) (nI 0) 0 (nI 0) know kread kkept ksnaps kaside kname kreadName kkeptName kisKept konces (nI 0) (nI 0) kpoured kfar ksides (nI 0) (-1 : Int32) (nI 0) klines kmet (nI 0) ksunk ktrying (nI 0) (-1 : Int32) (-1 : Int32) ktext (nI 0) (nI 0) kline kwritten (nI 0) (nI 0) knode (nI 0) (nI 0) (nI 0) (nI 0) knowF x y (NowOk.b hN)) (cwV 2 hts gX12_flour_X12_isCell rfl rfl rfl (by decide +kernel) ⟨(Nat.le_of_ble_eq_true rfl), (Nat.le_of_ble_eq_true rfl)⟩) (pre_PV hK hP [0, 1] rfl (ci := 12) (q0 := 0) rfl rfl) rfl rfl hl.1 rfl (lv_room (Nat.le_of_ble_eq_true rfl)) dX12_flour_17 ⟨(Nat.le_of_ble_eq_true rfl), (Nat.le_of_ble_eq_true rfl)⟩) (fun r21 p22 => ?_)
    refine lv_if_eq (tgt := 37) hx hb dX12_flour_20 (by decide) (fun c23 => ?_) (fun c23 => ?_)
    · refine lv_iconst (v := nI 0) hx hb dX12_flour_37 (by decide) ?_
      refine vp_callSi (W.runV (As := [.int (nI 2), .int y19, .int n, .int (nI 0)]) (rest := []) ⟨hx, hb, hml, hown, hts⟩ (c_m_actNo l dC dI ky o (nI 0) ktape (nI 0) (nI 0) (nI 0) (nI 0) (nI 0) (nI 0) (nI 0) (nI 0) (nI 0) (nI 0) 0 (nI 0) know kread kkept ksnaps kaside kname kreadName kkeptName kisKept konces (nI 0) (nI 0) kpoured kfar ksides (nI 0) (-1 : Int32) (nI 0) klines kmet (nI 0) ksunk ktrying (nI 0) (-1 : Int32) (-1 : Int32) ktext (nI 0) (nI 0) kline kwritten (nI 0) (nI 0) knode (nI 0) (nI 0) (nI 0) (nI 0) (nI 2) y19 n) (cwV 4 hts gX12_flour_X12_act rfl rfl rfl (by decide +kernel) ⟨(Nat.le_of_ble_eq_true rfl), (Nat.le_of_ble_eq_true rfl)⟩) (pre_PV hK hP [0] rfl (ci := 12) (q0 := 0) rfl rfl) rfl rfl hl.1 rfl (lv_room (Nat.le_of_ble_eq_true rfl)) dX12_flour_38 ⟨(Nat.le_of_ble_eq_true rfl), (Nat.le_of_ble_eq_true rfl)⟩) (fun r24 p25 => ?_)
      subst p25
      have hP9 := hP.sub (ws' := []) [] rfl
      have hD9 := hD.sub (ws' := []) [] (by decide) rfl
      refine W.widen (k := 0) (n := 0) (Nat.le_of_ble_eq_true rfl) (Nat.le_of_ble_eq_true rfl) ?_
      exact W.iret (v := (-1 : Int32)) hx hb hr (fun t ht9 hW9 => ⟨⟨(-1 : Int32), (), rfl, (lf_m_flour_6 o ktape know kread kkept ksnaps kaside kname kreadName kkeptName kisKept konces kpoured kfar ksides klines kmet ksunk ktrying ktext kline kwritten knode knowF ksnapsF x y n y17 y19 r21 hN hnok e18 e20 p22 c23), by rw [ht9]; exact hP9, va_K.moved hW9.alike hK, hD9⟩, hS.F ht9⟩) hS.2.2 dX12_flour_41
    · refine lv_iload_n hx hb dX12_flour_23 rfl (lv_at hl 3 rfl) ?_
      refine lv_iconst (v := nI 1) hx hb dX12_flour_24 (by decide) ?_
      refine lv_bipush (v := nI 9) hx hb dX12_flour_25 (by decide) ?_
      refine vp_callSi (W.runS (As := [.int n, .int (nI 1), .int (nI 9)]) (rest := [.int n, .int y19, .int (nI 2), .ref o]) ⟨hx, hb, hml, hown, hts⟩ (c_isIn l dC dI ky n (nI 1) (nI 9)) (va_cwS 3 hts gX12_flour_X12_isIn rfl rfl rfl (by decide +kernel) ⟨(Nat.le_of_ble_eq_true rfl), (Nat.le_of_ble_eq_true rfl)⟩) (pre_PS hK hP [] rfl) rfl rfl hl.1 rfl (lv_room (Nat.le_of_ble_eq_true rfl)) dX12_flour_27 ⟨(Nat.le_of_ble_eq_true rfl), (Nat.le_of_ble_eq_true rfl)⟩) (fun r26 p27 => ?_)
      refine lv_if_eq (tgt := 37) hx hb dX12_flour_30 (by decide) (fun c28 => ?_) (fun c28 => ?_)
      · refine lv_iconst (v := nI 0) hx hb dX12_flour_37 (by decide) ?_
        refine vp_callSi (W.runV (As := [.int (nI 2), .int y19, .int n, .int (nI 0)]) (rest := []) ⟨hx, hb, hml, hown, hts⟩ (c_m_actNo l dC dI ky o (nI 0) ktape (nI 0) (nI 0) (nI 0) (nI 0) (nI 0) (nI 0) (nI 0) (nI 0) (nI 0) (nI 0) 0 (nI 0) know kread kkept ksnaps kaside kname kreadName kkeptName kisKept konces (nI 0) (nI 0) kpoured kfar ksides (nI 0) (-1 : Int32) (nI 0) klines kmet (nI 0) ksunk ktrying (nI 0) (-1 : Int32) (-1 : Int32) ktext (nI 0) (nI 0) kline kwritten (nI 0) (nI 0) knode (nI 0) (nI 0) (nI 0) (nI 0) (nI 2) y19 n) (cwV 4 hts gX12_flour_X12_act rfl rfl rfl (by decide +kernel) ⟨(Nat.le_of_ble_eq_true rfl), (Nat.le_of_ble_eq_true rfl)⟩) (pre_PV hK hP [0] rfl (ci := 12) (q0 := 0) rfl rfl) rfl rfl hl.1 rfl (lv_room (Nat.le_of_ble_eq_true rfl)) dX12_flour_38 ⟨(Nat.le_of_ble_eq_true rfl), (Nat.le_of_ble_eq_true rfl)⟩) (fun r29 p30 => ?_)
        subst p30
        have hP9 := hP.sub (ws' := []) [] rfl
        have hD9 := hD.sub (ws' := []) [] (by decide) rfl
        refine W.widen (k := 0) (n := 0) (Nat.le_of_ble_eq_true rfl) (Nat.le_of_ble_eq_true rfl) ?_
        exact W.iret (v := (-1 : Int32)) hx hb hr (fun t ht9 hW9 => ⟨⟨(-1 : Int32), (), rfl, (lf_m_flour_7 o ktape know kread kkept ksnaps kaside kname kreadName kkeptName kisKept konces kpoured kfar ksides klines kmet ksunk ktrying ktext kline kwritten knode knowF ksnapsF x y n y17 y19 r21 r26 hN hnok e18 e20 p22 c23 p27 c28), by rw [ht9]; exact hP9, va_K.moved hW9.alike hK, hD9⟩, hS.F ht9⟩) hS.2.2 dX12_flour_41
      · exact ((lf_m_flour_8 o ktape know kread kkept ksnaps kaside kname kreadName kkeptName kisKept konces kpoured kfar ksides klines kmet ksunk ktrying ktext kline kwritten knode knowF ksnapsF x y n y17 y19 r21 r26 hN hnok e18 e20 p22 c23 p27 c28)).elim
set_option maxRecDepth 20000 in
theorem lf_m_milk_1 (o : Nat) (ktape : Nat) (know : Nat) (kread : Nat) (kkept : Nat) (ksnaps : Nat) (kaside : Nat) (kname : Nat) (kreadName : Nat) (kkeptName : Nat) (kisKept : Nat) (konces : Nat) (kpoured : Nat) (kfar : Nat) (ksides : Nat) (klines : Nat) (kmet : Nat) (ksunk : Nat) (ktrying : Nat) (ktext : Nat) (kline : Nat) (kwritten : Nat) (knode : Nat) (knowF : Nat → Int32) (x : Int32) (y : Int32) (n : Int32) (hN : NowOk knowF) (hok : 0 ≤ x.toInt ∧ x.toInt < 4 ∧ 0 ≤ y.toInt ∧ y.toInt < 4 ∧ 1 ≤ n.toInt ∧ n.toInt ≤ 9) : 0 ≤ x.toInt ∧ x.toInt < ((4 : Nat) : Int) := by
  try simp only [ia_lt, ia_le, ia_eq, ia_m1, ia_0, ia_1, ne_eq, true_and, and_true, false_and, and_false, or_false, false_or, or_true, true_or, not_true_eq_false, not_false_eq_true] at *
  all_goals omega
set_option maxRecDepth 20000 in
theorem lf_m_milk_2 (o : Nat) (ktape : Nat) (know : Nat) (kread : Nat) (kkept : Nat) (ksnaps : Nat) (kaside : Nat) (kname : Nat) (kreadName : Nat) (kkeptName : Nat) (kisKept : Nat) (konces : Nat) (kpoured : Nat) (kfar : Nat) (ksides : Nat) (klines : Nat) (kmet : Nat) (ksunk : Nat) (ktrying : Nat) (ktext : Nat) (kline : Nat) (kwritten : Nat) (knode : Nat) (knowF : Nat → Int32) (y : Int32) (n : Int32) (xn : Nat) (hN : NowOk knowF) (hok : 0 ≤ (nI xn).toInt ∧ (nI xn).toInt < 4 ∧ 0 ≤ y.toInt ∧ y.toInt < 4 ∧ 1 ≤ n.toInt ∧ n.toInt ≤ 9) (h1 : xn < 4) : 0 ≤ y.toInt ∧ y.toInt < ((4 : Nat) : Int) := by
  have k_0 := ia_n xn (by omega)
  try simp only [ia_lt, ia_le, ia_eq, ia_m1, ia_0, ia_1, ne_eq, true_and, and_true, false_and, and_false, or_false, false_or, or_true, true_or, not_true_eq_false, not_false_eq_true] at *
  all_goals omega
set_option maxRecDepth 20000 in
theorem lf_m_milk_3 (o : Nat) (ktape : Nat) (know : Nat) (kread : Nat) (kkept : Nat) (ksnaps : Nat) (kaside : Nat) (kname : Nat) (kreadName : Nat) (kkeptName : Nat) (kisKept : Nat) (konces : Nat) (kpoured : Nat) (kfar : Nat) (ksides : Nat) (klines : Nat) (kmet : Nat) (ksunk : Nat) (ktrying : Nat) (ktext : Nat) (kline : Nat) (kwritten : Nat) (knode : Nat) (knowF : Nat → Int32) (n : Int32) (xn : Nat) (yn : Nat) (r3 : Int32) (hN : NowOk knowF) (hok : 0 ≤ (nI xn).toInt ∧ (nI xn).toInt < 4 ∧ 0 ≤ (nI yn).toInt ∧ (nI yn).toInt < 4 ∧ 1 ≤ n.toInt ∧ n.toInt ≤ 9) (h1 : xn < 4) (h2 : yn < 4) (p4 : (r3 = nI 1 ∧ (0 ≤ (nI xn).toInt ∧ (nI xn).toInt < 4 ∧ 0 ≤ (nI yn).toInt ∧ (nI yn).toInt < 4)) ∨ (r3 = nI 0 ∧ ¬ (0 ≤ (nI xn).toInt ∧ (nI xn).toInt < 4 ∧ 0 ≤ (nI yn).toInt ∧ (nI yn).toInt < 4))) (c5 : r3 = 0) : ((-1 : Int32) = (-1 : Int32) ∧ ¬ (0 ≤ (nI xn).toInt ∧ (nI xn).toInt < 4 ∧ 0 ≤ (nI yn).toInt ∧ (nI yn).toInt < 4 ∧ 1 ≤ n.toInt ∧ n.toInt ≤ 9)) ∨ ((-1 : Int32) = nI 1 ∧ (0 ≤ (nI xn).toInt ∧ (nI xn).toInt < 4 ∧ 0 ≤ (nI yn).toInt ∧ (nI yn).toInt < 4 ∧ 1 ≤ n.toInt ∧ n.toInt ≤ 9)) := by
  have k_0 := ia_n xn (by omega)
  have k_1 := ia_n yn (by omega)
  have k_2 := ia_n 1 (by decide)
  have k_3 := ia_n 0 (by decide)
  try simp only [ia_lt, ia_le, ia_eq, ia_m1, ia_0, ia_1, ne_eq, true_and, and_true, false_and, and_false, or_false, false_or, or_true, true_or, not_true_eq_false, not_false_eq_true] at *
  all_goals omega
set_option maxRecDepth 20000 in
theorem lf_m_milk_4 (o : Nat) (ktape : Nat) (know : Nat) (kread : Nat) (kkept : Nat) (ksnaps : Nat) (kaside : Nat) (kname : Nat) (kreadName : Nat) (kkeptName : Nat) (kisKept : Nat) (konces : Nat) (kpoured : Nat) (kfar : Nat) (ksides : Nat) (klines : Nat) (kmet : Nat) (ksunk : Nat) (ktrying : Nat) (ktext : Nat) (kline : Nat) (kwritten : Nat) (knode : Nat) (knowF : Nat → Int32) (n : Int32) (xn : Nat) (yn : Nat) (r3 : Int32) (r8 : Int32) (hN : NowOk knowF) (hok : 0 ≤ (nI xn).toInt ∧ (nI xn).toInt < 4 ∧ 0 ≤ (nI yn).toInt ∧ (nI yn).toInt < 4 ∧ 1 ≤ n.toInt ∧ n.toInt ≤ 9) (h1 : xn < 4) (h2 : yn < 4) (p4 : (r3 = nI 1 ∧ (0 ≤ (nI xn).toInt ∧ (nI xn).toInt < 4 ∧ 0 ≤ (nI yn).toInt ∧ (nI yn).toInt < 4)) ∨ (r3 = nI 0 ∧ ¬ (0 ≤ (nI xn).toInt ∧ (nI xn).toInt < 4 ∧ 0 ≤ (nI yn).toInt ∧ (nI yn).toInt < 4))) (c5 : ¬ r3 = 0) (p9 : (r8 = nI 1 ∧ (nI 1).toInt ≤ n.toInt ∧ n.toInt ≤ (nI 9).toInt) ∨ (r8 = nI 0 ∧ ¬ ((nI 1).toInt ≤ n.toInt ∧ n.toInt ≤ (nI 9).toInt))) (c10 : r8 = 0) : ((-1 : Int32) = (-1 : Int32) ∧ ¬ (0 ≤ (nI xn).toInt ∧ (nI xn).toInt < 4 ∧ 0 ≤ (nI yn).toInt ∧ (nI yn).toInt < 4 ∧ 1 ≤ n.toInt ∧ n.toInt ≤ 9)) ∨ ((-1 : Int32) = nI 1 ∧ (0 ≤ (nI xn).toInt ∧ (nI xn).toInt < 4 ∧ 0 ≤ (nI yn).toInt ∧ (nI yn).toInt < 4 ∧ 1 ≤ n.toInt ∧ n.toInt ≤ 9)) := by
  have k_0 := ia_n xn (by omega)
  have k_1 := ia_n yn (by omega)
  have k_2 := ia_n 1 (by decide)
  have k_3 := ia_n 0 (by decide)
  have k_4 := ia_n 9 (by decide)
  try simp only [ia_lt, ia_le, ia_eq, ia_m1, ia_0, ia_1, ne_eq, true_and, and_true, false_and, and_false, or_false, false_or, or_true, true_or, not_true_eq_false, not_false_eq_true] at *
  all_goals omega
set_option maxRecDepth 20000 in
theorem lf_m_milk_5 (o : Nat) (ktape : Nat) (know : Nat) (kread : Nat) (kkept : Nat) (ksnaps : Nat) (kaside : Nat) (kname : Nat) (kreadName : Nat) (kkeptName : Nat) (kisKept : Nat) (konces : Nat) (kpoured : Nat) (kfar : Nat) (ksides : Nat) (klines : Nat) (kmet : Nat) (ksunk : Nat) (ktrying : Nat) (ktext : Nat) (kline : Nat) (kwritten : Nat) (knode : Nat) (knowF : Nat → Int32) (n : Int32) (xn : Nat) (yn : Nat) (r3 : Int32) (r8 : Int32) (hN : NowOk knowF) (hok : 0 ≤ (nI xn).toInt ∧ (nI xn).toInt < 4 ∧ 0 ≤ (nI yn).toInt ∧ (nI yn).toInt < 4 ∧ 1 ≤ n.toInt ∧ n.toInt ≤ 9) (h1 : xn < 4) (h2 : yn < 4) (p4 : (r3 = nI 1 ∧ (0 ≤ (nI xn).toInt ∧ (nI xn).toInt < 4 ∧ 0 ≤ (nI yn).toInt ∧ (nI yn).toInt < 4)) ∨ (r3 = nI 0 ∧ ¬ (0 ≤ (nI xn).toInt ∧ (nI xn).toInt < 4 ∧ 0 ≤ (nI yn).toInt ∧ (nI yn).toInt < 4))) (c5 : ¬ r3 = 0) (p9 : (r8 = nI 1 ∧ (nI 1).toInt ≤ n.toInt ∧ n.toInt ≤ (nI 9).toInt) ∨ (r8 = nI 0 ∧ ¬ ((nI 1).toInt ≤ n.toInt ∧ n.toInt ≤ (nI 9).toInt))) (c10 : ¬ r8 = 0) : ((nI 1) = (-1 : Int32) ∧ ¬ (0 ≤ (nI xn).toInt ∧ (nI xn).toInt < 4 ∧ 0 ≤ (nI yn).toInt ∧ (nI yn).toInt < 4 ∧ 1 ≤ n.toInt ∧ n.toInt ≤ 9)) ∨ ((nI 1) = nI 1 ∧ (0 ≤ (nI xn).toInt ∧ (nI xn).toInt < 4 ∧ 0 ≤ (nI yn).toInt ∧ (nI yn).toInt < 4 ∧ 1 ≤ n.toInt ∧ n.toInt ≤ 9)) := by
  have k_0 := ia_n xn (by omega)
  have k_1 := ia_n yn (by omega)
  have k_2 := ia_n 1 (by decide)
  have k_3 := ia_n 0 (by decide)
  have k_4 := ia_n 9 (by decide)
  try simp only [ia_lt, ia_le, ia_eq, ia_m1, ia_0, ia_1, ne_eq, true_and, and_true, false_and, and_false, or_false, false_or, or_true, true_or, not_true_eq_false, not_false_eq_true] at *
  all_goals omega
set_option maxRecDepth 20000 in
theorem lf_m_milk_6 (o : Nat) (ktape : Nat) (know : Nat) (kread : Nat) (kkept : Nat) (ksnaps : Nat) (kaside : Nat) (kname : Nat) (kreadName : Nat) (kkeptName : Nat) (kisKept : Nat) (konces : Nat) (kpoured : Nat) (kfar : Nat) (ksides : Nat) (klines : Nat) (kmet : Nat) (ksunk : Nat) (ktrying : Nat) (ktext : Nat) (kline : Nat) (kwritten : Nat) (knode : Nat) (knowF : Nat → Int32) (x : Int32) (y : Int32) (n : Int32) (y15 : Int32) (y17 : Int32) (r19 : Int32) (hN : NowOk knowF) (hnok : ¬ (0 ≤ x.toInt ∧ x.toInt < 4 ∧ 0 ≤ y.toInt ∧ y.toInt < 4 ∧ 1 ≤ n.toInt ∧ n.toInt ≤ 9)) (e16 : y15 = (nI 6) * y) (e18 : y17 = y15 + x) (p20 : (r19 = nI 1 ∧ (0 ≤ x.toInt ∧ x.toInt < 4 ∧ 0 ≤ y.toInt ∧ y.toInt < 4)) ∨ (r19 = nI 0 ∧ ¬ (0 ≤ x.toInt ∧ x.toInt < 4 ∧ 0 ≤ y.toInt ∧ y.toInt < 4))) (c21 : r19 = 0) : ((-1 : Int32) = (-1 : Int32) ∧ ¬ (0 ≤ x.toInt ∧ x.toInt < 4 ∧ 0 ≤ y.toInt ∧ y.toInt < 4 ∧ 1 ≤ n.toInt ∧ n.toInt ≤ 9)) ∨ ((-1 : Int32) = nI 1 ∧ (0 ≤ x.toInt ∧ x.toInt < 4 ∧ 0 ≤ y.toInt ∧ y.toInt < 4 ∧ 1 ≤ n.toInt ∧ n.toInt ≤ 9)) := by
  have k_0 := ia_n 6 (by decide)
  have k_1 := ia_n 1 (by decide)
  have k_2 := ia_n 0 (by decide)
  try simp only [ia_lt, ia_le, ia_eq, ia_m1, ia_0, ia_1, ne_eq, true_and, and_true, false_and, and_false, or_false, false_or, or_true, true_or, not_true_eq_false, not_false_eq_true] at *
  all_goals omega
set_option maxRecDepth 20000 in
theorem lf_m_milk_7 (o : Nat) (ktape : Nat) (know : Nat) (kread : Nat) (kkept : Nat) (ksnaps : Nat) (kaside : Nat) (kname : Nat) (kreadName : Nat) (kkeptName : Nat) (kisKept : Nat) (konces : Nat) (kpoured : Nat) (kfar : Nat) (ksides : Nat) (klines : Nat) (kmet : Nat) (ksunk : Nat) (ktrying : Nat) (ktext : Nat) (kline : Nat) (kwritten : Nat) (knode : Nat) (knowF : Nat → Int32) (x : Int32) (y : Int32) (n : Int32) (y15 : Int32) (y17 : Int32) (r19 : Int32) (r24 : Int32) (hN : NowOk knowF) (hnok : ¬ (0 ≤ x.toInt ∧ x.toInt < 4 ∧ 0 ≤ y.toInt ∧ y.toInt < 4 ∧ 1 ≤ n.toInt ∧ n.toInt ≤ 9)) (e16 : y15 = (nI 6) * y) (e18 : y17 = y15 + x) (p20 : (r19 = nI 1 ∧ (0 ≤ x.toInt ∧ x.toInt < 4 ∧ 0 ≤ y.toInt ∧ y.toInt < 4)) ∨ (r19 = nI 0 ∧ ¬ (0 ≤ x.toInt ∧ x.toInt < 4 ∧ 0 ≤ y.toInt ∧ y.toInt < 4))) (c21 : ¬ r19 = 0) (p25 : (r24 = nI 1 ∧ (nI 1).toInt ≤ n.toInt ∧ n.toInt ≤ (nI 9).toInt) ∨ (r24 = nI 0 ∧ ¬ ((nI 1).toInt ≤ n.toInt ∧ n.toInt ≤ (nI 9).toInt))) (c26 : r24 = 0) : ((-1 : Int32) = (-1 : Int32) ∧ ¬ (0 ≤ x.toInt ∧ x.toInt < 4 ∧ 0 ≤ y.toInt ∧ y.toInt < 4 ∧ 1 ≤ n.toInt ∧ n.toInt ≤ 9)) ∨ ((-1 : Int32) = nI 1 ∧ (0 ≤ x.toInt ∧ x.toInt < 4 ∧ 0 ≤ y.toInt ∧ y.toInt < 4 ∧ 1 ≤ n.toInt ∧ n.toInt ≤ 9)) := by
  have k_0 := ia_n 6 (by decide)
  have k_1 := ia_n 1 (by decide)
  have k_2 := ia_n 0 (by decide)
  have k_3 := ia_n 9 (by decide)
  try simp only [ia_lt, ia_le, ia_eq, ia_m1, ia_0, ia_1, ne_eq, true_and, and_true, false_and, and_false, or_false, false_or, or_true, true_or, not_true_eq_false, not_false_eq_true] at *
  all_goals omega
set_option maxRecDepth 20000 in
theorem lf_m_milk_8 (o : Nat) (ktape : Nat) (know : Nat) (kread : Nat) (kkept : Nat) (ksnaps : Nat) (kaside : Nat) (kname : Nat) (kreadName : Nat) (kkeptName : Nat) (kisKept : Nat) (konces : Nat) (kpoured : Nat) (kfar : Nat) (ksides : Nat) (klines : Nat) (kmet : Nat) (ksunk : Nat) (ktrying : Nat) (ktext : Nat) (kline : Nat) (kwritten : Nat) (knode : Nat) (knowF : Nat → Int32) (x : Int32) (y : Int32) (n : Int32) (y15 : Int32) (y17 : Int32) (r19 : Int32) (r24 : Int32) (hN : NowOk knowF) (hnok : ¬ (0 ≤ x.toInt ∧ x.toInt < 4 ∧ 0 ≤ y.toInt ∧ y.toInt < 4 ∧ 1 ≤ n.toInt ∧ n.toInt ≤ 9)) (e16 : y15 = (nI 6) * y) (e18 : y17 = y15 + x) (p20 : (r19 = nI 1 ∧ (0 ≤ x.toInt ∧ x.toInt < 4 ∧ 0 ≤ y.toInt ∧ y.toInt < 4)) ∨ (r19 = nI 0 ∧ ¬ (0 ≤ x.toInt ∧ x.toInt < 4 ∧ 0 ≤ y.toInt ∧ y.toInt < 4))) (c21 : ¬ r19 = 0) (p25 : (r24 = nI 1 ∧ (nI 1).toInt ≤ n.toInt ∧ n.toInt ≤ (nI 9).toInt) ∨ (r24 = nI 0 ∧ ¬ ((nI 1).toInt ≤ n.toInt ∧ n.toInt ≤ (nI 9).toInt))) (c26 : ¬ r24 = 0) : False := by
  have k_0 := ia_n 6 (by decide)
  have k_1 := ia_n 1 (by decide)
  have k_2 := ia_n 0 (by decide)
  have k_3 := ia_n 9 (by decide)
  try simp only [ia_lt, ia_le, ia_eq, ia_m1, ia_0, ia_1, ne_eq, true_and, and_true, false_and, and_false, or_false, false_or, or_true, true_or, not_true_eq_false, not_false_eq_true] at *
  all_goals omega
set_option maxHeartbeats 4000000 in
set_option maxRecDepth 100000 in
theorem c_m_milk (l : Launch) (dC : Nat → ClassId) (dI : Nat → Nat → Nat) (ky : Nat → ClassId) (sz : Nat) (o : Nat) (ktape : Nat) (know : Nat) (kread : Nat) (kkept : Nat) (ksnaps : Nat) (kaside : Nat) (kname : Nat) (kreadName : Nat) (kkeptName : Nat) (kisKept : Nat) (konces : Nat) (kpoured : Nat) (kfar : Nat) (ksides : Nat) (klines : Nat) (kmet : Nat) (ksunk : Nat) (ktrying : Nat) (ktext : Nat) (kline : Nat) (kwritten : Nat) (knode : Nat) (knowF : Nat → Int32) (x : Int32) (y : Int32) (n : Int32) (hN : NowOk knowF) : Met l yX12_milk wsX12_milk ({ frames := 2, cells := 0, slots := 0, locals := 48 }) (PcU dC dI ky [.ref o, .int x, .int y, .int n] [(o, .inr (12, [.int (nI 0), .ref ktape, .int (nI 0), .int (nI 0), .int (nI 0), .int (nI 0), .int (nI 0), .int (nI 0), .int (nI 0), .int (nI 0), .int (nI 0), .int (nI 0), .long 0, .int (nI 0), .ref know, .ref kread, .ref kkept, .ref ksnaps, .ref kaside, .ref kname, .ref kreadName, .ref kkeptName, .ref kisKept, .ref konces, .int (nI 0), .int (nI 0), .ref kpoured, .ref kfar, .ref ksides, .int (nI 0), .int (-1 : Int32), .int (nI 0), .ref klines, .ref kmet, .int (nI 0), .ref ksunk, .ref ktrying, .int (nI 0), .int (-1 : Int32), .int (-1 : Int32), .ref ktext, .int (nI 0), .int (nI 0), .ref kline, .ref kwritten, .int (nI 0), .int (nI 0), .ref knode, .int (nI 0), .int (nI 0), .int (nI 0), .int (nI 0)])), (know, .inl (ky 0, 373, .inl knowF))] sz) (va_Qi (fun (r : Int32) (_ : Unit) => (r = (-1 : Int32) ∧ ¬ (0 ≤ x.toInt ∧ x.toInt < 4 ∧ 0 ≤ y.toInt ∧ y.toInt < 4 ∧ 1 ≤ n.toInt ∧ n.toInt ≤ 9)) ∨ (r = nI 1 ∧ (0 ≤ x.toInt ∧ x.toInt < 4 ∧ 0 ≤ y.toInt ∧ y.toInt < 4 ∧ 1 ≤ n.toInt ∧ n.toInt ≤ 9))) (BU dC dI ky (fun (_ : Unit) => []) (va_A [(o, .inr (12, [.int (nI 0), .ref ktape, .int (nI 0), .int (nI 0), .int (nI 0), .int (nI 0), .int (nI 0), .int (nI 0), .int (nI 0), .int (nI 0), .int (nI 0), .int (nI 0), .long 0, .int (nI 0), .ref know, .ref kread, .ref kkept, .ref ksnaps, .ref kaside, .ref kname, .ref kreadName, .ref kkeptName, .ref kisKept, .ref konces, .int (nI 0), .int (nI 0), .ref kpoured, .ref kfar, .ref ksides, .int (nI 0), .int (-1 : Int32), .int (nI 0), .ref klines, .ref kmet, .int (nI 0), .ref ksunk, .ref ktrying, .int (nI 0), .int (-1 : Int32), .int (-1 : Int32), .ref ktext, .int (nI 0), .int (nI 0), .ref kline, .ref kwritten, .int (nI 0), .int (nI 0), .ref knode, .int (nI 0), .int (nI 0), .int (nI 0), .int (nI 0)])), (know, .inl (ky 0, 373, .inl knowF))] sz)) (va_A [(o, .inr (12, [.int (nI 0), .ref ktape, .int (nI 0), .int (nI 0), .int (nI 0), .int (nI 0), .int (nI 0), .int (nI 0), .int (nI 0), .int (nI 0), .int (nI 0), .int (nI 0), .long 0, .int (nI 0), .ref know, .ref kread, .ref kkept, .ref ksnaps, .ref kaside, .ref kname, .ref kreadName, .ref kkeptName, .ref kisKept, .ref konces, .int (nI 0), .int (nI 0), .ref kpoured, .ref kfar, .ref ksides, .int (nI 0), .int (-1 : Int32), .int (nI 0), .ref klines, .ref kmet, .int (nI 0), .ref ksunk, .ref ktrying, .int (nI 0), .int (-1 : Int32), .int (-1 : Int32), .ref ktext, .int (nI 0), .int (nI 0), .ref kline, .ref kwritten, .int (nI 0), .int (nI 0), .ref knode, .int (nI 0), .int (nI 0), .int (nI 0), .int (nI 0)])), (know, .inl (ky 0, 373, .inl knowF))] sz)) 0 0 (va_A [(o, .inr (12, [.int (nI 0), .ref ktape, .int (nI 0), .int (nI 0), .int (nI 0), .int (nI 0), .int (nI 0), .int (nI 0), .int (nI 0), .int (nI 0), .int (nI 0), .int (nI 0), .long 0, .int (nI 0), .ref know, .ref kread, .ref kkept, .ref ksnaps, .ref kaside, .ref kname, .ref kreadName, .ref kkeptName, .ref kisKept, .ref konces, .int (nI 0), .int (nI 0), .ref kpoured, .ref kfar, .ref ksides, .int (nI 0), .int (-1 : Int32), .int (nI 0), .ref klines, .ref kmet, .int (nI 0), .ref ksunk, .ref ktrying, .int (nI 0), .int (-1 : Int32), .int (-1 : Int32), .ref ktext, .int (nI 0), .int (nI 0), .ref kline, .ref kwritten, .int (nI 0), .int (nI 0), .ref knode, .int (nI 0), .int (nI 0), .int (nI 0), .int (nI 0)])), (know, .inl (ky 0, 373, .inl knowF))] sz) := by
  refine Met.ofW (cc := cX12_milk) (maxL := 4) (ret := (some .int)) (by decide) rfl ?_
  intro p e s m args below meth c s₁ B hml hv
  obtain ⟨rfl, hsz, hP, hK, hD0⟩ := hv
  have hx := B.exec
  have hb := B.bytes
  have hr := B.returns
  have hts := atoms_spec (ws := wsX12_milk) B.pre
  have hown : s.vm.findClass RX12 = some m.cls := findClass_of_methodNamed B.named
  have hlocks := B.notSynchronized
  have hin12 : ∀ w ∈ u_ws RX12 TX12 52, w ∈ wsX12_milk := by decide +kernel
  subst hsz
  have hD := hD0.self (sz := s.heap.size)
  generalize hAe : va_A [(o, .inr (12, [.int (nI 0), .ref ktape, .int (nI 0), .int (nI 0), .int (nI 0), .int (nI 0), .int (nI 0), .int (nI 0), .int (nI 0), .int (nI 0), .int (nI 0), .int (nI 0), .long 0, .int (nI 0), .ref know, .ref kread, .ref kkept, .ref ksnaps, .ref kaside, .ref kname, .ref kreadName, .ref kkeptName, .ref kisKept, .ref konces, .int (nI 0), .int (nI 0), .ref kpoured, .ref kfar, .ref ksides, .int (nI 0), .int (-1 : Int32), .int (nI 0), .ref klines, .ref kmet, .int (nI 0), .ref ksunk, .ref ktrying, .int (nI 0), .int (-1 : Int32), .int (-1 : Int32), .ref ktext, .int (nI 0), .int (nI 0), .ref kline, .ref kwritten, .int (nI 0), .int (nI 0), .ref knode, .int (nI 0), .int (nI 0), .int (nI 0), .int (nI 0)])), (know, .inl (ky 0, 373, .inl knowF))] s.heap.size = A at hD ⊢
  have hA : ∀ q : Nat, s.heap.size ≤ q → A q := fun q h => by rw [← hAe]; exact Or.inr h
  have hS : va_S A s.heap s.heap [] := va_S.rf
  have hP : va_P (dC, dI) vwCl [(o, .inr (12, [.int (nI 0), .ref ktape, .int (nI 0), .int (nI 0), .int (nI 0), .int (nI 0), .int (nI 0), .int (nI 0), .int (nI 0), .int (nI 0), .int (nI 0), .int (nI 0), .long 0, .int (nI 0), .ref know, .ref kread, .ref kkept, .ref ksnaps, .ref kaside, .ref kname, .ref kreadName, .ref kkeptName, .ref kisKept, .ref konces, .int (nI 0), .int (nI 0), .ref kpoured, .ref kfar, .ref ksides, .int (nI 0), .int (-1 : Int32), .int (nI 0), .ref klines, .ref kmet, .int (nI 0), .ref ksunk, .ref ktrying, .int (nI 0), .int (-1 : Int32), .int (-1 : Int32), .ref ktext, .int (nI 0), .int (nI 0), .ref kline, .ref kwritten, .int (nI 0), .int (nI 0), .ref knode, .int (nI 0), .int (nI 0), .int (nI 0), .int (nI 0)])), (know, .inl (ky 0, 373, .inl knowF))] s.heap := hP
  have hl := lv_entry ([.ref o, .int x, .int y, .int n]) (n := 4) (Nat.le_of_ble_eq_true rfl)
  rw [lg_entry_eq]
  generalize (lg_sl ([.ref o, .int x, .int y, .int n]) ++ List.replicate (4 - (lg_sl ([.ref o, .int x, .int y, .int n])).length) Slot.unset).toArray = ls at hl ⊢
  have hl : lv_has ls 4 [(0, .ref o), (1, .int x), (2, .int y), (3, .int n)] := hl
  have hH0 : True := trivial
  rcases Classical.em (0 ≤ x.toInt ∧ x.toInt < 4 ∧ 0 ≤ y.toInt ∧ y.toInt < 4 ∧ 1 ≤ n.toInt ∧ n.toInt ≤ 9) with hok | hnok
  · obtain ⟨xn, h1, rfl⟩ := nat_of x 4 (by decide) (lf_m_milk_1 o ktape know kread kkept ksnaps kaside kname kreadName kkeptName kisKept konces kpoured kfar ksides klines kmet ksunk ktrying ktext kline kwritten knode knowF x y n hN hok)
    obtain ⟨yn, h2, rfl⟩ := nat_of y 4 (by decide) (lf_m_milk_2 o ktape know kread kkept ksnaps kaside kname kreadName kkeptName kisKept konces kpoured kfar ksides klines kmet ksunk ktrying ktext kline kwritten knode knowF y n xn hN hok h1)
    refine lv_aload_n hx hb dX12_milk_0 rfl (lv_at hl 0 rfl) ?_
    refine lv_iconst (v := nI 0) hx hb dX12_milk_1 (by decide) ?_
    refine va_put (D := (dC, dI)) (ci := 12) (v := .int (nI 0)) (ty := .int) (C := RX12) (T := TX12) (N := 52) hx hb hts hin12 tyX12 tyX12_ok nmX12 hown hK hP hD hS 0 rfl rfl 0 (by decide) (hts (.fieldLink RX12 1 "PorridgeSeaModel" "thrown" "I") (List.mem_of_getElem? (i := 1) rfl)) (fun _ h9 => h9) rfl (by decide +kernel) rfl rfl (Nat.le_of_ble_eq_true rfl) dX12_milk_2 (fun H locs hP hD hS => ?_)
    have hP : va_P (dC, dI) vwCl [(o, .inr (12, [.int (nI 0), .ref ktape, .int (nI 0), .int (nI 0), .int (nI 0), .int (nI 0), .int (nI 0), .int (nI 0), .int (nI 0), .int (nI 0), .int (nI 0), .int (nI 0), .long 0, .int (nI 0), .ref know, .ref kread, .ref kkept, .ref ksnaps, .ref kaside, .ref kname, .ref kreadName, .ref kkeptName, .ref kisKept, .ref konces, .int (nI 0), .int (nI 0), .ref kpoured, .ref kfar, .ref ksides, .int (nI 0), .int (-1 : Int32), .int (nI 0), .ref klines, .ref kmet, .int (nI 0), .ref ksunk, .ref ktrying, .int (nI 0), .int (-1 : Int32), .int (-1 : Int32), .ref ktext, .int (nI 0), .int (nI 0), .ref kline, .ref kwritten, .int (nI 0), .int (nI 0), .ref knode, .int (nI 0), .int (nI 0), .int (nI 0), .int (nI 0)])), (know, .inl (ky 0, 373, .inl knowF))] H := hP
    have hD : va_D A [(o, .inr (12, [.int (nI 0), .ref ktape, .int (nI 0), .int (nI 0), .int (nI 0), .int (nI 0), .int (nI 0), .int (nI 0), .int (nI 0), .int (nI 0), .int (nI 0), .int (nI 0), .long 0, .int (nI 0), .ref know, .ref kread, .ref kkept, .ref ksnaps, .ref kaside, .ref kname, .ref kreadName, .ref kkeptName, .ref kisKept, .ref konces, .int (nI 0), .int (nI 0), .ref kpoured, .ref kfar, .ref ksides, .int (nI 0), .int (-1 : Int32), .int (nI 0), .ref klines, .ref kmet, .int (nI 0), .ref ksunk, .ref ktrying, .int (nI 0), .int (-1 : Int32), .int (-1 : Int32), .ref ktext, .int (nI 0), .int (nI 0), .ref kline, .ref kwritten, .int (nI 0), .int (nI 0), .ref knode, .int (nI 0), .int (nI 0), .int (nI 0), .int (nI 0)])), (know, .inl (ky 0, 373, .inl knowF))] := hD
    refine lv_aload_n hx hb dX12_milk_5 rfl (lv_at hl 0 rfl) ?_
    refine lv_iconst (v := nI 3) hx hb dX12_milk_6 (by decide) ?_
    refine lv_bipush (v := nI 6) hx hb dX12_milk_7 (by decide) ?_
    refine lv_iload_n hx hb dX12_milk_9 rfl (lv_at hl 2 rfl) ?_
    refine lv_imul hx hb dX12_milk_10 ?_
    refine r_ti (nI (6 * yn)) (pk_mul _ _) ?_
    refine lv_iload_n hx hb dX12_milk_11 rfl (lv_at hl 1 rfl) ?_
    refine lv_iadd hx hb dX12_milk_12 ?_
    refine r_ti (nI ((6 * yn) + xn)) (nI_add _ _) ?_
    refine lv_iload_n hx hb dX12_milk_13 rfl (lv_at hl 3 rfl) ?_
    refine lv_aload_n hx hb dX12_milk_14 rfl (lv_at hl 0 rfl) ?_
    refine lv_iload_n hx hb dX12_milk_15 rfl (lv_at hl 1 rfl) ?_
    refine lv_iload_n hx hb dX12_milk_16 rfl (lv_at hl 2 rfl) ?_
    refine vp_callSi (W.runV (As := [.int (nI xn), .int (nI yn)]) (rest := [.int n, .int (nI ((6 * yn) + xn)), .int (nI 3), .ref o]) ⟨hx, hb, hml, hown, hts⟩ (c_m_isCell l dC dI ky o (nI 0) ktape (nI 0) (nI 0) (nI 0) (nI 0) (nI 0) (nI 0) (nI 0) (nI 0) (nI 0) (nI 0) 0 (nI 0) know kread kkept ksnaps kaside kname kreadName kkeptName kisKept konces (nI 0) (nI 0) kpoured kfar ksides (nI 0) (-1 : Int32) (nI 0) klines kmet (nI 0) ksunk ktrying (nI 0) (-1 : Int32) (-1 : Int32) ktext (nI 0) (nI 0) kline kwritten (nI 0) (nI 0) knode (nI 0) (nI 0) (nI 0) (nI 0) knowF (nI xn) (nI yn) (NowOk.b hN)) (cwV 2 hts gX12_milk_X12_isCell rfl rfl rfl (by decide +kernel) ⟨(Nat.le_of_ble_eq_true rfl), (Nat.le_of_ble_eq_true rfl)⟩) (pre_PV hK hP [0, 1] rfl (ci := 12) (q0 := 0) rfl rfl) rfl rfl hl.1 rfl (lv_room (Nat.le_of_ble_eq_true rfl)) dX12_milk_17 ⟨(Nat.le_of_ble_eq_true rfl), (Nat.le_of_ble_eq_true rfl)⟩) (fun r3 p4 => ?_)
    refine lv_if_eq (tgt := 37) hx hb dX12_milk_20 (by decide) (fun c5 => ?_) (fun c5 => ?_)
    · refine lv_iconst (v := nI 0) hx hb dX12_milk_37 (by decide) ?_
      refine vp_callSi (W.runV (As := [.int (nI 3), .int (nI ((6 * yn) + xn)), .int n, .int (nI 0)]) (rest := []) ⟨hx, hb, hml, hown, hts⟩ (c_m_actNo l dC dI ky o (nI 0) ktape (nI 0) (nI 0) (nI 0) (nI 0) (nI 0) (nI 0) (nI 0) (nI 0) (nI 0) (nI 0) 0 (nI 0) know kread kkept ksnaps kaside kname kreadName kkeptName kisKept konces (nI 0) (nI 0) kpoured kfar ksides (nI 0) (-1 : Int32) (nI 0) klines kmet (nI 0) ksunk ktrying (nI 0) (-1 : Int32) (-1 : Int32) ktext (nI 0) (nI 0) kline kwritten (nI 0) (nI 0) knode (nI 0) (nI 0) (nI 0) (nI 0) (nI 3) (nI ((6 * yn) + xn)) n) (cwV 4 hts gX12_milk_X12_act rfl rfl rfl (by decide +kernel) ⟨(Nat.le_of_ble_eq_true rfl), (Nat.le_of_ble_eq_true rfl)⟩) (pre_PV hK hP [0] rfl (ci := 12) (q0 := 0) rfl rfl) rfl rfl hl.1 rfl (lv_room (Nat.le_of_ble_eq_true rfl)) dX12_milk_38 ⟨(Nat.le_of_ble_eq_true rfl), (Nat.le_of_ble_eq_true rfl)⟩) (fun r6 p7 => ?_)
      subst p7
      have hP9 := hP.sub (ws' := []) [] rfl
      have hD9 := hD.sub (ws' := []) [] (by decide) rfl
      refine W.widen (k := 0) (n := 0) (Nat.le_of_ble_eq_true rfl) (Nat.le_of_ble_eq_true rfl) ?_
      exact W.iret (v := (-1 : Int32)) hx hb hr (fun t ht9 hW9 => ⟨⟨(-1 : Int32), (), rfl, (lf_m_milk_3 o ktape know kread kkept ksnaps kaside kname kreadName kkeptName kisKept konces kpoured kfar ksides klines kmet ksunk ktrying ktext kline kwritten knode knowF n xn yn r3 hN hok h1 h2 p4 c5), by rw [ht9]; exact hP9, va_K.moved hW9.alike hK, hD9⟩, hS.F ht9⟩) hS.2.2 dX12_milk_41
    · refine lv_iload_n hx hb dX12_milk_23 rfl (lv_at hl 3 rfl) ?_
      refine lv_iconst (v := nI 1) hx hb dX12_milk_24 (by decide) ?_
      refine lv_bipush (v := nI 9) hx hb dX12_milk_25 (by decide) ?_
      refine vp_callSi (W.runS (As := [.int n, .int (nI 1), .int (nI 9)]) (rest := [.int n, .int (nI ((6 * yn) + xn)), .int (nI 3), .ref o]) ⟨hx, hb, hml, hown, hts⟩ (c_isIn l dC dI ky n (nI 1) (nI 9)) (va_cwS 3 hts gX12_milk_X12_isIn rfl rfl rfl (by decide +kernel) ⟨(Nat.le_of_ble_eq_true rfl), (Nat.le_of_ble_eq_true rfl)⟩) (pre_PS hK hP [] rfl) rfl rfl hl.1 rfl (lv_room (Nat.le_of_ble_eq_true rfl)) dX12_milk_27 ⟨(Nat.le_of_ble_eq_true rfl), (Nat.le_of_ble_eq_true rfl)⟩) (fun r8 p9 => ?_)
      refine lv_if_eq (tgt := 37) hx hb dX12_milk_30 (by decide) (fun c10 => ?_) (fun c10 => ?_)
      · refine lv_iconst (v := nI 0) hx hb dX12_milk_37 (by decide) ?_
        refine vp_callSi (W.runV (As := [.int (nI 3), .int (nI ((6 * yn) + xn)), .int n, .int (nI 0)]) (rest := []) ⟨hx, hb, hml, hown, hts⟩ (c_m_actNo l dC dI ky o (nI 0) ktape (nI 0) (nI 0) (nI 0) (nI 0) (nI 0) (nI 0) (nI 0) (nI 0) (nI 0) (nI 0) 0 (nI 0) know kread kkept ksnaps kaside kname kreadName kkeptName kisKept konces (nI 0) (nI 0) kpoured kfar ksides (nI 0) (-1 : Int32) (nI 0) klines kmet (nI 0) ksunk ktrying (nI 0) (-1 : Int32) (-1 : Int32) ktext (nI 0) (nI 0) kline kwritten (nI 0) (nI 0) knode (nI 0) (nI 0) (nI 0) (nI 0) (nI 3) (nI ((6 * yn) + xn)) n) (cwV 4 hts gX12_milk_X12_act rfl rfl rfl (by decide +kernel) ⟨(Nat.le_of_ble_eq_true rfl), (Nat.le_of_ble_eq_true rfl)⟩) (pre_PV hK hP [0] rfl (ci := 12) (q0 := 0) rfl rfl) rfl rfl hl.1 rfl (lv_room (Nat.le_of_ble_eq_true rfl)) dX12_milk_38 ⟨(Nat.le_of_ble_eq_true rfl), (Nat.le_of_ble_eq_true rfl)⟩) (fun r11 p12 => ?_)
        subst p12
        have hP9 := hP.sub (ws' := []) [] rfl
        have hD9 := hD.sub (ws' := []) [] (by decide) rfl
        refine W.widen (k := 0) (n := 0) (Nat.le_of_ble_eq_true rfl) (Nat.le_of_ble_eq_true rfl) ?_
        exact W.iret (v := (-1 : Int32)) hx hb hr (fun t ht9 hW9 => ⟨⟨(-1 : Int32), (), rfl, (lf_m_milk_4 o ktape know kread kkept ksnaps kaside kname kreadName kkeptName kisKept konces kpoured kfar ksides klines kmet ksunk ktrying ktext kline kwritten knode knowF n xn yn r3 r8 hN hok h1 h2 p4 c5 p9 c10), by rw [ht9]; exact hP9, va_K.moved hW9.alike hK, hD9⟩, hS.F ht9⟩) hS.2.2 dX12_milk_41
      · refine lv_iconst (v := nI 1) hx hb dX12_milk_33 (by decide) ?_
        refine lv_goto (tgt := 38) hx hb dX12_milk_34 (by decide) ?_
        refine vp_callSi (W.runV (As := [.int (nI 3), .int (nI ((6 * yn) + xn)), .int n, .int (nI 1)]) (rest := []) ⟨hx, hb, hml, hown, hts⟩ (c_m_act3 l dC dI ky o (nI 0) ktape (nI 0) (nI 0) (nI 0) (nI 0) (nI 0) (nI 0) (nI 0) (nI 0) (nI 0) (nI 0) 0 (nI 0) know kread kkept ksnaps kaside kname kreadName kkeptName kisKept konces (nI 0) (nI 0) kpoured kfar ksides (nI 0) (-1 : Int32) (nI 0) klines kmet (nI 0) ksunk ktrying (nI 0) (-1 : Int32) (-1 : Int32) ktext (nI 0) (nI 0) kline kwritten (nI 0) (nI 0) knode (nI 0) (nI 0) (nI 0) (nI 0) knowF ((6 * yn) + xn) n hN (by omega)) (cwV 4 hts gX12_milk_X12_act rfl rfl rfl (by decide +kernel) ⟨(Nat.le_of_ble_eq_true rfl), (Nat.le_of_ble_eq_true rfl)⟩) (pre_PV hK hP [0, 1] rfl (ci := 12) (q0 := 0) rfl rfl) rfl rfl hl.1 rfl (lv_room (Nat.le_of_ble_eq_true rfl)) dX12_milk_38 ⟨(Nat.le_of_ble_eq_true rfl), (Nat.le_of_ble_eq_true rfl)⟩) (fun r13 p14 => ?_)
        subst p14
        have hP9 := hP.sub (ws' := []) [] rfl
        have hD9 := hD.sub (ws' := []) [] (by decide) rfl
        refine W.widen (k := 0) (n := 0) (Nat.le_of_ble_eq_true rfl) (Nat.le_of_ble_eq_true rfl) ?_
        exact W.iret (v := nI 1) hx hb hr (fun t ht9 hW9 => ⟨⟨nI 1, (), rfl, (lf_m_milk_5 o ktape know kread kkept ksnaps kaside kname kreadName kkeptName kisKept konces kpoured kfar ksides klines kmet ksunk ktrying ktext kline kwritten knode knowF n xn yn r3 r8 hN hok h1 h2 p4 c5 p9 c10), by rw [ht9]; exact hP9, va_K.moved hW9.alike hK, hD9⟩, hS.F ht9⟩) hS.2.2 dX12_milk_41
  · refine lv_aload_n hx hb dX12_milk_0 rfl (lv_at hl 0 rfl) ?_
    refine lv_iconst (v := nI 0) hx hb dX12_milk_1 (by decide) ?_
    refine va_put (D := (dC, dI)) (ci := 12) (v := .int (nI 0)) (ty := .int) (C := RX12) (T := TX12) (N := 52) hx hb hts hin12 tyX12 tyX12_ok nmX12 hown hK hP hD hS 0 rfl rfl 0 (by decide) (hts (.fieldLink RX12 1 "PorridgeSeaModel" "thrown" "I") (List.mem_of_getElem? (i := 1) rfl)) (fun _ h9 => h9) rfl (by decide +kernel) rfl rfl (Nat.le_of_ble_eq_true rfl) dX12_milk_2 (fun H locs hP hD hS => ?_)
    have hP : va_P (dC, dI) vwCl [(o, .inr (12, [.int (nI 0), .ref ktape, .int (nI 0), .int (nI 0), .int (nI 0), .int (nI 0), .int (nI 0), .int (nI 0), .int (nI 0), .int (nI 0), .int (nI 0), .int (nI 0), .long 0, .int (nI 0), .ref know, .ref kread, .ref kkept, .ref ksnaps, .ref kaside, .ref kname, .ref kreadName, .ref kkeptName, .ref kisKept, .ref konces, .int (nI 0), .int (nI 0), .ref kpoured, .ref kfar, .ref ksides, .int (nI 0), .int (-1 : Int32), .int (nI 0), .ref klines, .ref kmet, .int (nI 0), .ref ksunk, .ref ktrying, .int (nI 0), .int (-1 : Int32), .int (-1 : Int32), .ref ktext, .int (nI 0), .int (nI 0), .ref kline, .ref kwritten, .int (nI 0), .int (nI 0), .ref knode, .int (nI 0), .int (nI 0), .int (nI 0), .int (nI 0)])), (know, .inl (ky 0, 373, .inl knowF))] H := hP
    have hD : va_D A [(o, .inr (12, [.int (nI 0), .ref ktape, .int (nI 0), .int (nI 0), .int (nI 0), .int (nI 0), .int (nI 0), .int (nI 0), .int (nI 0), .int (nI 0), .int (nI 0), .int (nI 0), .long 0, .int (nI 0), .ref know, .ref kread, .ref kkept, .ref ksnaps, .ref kaside, .ref kname, .ref kreadName, .ref kkeptName, .ref kisKept, .ref konces, .int (nI 0), .int (nI 0), .ref kpoured, .ref kfar, .ref ksides, .int (nI 0), .int (-1 : Int32), .int (nI 0), .ref klines, .ref kmet, .int (nI 0), .ref ksunk, .ref ktrying, .int (nI 0), .int (-1 : Int32), .int (-1 : Int32), .ref ktext, .int (nI 0), .int (nI 0), .ref kline, .ref kwritten, .int (nI 0), .int (nI 0), .ref knode, .int (nI 0), .int (nI 0), .int (nI 0), .int (nI 0)])), (know, .inl (ky 0, 373, .inl knowF))] := hD
    refine lv_aload_n hx hb dX12_milk_5 rfl (lv_at hl 0 rfl) ?_
    refine lv_iconst (v := nI 3) hx hb dX12_milk_6 (by decide) ?_
    refine lv_bipush (v := nI 6) hx hb dX12_milk_7 (by decide) ?_
    refine lv_iload_n hx hb dX12_milk_9 rfl (lv_at hl 2 rfl) ?_
    refine lv_imul hx hb dX12_milk_10 ?_
    refine lv_topi (fun y15 e16 => ?_)
    refine lv_iload_n hx hb dX12_milk_11 rfl (lv_at hl 1 rfl) ?_
    refine lv_iadd hx hb dX12_milk_12 ?_
    refine lv_topi (fun y17 e18 => ?_)
    refine lv_iload_n hx hb dX12_milk_13 rfl (lv_at hl 3 rfl) ?_
    refine lv_aload_n hx hb dX12_milk_14 rfl (lv_at hl 0 rfl) ?_
    refine lv_iload_n hx hb dX12_milk_15 rfl (lv_at hl 1 rfl) ?_
    refine lv_iload_n hx hb dX12_milk_16 rfl (lv_at hl 2 rfl) ?_
    refine vp_callSi (W.runV (As := [.int x, .int y]) (rest := [.int n, .int y17, .int (nI 3), .ref o]) ⟨hx, hb, hml, hown, hts⟩ (c_m_isCell l dC dI ky o (nI 0) ktape (nI 0) (nI 0) (nI 0) (nI 0) (nI 0) (nI 0) (nI 0) (nI 0) (nI 0) (nI 0) 0 (nI 0) know kread kkept ksnaps kaside kname kreadName kkeptName kisKept konces (nI 0) (nI 0) kpoured kfar ksides (nI 0) (-1 : Int32) (nI 0) klines kmet (nI 0) ksunk ktrying (nI 0) (-1 : Int32) (-1 : Int32) ktext (nI 0) (nI 0) kline kwritten (nI 0) (nI 0) knode (nI 0) (nI 0) (nI 0) (nI 0) knowF x y (NowOk.b hN)) (cwV 2 hts gX12_milk_X12_isCell rfl rfl rfl (by decide +kernel) ⟨(Nat.le_of_ble_eq_true rfl), (Nat.le_of_ble_eq_true rfl)⟩) (pre_PV hK hP [0, 1] rfl (ci := 12) (q0 := 0) rfl rfl) rfl rfl hl.1 rfl (lv_room (Nat.le_of_ble_eq_true rfl)) dX12_milk_17 ⟨(Nat.le_of_ble_eq_true rfl), (Nat.le_of_ble_eq_true rfl)⟩) (fun r19 p20 => ?_)
    refine lv_if_eq (tgt := 37) hx hb dX12_milk_20 (by decide) (fun c21 => ?_) (fun c21 => ?_)
    · refine lv_iconst (v := nI 0) hx hb dX12_milk_37 (by decide) ?_
      refine vp_callSi (W.runV (As := [.int (nI 3), .int y17, .int n, .int (nI 0)]) (rest := []) ⟨hx, hb, hml, hown, hts⟩ (c_m_actNo l dC dI ky o (nI 0) ktape (nI 0) (nI 0) (nI 0) (nI 0) (nI 0) (nI 0) (nI 0) (nI 0) (nI 0) (nI 0) 0 (nI 0) know kread kkept ksnaps kaside kname kreadName kkeptName kisKept konces (nI 0) (nI 0) kpoured kfar ksides (nI 0) (-1 : Int32) (nI 0) klines kmet (nI 0) ksunk ktrying (nI 0) (-1 : Int32) (-1 : Int32) ktext (nI 0) (nI 0) kline kwritten (nI 0) (nI 0) knode (nI 0) (nI 0) (nI 0) (nI 0) (nI 3) y17 n) (cwV 4 hts gX12_milk_X12_act rfl rfl rfl (by decide +kernel) ⟨(Nat.le_of_ble_eq_true rfl), (Nat.le_of_ble_eq_true rfl)⟩) (pre_PV hK hP [0] rfl (ci := 12) (q0 := 0) rfl rfl) rfl rfl hl.1 rfl (lv_room (Nat.le_of_ble_eq_true rfl)) dX12_milk_38 ⟨(Nat.le_of_ble_eq_true rfl), (Nat.le_of_ble_eq_true rfl)⟩) (fun r22 p23 => ?_)
      subst p23
      have hP9 := hP.sub (ws' := []) [] rfl
      have hD9 := hD.sub (ws' := []) [] (by decide) rfl
      refine W.widen (k := 0) (n := 0) (Nat.le_of_ble_eq_true rfl) (Nat.le_of_ble_eq_true rfl) ?_
      exact W.iret (v := (-1 : Int32)) hx hb hr (fun t ht9 hW9 => ⟨⟨(-1 : Int32), (), rfl, (lf_m_milk_6 o ktape know kread kkept ksnaps kaside kname kreadName kkeptName kisKept konces kpoured kfar ksides klines kmet ksunk ktrying ktext kline kwritten knode knowF x y n y15 y17 r19 hN hnok e16 e18 p20 c21), by rw [ht9]; exact hP9, va_K.moved hW9.alike hK, hD9⟩, hS.F ht9⟩) hS.2.2 dX12_milk_41
    · refine lv_iload_n hx hb dX12_milk_23 rfl (lv_at hl 3 rfl) ?_
      refine lv_iconst (v := nI 1) hx hb dX12_milk_24 (by decide) ?_
      refine lv_bipush (v := nI 9) hx hb dX12_milk_25 (by decide) ?_
      refine vp_callSi (W.runS (As := [.int n, .int (nI 1), .int (nI 9)]) (rest := [.int n, .int y17, .int (nI 3), .ref o]) ⟨hx, hb, hml, hown, hts⟩ (c_isIn l dC dI ky n (nI 1) (nI 9)) (va_cwS 3 hts gX12_milk_X12_isIn rfl rfl rfl (by decide +kernel) ⟨(Nat.le_of_ble_eq_true rfl), (Nat.le_of_ble_eq_true rfl)⟩) (pre_PS hK hP [] rfl) rfl rfl hl.1 rfl (lv_room (Nat.le_of_ble_eq_true rfl)) dX12_milk_27 ⟨(Nat.le_of_ble_eq_true rfl), (Nat.le_of_ble_eq_true rfl)⟩) (fun r24 p25 => ?_)
      refine lv_if_eq (tgt := 37) hx hb dX12_milk_30 (by decide) (fun c26 => ?_) (fun c26 => ?_)
      · refine lv_iconst (v := nI 0) hx hb dX12_milk_37 (by decide) ?_
        refine vp_callSi (W.runV (As := [.int (nI 3), .int y17, .int n, .int (nI 0)]) (rest := []) ⟨hx, hb, hml, hown, hts⟩ (c_m_actNo l dC dI ky o (nI 0) ktape (nI 0) (nI 0) (nI 0) (nI 0) (nI 0) (nI 0) (nI 0) (nI 0) (nI 0) (nI 0) 0 (nI 0) know kread kkept ksnaps kaside kname kreadName kkeptName kisKept konces (nI 0) (nI 0) kpoured kfar ksides (nI 0) (-1 : Int32) (nI 0) klines kmet (nI 0) ksunk ktrying (nI 0) (-1 : Int32) (-1 : Int32) ktext (nI 0) (nI 0) kline kwritten (nI 0) (nI 0) knode (nI 0) (nI 0) (nI 0) (nI 0) (nI 3) y17 n) (cwV 4 hts gX12_milk_X12_act rfl rfl rfl (by decide +kernel) ⟨(Nat.le_of_ble_eq_true rfl), (Nat.le_of_ble_eq_true rfl)⟩) (pre_PV hK hP [0] rfl (ci := 12) (q0 := 0) rfl rfl) rfl rfl hl.1 rfl (lv_room (Nat.le_of_ble_eq_true rfl)) dX12_milk_38 ⟨(Nat.le_of_ble_eq_true rfl), (Nat.le_of_ble_eq_true rfl)⟩) (fun r27 p28 => ?_)
        subst p28
        have hP9 := hP.sub (ws' := []) [] rfl
        have hD9 := hD.sub (ws' := []) [] (by decide) rfl
        refine W.widen (k := 0) (n := 0) (Nat.le_of_ble_eq_true rfl) (Nat.le_of_ble_eq_true rfl) ?_
        exact W.iret (v := (-1 : Int32)) hx hb hr (fun t ht9 hW9 => ⟨⟨(-1 : Int32), (), rfl, (lf_m_milk_7 o ktape know kread kkept ksnaps kaside kname kreadName kkeptName kisKept konces kpoured kfar ksides klines kmet ksunk ktrying ktext kline kwritten knode knowF x y n y15 y17 r19 r24 hN hnok e16 e18 p20 c21 p25 c26), by rw [ht9]; exact hP9, va_K.moved hW9.alike hK, hD9⟩, hS.F ht9⟩) hS.2.2 dX12_milk_41
      · exact ((lf_m_milk_8 o ktape know kread kkept ksnaps kaside kname kreadName kkeptName kisKept konces kpoured kfar ksides klines kmet ksunk ktrying ktext kline kwritten knode knowF x y n y15 y17 r19 r24 hN hnok e16 e18 p20 c21 p25 c26)).elim
set_option maxRecDepth 20000 in
theorem lf_m_stove_1 (o : Nat) (ktape : Nat) (know : Nat) (kread : Nat) (kkept : Nat) (ksnaps : Nat) (kaside : Nat) (kname : Nat) (kreadName : Nat) (kkeptName : Nat) (kisKept : Nat) (konces : Nat) (kpoured : Nat) (kfar : Nat) (ksides : Nat) (klines : Nat) (kmet : Nat) (ksunk : Nat) (ktrying : Nat) (ktext : Nat) (kline : Nat) (kwritten : Nat) (knode : Nat) (knowF : Nat → Int32) (ksnapsF : Nat → Int32) (x : Int32) (r1 : Int32) (hN : NowOk knowF) (p2 : (r1 = nI 1 ∧ (nI 1).toInt ≤ x.toInt ∧ x.toInt ≤ (nI 20).toInt) ∨ (r1 = nI 0 ∧ ¬ ((nI 1).toInt ≤ x.toInt ∧ x.toInt ≤ (nI 20).toInt))) : r1 = nI 0 ∨ r1 = nI 1 := by
  have k_0 := ia_n 1 (by decide)
  have k_1 := ia_n 20 (by decide)
  have k_2 := ia_n 0 (by decide)
  try simp only [ia_lt, ia_le, ia_eq, ia_m1, ia_0, ia_1, ne_eq, true_and, and_true, false_and, and_false, or_false, false_or, or_true, true_or, not_true_eq_false, not_false_eq_true] at *
  all_goals omega
set_option maxRecDepth 20000 in
theorem lf_m_stove_2 (o : Nat) (ktape : Nat) (know : Nat) (kread : Nat) (kkept : Nat) (ksnaps : Nat) (kaside : Nat) (kname : Nat) (kreadName : Nat) (kkeptName : Nat) (kisKept : Nat) (konces : Nat) (kpoured : Nat) (kfar : Nat) (ksides : Nat) (klines : Nat) (kmet : Nat) (ksunk : Nat) (ktrying : Nat) (ktext : Nat) (kline : Nat) (kwritten : Nat) (knode : Nat) (knowF : Nat → Int32) (ksnapsF : Nat → Int32) (x : Int32) (hN : NowOk knowF) (p2 : ((nI 0) = nI 1 ∧ (nI 1).toInt ≤ x.toInt ∧ x.toInt ≤ (nI 20).toInt) ∨ ((nI 0) = nI 0 ∧ ¬ ((nI 1).toInt ≤ x.toInt ∧ x.toInt ≤ (nI 20).toInt))) : ((-1 : Int32) = (-1 : Int32) ∧ ¬ (1 ≤ x.toInt ∧ x.toInt ≤ 20)) ∨ ((-1 : Int32) = nI 0 ∧ 1 ≤ x.toInt ∧ x.toInt ≤ 20) := by
  have k_0 := ia_n 0 (by decide)
  have k_1 := ia_n 1 (by decide)
  have k_2 := ia_n 20 (by decide)
  try simp only [ia_lt, ia_le, ia_eq, ia_m1, ia_0, ia_1, ne_eq, true_and, and_true, false_and, and_false, or_false, false_or, or_true, true_or, not_true_eq_false, not_false_eq_true] at *
  all_goals omega
set_option maxRecDepth 20000 in
theorem lf_m_stove_3 (o : Nat) (ktape : Nat) (know : Nat) (kread : Nat) (kkept : Nat) (ksnaps : Nat) (kaside : Nat) (kname : Nat) (kreadName : Nat) (kkeptName : Nat) (kisKept : Nat) (konces : Nat) (kpoured : Nat) (kfar : Nat) (ksides : Nat) (klines : Nat) (kmet : Nat) (ksunk : Nat) (ktrying : Nat) (ktext : Nat) (kline : Nat) (kwritten : Nat) (knode : Nat) (knowF : Nat → Int32) (ksnapsF : Nat → Int32) (x : Int32) (hN : NowOk knowF) (p2 : ((nI 1) = nI 1 ∧ (nI 1).toInt ≤ x.toInt ∧ x.toInt ≤ (nI 20).toInt) ∨ ((nI 1) = nI 0 ∧ ¬ ((nI 1).toInt ≤ x.toInt ∧ x.toInt ≤ (nI 20).toInt))) : ((nI 0) = (-1 : Int32) ∧ ¬ (1 ≤ x.toInt ∧ x.toInt ≤ 20)) ∨ ((nI 0) = nI 0 ∧ 1 ≤ x.toInt ∧ x.toInt ≤ 20) := by
  have k_0 := ia_n 1 (by decide)
  have k_1 := ia_n 20 (by decide)
  have k_2 := ia_n 0 (by decide)
  try simp only [ia_lt, ia_le, ia_eq, ia_m1, ia_0, ia_1, ne_eq, true_and, and_true, false_and, and_false, or_false, false_or, or_true, true_or, not_true_eq_false, not_false_eq_true] at *
  all_goals omega
set_option maxHeartbeats 4000000 in
set_option maxRecDepth 100000 in
theorem c_m_stove (l : Launch) (dC : Nat → ClassId) (dI : Nat → Nat → Nat) (ky : Nat → ClassId) (sz : Nat) (o : Nat) (ktape : Nat) (know : Nat) (kread : Nat) (kkept : Nat) (ksnaps : Nat) (kaside : Nat) (kname : Nat) (kreadName : Nat) (kkeptName : Nat) (kisKept : Nat) (konces : Nat) (kpoured : Nat) (kfar : Nat) (ksides : Nat) (klines : Nat) (kmet : Nat) (ksunk : Nat) (ktrying : Nat) (ktext : Nat) (kline : Nat) (kwritten : Nat) (knode : Nat) (knowF : Nat → Int32) (ksnapsF : Nat → Int32) (x : Int32) (hN : NowOk knowF) : Met l yX12_stove wsX12_stove ({ frames := 3, cells := 0, slots := 0, locals := 69 }) (PcU dC dI ky [.ref o, .int x] [(o, .inr (12, [.int (nI 0), .ref ktape, .int (nI 0), .int (nI 0), .int (nI 0), .int (nI 0), .int (nI 0), .int (nI 0), .int (nI 0), .int (nI 0), .int (nI 0), .int (nI 0), .long 0, .int (nI 0), .ref know, .ref kread, .ref kkept, .ref ksnaps, .ref kaside, .ref kname, .ref kreadName, .ref kkeptName, .ref kisKept, .ref konces, .int (nI 0), .int (nI 0), .ref kpoured, .ref kfar, .ref ksides, .int (nI 0), .int (-1 : Int32), .int (nI 0), .ref klines, .ref kmet, .int (nI 0), .ref ksunk, .ref ktrying, .int (nI 0), .int (-1 : Int32), .int (-1 : Int32), .ref ktext, .int (nI 0), .int (nI 0), .ref kline, .ref kwritten, .int (nI 0), .int (nI 0), .ref knode, .int (nI 0), .int (nI 0), .int (nI 0), .int (nI 0)])), (know, .inl (ky 0, 373, .inl knowF)), (ksnaps, .inl (ky 0, 512, .inl ksnapsF))] sz) (va_Qi (fun (r : Int32) (_ : Unit) => (r = (-1 : Int32) ∧ ¬ (1 ≤ x.toInt ∧ x.toInt ≤ 20)) ∨ (r = nI 0 ∧ 1 ≤ x.toInt ∧ x.toInt ≤ 20)) (BU dC dI ky (fun (_ : Unit) => []) (va_A [(o, .inr (12, [.int (nI 0), .ref ktape, .int (nI 0), .int (nI 0), .int (nI 0), .int (nI 0), .int (nI 0), .int (nI 0), .int (nI 0), .int (nI 0), .int (nI 0), .int (nI 0), .long 0, .int (nI 0), .ref know, .ref kread, .ref kkept, .ref ksnaps, .ref kaside, .ref kname, .ref kreadName, .ref kkeptName, .ref kisKept, .ref konces, .int (nI 0), .int (nI 0), .ref kpoured, .ref kfar, .ref ksides, .int (nI 0), .int (-1 : Int32), .int (nI 0), .ref klines, .ref kmet, .int (nI 0), .ref ksunk, .ref ktrying, .int (nI 0), .int (-1 : Int32), .int (-1 : Int32), .ref ktext, .int (nI 0), .int (nI 0), .ref kline, .ref kwritten, .int (nI 0), .int (nI 0), .ref knode, .int (nI 0), .int (nI 0), .int (nI 0), .int (nI 0)])), (know, .inl (ky 0, 373, .inl knowF)), (ksnaps, .inl (ky 0, 512, .inl ksnapsF))] sz)) (va_A [(o, .inr (12, [.int (nI 0), .ref ktape, .int (nI 0), .int (nI 0), .int (nI 0), .int (nI 0), .int (nI 0), .int (nI 0), .int (nI 0), .int (nI 0), .int (nI 0), .int (nI 0), .long 0, .int (nI 0), .ref know, .ref kread, .ref kkept, .ref ksnaps, .ref kaside, .ref kname, .ref kreadName, .ref kkeptName, .ref kisKept, .ref konces, .int (nI 0), .int (nI 0), .ref kpoured, .ref kfar, .ref ksides, .int (nI 0), .int (-1 : Int32), .int (nI 0), .ref klines, .ref kmet, .int (nI 0), .ref ksunk, .ref ktrying, .int (nI 0), .int (-1 : Int32), .int (-1 : Int32), .ref ktext, .int (nI 0), .int (nI 0), .ref kline, .ref kwritten, .int (nI 0), .int (nI 0), .ref knode, .int (nI 0), .int (nI 0), .int (nI 0), .int (nI 0)])), (know, .inl (ky 0, 373, .inl knowF)), (ksnaps, .inl (ky 0, 512, .inl ksnapsF))] sz)) 0 0 (va_A [(o, .inr (12, [.int (nI 0), .ref ktape, .int (nI 0), .int (nI 0), .int (nI 0), .int (nI 0), .int (nI 0), .int (nI 0), .int (nI 0), .int (nI 0), .int (nI 0), .int (nI 0), .long 0, .int (nI 0), .ref know, .ref kread, .ref kkept, .ref ksnaps, .ref kaside, .ref kname, .ref kreadName, .ref kkeptName, .ref kisKept, .ref konces, .int (nI 0), .int (nI 0), .ref kpoured, .ref kfar, .ref ksides, .int (nI 0), .int (-1 : Int32), .int (nI 0), .ref klines, .ref kmet, .int (nI 0), .ref ksunk, .ref ktrying, .int (nI 0), .int (-1 : Int32), .int (-1 : Int32), .ref ktext, .int (nI 0), .int (nI 0), .ref kline, .ref kwritten, .int (nI 0), .int (nI 0), .ref knode, .int (nI 0), .int (nI 0), .int (nI 0), .int (nI 0)])), (know, .inl (ky 0, 373, .inl knowF)), (ksnaps, .inl (ky 0, 512, .inl ksnapsF))] sz) := by
  refine Met.ofW (cc := cX12_stove) (maxL := 2) (ret := (some .int)) (by decide) rfl ?_
  intro p e s m args below meth c s₁ B hml hv
  obtain ⟨rfl, hsz, hP, hK, hD0⟩ := hv
  have hx := B.exec
  have hb := B.bytes
  have hr := B.returns
  have hts := atoms_spec (ws := wsX12_stove) B.pre
  have hown : s.vm.findClass RX12 = some m.cls := findClass_of_methodNamed B.named
  have hlocks := B.notSynchronized
  have hin12 : ∀ w ∈ u_ws RX12 TX12 52, w ∈ wsX12_stove := by decide +kernel
  subst hsz
  have hD := hD0.self (sz := s.heap.size)
  generalize hAe : va_A [(o, .inr (12, [.int (nI 0), .ref ktape, .int (nI 0), .int (nI 0), .int (nI 0), .int (nI 0), .int (nI 0), .int (nI 0), .int (nI 0), .int (nI 0), .int (nI 0), .int (nI 0), .long 0, .int (nI 0), .ref know, .ref kread, .ref kkept, .ref ksnaps, .ref kaside, .ref kname, .ref kreadName, .ref kkeptName, .ref kisKept, .ref konces, .int (nI 0), .int (nI 0), .ref kpoured, .ref kfar, .ref ksides, .int (nI 0), .int (-1 : Int32), .int (nI 0), .ref klines, .ref kmet, .int (nI 0), .ref ksunk, .ref ktrying, .int (nI 0), .int (-1 : Int32), .int (-1 : Int32), .ref ktext, .int (nI 0), .int (nI 0), .ref kline, .ref kwritten, .int (nI 0), .int (nI 0), .ref knode, .int (nI 0), .int (nI 0), .int (nI 0), .int (nI 0)])), (know, .inl (ky 0, 373, .inl knowF)), (ksnaps, .inl (ky 0, 512, .inl ksnapsF))] s.heap.size = A at hD ⊢
  have hA : ∀ q : Nat, s.heap.size ≤ q → A q := fun q h => by rw [← hAe]; exact Or.inr h
  have hS : va_S A s.heap s.heap [] := va_S.rf
  have hP : va_P (dC, dI) vwCl [(o, .inr (12, [.int (nI 0), .ref ktape, .int (nI 0), .int (nI 0), .int (nI 0), .int (nI 0), .int (nI 0), .int (nI 0), .int (nI 0), .int (nI 0), .int (nI 0), .int (nI 0), .long 0, .int (nI 0), .ref know, .ref kread, .ref kkept, .ref ksnaps, .ref kaside, .ref kname, .ref kreadName, .ref kkeptName, .ref kisKept, .ref konces, .int (nI 0), .int (nI 0), .ref kpoured, .ref kfar, .ref ksides, .int (nI 0), .int (-1 : Int32), .int (nI 0), .ref klines, .ref kmet, .int (nI 0), .ref ksunk, .ref ktrying, .int (nI 0), .int (-1 : Int32), .int (-1 : Int32), .ref ktext, .int (nI 0), .int (nI 0), .ref kline, .ref kwritten, .int (nI 0), .int (nI 0), .ref knode, .int (nI 0), .int (nI 0), .int (nI 0), .int (nI 0)])), (know, .inl (ky 0, 373, .inl knowF)), (ksnaps, .inl (ky 0, 512, .inl ksnapsF))] s.heap := hP
  have hl := lv_entry ([.ref o, .int x]) (n := 2) (Nat.le_of_ble_eq_true rfl)
  rw [lg_entry_eq]
  generalize (lg_sl ([.ref o, .int x]) ++ List.replicate (2 - (lg_sl ([.ref o, .int x])).length) Slot.unset).toArray = ls at hl ⊢
  have hl : lv_has ls 2 [(0, .ref o), (1, .int x)] := hl
  have hH0 : True := trivial
  refine lv_aload_n hx hb dX12_stove_0 rfl (lv_at hl 0 rfl) ?_
  refine lv_iconst (v := nI 0) hx hb dX12_stove_1 (by decide) ?_
  refine va_put (D := (dC, dI)) (ci := 12) (v := .int (nI 0)) (ty := .int) (C := RX12) (T := TX12) (N := 52) hx hb hts hin12 tyX12 tyX12_ok nmX12 hown hK hP hD hS 0 rfl rfl 0 (by decide) (hts (.fieldLink RX12 1 "PorridgeSeaModel" "thrown" "I") (List.mem_of_getElem? (i := 1) rfl)) (fun _ h9 => h9) rfl (by decide +kernel) rfl rfl (Nat.le_of_ble_eq_true rfl) dX12_stove_2 (fun H locs hP hD hS => ?_)
  have hP : va_P (dC, dI) vwCl [(o, .inr (12, [.int (nI 0), .ref ktape, .int (nI 0), .int (nI 0), .int (nI 0), .int (nI 0), .int (nI 0), .int (nI 0), .int (nI 0), .int (nI 0), .int (nI 0), .int (nI 0), .long 0, .int (nI 0), .ref know, .ref kread, .ref kkept, .ref ksnaps, .ref kaside, .ref kname, .ref kreadName, .ref kkeptName, .ref kisKept, .ref konces, .int (nI 0), .int (nI 0), .ref kpoured, .ref kfar, .ref ksides, .int (nI 0), .int (-1 : Int32), .int (nI 0), .ref klines, .ref kmet, .int (nI 0), .ref ksunk, .ref ktrying, .int (nI 0), .int (-1 : Int32), .int (-1 : Int32), .ref ktext, .int (nI 0), .int (nI 0), .ref kline, .ref kwritten, .int (nI 0), .int (nI 0), .ref knode, .int (nI 0), .int (nI 0), .int (nI 0), .int (nI 0)])), (know, .inl (ky 0, 373, .inl knowF)), (ksnaps, .inl (ky 0, 512, .inl ksnapsF))] H := hP
  have hD : va_D A [(o, .inr (12, [.int (nI 0), .ref ktape, .int (nI 0), .int (nI 0), .int (nI 0), .int (nI 0), .int (nI 0), .int (nI 0), .int (nI 0), .int (nI 0), .int (nI 0), .int (nI 0), .long 0, .int (nI 0), .ref know, .ref kread, .ref kkept, .ref ksnaps, .ref kaside, .ref kname, .ref kreadName, .ref kkeptName, .ref kisKept, .ref konces, .int (nI 0), .int (nI 0), .ref kpoured, .ref kfar, .ref ksides, .int (nI 0), .int (-1 : Int32), .int (nI 0), .ref klines, .ref kmet, .int (nI 0), .ref ksunk, .ref ktrying, .int (nI 0), .int (-1 : Int32), .int (-1 : Int32), .ref ktext, .int (nI 0), .int (nI 0), .ref kline, .ref kwritten, .int (nI 0), .int (nI 0), .ref knode, .int (nI 0), .int (nI 0), .int (nI 0), .int (nI 0)])), (know, .inl (ky 0, 373, .inl knowF)), (ksnaps, .inl (ky 0, 512, .inl ksnapsF))] := hD
  refine lv_aload_n hx hb dX12_stove_5 rfl (lv_at hl 0 rfl) ?_
  refine lv_iconst (v := nI 4) hx hb dX12_stove_6 (by decide) ?_
  refine lv_iload_n hx hb dX12_stove_7 rfl (lv_at hl 1 rfl) ?_
  refine lv_iconst (v := nI 0) hx hb dX12_stove_8 (by decide) ?_
  refine lv_iload_n hx hb dX12_stove_9 rfl (lv_at hl 1 rfl) ?_
  refine lv_iconst (v := nI 1) hx hb dX12_stove_10 (by decide) ?_
  refine lv_bipush (v := nI 20) hx hb dX12_stove_11 (by decide) ?_
  refine vp_callSi (W.runS (As := [.int x, .int (nI 1), .int (nI 20)]) (rest := [.int (nI 0), .int x, .int (nI 4), .ref o]) ⟨hx, hb, hml, hown, hts⟩ (c_isIn l dC dI ky x (nI 1) (nI 20)) (va_cwS 3 hts gX12_stove_X12_isIn rfl rfl rfl (by decide +kernel) ⟨(Nat.le_of_ble_eq_true rfl), (Nat.le_of_ble_eq_true rfl)⟩) (pre_PS hK hP [] rfl) rfl rfl hl.1 rfl (lv_room (Nat.le_of_ble_eq_true rfl)) dX12_stove_13 ⟨(Nat.le_of_ble_eq_true rfl), (Nat.le_of_ble_eq_true rfl)⟩) (fun r1 p2 => ?_)
  rcases (lf_m_stove_1 o ktape know kread kkept ksnaps kaside kname kreadName kkeptName kisKept konces kpoured kfar ksides klines kmet ksunk ktrying ktext kline kwritten knode knowF ksnapsF x r1 hN p2) with rfl | rfl
  · refine vp_callSi (W.runV (As := [.int (nI 4), .int x, .int (nI 0), .int (nI 0)]) (rest := []) ⟨hx, hb, hml, hown, hts⟩ (c_m_actNo l dC dI ky o (nI 0) ktape (nI 0) (nI 0) (nI 0) (nI 0) (nI 0) (nI 0) (nI 0) (nI 0) (nI 0) (nI 0) 0 (nI 0) know kread kkept ksnaps kaside kname kreadName kkeptName kisKept konces (nI 0) (nI 0) kpoured kfar ksides (nI 0) (-1 : Int32) (nI 0) klines kmet (nI 0) ksunk ktrying (nI 0) (-1 : Int32) (-1 : Int32) ktext (nI 0) (nI 0) kline kwritten (nI 0) (nI 0) knode (nI 0) (nI 0) (nI 0) (nI 0) (nI 4) x (nI 0)) (cwV 4 hts gX12_stove_X12_act rfl rfl rfl (by decide +kernel) ⟨(Nat.le_of_ble_eq_true rfl), (Nat.le_of_ble_eq_true rfl)⟩) (pre_PV hK hP [0] rfl (ci := 12) (q0 := 0) rfl rfl) rfl rfl hl.1 rfl (lv_room (Nat.le_of_ble_eq_true rfl)) dX12_stove_16 ⟨(Nat.le_of_ble_eq_true rfl), (Nat.le_of_ble_eq_true rfl)⟩) (fun r3 p4 => ?_)
    subst p4
    have hP9 := hP.sub (ws' := []) [] rfl
    have hD9 := hD.sub (ws' := []) [] (by decide) rfl
    refine W.widen (k := 0) (n := 0) (Nat.le_of_ble_eq_true rfl) (Nat.le_of_ble_eq_true rfl) ?_
    exact W.iret (v := (-1 : Int32)) hx hb hr (fun t ht9 hW9 => ⟨⟨(-1 : Int32), (), rfl, (lf_m_stove_2 o ktape know kread kkept ksnaps kaside kname kreadName kkeptName kisKept konces kpoured kfar ksides klines kmet ksunk ktrying ktext kline kwritten knode knowF ksnapsF x hN p2), by rw [ht9]; exact hP9, va_K.moved hW9.alike hK, hD9⟩, hS.F ht9⟩) hS.2.2 dX12_stove_19
  · refine r_call_i (wr := []) (va_runV (As := [.int (nI 4), .int x, .int (nI 0), .int (nI 1)]) (rest := []) ⟨hx, hb, hml, hown, hts⟩ (c_m_act4 l dC dI ky H.size o (nI 0) ktape (nI 0) (nI 0) (nI 0) (nI 0) (nI 0) (nI 0) (nI 0) (nI 0) (nI 0) (nI 0) 0 (nI 0) know kread kkept ksnaps kaside kname kreadName kkeptName kisKept konces (nI 0) kpoured kfar ksides (nI 0) (-1 : Int32) (nI 0) klines kmet (nI 0) ksunk ktrying (nI 0) (-1 : Int32) (-1 : Int32) ktext (nI 0) (nI 0) kline kwritten (nI 0) (nI 0) knode (nI 0) (nI 0) (nI 0) (nI 0) knowF ksnapsF x (nI 0) hN) (cwV 4 hts gX12_stove_X12_act rfl rfl rfl (by decide +kernel) ⟨(Nat.le_of_ble_eq_true rfl), (Nat.le_of_ble_eq_true rfl)⟩) (pre_UV hK hP hD [0, 1, 2] (by decide) rfl (ci := 12) (q0 := 0) rfl rfl) rfl rfl hl.1 rfl (lv_room (Nat.le_of_ble_eq_true rfl)) dX12_stove_16 ⟨(Nat.le_of_ble_eq_true rfl), (Nat.le_of_ble_eq_true rfl)⟩) hP hD hS hA [0, 1, 2] [] rfl rfl (by decide) (by decide) (fun r7 u5 H locs p6 hP hD hS => ?_)
    try dsimp only at p6
    have p8 := p6
    refine W.widen (k := 0) (n := 0) (Nat.le_of_ble_eq_true rfl) (Nat.le_of_ble_eq_true rfl) ?_
    have hP : va_P (dC, dI) vwCl [] H := hP
    have hD : va_D A [] := hD
    subst p8
    have hP9 := hP.sub (ws' := []) [] rfl
    have hD9 := hD.sub (ws' := []) [] (by decide) rfl
    refine W.widen (k := 0) (n := 0) (Nat.le_of_ble_eq_true rfl) (Nat.le_of_ble_eq_true rfl) ?_
    exact W.iret (v := nI 0) hx hb hr (fun t ht9 hW9 => ⟨⟨nI 0, (), rfl, (lf_m_stove_3 o ktape know kread kkept ksnaps kaside kname kreadName kkeptName kisKept konces kpoured kfar ksides klines kmet ksunk ktrying ktext kline kwritten knode knowF ksnapsF x hN p2), by rw [ht9]; exact hP9, va_K.moved hW9.alike hK, hD9⟩, hS.F ht9⟩) hS.2.2 dX12_stove_19
set_option maxRecDepth 20000 in
theorem lf_m_oneDay_1 (o : Nat) (kthrown : Int32) (ktape : Nat) (ktaped : Int32) (ksize : Int32) (klimit : Int32) (kto : Int32) (kfrom : Int32) (kkind : Int32) (knumber : Int32) (ksign : Int32) (kfault : Int32) (kplace : Int32) (kword : Int64) (ktold : Int32) (know : Nat) (kread : Nat) (kkept : Nat) (ksnaps : Nat) (kaside : Nat) (kname : Nat) (kreadName : Nat) (kkeptName : Nat) (kisKept : Nat) (konces : Nat) (ksnapMany : Int32) (khasCells : Int32) (kpoured : Nat) (kfar : Nat) (ksides : Nat) (ksideMany : Int32) (kwayDays : Int32) (khasWay : Int32) (klines : Nat) (kmet : Nat) (kmetMany : Int32) (ksunk : Nat) (ktrying : Nat) (ksunkMany : Int32) (ksending : Int32) (kfleets : Int32) (ktext : Nat) (ktexts : Int32) (kseed : Int32) (kline : Nat) (kwritten : Nat) (klineMany : Int32) (khasWritten : Int32) (knode : Nat) (knodes : Int32) (konesMany : Int32) (kwithin : Int32) (ktop : Int32) (knowF : Nat → Int32) (y2 : Int32) (y4 : Int32) (y6 : Int32) (r8 : Int32) (y10 : Int32) (g12 : Nat → Int32) (y15 : Int32) (y17 : Int32) (g19 : Nat → Int32) (hB : NowB knowF) (e3 : y2 = knowF 68) (e5 : y4 = knowF 5) (e7 : y6 = knowF 68) (p9 : True) (e11 : y10 = y2 - r8) (hB14 : NowB g12) (e16 : y15 = g12 67) (e18 : y17 = y15 + (nI 1)) (hB21 : NowB g19) : NowB g19 := by
  assumption
set_option maxHeartbeats 4000000 in
set_option maxRecDepth 100000 in
theorem c_m_oneDay (l : Launch) (dC : Nat → ClassId) (dI : Nat → Nat → Nat) (ky : Nat → ClassId) (sz : Nat) (o : Nat) (kthrown : Int32) (ktape : Nat) (ktaped : Int32) (ksize : Int32) (klimit : Int32) (kto : Int32) (kfrom : Int32) (kkind : Int32) (knumber : Int32) (ksign : Int32) (kfault : Int32) (kplace : Int32) (kword : Int64) (ktold : Int32) (know : Nat) (kread : Nat) (kkept : Nat) (ksnaps : Nat) (kaside : Nat) (kname : Nat) (kreadName : Nat) (kkeptName : Nat) (kisKept : Nat) (konces : Nat) (ksnapMany : Int32) (khasCells : Int32) (kpoured : Nat) (kfar : Nat) (ksides : Nat) (ksideMany : Int32) (kwayDays : Int32) (khasWay : Int32) (klines : Nat) (kmet : Nat) (kmetMany : Int32) (ksunk : Nat) (ktrying : Nat) (ksunkMany : Int32) (ksending : Int32) (kfleets : Int32) (ktext : Nat) (ktexts : Int32) (kseed : Int32) (kline : Nat) (kwritten : Nat) (klineMany : Int32) (khasWritten : Int32) (knode : Nat) (knodes : Int32) (konesMany : Int32) (kwithin : Int32) (ktop : Int32) (knowF : Nat → Int32) (hB : NowB knowF) : Met l yX12_oneDay wsX12_oneDay ({ frames := 1, cells := 0, slots := 0, locals := 21 }) (PcU dC dI ky [.ref o] [(o, .inr (12, [.int kthrown, .ref ktape, .int ktaped, .int ksize, .int klimit, .int kto, .int kfrom, .int kkind, .int knumber, .int ksign, .int kfault, .int kplace, .long kword, .int ktold, .ref know, .ref kread, .ref kkept, .ref ksnaps, .ref kaside, .ref kname, .ref kreadName, .ref kkeptName, .ref kisKept, .ref konces, .int ksnapMany, .int khasCells, .ref kpoured, .ref kfar, .ref ksides, .int ksideMany, .int kwayDays, .int khasWay, .ref klines, .ref kmet, .int kmetMany, .ref ksunk, .ref ktrying, .int ksunkMany, .int ksending, .int kfleets, .ref ktext, .int ktexts, .int kseed, .ref kline, .ref kwritten, .int klineMany, .int khasWritten, .ref knode, .int knodes, .int konesMany, .int kwithin, .int ktop])), (know, .inl (ky 0, 373, .inl knowF))] sz) (va_Qv (fun (knowG : (Nat → Int32)) => NowB knowG) (BU dC dI ky (fun (knowG : (Nat → Int32)) => [(o, .inr (12, [.int kthrown, .ref ktape, .int ktaped, .int ksize, .int klimit, .int kto, .int kfrom, .int kkind, .int knumber, .int ksign, .int kfault, .int kplace, .long kword, .int ktold, .ref know, .ref kread, .ref kkept, .ref ksnaps, .ref kaside, .ref kname, .ref kreadName, .ref kkeptName, .ref kisKept, .ref konces, .int ksnapMany, .int khasCells, .ref kpoured, .ref kfar, .ref ksides, .int ksideMany, .int kwayDays, .int khasWay, .ref klines, .ref kmet, .int kmetMany, .ref ksunk, .ref ktrying, .int ksunkMany, .int ksending, .int kfleets, .ref ktext, .int ktexts, .int kseed, .ref kline, .ref kwritten, .int klineMany, .int khasWritten, .ref knode, .int knodes, .int konesMany, .int kwithin, .int ktop])), (know, .inl (ky 0, 373, .inl knowG))]) (va_A [(o, .inr (12, [.int kthrown, .ref ktape, .int ktaped, .int ksize, .int klimit, .int kto, .int kfrom, .int kkind, .int knumber, .int ksign, .int kfault, .int kplace, .long kword, .int ktold, .ref know, .ref kread, .ref kkept, .ref ksnaps, .ref kaside, .ref kname, .ref kreadName, .ref kkeptName, .ref kisKept, .ref konces, .int ksnapMany, .int khasCells, .ref kpoured, .ref kfar, .ref ksides, .int ksideMany, .int kwayDays, .int khasWay, .ref klines, .ref kmet, .int kmetMany, .ref ksunk, .ref ktrying, .int ksunkMany, .int ksending, .int kfleets, .ref ktext, .int ktexts, .int kseed, .ref kline, .ref kwritten, .int klineMany, .int khasWritten, .ref knode, .int knodes, .int konesMany, .int kwithin, .int ktop])), (know, .inl (ky 0, 373, .inl knowF))] sz)) (va_A [(o, .inr (12, [.int kthrown, .ref ktape, .int ktaped, .int ksize, .int klimit, .int kto, .int kfrom, .int kkind, .int knumber, .int ksign, .int kfault, .int kplace, .long kword, .int ktold, .ref know, .ref kread, .ref kkept, .ref ksnaps, .ref kaside, .ref kname, .ref kreadName, .ref kkeptName, .ref kisKept, .ref konces, .int ksnapMany, .int khasCells, .ref kpoured, .ref kfar, .ref ksides, .int ksideMany, .int kwayDays, .int khasWay, .ref klines, .ref kmet, .int kmetMany, .ref ksunk, .ref ktrying, .int ksunkMany, .int ksending, .int kfleets, .ref ktext, .int ktexts, .int kseed, .ref kline, .ref kwritten, .int klineMany, .int khasWritten, .ref knode, .int knodes, .int konesMany, .int kwithin, .int ktop])), (know, .inl (ky 0, 373, .inl knowF))] sz)) 0 0 (va_A [(o, .inr (12, [.int kthrown, .ref ktape, .int ktaped, .int ksize, .int klimit, .int kto, .int kfrom, .int kkind, .int knumber, .int ksign, .int kfault, .int kplace, .long kword, .int ktold, .ref know, .ref kread, .ref kkept, .ref ksnaps, .ref kaside, .ref kname, .ref kreadName, .ref kkeptName, .ref kisKept, .ref konces, .int ksnapMany, .int khasCells, .ref kpoured, .ref kfar, .ref ksides, .int ksideMany, .int kwayDays, .int khasWay, .ref klines, .ref kmet, .int kmetMany, .ref ksunk, .ref ktrying, .int ksunkMany, .int ksending, .int kfleets, .ref ktext, .int ktexts, .int kseed, .ref kline, .ref kwritten, .int klineMany, .int khasWritten, .ref knode, .int knodes, .int konesMany, .int kwithin, .int ktop])), (know, .inl (ky 0, 373, .inl knowF))] sz) := by
  refine Met.ofW (cc := cX12_oneDay) (maxL := 2) (ret := none) (by decide) rfl ?_
  intro p e s m args below meth c s₁ B hml hv
  obtain ⟨rfl, hsz, hP, hK, hD0⟩ := hv
  have hx := B.exec
  have hb := B.bytes
  have hr := B.returns
  have hts := atoms_spec (ws := wsX12_oneDay) B.pre
  have hown : s.vm.findClass RX12 = some m.cls := findClass_of_methodNamed B.named
  have hlocks := B.notSynchronized
  have hin12 : ∀ w ∈ u_ws RX12 TX12 52, w ∈ wsX12_oneDay := by decide +kernel
  subst hsz
  have hD := hD0.self (sz := s.heap.size)
  generalize hAe : va_A [(o, .inr (12, [.int kthrown, .ref ktape, .int ktaped, .int ksize, .int klimit, .int kto, .int kfrom, .int kkind, .int knumber, .int ksign, .int kfault, .int kplace, .long kword, .int ktold, .ref know, .ref kread, .ref kkept, .ref ksnaps, .ref kaside, .ref kname, .ref kreadName, .ref kkeptName, .ref kisKept, .ref konces, .int ksnapMany, .int khasCells, .ref kpoured, .ref kfar, .ref ksides, .int ksideMany, .int kwayDays, .int khasWay, .ref klines, .ref kmet, .int kmetMany, .ref ksunk, .ref ktrying, .int ksunkMany, .int ksending, .int kfleets, .ref ktext, .int ktexts, .int kseed, .ref kline, .ref kwritten, .int klineMany, .int khasWritten, .ref knode, .int knodes, .int konesMany, .int kwithin, .int ktop])), (know, .inl (ky 0, 373, .inl knowF))] s.heap.size = A at hD ⊢
  have hA : ∀ q : Nat, s.heap.size ≤ q → A q := fun q h => by rw [← hAe]; exact Or.inr h
  have hS : va_S A s.heap s.heap [] := va_S.rf
  have hP : va_P (dC, dI) vwCl [(o, .inr (12, [.int kthrown, .ref ktape, .int ktaped, .int ksize, .int klimit, .int kto, .int kfrom, .int kkind, .int knumber, .int ksign, .int kfault, .int kplace, .long kword, .int ktold, .ref know, .ref kread, .ref kkept, .ref ksnaps, .ref kaside, .ref kname, .ref kreadName, .ref kkeptName, .ref kisKept, .ref konces, .int ksnapMany, .int khasCells, .ref kpoured, .ref kfar, .ref ksides, .int ksideMany, .int kwayDays, .int khasWay, .ref klines, .ref kmet, .int kmetMany, .ref ksunk, .ref ktrying, .int ksunkMany, .int ksending, .int kfleets, .ref ktext, .int ktexts, .int kseed, .ref kline, .ref kwritten, .int klineMany, .int khasWritten, .ref knode, .int knodes, .int konesMany, .int kwithin, .int ktop])), (know, .inl (ky 0, 373, .inl knowF))] s.heap := hP
  have hl := lv_entry ([.ref o]) (n := 2) (Nat.le_of_ble_eq_true rfl)
  rw [lg_entry_eq]
  generalize (lg_sl ([.ref o]) ++ List.replicate (2 - (lg_sl ([.ref o])).length) Slot.unset).toArray = ls at hl ⊢
  have hl : lv_has ls 2 [(0, .ref o)] := hl
  have hH0 : True := trivial
  refine lv_iconst (v := nI 0) hx hb dX12_oneDay_0 (by decide) ?_
  refine lv_istore_n (lv' := [(1, .int (nI 0)), (0, .ref o)]) hx hb dX12_oneDay_1 rfl hl (by decide) rfl (fun ls hl => ?_)
  refine lv_iload_n hx hb dX12_oneDay_2 rfl (lv_at hl 0 rfl) ?_
  refine lv_aload_n hx hb dX12_oneDay_3 rfl (lv_at hl 1 rfl) ?_
  refine va_get (D := (dC, dI)) (ci := 12) (v := .ref know) (C := RX12) (T := TX12) (N := 52) hx hb hts hin12 hown hK hP 0 rfl rfl 14 (by decide) (hts (.fieldLink RX12 98 "PorridgeSeaModel" "now" "[I") (List.mem_of_getElem? (i := 1) rfl)) (fun _ h9 => h9) rfl dX12_oneDay_4 ?_
  refine lv_iconst (v := nI 3) hx hb dX12_oneDay_7 (by decide) ?_
  refine r_iald hx hb hK hP 1 rfl 3 (by decide) (by decide) (nI 0) hB.2.2.2 dX12_oneDay_8 ?_
  refine lv_icmp_ge (tgt := 78) hx hb dX12_oneDay_9 (by decide) (fun c1 => ?_) (fun c1 => absurd (by decide) c1)
  refine lv_aload_n hx hb dX12_oneDay_78 rfl (lv_at hl 1 rfl) ?_
  refine va_get (D := (dC, dI)) (ci := 12) (v := .ref know) (C := RX12) (T := TX12) (N := 52) hx hb hts hin12 hown hK hP 0 rfl rfl 14 (by decide) (hts (.fieldLink RX12 98 "PorridgeSeaModel" "now" "[I") (List.mem_of_getElem? (i := 1) rfl)) (fun _ h9 => h9) rfl dX12_oneDay_79 ?_
  refine lv_bipush (v := nI 68) hx hb dX12_oneDay_82 (by decide) ?_
  refine lv_dup2_11 hx hb dX12_oneDay_84 rfl rfl ?_
  obtain ⟨y2, e3⟩ : ∃ z9, z9 = knowF 68 := ⟨_, rfl⟩
  refine r_iald hx hb hK hP 1 rfl 68 (by decide) (by decide) y2 e3.symm dX12_oneDay_85 ?_
  refine lv_aload_n hx hb dX12_oneDay_86 rfl (lv_at hl 1 rfl) ?_
  refine va_get (D := (dC, dI)) (ci := 12) (v := .ref know) (C := RX12) (T := TX12) (N := 52) hx hb hts hin12 hown hK hP 0 rfl rfl 14 (by decide) (hts (.fieldLink RX12 98 "PorridgeSeaModel" "now" "[I") (List.mem_of_getElem? (i := 1) rfl)) (fun _ h9 => h9) rfl dX12_oneDay_87 ?_
  refine lv_iconst (v := nI 5) hx hb dX12_oneDay_90 (by decide) ?_
  obtain ⟨y4, e5⟩ : ∃ z9, z9 = knowF 5 := ⟨_, rfl⟩
  refine r_iald hx hb hK hP 1 rfl 5 (by decide) (by decide) y4 e5.symm dX12_oneDay_91 ?_
  refine lv_aload_n hx hb dX12_oneDay_92 rfl (lv_at hl 1 rfl) ?_
  refine va_get (D := (dC, dI)) (ci := 12) (v := .ref know) (C := RX12) (T := TX12) (N := 52) hx hb hts hin12 hown hK hP 0 rfl rfl 14 (by decide) (hts (.fieldLink RX12 98 "PorridgeSeaModel" "now" "[I") (List.mem_of_getElem? (i := 1) rfl)) (fun _ h9 => h9) rfl dX12_oneDay_93 ?_
  refine lv_bipush (v := nI 68) hx hb dX12_oneDay_96 (by decide) ?_
  obtain ⟨y6, e7⟩ : ∃ z9, z9 = knowF 68 := ⟨_, rfl⟩
  refine r_iald hx hb hK hP 1 rfl 68 (by decide) (by decide) y6 e7.symm dX12_oneDay_98 ?_
  refine vp_callSi (W.runS (As := [.int y4, .int y6]) (rest := [.int y2, .int (nI 68), .ref know]) ⟨hx, hb, hml, hown, hts⟩ (c_m_least l dC dI ky y4 y6) (va_cwS 2 hts gX12_oneDay_X12_least rfl rfl rfl (by decide +kernel) ⟨(Nat.le_of_ble_eq_true rfl), (Nat.le_of_ble_eq_true rfl)⟩) (pre_PS hK hP [] rfl) rfl rfl hl.1 rfl (lv_room (Nat.le_of_ble_eq_true rfl)) dX12_oneDay_99 ⟨(Nat.le_of_ble_eq_true rfl), (Nat.le_of_ble_eq_true rfl)⟩) (fun r8 p9 => ?_)
  refine lv_isub hx hb dX12_oneDay_102 ?_
  refine lv_topi (fun y10 e11 => ?_)
  refine r_iast (x := y10) hx hb hK hP hD hS 1 rfl 68 (by decide) (by decide) dX12_oneDay_103 (fun H locs hP hD hS => ?_)
  obtain ⟨g12, e13⟩ : ∃ z9, z9 = upd knowF 68 y10 := ⟨_, rfl⟩
  rw [← e13] at hP hD
  have hB14 : NowB g12 := by rw [e13]; exact NowB.up hB (by omega)
  have hP : va_P (dC, dI) vwCl [(o, .inr (12, [.int kthrown, .ref ktape, .int ktaped, .int ksize, .int klimit, .int kto, .int kfrom, .int kkind, .int knumber, .int ksign, .int kfault, .int kplace, .long kword, .int ktold, .ref know, .ref kread, .ref kkept, .ref ksnaps, .ref kaside, .ref kname, .ref kreadName, .ref kkeptName, .ref kisKept, .ref konces, .int ksnapMany, .int khasCells, .ref kpoured, .ref kfar, .ref ksides, .int ksideMany, .int kwayDays, .int khasWay, .ref klines, .ref kmet, .int kmetMany, .ref ksunk, .ref ktrying, .int ksunkMany, .int ksending, .int kfleets, .ref ktext, .int ktexts, .int kseed, .ref kline, .ref kwritten, .int klineMany, .int khasWritten, .ref knode, .int knodes, .int konesMany, .int kwithin, .int ktop])), (know, .inl (ky 0, 373, .inl g12))] H := hP
  have hD : va_D A [(o, .inr (12, [.int kthrown, .ref ktape, .int ktaped, .int ksize, .int klimit, .int kto, .int kfrom, .int kkind, .int knumber, .int ksign, .int kfault, .int kplace, .long kword, .int ktold, .ref know, .ref kread, .ref kkept, .ref ksnaps, .ref kaside, .ref kname, .ref kreadName, .ref kkeptName, .ref kisKept, .ref konces, .int ksnapMany, .int khasCells, .ref kpoured, .ref kfar, .ref ksides, .int ksideMany, .int kwayDays, .int khasWay, .ref klines, .ref kmet, .int kmetMany, .ref ksunk, .ref ktrying, .int ksunkMany, .int ksending, .int kfleets, .ref ktext, .int ktexts, .int kseed, .ref kline, .ref kwritten, .int klineMany, .int khasWritten, .ref knode, .int knodes, .int konesMany, .int kwithin, .int ktop])), (know, .inl (ky 0, 373, .inl g12))] := hD
  refine lv_aload_n hx hb dX12_oneDay_104 rfl (lv_at hl 1 rfl) ?_
  refine va_get (D := (dC, dI)) (ci := 12) (v := .ref know) (C := RX12) (T := TX12) (N := 52) hx hb hts hin12 hown hK hP 0 rfl rfl 14 (by decide) (hts (.fieldLink RX12 98 "PorridgeSeaModel" "now" "[I") (List.mem_of_getElem? (i := 1) rfl)) (fun _ h9 => h9) rfl dX12_oneDay_105 ?_
  refine lv_bipush (v := nI 67) hx hb dX12_oneDay_108 (by decide) ?_
  refine lv_dup2_11 hx hb dX12_oneDay_110 rfl rfl ?_
  obtain ⟨y15, e16⟩ : ∃ z9, z9 = g12 67 := ⟨_, rfl⟩
  refine r_iald hx hb hK hP 1 rfl 67 (by decide) (by decide) y15 e16.symm dX12_oneDay_111 ?_
  refine lv_iconst (v := nI 1) hx hb dX12_oneDay_112 (by decide) ?_
  refine lv_iadd hx hb dX12_oneDay_113 ?_
  refine lv_topi (fun y17 e18 => ?_)
  refine r_iast (x := y17) hx hb hK hP hD hS 1 rfl 67 (by decide) (by decide) dX12_oneDay_114 (fun H locs hP hD hS => ?_)
  obtain ⟨g19, e20⟩ : ∃ z9, z9 = upd g12 67 y17 := ⟨_, rfl⟩
  rw [← e20] at hP hD
  have hB21 : NowB g19 := by rw [e20]; exact NowB.up hB14 (by omega)
  have hP : va_P (dC, dI) vwCl [(o, .inr (12, [.int kthrown, .ref ktape, .int ktaped, .int ksize, .int klimit, .int kto, .int kfrom, .int kkind, .int knumber, .int ksign, .int kfault, .int kplace, .long kword, .int ktold, .ref know, .ref kread, .ref kkept, .ref ksnaps, .ref kaside, .ref kname, .ref kreadName, .ref kkeptName, .ref kisKept, .ref konces, .int ksnapMany, .int khasCells, .ref kpoured, .ref kfar, .ref ksides, .int ksideMany, .int kwayDays, .int khasWay, .ref klines, .ref kmet, .int kmetMany, .ref ksunk, .ref ktrying, .int ksunkMany, .int ksending, .int kfleets, .ref ktext, .int ktexts, .int kseed, .ref kline, .ref kwritten, .int klineMany, .int khasWritten, .ref knode, .int knodes, .int konesMany, .int kwithin, .int ktop])), (know, .inl (ky 0, 373, .inl g19))] H := hP
  have hD : va_D A [(o, .inr (12, [.int kthrown, .ref ktape, .int ktaped, .int ksize, .int klimit, .int kto, .int kfrom, .int kkind, .int knumber, .int ksign, .int kfault, .int kplace, .long kword, .int ktold, .ref know, .ref kread, .ref kkept, .ref ksnaps, .ref kaside, .ref kname, .ref kreadName, .ref kkeptName, .ref kisKept, .ref konces, .int ksnapMany, .int khasCells, .ref kpoured, .ref kfar, .ref ksides, .int ksideMany, .int kwayDays, .int khasWay, .ref klines, .ref kmet, .int kmetMany, .ref ksunk, .ref ktrying, .int ksunkMany, .int ksending, .int kfleets, .ref ktext, .int ktexts, .int kseed, .ref kline, .ref kwritten, .int klineMany, .int khasWritten, .ref knode, .int knodes, .int konesMany, .int kwithin, .int ktop])), (know, .inl (ky 0, 373, .inl g19))] := hD
  have hP9 := hP.sub (ws' := [(o, .inr (12, [.int kthrown, .ref ktape, .int ktaped, .int ksize, .int klimit, .int kto, .int kfrom, .int kkind, .int knumber, .int ksign, .int kfault, .int kplace, .long kword, .int ktold, .ref know, .ref kread, .ref kkept, .ref ksnaps, .ref kaside, .ref kname, .ref kreadName, .ref kkeptName, .ref kisKept, .ref konces, .int ksnapMany, .int khasCells, .ref kpoured, .ref kfar, .ref ksides, .int ksideMany, .int kwayDays, .int khasWay, .ref klines, .ref kmet, .int kmetMany, .ref ksunk, .ref ktrying, .int ksunkMany, .int ksending, .int kfleets, .ref ktext, .int ktexts, .int kseed, .ref kline, .ref kwritten, .int klineMany, .int khasWritten, .ref knode, .int knodes, .int konesMany, .int kwithin, .int ktop])), (know, .inl (ky 0, 373, .inl g19))]) [0, 1] rfl
  have hD9 := hD.sub (ws' := [(o, .inr (12, [.int kthrown, .ref ktape, .int ktaped, .int ksize, .int klimit, .int kto, .int kfrom, .int kkind, .int knumber, .int ksign, .int kfault, .int kplace, .long kword, .int ktold, .ref know, .ref kread, .ref kkept, .ref ksnaps, .ref kaside, .ref kname, .ref kreadName, .ref kkeptName, .ref kisKept, .ref konces, .int ksnapMany, .int khasCells, .ref kpoured, .ref kfar, .ref ksides, .int ksideMany, .int kwayDays, .int khasWay, .ref klines, .ref kmet, .int kmetMany, .ref ksunk, .ref ktrying, .int ksunkMany, .int ksending, .int kfleets, .ref ktext, .int ktexts, .int kseed, .ref kline, .ref kwritten, .int klineMany, .int khasWritten, .ref knode, .int knodes, .int konesMany, .int kwithin, .int ktop])), (know, .inl (ky 0, 373, .inl g19))]) [0, 1] (by decide) rfl
  refine W.widen (k := 0) (n := 0) (Nat.le_of_ble_eq_true rfl) (Nat.le_of_ble_eq_true rfl) ?_
  exact W.vret hx hb hr (fun t ht9 hW9 => ⟨⟨g19, rfl, (lf_m_oneDay_1 o kthrown ktape ktaped ksize klimit kto kfrom kkind knumber ksign kfault kplace kword ktold know kread kkept ksnaps kaside kname kreadName kkeptName kisKept konces ksnapMany khasCells kpoured kfar ksides ksideMany kwayDays khasWay klines kmet kmetMany ksunk ktrying ksunkMany ksending kfleets ktext ktexts kseed kline kwritten klineMany khasWritten knode knodes konesMany kwithin ktop knowF y2 y4 y6 r8 y10 g12 y15 y17 g19 hB e3 e5 e7 p9 e11 hB14 e16 e18 hB21), by rw [ht9]; exact hP9, va_K.moved hW9.alike hK, hD9⟩, hS.F ht9⟩) hS.2.2 dX12_oneDay_115
set_option maxRecDepth 20000 in
theorem lf_lpm_passDays_1 (o : Nat) (kthrown : Int32) (ktape : Nat) (ktaped : Int32) (ksize : Int32) (klimit : Int32) (kto : Int32) (kfrom : Int32) (kkind : Int32) (knumber : Int32) (ksign : Int32) (kfault : Int32) (kplace : Int32) (kword : Int64) (ktold : Int32) (know : Nat) (kread : Nat) (kkept : Nat) (ksnaps : Nat) (kaside : Nat) (kname : Nat) (kreadName : Nat) (kkeptName : Nat) (kisKept : Nat) (konces : Nat) (ksnapMany : Int32) (khasCells : Int32) (kpoured : Nat) (kfar : Nat) (ksides : Nat) (ksideMany : Int32) (kwayDays : Int32) (khasWay : Int32) (klines : Nat) (kmet : Nat) (kmetMany : Int32) (ksunk : Nat) (ktrying : Nat) (ksunkMany : Int32) (ksending : Int32) (kfleets : Int32) (ktext : Nat) (ktexts : Int32) (kseed : Int32) (kline : Nat) (kwritten : Nat) (klineMany : Int32) (khasWritten : Int32) (knode : Nat) (knodes : Int32) (konesMany : Int32) (kwithin : Int32) (ktop : Int32) (knowF : Nat → Int32) (n : Nat) (i : Nat) (fw : Nat → Int32) (knowG_4 : Nat → Int32) (hN : NowOk knowF) (hn : n ≤ 60) (hi : i ≤ n) (hL : NowB fw) (c1 : i < n) (p5 : NowB knowG_4) : NowB knowG_4 := by
  assumption
set_option maxHeartbeats 4000000 in
set_option maxRecDepth 100000 in
theorem lp_m_passDays {p : Program} {l : Launch} {e : Env} {R : Room} {s : State} {m : MethodId} {args : Array Value} {below : List Frame} {meth : Method} {c : Code} {Q : State → Prop} {dC : Nat → ClassId} {dI : Nat → Nat → Nat} {ky : Nat → ClassId} {H0 : Heap} {A : Nat → Prop} (hx : p.tables.exec = Jvm.exec) (hb : c.code = cX12_passDays) (hml : c.maxLocals = 4) (hown : s.vm.findClass RX12 = some m.cls) (hts : ∀ w ∈ wsX12_passDays, w.before args s = true) (hK : Kk dC dI ky s) (hA : ∀ q, H0.size ≤ q → A q) (hRf : 2 ≤ R.frames) (hRl : 42 ≤ R.locals) (hRc : 0 ≤ R.cells) (hRs : 0 ≤ R.slots) (o : Nat) (kthrown : Int32) (ktape : Nat) (ktaped : Int32) (ksize : Int32) (klimit : Int32) (kto : Int32) (kfrom : Int32) (kkind : Int32) (knumber : Int32) (ksign : Int32) (kfault : Int32) (kplace : Int32) (kword : Int64) (ktold : Int32) (know : Nat) (kread : Nat) (kkept : Nat) (ksnaps : Nat) (kaside : Nat) (kname : Nat) (kreadName : Nat) (kkeptName : Nat) (kisKept : Nat) (konces : Nat) (ksnapMany : Int32) (khasCells : Int32) (kpoured : Nat) (kfar : Nat) (ksides : Nat) (ksideMany : Int32) (kwayDays : Int32) (khasWay : Int32) (klines : Nat) (kmet : Nat) (kmetMany : Int32) (ksunk : Nat) (ktrying : Nat) (ksunkMany : Int32) (ksending : Int32) (kfleets : Int32) (ktext : Nat) (ktexts : Int32) (kseed : Int32) (kline : Nat) (kwritten : Nat) (klineMany : Int32) (khasWritten : Int32) (knode : Nat) (knodes : Int32) (konesMany : Int32) (kwithin : Int32) (ktop : Int32) (knowF : Nat → Int32) (n : Nat) (hN : NowOk knowF) (hn : n ≤ 60) (kx : ∀ (i : Nat) (fw : Nat → Int32), n = i → (NowB fw) → ∀ (H : Heap) (locs : List Loc) (ls : Array Slot), va_P (dC, dI) vwCl [(o, .inr (12, [.int kthrown, .ref ktape, .int ktaped, .int ksize, .int klimit, .int kto, .int kfrom, .int kkind, .int knumber, .int ksign, .int kfault, .int kplace, .long kword, .int ktold, .ref know, .ref kread, .ref kkept, .ref ksnaps, .ref kaside, .ref kname, .ref kreadName, .ref kkeptName, .ref kisKept, .ref konces, .int ksnapMany, .int khasCells, .ref kpoured, .ref kfar, .ref ksides, .int ksideMany, .int kwayDays, .int khasWay, .ref klines, .ref kmet, .int kmetMany, .ref ksunk, .ref ktrying, .int ksunkMany, .int ksending, .int kfleets, .ref ktext, .int ktexts, .int kseed, .ref kline, .ref kwritten, .int klineMany, .int khasWritten, .ref knode, .int knodes, .int konesMany, .int kwithin, .int ktop])), (know, .inl (ky 0, 373, .inl fw))] H → va_D A [(o, .inr (12, [.int kthrown, .ref ktape, .int ktaped, .int ksize, .int klimit, .int kto, .int kfrom, .int kkind, .int knumber, .int ksign, .int kfault, .int kplace, .long kword, .int ktold, .ref know, .ref kread, .ref kkept, .ref ksnaps, .ref kaside, .ref kname, .ref kreadName, .ref kkeptName, .ref kisKept, .ref konces, .int ksnapMany, .int khasCells, .ref kpoured, .ref kfar, .ref ksides, .int ksideMany, .int kwayDays, .int khasWay, .ref klines, .ref kmet, .int kmetMany, .ref ksunk, .ref ktrying, .int ksunkMany, .int ksending, .int kfleets, .ref ktext, .int ktexts, .int kseed, .ref kline, .ref kwritten, .int klineMany, .int khasWritten, .ref knode, .int knodes, .int konesMany, .int kwithin, .int ktop])), (know, .inl (ky 0, 373, .inl fw))] → va_S A H0 H locs → lv_has ls 4 [(3, .int (nI i)), (2, .int (nI n)), (0, .ref o), (1, .int (nI n))] → W p l e R s m args below meth c H locs 0 0 Q (F0 m 33 ls [])) :
    ∀ (nN i : Nat) (fw : Nat → Int32), i ≤ n → n + 1 ≤ i + nN → (NowB fw) → ∀ (H : Heap) (locs : List Loc) (ls : Array Slot), va_P (dC, dI) vwCl [(o, .inr (12, [.int kthrown, .ref ktape, .int ktaped, .int ksize, .int klimit, .int kto, .int kfrom, .int kkind, .int knumber, .int ksign, .int kfault, .int kplace, .long kword, .int ktold, .ref know, .ref kread, .ref kkept, .ref ksnaps, .ref kaside, .ref kname, .ref kreadName, .ref kkeptName, .ref kisKept, .ref konces, .int ksnapMany, .int khasCells, .ref kpoured, .ref kfar, .ref ksides, .int ksideMany, .int kwayDays, .int khasWay, .ref klines, .ref kmet, .int kmetMany, .ref ksunk, .ref ktrying, .int ksunkMany, .int ksending, .int kfleets, .ref ktext, .int ktexts, .int kseed, .ref kline, .ref kwritten, .int klineMany, .int khasWritten, .ref knode, .int knodes, .int konesMany, .int kwithin, .int ktop])), (know, .inl (ky 0, 373, .inl fw))] H → va_D A [(o, .inr (12, [.int kthrown, .ref ktape, .int ktaped, .int ksize, .int klimit, .int kto, .int kfrom, .int kkind, .int knumber, .int ksign, .int kfault, .int kplace, .long kword, .int ktold, .ref know, .ref kread, .ref kkept, .ref ksnaps, .ref kaside, .ref kname, .ref kreadName, .ref kkeptName, .ref kisKept, .ref konces, .int ksnapMany, .int khasCells, .ref kpoured, .ref kfar, .ref ksides, .int ksideMany, .int kwayDays, .int khasWay, .ref klines, .ref kmet, .int kmetMany, .ref ksunk, .ref ktrying, .int ksunkMany, .int ksending, .int kfleets, .ref ktext, .int ktexts, .int kseed, .ref kline, .ref kwritten, .int klineMany, .int khasWritten, .ref knode, .int knodes, .int konesMany, .int kwithin, .int ktop])), (know, .inl (ky 0, 373, .inl fw))] → va_S A H0 H locs → lv_has ls 4 [(3, .int (nI i)), (2, .int (nI n)), (0, .ref o), (1, .int (nI n))] → W p l e R s m args below meth c H locs 0 0 Q (F0 m 18 ls []) := by
  intro nN
  induction nN with
  | zero => intro i fw hi hnN; exfalso; omega
  | succ nN ih =>
    intro i fw hi hnN hL H locs ls hP hD hS hl
    refine lv_iload_n hx hb dX12_passDays_18 rfl (lv_at hl 0 rfl) ?_
    refine lv_iload_n hx hb dX12_passDays_19 rfl (lv_at hl 1 rfl) ?_
    refine n_icmp_ge (x := i) (y := n) (tgt := 33) hx hb (by omega) (by omega) dX12_passDays_20 (by decide) (fun c1 => ?_) (fun c1 => ?_)
    · exact kx i fw (by omega) hL H locs ls hP hD hS (lv_sub hl [0, 1, 2, 3] rfl)
    · refine lv_aload_n hx hb dX12_passDays_23 rfl (lv_at hl 2 rfl) ?_
      refine r_call_v (wr := []) (va_runV (As := []) (rest := []) ⟨hx, hb, hml, hown, hts⟩ (c_m_oneDay l dC dI ky H.size o kthrown ktape ktaped ksize klimit kto kfrom kkind knumber ksign kfault kplace kword ktold know kread kkept ksnaps kaside kname kreadName kkeptName kisKept konces ksnapMany khasCells kpoured kfar ksides ksideMany kwayDays khasWay klines kmet kmetMany ksunk ktrying ksunkMany ksending kfleets ktext ktexts kseed kline kwritten klineMany khasWritten knode knodes konesMany kwithin ktop fw hL) (cwV 0 hts gX12_passDays_X12_oneDay rfl rfl rfl (by decide +kernel) ⟨(Nat.le_trans (Nat.le_of_ble_eq_true rfl) hRf), (Nat.le_trans (Nat.le_of_ble_eq_true rfl) hRl)⟩) (pre_UV hK hP hD [0, 1] (by decide) rfl (ci := 12) (q0 := 0) rfl rfl) rfl rfl hl.1 rfl (lv_room (Nat.le_of_ble_eq_true rfl)) dX12_passDays_24 ⟨(Nat.le_trans (Nat.le_of_ble_eq_true rfl) hRc), (Nat.le_trans (Nat.le_of_ble_eq_true rfl) hRs)⟩) hP hD hS hA [0, 1] [] rfl rfl (by decide) (by decide) (fun  u2 H locs p3 hP hD hS => ?_)
      obtain ⟨knowG_4, rfl⟩ : ∃ z, z = u2 := ⟨_, rfl⟩
      try dsimp only at p3
      have p5 := p3
      have hP : va_P (dC, dI) vwCl [(o, .inr (12, [.int kthrown, .ref ktape, .int ktaped, .int ksize, .int klimit, .int kto, .int kfrom, .int kkind, .int knumber, .int ksign, .int kfault, .int kplace, .long kword, .int ktold, .ref know, .ref kread, .ref kkept, .ref ksnaps, .ref kaside, .ref kname, .ref kreadName, .ref kkeptName, .ref kisKept, .ref konces, .int ksnapMany, .int khasCells, .ref kpoured, .ref kfar, .ref ksides, .int ksideMany, .int kwayDays, .int khasWay, .ref klines, .ref kmet, .int kmetMany, .ref ksunk, .ref ktrying, .int ksunkMany, .int ksending, .int kfleets, .ref ktext, .int ktexts, .int kseed, .ref kline, .ref kwritten, .int klineMany, .int khasWritten, .ref knode, .int knodes, .int konesMany, .int kwithin, .int ktop])), (know, .inl (ky 0, 373, .inl knowG_4))] H := hP
      have hD : va_D A [(o, .inr (12, [.int kthrown, .ref ktape, .int ktaped, .int ksize, .int klimit, .int kto, .int kfrom, .int kkind, .int knumber, .int ksign, .int kfault, .int kplace, .long kword, .int ktold, .ref know, .ref kread, .ref kkept, .ref ksnaps, .ref kaside, .ref kname, .ref kreadName, .ref kkeptName, .ref kisKept, .ref konces, .int ksnapMany, .int khasCells, .ref kpoured, .ref kfar, .ref ksides, .int ksideMany, .int kwayDays, .int khasWay, .ref klines, .ref kmet, .int kmetMany, .ref ksunk, .ref ktrying, .int ksunkMany, .int ksending, .int kfleets, .ref ktext, .int ktexts, .int kseed, .ref kline, .ref kwritten, .int klineMany, .int khasWritten, .ref knode, .int knodes, .int konesMany, .int kwithin, .int ktop])), (know, .inl (ky 0, 373, .inl knowG_4))] := hD
      refine lv_iinc (v := nI (i + 1)) (lv' := [(3, .int (nI (i + 1))), (2, .int (nI n)), (0, .ref o), (1, .int (nI n))]) hx hb dX12_passDays_27 hl (k := 0) rfl (show nI i + nI 1 = nI (i + 1) from nI_add _ _) (by decide) rfl (fun ls hl => ?_)
      refine lv_goto (tgt := 18) hx hb dX12_passDays_30 (by decide) ?_
      exact ih (i + 1) knowG_4 (by omega) (by omega) (lf_lpm_passDays_1 o kthrown ktape ktaped ksize klimit kto kfrom kkind knumber ksign kfault kplace kword ktold know kread kkept ksnaps kaside kname kreadName kkeptName kisKept konces ksnapMany khasCells kpoured kfar ksides ksideMany kwayDays khasWay klines kmet kmetMany ksunk ktrying ksunkMany ksending kfleets ktext ktexts kseed kline kwritten klineMany khasWritten knode knodes konesMany kwithin ktop knowF n i fw knowG_4 hN hn hi hL c1 p5) _ _ _ hP hD hS (lv_sub hl [0, 1, 2, 3] rfl)
set_option maxRecDepth 20000 in
theorem lf_m_passDays_1 (o : Nat) (kthrown : Int32) (ktape : Nat) (ktaped : Int32) (ksize : Int32) (klimit : Int32) (kto : Int32) (kfrom : Int32) (kkind : Int32) (knumber : Int32) (ksign : Int32) (kfault : Int32) (kplace : Int32) (kword : Int64) (ktold : Int32) (know : Nat) (kread : Nat) (kkept : Nat) (ksnaps : Nat) (kaside : Nat) (kname : Nat) (kreadName : Nat) (kkeptName : Nat) (kisKept : Nat) (konces : Nat) (ksnapMany : Int32) (khasCells : Int32) (kpoured : Nat) (kfar : Nat) (ksides : Nat) (ksideMany : Int32) (kwayDays : Int32) (khasWay : Int32) (klines : Nat) (kmet : Nat) (kmetMany : Int32) (ksunk : Nat) (ktrying : Nat) (ksunkMany : Int32) (ksending : Int32) (kfleets : Int32) (ktext : Nat) (ktexts : Int32) (kseed : Int32) (kline : Nat) (kwritten : Nat) (klineMany : Int32) (khasWritten : Int32) (knode : Nat) (knodes : Int32) (konesMany : Int32) (kwithin : Int32) (ktop : Int32) (knowF : Nat → Int32) (n : Nat) (hN : NowOk knowF) (hn : n ≤ 60) : NowB knowF := by
  exact NowOk.b (by assumption)
set_option maxHeartbeats 4000000 in
set_option maxRecDepth 100000 in
theorem c_m_passDays (l : Launch) (dC : Nat → ClassId) (dI : Nat → Nat → Nat) (ky : Nat → ClassId) (sz : Nat) (o : Nat) (kthrown : Int32) (ktape : Nat) (ktaped : Int32) (ksize : Int32) (klimit : Int32) (kto : Int32) (kfrom : Int32) (kkind : Int32) (knumber : Int32) (ksign : Int32) (kfault : Int32) (kplace : Int32) (kword : Int64) (ktold : Int32) (know : Nat) (kread : Nat) (kkept : Nat) (ksnaps : Nat) (kaside : Nat) (kname : Nat) (kreadName : Nat) (kkeptName : Nat) (kisKept : Nat) (konces : Nat) (ksnapMany : Int32) (khasCells : Int32) (kpoured : Nat) (kfar : Nat) (ksides : Nat) (ksideMany : Int32) (kwayDays : Int32) (khasWay : Int32) (klines : Nat) (kmet : Nat) (kmetMany : Int32) (ksunk : Nat) (ktrying : Nat) (ksunkMany : Int32) (ksending : Int32) (kfleets : Int32) (ktext : Nat) (ktexts : Int32) (kseed : Int32) (kline : Nat) (kwritten : Nat) (klineMany : Int32) (khasWritten : Int32) (knode : Nat) (knodes : Int32) (konesMany : Int32) (kwithin : Int32) (ktop : Int32) (knowF : Nat → Int32) (n : Nat) (hN : NowOk knowF) (hn : n ≤ 60) : Met l yX12_passDays wsX12_passDays ({ frames := 2, cells := 0, slots := 0, locals := 42 }) (PcU dC dI ky [.ref o, .int (nI n)] [(o, .inr (12, [.int kthrown, .ref ktape, .int ktaped, .int ksize, .int klimit, .int kto, .int kfrom, .int kkind, .int knumber, .int ksign, .int kfault, .int kplace, .long kword, .int ktold, .ref know, .ref kread, .ref kkept, .ref ksnaps, .ref kaside, .ref kname, .ref kreadName, .ref kkeptName, .ref kisKept, .ref konces, .int ksnapMany, .int khasCells, .ref kpoured, .ref kfar, .ref ksides, .int ksideMany, .int kwayDays, .int khasWay, .ref klines, .ref kmet, .int kmetMany, .ref ksunk, .ref ktrying, .int ksunkMany, .int ksending, .int kfleets, .ref ktext, .int ktexts, .int kseed, .ref kline, .ref kwritten, .int klineMany, .int khasWritten, .ref knode, .int knodes, .int konesMany, .int kwithin, .int ktop])), (know, .inl (ky 0, 373, .inl knowF))] sz) (va_Qi (fun (r : Int32) (_ : Unit) => r = nI n) (BU dC dI ky (fun (_ : Unit) => []) (va_A [(o, .inr (12, [.int kthrown, .ref ktape, .int ktaped, .int ksize, .int klimit, .int kto, .int kfrom, .int kkind, .int knumber, .int ksign, .int kfault, .int kplace, .long kword, .int ktold, .ref know, .ref kread, .ref kkept, .ref ksnaps, .ref kaside, .ref kname, .ref kreadName, .ref kkeptName, .ref kisKept, .ref konces, .int ksnapMany, .int khasCells, .ref kpoured, .ref kfar, .ref ksides, .int ksideMany, .int kwayDays, .int khasWay, .ref klines, .ref kmet, .int kmetMany, .ref ksunk, .ref ktrying, .int ksunkMany, .int ksending, .int kfleets, .ref ktext, .int ktexts, .int kseed, .ref kline, .ref kwritten, .int klineMany, .int khasWritten, .ref knode, .int knodes, .int konesMany, .int kwithin, .int ktop])), (know, .inl (ky 0, 373, .inl knowF))] sz)) (va_A [(o, .inr (12, [.int kthrown, .ref ktape, .int ktaped, .int ksize, .int klimit, .int kto, .int kfrom, .int kkind, .int knumber, .int ksign, .int kfault, .int kplace, .long kword, .int ktold, .ref know, .ref kread, .ref kkept, .ref ksnaps, .ref kaside, .ref kname, .ref kreadName, .ref kkeptName, .ref kisKept, .ref konces, .int ksnapMany, .int khasCells, .ref kpoured, .ref kfar, .ref ksides, .int ksideMany, .int kwayDays, .int khasWay, .ref klines, .ref kmet, .int kmetMany, .ref ksunk, .ref ktrying, .int ksunkMany, .int ksending, .int kfleets, .ref ktext, .int ktexts, .int kseed, .ref kline, .ref kwritten, .int klineMany, .int khasWritten, .ref knode, .int knodes, .int konesMany, .int kwithin, .int ktop])), (know, .inl (ky 0, 373, .inl knowF))] sz)) 0 0 (va_A [(o, .inr (12, [.int kthrown, .ref ktape, .int ktaped, .int ksize, .int klimit, .int kto, .int kfrom, .int kkind, .int knumber, .int ksign, .int kfault, .int kplace, .long kword, .int ktold, .ref know, .ref kread, .ref kkept, .ref ksnaps, .ref kaside, .ref kname, .ref kreadName, .ref kkeptName, .ref kisKept, .ref konces, .int ksnapMany, .int khasCells, .ref kpoured, .ref kfar, .ref ksides, .int ksideMany, .int kwayDays, .int khasWay, .ref klines, .ref kmet, .int kmetMany, .ref ksunk, .ref ktrying, .int ksunkMany, .int ksending, .int kfleets, .ref ktext, .int ktexts, .int kseed, .ref kline, .ref kwritten, .int klineMany, .int khasWritten, .ref knode, .int knodes, .int konesMany, .int kwithin, .int ktop])), (know, .inl (ky 0, 373, .inl knowF))] sz) := by
  refine Met.ofW (cc := cX12_passDays) (maxL := 4) (ret := (some .int)) (by decide) rfl ?_
  intro p e s m args below meth c s₁ B hml hv
  obtain ⟨rfl, hsz, hP, hK, hD0⟩ := hv
  have hx := B.exec
  have hb := B.bytes
  have hr := B.returns
  have hts := atoms_spec (ws := wsX12_passDays) B.pre
  have hown : s.vm.findClass RX12 = some m.cls := findClass_of_methodNamed B.named
  have hlocks := B.notSynchronized
  have hin12 : ∀ w ∈ u_ws RX12 TX12 52, w ∈ wsX12_passDays := by decide +kernel
  subst hsz
  have hD := hD0.self (sz := s.heap.size)
  generalize hAe : va_A [(o, .inr (12, [.int kthrown, .ref ktape, .int ktaped, .int ksize, .int klimit, .int kto, .int kfrom, .int kkind, .int knumber, .int ksign, .int kfault, .int kplace, .long kword, .int ktold, .ref know, .ref kread, .ref kkept, .ref ksnaps, .ref kaside, .ref kname, .ref kreadName, .ref kkeptName, .ref kisKept, .ref konces, .int ksnapMany, .int khasCells, .ref kpoured, .ref kfar, .ref ksides, .int ksideMany, .int kwayDays, .int khasWay, .ref klines, .ref kmet, .int kmetMany, .ref ksunk, .ref ktrying, .int ksunkMany, .int ksending, .int kfleets, .ref ktext, .int ktexts, .int kseed, .ref kline, .ref kwritten, .int klineMany, .int khasWritten, .ref knode, .int knodes, .int konesMany, .int kwithin, .int ktop])), (know, .inl (ky 0, 373, .inl knowF))] s.heap.size = A at hD ⊢
  have hA : ∀ q : Nat, s.heap.size ≤ q → A q := fun q h => by rw [← hAe]; exact Or.inr h
  have hS : va_S A s.heap s.heap [] := va_S.rf
  have hP : va_P (dC, dI) vwCl [(o, .inr (12, [.int kthrown, .ref ktape, .int ktaped, .int ksize, .int klimit, .int kto, .int kfrom, .int kkind, .int knumber, .int ksign, .int kfault, .int kplace, .long kword, .int ktold, .ref know, .ref kread, .ref kkept, .ref ksnaps, .ref kaside, .ref kname, .ref kreadName, .ref kkeptName, .ref kisKept, .ref konces, .int ksnapMany, .int khasCells, .ref kpoured, .ref kfar, .ref ksides, .int ksideMany, .int kwayDays, .int khasWay, .ref klines, .ref kmet, .int kmetMany, .ref ksunk, .ref ktrying, .int ksunkMany, .int ksending, .int kfleets, .ref ktext, .int ktexts, .int kseed, .ref kline, .ref kwritten, .int klineMany, .int khasWritten, .ref knode, .int knodes, .int konesMany, .int kwithin, .int ktop])), (know, .inl (ky 0, 373, .inl knowF))] s.heap := hP
  have hl := lv_entry ([.ref o, .int (nI n)]) (n := 4) (Nat.le_of_ble_eq_true rfl)
  rw [lg_entry_eq]
  generalize (lg_sl ([.ref o, .int (nI n)]) ++ List.replicate (4 - (lg_sl ([.ref o, .int (nI n)])).length) Slot.unset).toArray = ls at hl ⊢
  have hl : lv_has ls 4 [(0, .ref o), (1, .int (nI n))] := hl
  have hH0 : True := trivial
  refine lv_iload_n hx hb dX12_passDays_0 rfl (lv_at hl 1 rfl) ?_
  refine lv_sipush (v := nI 400) hx hb dX12_passDays_1 (by decide) ?_
  refine lv_aload_n hx hb dX12_passDays_4 rfl (lv_at hl 0 rfl) ?_
  refine va_get (D := (dC, dI)) (ci := 12) (v := .ref know) (C := RX12) (T := TX12) (N := 52) hx hb hts hin12 hown hK hP 0 rfl rfl 14 (by decide) (hts (.fieldLink RX12 98 "PorridgeSeaModel" "now" "[I") (List.mem_of_getElem? (i := 1) rfl)) (fun _ h9 => h9) rfl dX12_passDays_5 ?_
  refine lv_bipush (v := nI 67) hx hb dX12_passDays_8 (by decide) ?_
  refine r_iald hx hb hK hP 1 rfl 67 (by decide) (by decide) (nI 0) hN.2.1 dX12_passDays_10 ?_
  refine lv_isub hx hb dX12_passDays_11 ?_
  refine r_ti (nI 400) (by decide) ?_
  refine vp_callSi (W.runS (As := [.int (nI n), .int (nI 400)]) (rest := []) ⟨hx, hb, hml, hown, hts⟩ (c_m_leastN l dC dI ky n (by omega)) (va_cwS 2 hts gX12_passDays_X12_least rfl rfl rfl (by decide +kernel) ⟨(Nat.le_of_ble_eq_true rfl), (Nat.le_of_ble_eq_true rfl)⟩) (pre_PS hK hP [] rfl) rfl rfl hl.1 rfl (lv_room (Nat.le_of_ble_eq_true rfl)) dX12_passDays_12 ⟨(Nat.le_of_ble_eq_true rfl), (Nat.le_of_ble_eq_true rfl)⟩) (fun r1 p2 => ?_)
  subst p2
  refine lv_istore_n (lv' := [(2, .int (nI n)), (0, .ref o), (1, .int (nI n))]) hx hb dX12_passDays_15 rfl hl (by decide) rfl (fun ls hl => ?_)
  refine lv_iconst (v := nI 0) hx hb dX12_passDays_16 (by decide) ?_
  refine lv_istore_n (lv' := [(3, .int (nI 0)), (2, .int (nI n)), (0, .ref o), (1, .int (nI n))]) hx hb dX12_passDays_17 rfl hl (by decide) rfl (fun ls hl => ?_)
  refine lp_m_passDays hx hb hml hown hts hK hA (Nat.le_of_ble_eq_true rfl) (Nat.le_of_ble_eq_true rfl) (Nat.le_of_ble_eq_true rfl) (Nat.le_of_ble_eq_true rfl) o kthrown ktape ktaped ksize klimit kto kfrom kkind knumber ksign kfault kplace kword ktold know kread kkept ksnaps kaside kname kreadName kkeptName kisKept konces ksnapMany khasCells kpoured kfar ksides ksideMany kwayDays khasWay klines kmet kmetMany ksunk ktrying ksunkMany ksending kfleets ktext ktexts kseed kline kwritten klineMany khasWritten knode knodes konesMany kwithin ktop knowF n hN hn ?_ (n + 1) 0 knowF (by omega) (by omega) (lf_m_passDays_1 o kthrown ktape ktaped ksize klimit kto kfrom kkind knumber ksign kfault kplace kword ktold know kread kkept ksnaps kaside kname kreadName kkeptName kisKept konces ksnapMany khasCells kpoured kfar ksides ksideMany kwayDays khasWay klines kmet kmetMany ksunk ktrying ksunkMany ksending kfleets ktext ktexts kseed kline kwritten klineMany khasWritten knode knodes konesMany kwithin ktop knowF n hN hn) _ _ _ hP hD hS (lv_sub hl [0, 1, 2, 3] rfl)
  intro i fw hiN hL H locs ls hP hD hS hl
  subst hiN
  refine lv_iload_n hx hb dX12_passDays_33 rfl (lv_at hl 1 rfl) ?_
  have hP9 := hP.sub (ws' := []) [] rfl
  have hD9 := hD.sub (ws' := []) [] (by decide) rfl
  refine W.widen (k := 0) (n := 0) (Nat.le_of_ble_eq_true rfl) (Nat.le_of_ble_eq_true rfl) ?_
  exact W.iret (v := nI n) hx hb hr (fun t ht9 hW9 => ⟨⟨nI n, (), rfl, rfl, by rw [ht9]; exact hP9, va_K.moved hW9.alike hK, hD9⟩, hS.F ht9⟩) hS.2.2 dX12_passDays_34
set_option maxRecDepth 20000 in
theorem lf_m_days_1 (o : Nat) (ktape : Nat) (know : Nat) (kread : Nat) (kkept : Nat) (ksnaps : Nat) (kaside : Nat) (kname : Nat) (kreadName : Nat) (kkeptName : Nat) (kisKept : Nat) (konces : Nat) (kpoured : Nat) (kfar : Nat) (ksides : Nat) (klines : Nat) (kmet : Nat) (ksunk : Nat) (ktrying : Nat) (ktext : Nat) (kline : Nat) (kwritten : Nat) (knode : Nat) (knowF : Nat → Int32) (ksnapsF : Nat → Int32) (x : Int32) (r1 : Int32) (hN : NowOk knowF) (p2 : (r1 = nI 1 ∧ (nI 1).toInt ≤ x.toInt ∧ x.toInt ≤ (nI 60).toInt) ∨ (r1 = nI 0 ∧ ¬ ((nI 1).toInt ≤ x.toInt ∧ x.toInt ≤ (nI 60).toInt))) (c3 : r1 ≠ 0) : 0 ≤ x.toInt ∧ x.toInt < ((61 : Nat) : Int) := by
  have k_0 := ia_n 1 (by decide)
  have k_1 := ia_n 60 (by decide)
  have k_2 := ia_n 0 (by decide)
  try simp only [ia_lt, ia_le, ia_eq, ia_m1, ia_0, ia_1, ne_eq, true_and, and_true, false_and, and_false, or_false, false_or, or_true, true_or, not_true_eq_false, not_false_eq_true] at *
  all_goals omega
set_option maxRecDepth 20000 in
theorem lf_m_days_2 (o : Nat) (ktape : Nat) (know : Nat) (kread : Nat) (kkept : Nat) (ksnaps : Nat) (kaside : Nat) (kname : Nat) (kreadName : Nat) (kkeptName : Nat) (kisKept : Nat) (konces : Nat) (kpoured : Nat) (kfar : Nat) (ksides : Nat) (klines : Nat) (kmet : Nat) (ksunk : Nat) (ktrying : Nat) (ktext : Nat) (kline : Nat) (kwritten : Nat) (knode : Nat) (knowF : Nat → Int32) (ksnapsF : Nat → Int32) (r1 : Int32) (xn : Nat) (ksnapsG_8 : Nat → Int32) (hN : NowOk knowF) (p2 : (r1 = nI 1 ∧ (nI 1).toInt ≤ (nI xn).toInt ∧ (nI xn).toInt ≤ (nI 60).toInt) ∨ (r1 = nI 0 ∧ ¬ ((nI 1).toInt ≤ (nI xn).toInt ∧ (nI xn).toInt ≤ (nI 60).toInt))) (c3 : r1 ≠ 0) (h4 : xn < 61) : ((nI xn) = (-1 : Int32) ∧ ¬ (1 ≤ (nI xn).toInt ∧ (nI xn).toInt ≤ 60)) ∨ ((nI xn) = (nI xn) ∧ 1 ≤ (nI xn).toInt ∧ (nI xn).toInt ≤ 60) := by
  have k_0 := ia_n 1 (by decide)
  have k_1 := ia_n xn (by omega)
  have k_2 := ia_n 60 (by decide)
  have k_3 := ia_n 0 (by decide)
  try simp only [ia_lt, ia_le, ia_eq, ia_m1, ia_0, ia_1, ne_eq, true_and, and_true, false_and, and_false, or_false, false_or, or_true, true_or, not_true_eq_false, not_false_eq_true] at *
  all_goals omega
set_option maxRecDepth 20000 in
theorem lf_m_days_3 (o : Nat) (ktape : Nat) (know : Nat) (kread : Nat) (kkept : Nat) (ksnaps : Nat) (kaside : Nat) (kname : Nat) (kreadName : Nat) (kkeptName : Nat) (kisKept : Nat) (konces : Nat) (kpoured : Nat) (kfar : Nat) (ksides : Nat) (klines : Nat) (kmet : Nat) (ksunk : Nat) (ktrying : Nat) (ktext : Nat) (kline : Nat) (kwritten : Nat) (knode : Nat) (knowF : Nat → Int32) (ksnapsF : Nat → Int32) (x : Int32) (r1 : Int32) (hN : NowOk knowF) (p2 : (r1 = nI 1 ∧ (nI 1).toInt ≤ x.toInt ∧ x.toInt ≤ (nI 60).toInt) ∨ (r1 = nI 0 ∧ ¬ ((nI 1).toInt ≤ x.toInt ∧ x.toInt ≤ (nI 60).toInt))) (c3 : r1 = 0) : ((-1 : Int32) = (-1 : Int32) ∧ ¬ (1 ≤ x.toInt ∧ x.toInt ≤ 60)) ∨ ((-1 : Int32) = x ∧ 1 ≤ x.toInt ∧ x.toInt ≤ 60) := by
  have k_0 := ia_n 1 (by decide)
  have k_1 := ia_n 60 (by decide)
  have k_2 := ia_n 0 (by decide)
  try simp only [ia_lt, ia_le, ia_eq, ia_m1, ia_0, ia_1, ne_eq, true_and, and_true, false_and, and_false, or_false, false_or, or_true, true_or, not_true_eq_false, not_false_eq_true] at *
  all_goals omega
set_option maxHeartbeats 4000000 in
set_option maxRecDepth 100000 in
theorem c_m_days (l : Launch) (dC : Nat → ClassId) (dI : Nat → Nat → Nat) (ky : Nat → ClassId) (sz : Nat) (o : Nat) (ktape : Nat) (know : Nat) (kread : Nat) (kkept : Nat) (ksnaps : Nat) (kaside : Nat) (kname : Nat) (kreadName : Nat) (kkeptName : Nat) (kisKept : Nat) (konces : Nat) (kpoured : Nat) (kfar : Nat) (ksides : Nat) (klines : Nat) (kmet : Nat) (ksunk : Nat) (ktrying : Nat) (ktext : Nat) (kline : Nat) (kwritten : Nat) (knode : Nat) (knowF : Nat → Int32) (ksnapsF : Nat → Int32) (x : Int32) (hN : NowOk knowF) : Met l yX12_days wsX12_days ({ frames := 3, cells := 0, slots := 0, locals := 65 }) (PcU dC dI ky [.ref o, .int x] [(o, .inr (12, [.int (nI 0), .ref ktape, .int (nI 0), .int (nI 0), .int (nI 0), .int (nI 0), .int (nI 0), .int (nI 0), .int (nI 0), .int (nI 0), .int (nI 0), .int (nI 0), .long 0, .int (nI 0), .ref know, .ref kread, .ref kkept, .ref ksnaps, .ref kaside, .ref kname, .ref kreadName, .ref kkeptName, .ref kisKept, .ref konces, .int (nI 0), .int (nI 0), .ref kpoured, .ref kfar, .ref ksides, .int (nI 0), .int (-1 : Int32), .int (nI 0), .ref klines, .ref kmet, .int (nI 0), .ref ksunk, .ref ktrying, .int (nI 0), .int (-1 : Int32), .int (-1 : Int32), .ref ktext, .int (nI 0), .int (nI 0), .ref kline, .ref kwritten, .int (nI 0), .int (nI 0), .ref knode, .int (nI 0), .int (nI 0), .int (nI 0), .int (nI 0)])), (know, .inl (ky 0, 373, .inl knowF)), (ksnaps, .inl (ky 0, 512, .inl ksnapsF))] sz) (va_Qi (fun (r : Int32) (_ : Unit) => (r = (-1 : Int32) ∧ ¬ (1 ≤ x.toInt ∧ x.toInt ≤ 60)) ∨ (r = x ∧ 1 ≤ x.toInt ∧ x.toInt ≤ 60)) (BU dC dI ky (fun (_ : Unit) => []) (va_A [(o, .inr (12, [.int (nI 0), .ref ktape, .int (nI 0), .int (nI 0), .int (nI 0), .int (nI 0), .int (nI 0), .int (nI 0), .int (nI 0), .int (nI 0), .int (nI 0), .int (nI 0), .long 0, .int (nI 0), .ref know, .ref kread, .ref kkept, .ref ksnaps, .ref kaside, .ref kname, .ref kreadName, .ref kkeptName, .ref kisKept, .ref konces, .int (nI 0), .int (nI 0), .ref kpoured, .ref kfar, .ref ksides, .int (nI 0), .int (-1 : Int32), .int (nI 0), .ref klines, .ref kmet, .int (nI 0), .ref ksunk, .ref ktrying, .int (nI 0), .int (-1 : Int32), .int (-1 : Int32), .ref ktext, .int (nI 0), .int (nI 0), .ref kline, .ref kwritten, .int (nI 0), .int (nI 0), .ref knode, .int (nI 0), .int (nI 0), .int (nI 0), .int (nI 0)])), (know, .inl (ky 0, 373, .inl knowF)), (ksnaps, .inl (ky 0, 512, .inl ksnapsF))] sz)) (va_A [(o, .inr (12, [.int (nI 0), .ref ktape, .int (nI 0), .int (nI 0), .int (nI 0), .int (nI 0), .int (nI 0), .int (nI 0), .int (nI 0), .int (nI 0), .int (nI 0), .int (nI 0), .long 0, .int (nI 0), .ref know, .ref kread, .ref kkept, .ref ksnaps, .ref kaside, .ref kname, .ref kreadName, .ref kkeptName, .ref kisKept, .ref konces, .int (nI 0), .int (nI 0), .ref kpoured, .ref kfar, .ref ksides, .int (nI 0), .int (-1 : Int32), .int (nI 0), .ref klines, .ref kmet, .int (nI 0), .ref ksunk, .ref ktrying, .int (nI 0), .int (-1 : Int32), .int (-1 : Int32), .ref ktext, .int (nI 0), .int (nI 0), .ref kline, .ref kwritten, .int (nI 0), .int (nI 0), .ref knode, .int (nI 0), .int (nI 0), .int (nI 0), .int (nI 0)])), (know, .inl (ky 0, 373, .inl knowF)), (ksnaps, .inl (ky 0, 512, .inl ksnapsF))] sz)) 0 0 (va_A [(o, .inr (12, [.int (nI 0), .ref ktape, .int (nI 0), .int (nI 0), .int (nI 0), .int (nI 0), .int (nI 0), .int (nI 0), .int (nI 0), .int (nI 0), .int (nI 0), .int (nI 0), .long 0, .int (nI 0), .ref know, .ref kread, .ref kkept, .ref ksnaps, .ref kaside, .ref kname, .ref kreadName, .ref kkeptName, .ref kisKept, .ref konces, .int (nI 0), .int (nI 0), .ref kpoured, .ref kfar, .ref ksides, .int (nI 0), .int (-1 : Int32), .int (nI 0), .ref klines, .ref kmet, .int (nI 0), .ref ksunk, .ref ktrying, .int (nI 0), .int (-1 : Int32), .int (-1 : Int32), .ref ktext, .int (nI 0), .int (nI 0), .ref kline, .ref kwritten, .int (nI 0), .int (nI 0), .ref knode, .int (nI 0), .int (nI 0), .int (nI 0), .int (nI 0)])), (know, .inl (ky 0, 373, .inl knowF)), (ksnaps, .inl (ky 0, 512, .inl ksnapsF))] sz) := by
  refine Met.ofW (cc := cX12_days) (maxL := 2) (ret := (some .int)) (by decide) rfl ?_
  intro p e s m args below meth c s₁ B hml hv
  obtain ⟨rfl, hsz, hP, hK, hD0⟩ := hv
  have hx := B.exec
  have hb := B.bytes
  have hr := B.returns
  have hts := atoms_spec (ws := wsX12_days) B.pre
  have hown : s.vm.findClass RX12 = some m.cls := findClass_of_methodNamed B.named
  have hlocks := B.notSynchronized
  have hin12 : ∀ w ∈ u_ws RX12 TX12 52, w ∈ wsX12_days := by decide +kernel
  subst hsz
  have hD := hD0.self (sz := s.heap.size)
  generalize hAe : va_A [(o, .inr (12, [.int (nI 0), .ref ktape, .int (nI 0), .int (nI 0), .int (nI 0), .int (nI 0), .int (nI 0), .int (nI 0), .int (nI 0), .int (nI 0), .int (nI 0), .int (nI 0), .long 0, .int (nI 0), .ref know, .ref kread, .ref kkept, .ref ksnaps, .ref kaside, .ref kname, .ref kreadName, .ref kkeptName, .ref kisKept, .ref konces, .int (nI 0), .int (nI 0), .ref kpoured, .ref kfar, .ref ksides, .int (nI 0), .int (-1 : Int32), .int (nI 0), .ref klines, .ref kmet, .int (nI 0), .ref ksunk, .ref ktrying, .int (nI 0), .int (-1 : Int32), .int (-1 : Int32), .ref ktext, .int (nI 0), .int (nI 0), .ref kline, .ref kwritten, .int (nI 0), .int (nI 0), .ref knode, .int (nI 0), .int (nI 0), .int (nI 0), .int (nI 0)])), (know, .inl (ky 0, 373, .inl knowF)), (ksnaps, .inl (ky 0, 512, .inl ksnapsF))] s.heap.size = A at hD ⊢
  have hA : ∀ q : Nat, s.heap.size ≤ q → A q := fun q h => by rw [← hAe]; exact Or.inr h
  have hS : va_S A s.heap s.heap [] := va_S.rf
  have hP : va_P (dC, dI) vwCl [(o, .inr (12, [.int (nI 0), .ref ktape, .int (nI 0), .int (nI 0), .int (nI 0), .int (nI 0), .int (nI 0), .int (nI 0), .int (nI 0), .int (nI 0), .int (nI 0), .int (nI 0), .long 0, .int (nI 0), .ref know, .ref kread, .ref kkept, .ref ksnaps, .ref kaside, .ref kname, .ref kreadName, .ref kkeptName, .ref kisKept, .ref konces, .int (nI 0), .int (nI 0), .ref kpoured, .ref kfar, .ref ksides, .int (nI 0), .int (-1 : Int32), .int (nI 0), .ref klines, .ref kmet, .int (nI 0), .ref ksunk, .ref ktrying, .int (nI 0), .int (-1 : Int32), .int (-1 : Int32), .ref ktext, .int (nI 0), .int (nI 0), .ref kline, .ref kwritten, .int (nI 0), .int (nI 0), .ref knode, .int (nI 0), .int (nI 0), .int (nI 0), .int (nI 0)])), (know, .inl (ky 0, 373, .inl knowF)), (ksnaps, .inl (ky 0, 512, .inl ksnapsF))] s.heap := hP
  have hl := lv_entry ([.ref o, .int x]) (n := 2) (Nat.le_of_ble_eq_true rfl)
  rw [lg_entry_eq]
  generalize (lg_sl ([.ref o, .int x]) ++ List.replicate (2 - (lg_sl ([.ref o, .int x])).length) Slot.unset).toArray = ls at hl ⊢
  have hl : lv_has ls 2 [(0, .ref o), (1, .int x)] := hl
  have hH0 : True := trivial
  refine lv_aload_n hx hb dX12_days_0 rfl (lv_at hl 0 rfl) ?_
  refine lv_iconst (v := nI 0) hx hb dX12_days_1 (by decide) ?_
  refine va_put (D := (dC, dI)) (ci := 12) (v := .int (nI 0)) (ty := .int) (C := RX12) (T := TX12) (N := 52) hx hb hts hin12 tyX12 tyX12_ok nmX12 hown hK hP hD hS 0 rfl rfl 0 (by decide) (hts (.fieldLink RX12 1 "PorridgeSeaModel" "thrown" "I") (List.mem_of_getElem? (i := 1) rfl)) (fun _ h9 => h9) rfl (by decide +kernel) rfl rfl (Nat.le_of_ble_eq_true rfl) dX12_days_2 (fun H locs hP hD hS => ?_)
  have hP : va_P (dC, dI) vwCl [(o, .inr (12, [.int (nI 0), .ref ktape, .int (nI 0), .int (nI 0), .int (nI 0), .int (nI 0), .int (nI 0), .int (nI 0), .int (nI 0), .int (nI 0), .int (nI 0), .int (nI 0), .long 0, .int (nI 0), .ref know, .ref kread, .ref kkept, .ref ksnaps, .ref kaside, .ref kname, .ref kreadName, .ref kkeptName, .ref kisKept, .ref konces, .int (nI 0), .int (nI 0), .ref kpoured, .ref kfar, .ref ksides, .int (nI 0), .int (-1 : Int32), .int (nI 0), .ref klines, .ref kmet, .int (nI 0), .ref ksunk, .ref ktrying, .int (nI 0), .int (-1 : Int32), .int (-1 : Int32), .ref ktext, .int (nI 0), .int (nI 0), .ref kline, .ref kwritten, .int (nI 0), .int (nI 0), .ref knode, .int (nI 0), .int (nI 0), .int (nI 0), .int (nI 0)])), (know, .inl (ky 0, 373, .inl knowF)), (ksnaps, .inl (ky 0, 512, .inl ksnapsF))] H := hP
  have hD : va_D A [(o, .inr (12, [.int (nI 0), .ref ktape, .int (nI 0), .int (nI 0), .int (nI 0), .int (nI 0), .int (nI 0), .int (nI 0), .int (nI 0), .int (nI 0), .int (nI 0), .int (nI 0), .long 0, .int (nI 0), .ref know, .ref kread, .ref kkept, .ref ksnaps, .ref kaside, .ref kname, .ref kreadName, .ref kkeptName, .ref kisKept, .ref konces, .int (nI 0), .int (nI 0), .ref kpoured, .ref kfar, .ref ksides, .int (nI 0), .int (-1 : Int32), .int (nI 0), .ref klines, .ref kmet, .int (nI 0), .ref ksunk, .ref ktrying, .int (nI 0), .int (-1 : Int32), .int (-1 : Int32), .ref ktext, .int (nI 0), .int (nI 0), .ref kline, .ref kwritten, .int (nI 0), .int (nI 0), .ref knode, .int (nI 0), .int (nI 0), .int (nI 0), .int (nI 0)])), (know, .inl (ky 0, 373, .inl knowF)), (ksnaps, .inl (ky 0, 512, .inl ksnapsF))] := hD
  refine lv_iload_n hx hb dX12_days_5 rfl (lv_at hl 1 rfl) ?_
  refine lv_iconst (v := nI 1) hx hb dX12_days_6 (by decide) ?_
  refine lv_bipush (v := nI 60) hx hb dX12_days_7 (by decide) ?_
  refine vp_callSi (W.runS (As := [.int x, .int (nI 1), .int (nI 60)]) (rest := []) ⟨hx, hb, hml, hown, hts⟩ (c_isIn l dC dI ky x (nI 1) (nI 60)) (va_cwS 3 hts gX12_days_X12_isIn rfl rfl rfl (by decide +kernel) ⟨(Nat.le_of_ble_eq_true rfl), (Nat.le_of_ble_eq_true rfl)⟩) (pre_PS hK hP [] rfl) rfl rfl hl.1 rfl (lv_room (Nat.le_of_ble_eq_true rfl)) dX12_days_9 ⟨(Nat.le_of_ble_eq_true rfl), (Nat.le_of_ble_eq_true rfl)⟩) (fun r1 p2 => ?_)
  refine lv_if_ne (tgt := 17) hx hb dX12_days_12 (by decide) (fun c3 => ?_) (fun c3 => ?_)
  · obtain ⟨xn, h4, rfl⟩ := nat_of x 61 (by decide) (lf_m_days_1 o ktape know kread kkept ksnaps kaside kname kreadName kkeptName kisKept konces kpoured kfar ksides klines kmet ksunk ktrying ktext kline kwritten knode knowF ksnapsF x r1 hN p2 c3)
    refine lv_aload_n hx hb dX12_days_17 rfl (lv_at hl 0 rfl) ?_
    refine va_get (D := (dC, dI)) (ci := 12) (v := .ref know) (C := RX12) (T := TX12) (N := 52) hx hb hts hin12 hown hK hP 0 rfl rfl 14 (by decide) (hts (.fieldLink RX12 98 "PorridgeSeaModel" "now" "[I") (List.mem_of_getElem? (i := 2) rfl)) (fun _ h9 => h9) rfl dX12_days_18 ?_
    refine lv_bipush (v := nI 67) hx hb dX12_days_21 (by decide) ?_
    refine r_iald hx hb hK hP 1 rfl 67 (by decide) (by decide) (nI 0) hN.2.1 dX12_days_23 ?_
    refine lv_sipush (v := nI 400) hx hb dX12_days_24 (by decide) ?_
    refine lv_icmp_ne (tgt := 32) hx hb dX12_days_27 (by decide) (fun c5 => ?_) (fun c5 => absurd c5 (by decide))
    refine lv_aload_n hx hb dX12_days_32 rfl (lv_at hl 0 rfl) ?_
    refine r_call_v (wr := []) (va_runV (As := []) (rest := []) ⟨hx, hb, hml, hown, hts⟩ (c_m_snap l dC dI ky H.size o (nI 0) ktape (nI 0) (nI 0) (nI 0) (nI 0) (nI 0) (nI 0) (nI 0) (nI 0) (nI 0) (nI 0) 0 (nI 0) know kread kkept ksnaps kaside kname kreadName kkeptName kisKept konces (nI 0) kpoured kfar ksides (nI 0) (-1 : Int32) (nI 0) klines kmet (nI 0) ksunk ktrying (nI 0) (-1 : Int32) (-1 : Int32) ktext (nI 0) (nI 0) kline kwritten (nI 0) (nI 0) knode (nI 0) (nI 0) (nI 0) (nI 0) knowF ksnapsF) (cwV 0 hts gX12_days_X12_snap rfl rfl rfl (by decide +kernel) ⟨(Nat.le_of_ble_eq_true rfl), (Nat.le_of_ble_eq_true rfl)⟩) (pre_UV hK hP hD [0, 1, 2] (by decide) rfl (ci := 12) (q0 := 0) rfl rfl) rfl rfl hl.1 rfl (lv_room (Nat.le_of_ble_eq_true rfl)) dX12_days_33 ⟨(Nat.le_of_ble_eq_true rfl), (Nat.le_of_ble_eq_true rfl)⟩) hP hD hS hA [0, 1, 2] [] rfl rfl (by decide) (by decide) (fun  u6 H locs p7 hP hD hS => ?_)
    obtain ⟨ksnapsG_8, rfl⟩ : ∃ z, z = u6 := ⟨_, rfl⟩
    refine W.widen (k := 0) (n := 0) (Nat.le_of_ble_eq_true rfl) (Nat.le_of_ble_eq_true rfl) ?_
    have hP : va_P (dC, dI) vwCl [(o, .inr (12, [.int (nI 0), .ref ktape, .int (nI 0), .int (nI 0), .int (nI 0), .int (nI 0), .int (nI 0), .int (nI 0), .int (nI 0), .int (nI 0), .int (nI 0), .int (nI 0), .long 0, .int (nI 0), .ref know, .ref kread, .ref kkept, .ref ksnaps, .ref kaside, .ref kname, .ref kreadName, .ref kkeptName, .ref kisKept, .ref konces, .int (nI 1), .int (nI 0), .ref kpoured, .ref kfar, .ref ksides, .int (nI 0), .int (-1 : Int32), .int (nI 0), .ref klines, .ref kmet, .int (nI 0), .ref ksunk, .ref ktrying, .int (nI 0), .int (-1 : Int32), .int (-1 : Int32), .ref ktext, .int (nI 0), .int (nI 0), .ref kline, .ref kwritten, .int (nI 0), .int (nI 0), .ref knode, .int (nI 0), .int (nI 0), .int (nI 0), .int (nI 0)])), (know, .inl (ky 0, 373, .inl knowF)), (ksnaps, .inl (ky 0, 512, .inl ksnapsG_8))] H := hP
    have hD : va_D A [(o, .inr (12, [.int (nI 0), .ref ktape, .int (nI 0), .int (nI 0), .int (nI 0), .int (nI 0), .int (nI 0), .int (nI 0), .int (nI 0), .int (nI 0), .int (nI 0), .int (nI 0), .long 0, .int (nI 0), .ref know, .ref kread, .ref kkept, .ref ksnaps, .ref kaside, .ref kname, .ref kreadName, .ref kkeptName, .ref kisKept, .ref konces, .int (nI 1), .int (nI 0), .ref kpoured, .ref kfar, .ref ksides, .int (nI 0), .int (-1 : Int32), .int (nI 0), .ref klines, .ref kmet, .int (nI 0), .ref ksunk, .ref ktrying, .int (nI 0), .int (-1 : Int32), .int (-1 : Int32), .ref ktext, .int (nI 0), .int (nI 0), .ref kline, .ref kwritten, .int (nI 0), .int (nI 0), .ref knode, .int (nI 0), .int (nI 0), .int (nI 0), .int (nI 0)])), (know, .inl (ky 0, 373, .inl knowF)), (ksnaps, .inl (ky 0, 512, .inl ksnapsG_8))] := hD
    refine lv_aload_n hx hb dX12_days_36 rfl (lv_at hl 0 rfl) ?_
    refine lv_iload_n hx hb dX12_days_37 rfl (lv_at hl 1 rfl) ?_
    refine r_call_i (wr := [(ksnaps, .inl (ky 0, 512, .inl ksnapsG_8))]) (va_runV (As := [.int (nI xn)]) (rest := []) ⟨hx, hb, hml, hown, hts⟩ (c_m_passDays l dC dI ky H.size o (nI 0) ktape (nI 0) (nI 0) (nI 0) (nI 0) (nI 0) (nI 0) (nI 0) (nI 0) (nI 0) (nI 0) 0 (nI 0) know kread kkept ksnaps kaside kname kreadName kkeptName kisKept konces (nI 1) (nI 0) kpoured kfar ksides (nI 0) (-1 : Int32) (nI 0) klines kmet (nI 0) ksunk ktrying (nI 0) (-1 : Int32) (-1 : Int32) ktext (nI 0) (nI 0) kline kwritten (nI 0) (nI 0) knode (nI 0) (nI 0) (nI 0) (nI 0) knowF xn hN (by omega)) (cwV 1 hts gX12_days_X12_passDays rfl rfl rfl (by decide +kernel) ⟨(Nat.le_of_ble_eq_true rfl), (Nat.le_of_ble_eq_true rfl)⟩) (pre_UV hK hP hD [0, 1] (by decide) rfl (ci := 12) (q0 := 0) rfl rfl) rfl rfl hl.1 rfl (lv_room (Nat.le_of_ble_eq_true rfl)) dX12_days_38 ⟨(Nat.le_of_ble_eq_true rfl), (Nat.le_of_ble_eq_true rfl)⟩) hP hD hS hA [0, 1] [2] rfl rfl (by decide) (by decide) (fun r11 u9 H locs p10 hP hD hS => ?_)
    try dsimp only at p10
    have p12 := p10
    refine W.widen (k := 0) (n := 0) (Nat.le_of_ble_eq_true rfl) (Nat.le_of_ble_eq_true rfl) ?_
    have hP : va_P (dC, dI) vwCl [(ksnaps, .inl (ky 0, 512, .inl ksnapsG_8))] H := hP
    have hD : va_D A [(ksnaps, .inl (ky 0, 512, .inl ksnapsG_8))] := hD
    subst p12
    have hP9 := hP.sub (ws' := []) [] rfl
    have hD9 := hD.sub (ws' := []) [] (by decide) rfl
    refine W.widen (k := 0) (n := 0) (Nat.le_of_ble_eq_true rfl) (Nat.le_of_ble_eq_true rfl) ?_
    exact W.iret (v := nI xn) hx hb hr (fun t ht9 hW9 => ⟨⟨nI xn, (), rfl, (lf_m_days_2 o ktape know kread kkept ksnaps kaside kname kreadName kkeptName kisKept konces kpoured kfar ksides klines kmet ksunk ktrying ktext kline kwritten knode knowF ksnapsF r1 xn ksnapsG_8 hN p2 c3 h4), by rw [ht9]; exact hP9, va_K.moved hW9.alike hK, hD9⟩, hS.F ht9⟩) hS.2.2 dX12_days_41
  · refine lv_iconst (v := (-1 : Int32)) hx hb dX12_days_15 (by decide) ?_
    have hP9 := hP.sub (ws' := []) [] rfl
    have hD9 := hD.sub (ws' := []) [] (by decide) rfl
    refine W.widen (k := 0) (n := 0) (Nat.le_of_ble_eq_true rfl) (Nat.le_of_ble_eq_true rfl) ?_
    exact W.iret (v := (-1 : Int32)) hx hb hr (fun t ht9 hW9 => ⟨⟨(-1 : Int32), (), rfl, (lf_m_days_3 o ktape know kread kkept ksnaps kaside kname kreadName kkeptName kisKept konces kpoured kfar ksides klines kmet ksunk ktrying ktext kline kwritten knode knowF ksnapsF x r1 hN p2 c3), by rw [ht9]; exact hP9, va_K.moved hW9.alike hK, hD9⟩, hS.F ht9⟩) hS.2.2 dX12_days_16
