theorem dX11_stir_0 : decode cX11_stir 0 = .ok (.aload_n 0, 1) := by decide +kernel
theorem dX11_stir_1 : decode cX11_stir 1 = .ok (.getfield 26, 3) := by decide +kernel
theorem dX11_stir_4 : decode cX11_stir 4 = .ok (.iload_n 1, 1) := by decide +kernel
theorem dX11_stir_5 : decode cX11_stir 5 = .ok (.iload_n 2, 1) := by decide +kernel
theorem dX11_stir_6 : decode cX11_stir 6 = .ok (.iload_n 3, 1) := by decide +kernel
theorem dX11_stir_7 : decode cX11_stir 7 = .ok (.invokevirtual 215, 3) := by decide +kernel
theorem dX11_stir_10 : decode cX11_stir 10 = .ok (.istore 4, 2) := by decide +kernel
theorem dX11_stir_12 : decode cX11_stir 12 = .ok (.iload 4, 2) := by decide +kernel
theorem dX11_stir_14 : decode cX11_stir 14 = .ok (.ifCond .ne 24, 3) := by decide +kernel
theorem dX11_stir_38 : decode cX11_stir 38 = .ok (.iload 4, 2) := by decide +kernel
theorem dX11_stir_40 : decode cX11_stir 40 = .ok (.ireturn, 1) := by decide +kernel
theorem dX11_stir_17 : decode cX11_stir 17 = .ok (.aload_n 0, 1) := by decide +kernel
theorem dX11_stir_18 : decode cX11_stir 18 = .ok (.getfield 88, 3) := by decide +kernel
theorem dX11_stir_21 : decode cX11_stir 21 = .ok (.aload_n 0, 1) := by decide +kernel
theorem dX11_stir_22 : decode cX11_stir 22 = .ok (.getfield 26, 3) := by decide +kernel
theorem dX11_stir_25 : decode cX11_stir 25 = .ok (.invokevirtual 219, 3) := by decide +kernel
theorem dX11_stir_28 : decode cX11_stir 28 = .ok (.aload_n 0, 1) := by decide +kernel
theorem dX11_stir_29 : decode cX11_stir 29 = .ok (.getfield 26, 3) := by decide +kernel
theorem dX11_stir_32 : decode cX11_stir 32 = .ok (.iload_n 1, 1) := by decide +kernel
theorem dX11_stir_33 : decode cX11_stir 33 = .ok (.iload_n 2, 1) := by decide +kernel
theorem dX11_stir_34 : decode cX11_stir 34 = .ok (.iload_n 3, 1) := by decide +kernel
theorem dX11_stir_35 : decode cX11_stir 35 = .ok (.invokevirtual 223, 3) := by decide +kernel
theorem dX11_row_0 : decode cX11_row 0 = .ok (.aload_n 0, 1) := by decide +kernel
theorem dX11_row_1 : decode cX11_row 1 = .ok (.getfield 26, 3) := by decide +kernel
theorem dX11_row_4 : decode cX11_row 4 = .ok (.iload_n 1, 1) := by decide +kernel
theorem dX11_row_5 : decode cX11_row 5 = .ok (.iload_n 2, 1) := by decide +kernel
theorem dX11_row_6 : decode cX11_row 6 = .ok (.invokevirtual 227, 3) := by decide +kernel
theorem dX11_row_9 : decode cX11_row 9 = .ok (.istore_n 3, 1) := by decide +kernel
theorem dX11_row_10 : decode cX11_row 10 = .ok (.iload_n 3, 1) := by decide +kernel
theorem dX11_row_11 : decode cX11_row 11 = .ok (.ifCond .ne 23, 3) := by decide +kernel
theorem dX11_row_34 : decode cX11_row 34 = .ok (.iload_n 3, 1) := by decide +kernel
theorem dX11_row_35 : decode cX11_row 35 = .ok (.ireturn, 1) := by decide +kernel
theorem dX11_row_14 : decode cX11_row 14 = .ok (.aload_n 0, 1) := by decide +kernel
theorem dX11_row_15 : decode cX11_row 15 = .ok (.getfield 88, 3) := by decide +kernel
theorem dX11_row_18 : decode cX11_row 18 = .ok (.aload_n 0, 1) := by decide +kernel
theorem dX11_row_19 : decode cX11_row 19 = .ok (.getfield 26, 3) := by decide +kernel
theorem dX11_row_22 : decode cX11_row 22 = .ok (.invokevirtual 219, 3) := by decide +kernel
theorem dX11_row_25 : decode cX11_row 25 = .ok (.aload_n 0, 1) := by decide +kernel
theorem dX11_row_26 : decode cX11_row 26 = .ok (.getfield 26, 3) := by decide +kernel
theorem dX11_row_29 : decode cX11_row 29 = .ok (.iload_n 1, 1) := by decide +kernel
theorem dX11_row_30 : decode cX11_row 30 = .ok (.iload_n 2, 1) := by decide +kernel
theorem dX11_row_31 : decode cX11_row 31 = .ok (.invokevirtual 230, 3) := by decide +kernel
theorem dX11_flour_0 : decode cX11_flour 0 = .ok (.aload_n 0, 1) := by decide +kernel
theorem dX11_flour_1 : decode cX11_flour 1 = .ok (.getfield 26, 3) := by decide +kernel
theorem dX11_flour_4 : decode cX11_flour 4 = .ok (.iload_n 1, 1) := by decide +kernel
theorem dX11_flour_5 : decode cX11_flour 5 = .ok (.iload_n 2, 1) := by decide +kernel
theorem dX11_flour_6 : decode cX11_flour 6 = .ok (.iload_n 3, 1) := by decide +kernel
theorem dX11_flour_7 : decode cX11_flour 7 = .ok (.invokevirtual 233, 3) := by decide +kernel
theorem dX11_flour_10 : decode cX11_flour 10 = .ok (.istore 4, 2) := by decide +kernel
theorem dX11_flour_12 : decode cX11_flour 12 = .ok (.iload 4, 2) := by decide +kernel
theorem dX11_flour_14 : decode cX11_flour 14 = .ok (.ifCond .ne 24, 3) := by decide +kernel
theorem dX11_flour_38 : decode cX11_flour 38 = .ok (.iload 4, 2) := by decide +kernel
theorem dX11_flour_40 : decode cX11_flour 40 = .ok (.ireturn, 1) := by decide +kernel
theorem dX11_flour_17 : decode cX11_flour 17 = .ok (.aload_n 0, 1) := by decide +kernel
theorem dX11_flour_18 : decode cX11_flour 18 = .ok (.getfield 88, 3) := by decide +kernel
theorem dX11_flour_21 : decode cX11_flour 21 = .ok (.aload_n 0, 1) := by decide +kernel
theorem dX11_flour_22 : decode cX11_flour 22 = .ok (.getfield 26, 3) := by decide +kernel
theorem dX11_flour_25 : decode cX11_flour 25 = .ok (.invokevirtual 219, 3) := by decide +kernel
theorem dX11_flour_28 : decode cX11_flour 28 = .ok (.aload_n 0, 1) := by decide +kernel
theorem dX11_flour_29 : decode cX11_flour 29 = .ok (.getfield 26, 3) := by decide +kernel
theorem dX11_flour_32 : decode cX11_flour 32 = .ok (.iload_n 1, 1) := by decide +kernel
theorem dX11_flour_33 : decode cX11_flour 33 = .ok (.iload_n 2, 1) := by decide +kernel
theorem dX11_flour_34 : decode cX11_flour 34 = .ok (.iload_n 3, 1) := by decide +kernel
theorem dX11_flour_35 : decode cX11_flour 35 = .ok (.invokevirtual 236, 3) := by decide +kernel
theorem dX11_milk_0 : decode cX11_milk 0 = .ok (.aload_n 0, 1) := by decide +kernel
theorem dX11_milk_1 : decode cX11_milk 1 = .ok (.getfield 26, 3) := by decide +kernel
theorem dX11_milk_4 : decode cX11_milk 4 = .ok (.iload_n 1, 1) := by decide +kernel
theorem dX11_milk_5 : decode cX11_milk 5 = .ok (.iload_n 2, 1) := by decide +kernel
theorem dX11_milk_6 : decode cX11_milk 6 = .ok (.iload_n 3, 1) := by decide +kernel
theorem dX11_milk_7 : decode cX11_milk 7 = .ok (.invokevirtual 239, 3) := by decide +kernel
theorem dX11_milk_10 : decode cX11_milk 10 = .ok (.istore 4, 2) := by decide +kernel
theorem dX11_milk_12 : decode cX11_milk 12 = .ok (.iload 4, 2) := by decide +kernel
theorem dX11_milk_14 : decode cX11_milk 14 = .ok (.ifCond .ne 25, 3) := by decide +kernel
theorem dX11_milk_39 : decode cX11_milk 39 = .ok (.iload 4, 2) := by decide +kernel
theorem dX11_milk_41 : decode cX11_milk 41 = .ok (.ireturn, 1) := by decide +kernel
theorem dX11_milk_17 : decode cX11_milk 17 = .ok (.aload_n 0, 1) := by decide +kernel
theorem dX11_milk_18 : decode cX11_milk 18 = .ok (.getfield 88, 3) := by decide +kernel
theorem dX11_milk_21 : decode cX11_milk 21 = .ok (.aload_n 0, 1) := by decide +kernel
theorem dX11_milk_22 : decode cX11_milk 22 = .ok (.getfield 26, 3) := by decide +kernel
theorem dX11_milk_25 : decode cX11_milk 25 = .ok (.invokevirtual 219, 3) := by decide +kernel
theorem dX11_milk_28 : decode cX11_milk 28 = .ok (.aload_n 0, 1) := by decide +kernel
theorem dX11_milk_29 : decode cX11_milk 29 = .ok (.getfield 26, 3) := by decide +kernel
theorem dX11_milk_32 : decode cX11_milk 32 = .ok (.iload_n 1, 1) := by decide +kernel
theorem dX11_milk_33 : decode cX11_milk 33 = .ok (.iload_n 2, 1) := by decide +kernel
theorem dX11_milk_34 : decode cX11_milk 34 = .ok (.iload_n 3, 1) := by decide +kernel
theorem dX11_milk_35 : decode cX11_milk 35 = .ok (.ineg, 1) := by decide +kernel
theorem dX11_milk_36 : decode cX11_milk 36 = .ok (.invokevirtual 236, 3) := by decide +kernel
theorem dX11_stove_0 : decode cX11_stove 0 = .ok (.aload_n 0, 1) := by decide +kernel
theorem dX11_stove_1 : decode cX11_stove 1 = .ok (.getfield 26, 3) := by decide +kernel
theorem dX11_stove_4 : decode cX11_stove 4 = .ok (.iload_n 1, 1) := by decide +kernel
theorem dX11_stove_5 : decode cX11_stove 5 = .ok (.invokevirtual 242, 3) := by decide +kernel
theorem dX11_stove_8 : decode cX11_stove 8 = .ok (.istore_n 2, 1) := by decide +kernel
theorem dX11_stove_9 : decode cX11_stove 9 = .ok (.iload_n 2, 1) := by decide +kernel
theorem dX11_stove_10 : decode cX11_stove 10 = .ok (.ifCond .ne 22, 3) := by decide +kernel
theorem dX11_stove_32 : decode cX11_stove 32 = .ok (.iload_n 2, 1) := by decide +kernel
theorem dX11_stove_33 : decode cX11_stove 33 = .ok (.ireturn, 1) := by decide +kernel
theorem dX11_stove_13 : decode cX11_stove 13 = .ok (.aload_n 0, 1) := by decide +kernel
theorem dX11_stove_14 : decode cX11_stove 14 = .ok (.getfield 88, 3) := by decide +kernel
theorem dX11_stove_17 : decode cX11_stove 17 = .ok (.aload_n 0, 1) := by decide +kernel
theorem dX11_stove_18 : decode cX11_stove 18 = .ok (.getfield 26, 3) := by decide +kernel
theorem dX11_stove_21 : decode cX11_stove 21 = .ok (.invokevirtual 219, 3) := by decide +kernel
theorem dX11_stove_24 : decode cX11_stove 24 = .ok (.aload_n 0, 1) := by decide +kernel
theorem dX11_stove_25 : decode cX11_stove 25 = .ok (.getfield 26, 3) := by decide +kernel
theorem dX11_stove_28 : decode cX11_stove 28 = .ok (.iload_n 1, 1) := by decide +kernel
theorem dX11_stove_29 : decode cX11_stove 29 = .ok (.invokevirtual 245, 3) := by decide +kernel
theorem dX11_days_0 : decode cX11_days 0 = .ok (.iload_n 1, 1) := by decide +kernel
theorem dX11_days_1 : decode cX11_days 1 = .ok (.iconst 1, 1) := by decide +kernel
theorem dX11_days_2 : decode cX11_days 2 = .ok (.if_icmp .lt 9, 3) := by decide +kernel
theorem dX11_days_11 : decode cX11_days 11 = .ok (.iconst (-1), 1) := by decide +kernel
theorem dX11_days_12 : decode cX11_days 12 = .ok (.ireturn, 1) := by decide +kernel
theorem dX11_days_5 : decode cX11_days 5 = .ok (.iload_n 1, 1) := by decide +kernel
theorem dX11_days_6 : decode cX11_days 6 = .ok (.bipush 60, 2) := by decide +kernel
theorem dX11_days_8 : decode cX11_days 8 = .ok (.if_icmp .le 5, 3) := by decide +kernel
theorem dX11_days_13 : decode cX11_days 13 = .ok (.aload_n 0, 1) := by decide +kernel
theorem dX11_days_14 : decode cX11_days 14 = .ok (.getfield 26, 3) := by decide +kernel
theorem dX11_days_17 : decode cX11_days 17 = .ok (.invokevirtual 248, 3) := by decide +kernel
theorem dX11_days_20 : decode cX11_days 20 = .ok (.ifCond .ne 5, 3) := by decide +kernel
theorem dX11_days_25 : decode cX11_days 25 = .ok (.aload_n 0, 1) := by decide +kernel
theorem dX11_days_26 : decode cX11_days 26 = .ok (.getfield 88, 3) := by decide +kernel
theorem dX11_days_29 : decode cX11_days 29 = .ok (.aload_n 0, 1) := by decide +kernel
theorem dX11_days_30 : decode cX11_days 30 = .ok (.getfield 26, 3) := by decide +kernel
theorem dX11_days_33 : decode cX11_days 33 = .ok (.invokevirtual 219, 3) := by decide +kernel
theorem dX11_days_36 : decode cX11_days 36 = .ok (.aload_n 0, 1) := by decide +kernel
theorem dX11_days_37 : decode cX11_days 37 = .ok (.getfield 26, 3) := by decide +kernel
theorem dX11_days_40 : decode cX11_days 40 = .ok (.iload_n 1, 1) := by decide +kernel
theorem dX11_days_41 : decode cX11_days 41 = .ok (.invokevirtual 251, 3) := by decide +kernel
theorem dX11_days_44 : decode cX11_days 44 = .ok (.ireturn, 1) := by decide +kernel
theorem dX11_days_23 : decode cX11_days 23 = .ok (.iconst 0, 1) := by decide +kernel
theorem dX11_days_24 : decode cX11_days 24 = .ok (.ireturn, 1) := by decide +kernel
set_option maxRecDepth 100000 in
theorem ggX11_stir_X7_whyNotStirred : GoodIn wsX11_stir wsX7_whyNotStirred := goodIn_r _ [7, 8, 9, 10, 6, 11, 12, 13, 14, 15, 16, 17, 18, 19, 95, 96, 97, 98, 99, 100, 101, 102, 103, 104, 105, 106, 107, 108, 109, 110, 111, 112, 113] rfl (by decide +kernel)
set_option maxRecDepth 100000 in
theorem ggX11_stir_X2_keep : GoodIn wsX11_stir wsX2_keep := goodIn_r _ [24, 25, 26, 27, 28, 29, 30, 31, 32, 33, 6, 34, 12, 13, 18, 35, 19, 36, 37, 38, 39, 40, 41, 42, 43, 44, 45, 46, 47, 48, 49, 50, 51, 52, 53, 114, 115, 116, 95, 96, 97, 98, 99, 100, 101, 102, 103, 104, 105, 106, 107, 108, 109, 110, 111, 112, 113] rfl (by decide +kernel)
set_option maxRecDepth 100000 in
theorem ggX11_stir_X7_stirLine : GoodIn wsX11_stir wsX7_stirLine := goodIn_r _ [57, 39, 47, 40, 49, 37, 8, 9, 10, 6, 11, 12, 13, 58, 59, 60, 61, 41, 62, 63, 64, 65, 66, 67, 68, 69, 70, 71, 72, 53, 73, 74, 75, 76, 95, 96, 97, 98, 99, 100, 101, 102, 103, 104, 105, 106, 107, 108, 109, 110, 111, 112, 113] rfl (by decide +kernel)
set_option maxRecDepth 100000 in
theorem ggX11_row_X7_whyNotRowed : GoodIn wsX11_row wsX7_whyNotRowed := goodIn_r _ [7, 8, 9, 10, 11, 12, 6, 13, 14, 15, 16, 17, 18, 19, 20, 21, 22, 23, 24, 25, 26, 27, 28, 29, 30, 31, 32, 33, 34, 35, 36, 37, 38, 39, 40, 41, 42, 43, 44, 96, 97, 98, 99, 100, 101, 102, 103, 104, 105, 106, 107, 108, 109, 110, 111, 112, 113, 114] rfl (by decide +kernel)
set_option maxRecDepth 100000 in
theorem ggX11_row_X2_keep : GoodIn wsX11_row wsX2_keep := goodIn_r _ [49, 50, 51, 52, 53, 54, 55, 56, 57, 58, 6, 59, 28, 29, 38, 60, 39, 61, 62, 63, 64, 14, 44, 65, 66, 67, 68, 69, 70, 71, 8, 72, 73, 9, 19, 115, 116, 117, 96, 97, 98, 99, 100, 101, 102, 103, 104, 105, 106, 107, 108, 109, 110, 111, 112, 113, 114] rfl (by decide +kernel)
set_option maxRecDepth 100000 in
theorem ggX11_row_X7_rowBoat : GoodIn wsX11_row wsX7_rowBoat := goodIn_r _ [77, 8, 9, 63, 10, 11, 12, 6, 13, 14, 20, 21, 22, 23, 24, 25, 26, 27, 28, 29, 30, 31, 32, 33, 34, 35, 36, 37, 38, 39, 40, 41, 42, 43, 44, 96, 97, 98, 99, 100, 101, 102, 103, 104, 105, 106, 107, 108, 109, 110, 111, 112, 113, 114] rfl (by decide +kernel)
set_option maxRecDepth 100000 in
theorem ggX11_flour_X7_whyNotFloured : GoodIn wsX11_flour wsX7_whyNotFloured := goodIn_r _ [7, 8, 9, 10, 6, 11, 12, 13, 14, 15, 16, 17, 18, 80, 81, 82, 83, 84, 85, 86, 87, 88, 89, 90, 91, 92, 93, 94, 95, 96, 97, 98] rfl (by decide +kernel)
set_option maxRecDepth 100000 in
theorem ggX11_flour_X2_keep : GoodIn wsX11_flour wsX2_keep := goodIn_r _ [23, 24, 25, 26, 27, 28, 29, 30, 31, 32, 6, 33, 12, 13, 34, 35, 36, 37, 38, 39, 40, 41, 18, 42, 43, 44, 45, 46, 47, 48, 49, 50, 51, 52, 53, 99, 100, 101, 80, 81, 82, 83, 84, 85, 86, 87, 88, 89, 90, 91, 92, 93, 94, 95, 96, 97, 98] rfl (by decide +kernel)
set_option maxRecDepth 100000 in
theorem ggX11_flour_X7_thicken : GoodIn wsX11_flour wsX7_thicken := goodIn_r _ [57, 18, 58, 28, 29, 30, 59, 60, 61, 8, 9, 10, 6, 11, 12, 13, 80, 81, 82, 83, 84, 85, 86, 87, 88, 89, 90, 91, 92, 93, 94, 95, 96, 97, 98] rfl (by decide +kernel)
set_option maxRecDepth 100000 in
theorem ggX11_milk_X7_whyNotMilked : GoodIn wsX11_milk wsX7_whyNotMilked := goodIn_r _ [7, 8, 9, 10, 6, 11, 12, 13, 14, 15, 16, 17, 18, 80, 81, 82, 83, 84, 85, 86, 87, 88, 89, 90, 91, 92, 93, 94, 95, 96, 97, 98] rfl (by decide +kernel)
set_option maxRecDepth 100000 in
theorem ggX11_milk_X2_keep : GoodIn wsX11_milk wsX2_keep := goodIn_r _ [23, 24, 25, 26, 27, 28, 29, 30, 31, 32, 6, 33, 12, 13, 34, 35, 36, 37, 38, 39, 40, 41, 18, 42, 43, 44, 45, 46, 47, 48, 49, 50, 51, 52, 53, 99, 100, 101, 80, 81, 82, 83, 84, 85, 86, 87, 88, 89, 90, 91, 92, 93, 94, 95, 96, 97, 98] rfl (by decide +kernel)
set_option maxRecDepth 100000 in
theorem ggX11_milk_X7_thicken : GoodIn wsX11_milk wsX7_thicken := goodIn_r _ [57, 18, 58, 28, 29, 30, 59, 60, 61, 8, 9, 10, 6, 11, 12, 13, 80, 81, 82, 83, 84, 85, 86, 87, 88, 89, 90, 91, 92, 93, 94, 95, 96, 97, 98] rfl (by decide +kernel)
set_option maxRecDepth 100000 in
theorem ggX11_stove_X7_whyNotWarmed : GoodIn wsX11_stove wsX7_whyNotWarmed := goodIn_r _ [7, 8, 69, 70, 71, 72, 73, 74, 75, 76, 77, 78, 79, 80, 81, 82, 83, 84, 85, 86, 87] rfl (by decide +kernel)
set_option maxRecDepth 100000 in
theorem ggX11_stove_X2_keep : GoodIn wsX11_stove wsX2_keep := goodIn_r _ [13, 14, 15, 16, 17, 18, 19, 20, 21, 22, 6, 23, 24, 25, 8, 26, 27, 28, 29, 30, 31, 32, 33, 34, 35, 36, 37, 38, 39, 40, 41, 42, 43, 44, 45, 88, 89, 90, 69, 70, 71, 72, 73, 74, 75, 76, 77, 78, 79, 80, 81, 82, 83, 84, 85, 86, 87] rfl (by decide +kernel)
set_option maxRecDepth 100000 in
theorem ggX11_stove_X7_warm : GoodIn wsX11_stove wsX7_warm := goodIn_r _ [49, 8, 50, 18, 19, 20, 69, 70, 71, 72, 73, 74, 75, 76, 77, 78, 79, 80, 81, 82, 83, 84, 85, 86, 87] rfl (by decide +kernel)
set_option maxRecDepth 100000 in
theorem ggX11_days_X7_daysLeft : GoodIn wsX11_days wsX7_daysLeft := goodIn_r _ [7, 8, 105, 106, 107, 108, 109, 110, 111, 112, 113, 114, 115, 116, 117, 118, 119, 120, 121, 122, 123] rfl (by decide +kernel)
set_option maxRecDepth 100000 in
theorem ggX11_days_X2_keep : GoodIn wsX11_days wsX2_keep := goodIn_r _ [13, 14, 15, 16, 17, 18, 19, 20, 21, 22, 6, 23, 24, 25, 26, 27, 28, 8, 29, 30, 31, 32, 33, 34, 35, 36, 37, 38, 39, 40, 41, 42, 43, 44, 45, 124, 125, 126, 105, 106, 107, 108, 109, 110, 111, 112, 113, 114, 115, 116, 117, 118, 119, 120, 121, 122, 123] rfl (by decide +kernel)
set_option maxRecDepth 100000 in
theorem ggX11_days_X7_passDays : GoodIn wsX11_days wsX7_passDays := goodIn_r _ [49, 50, 18, 19, 20, 51, 4, 5, 6, 7, 8, 52, 53, 54, 55, 32, 45, 44, 43, 26, 27, 56, 57, 58, 59, 60, 61, 62, 63, 64, 65, 66, 67, 68, 69, 70, 41, 71, 72, 73, 74, 42, 75, 76, 77, 78, 28, 79, 80, 81, 82, 31, 39, 83, 84, 85, 86, 33, 105, 106, 107, 108, 109, 110, 111, 112, 113, 114, 115, 116, 117, 118, 119, 120, 121, 122, 123] rfl (by decide +kernel)
set_option maxRecDepth 100000 in
theorem gX11_stir_X7_whyNotStirred : GoodIn wsX11_stir (wsV RX11 215 RX7 yX7_whyNotStirred wsX7_whyNotStirred) := goodIn_app (goodIn_of _ (by decide +kernel)) ggX11_stir_X7_whyNotStirred
set_option maxRecDepth 100000 in
theorem gX11_stir_X2_keep : GoodIn wsX11_stir (wsV RX11 219 RX2 yX2_keep wsX2_keep) := goodIn_app (goodIn_of _ (by decide +kernel)) ggX11_stir_X2_keep
set_option maxRecDepth 100000 in
theorem gX11_stir_X7_stirLine : GoodIn wsX11_stir (wsV RX11 223 RX7 yX7_stirLine wsX7_stirLine) := goodIn_app (goodIn_of _ (by decide +kernel)) ggX11_stir_X7_stirLine
set_option maxRecDepth 100000 in
theorem gX11_row_X7_whyNotRowed : GoodIn wsX11_row (wsV RX11 227 RX7 yX7_whyNotRowed wsX7_whyNotRowed) := goodIn_app (goodIn_of _ (by decide +kernel)) ggX11_row_X7_whyNotRowed
set_option maxRecDepth 100000 in
theorem gX11_row_X2_keep : GoodIn wsX11_row (wsV RX11 219 RX2 yX2_keep wsX2_keep) := goodIn_app (goodIn_of _ (by decide +kernel)) ggX11_row_X2_keep
set_option maxRecDepth 100000 in
theorem gX11_row_X7_rowBoat : GoodIn wsX11_row (wsV RX11 230 RX7 yX7_rowBoat wsX7_rowBoat) := goodIn_app (goodIn_of _ (by decide +kernel)) ggX11_row_X7_rowBoat
set_option maxRecDepth 100000 in
theorem gX11_flour_X7_whyNotFloured : GoodIn wsX11_flour (wsV RX11 233 RX7 yX7_whyNotFloured wsX7_whyNotFloured) := goodIn_app (goodIn_of _ (by decide +kernel)) ggX11_flour_X7_whyNotFloured
set_option maxRecDepth 100000 in
theorem gX11_flour_X2_keep : GoodIn wsX11_flour (wsV RX11 219 RX2 yX2_keep wsX2_keep) := goodIn_app (goodIn_of _ (by decide +kernel)) ggX11_flour_X2_keep
set_option maxRecDepth 100000 in
theorem gX11_flour_X7_thicken : GoodIn wsX11_flour (wsV RX11 236 RX7 yX7_thicken wsX7_thicken) := goodIn_app (goodIn_of _ (by decide +kernel)) ggX11_flour_X7_thicken
set_option maxRecDepth 100000 in
theorem gX11_milk_X7_whyNotMilked : GoodIn wsX11_milk (wsV RX11 239 RX7 yX7_whyNotMilked wsX7_whyNotMilked) := goodIn_app (goodIn_of _ (by decide +kernel)) ggX11_milk_X7_whyNotMilked
set_option maxRecDepth 100000 in
theorem gX11_milk_X2_keep : GoodIn wsX11_milk (wsV RX11 219 RX2 yX2_keep wsX2_keep) := goodIn_app (goodIn_of _ (by decide +kernel)) ggX11_milk_X2_keep
set_option maxRecDepth 100000 in
theorem gX11_milk_X7_thicken : GoodIn wsX11_milk (wsV RX11 236 RX7 yX7_thicken wsX7_thicken) := goodIn_app (goodIn_of _ (by decide +kernel)) ggX11_milk_X7_thicken
set_option maxRecDepth 100000 in
theorem gX11_stove_X7_whyNotWarmed : GoodIn wsX11_stove (wsV RX11 242 RX7 yX7_whyNotWarmed wsX7_whyNotWarmed) := goodIn_app (goodIn_of _ (by decide +kernel)) ggX11_stove_X7_whyNotWarmed
set_option maxRecDepth 100000 in
theorem gX11_stove_X2_keep : GoodIn wsX11_stove (wsV RX11 219 RX2 yX2_keep wsX2_keep) := goodIn_app (goodIn_of _ (by decide +kernel)) ggX11_stove_X2_keep
set_option maxRecDepth 100000 in
theorem gX11_stove_X7_warm : GoodIn wsX11_stove (wsV RX11 245 RX7 yX7_warm wsX7_warm) := goodIn_app (goodIn_of _ (by decide +kernel)) ggX11_stove_X7_warm
set_option maxRecDepth 100000 in
theorem gX11_days_X7_daysLeft : GoodIn wsX11_days (wsV RX11 248 RX7 yX7_daysLeft wsX7_daysLeft) := goodIn_app (goodIn_of _ (by decide +kernel)) ggX11_days_X7_daysLeft
set_option maxRecDepth 100000 in
theorem gX11_days_X2_keep : GoodIn wsX11_days (wsV RX11 219 RX2 yX2_keep wsX2_keep) := goodIn_app (goodIn_of _ (by decide +kernel)) ggX11_days_X2_keep
set_option maxRecDepth 100000 in
theorem gX11_days_X7_passDays : GoodIn wsX11_days (wsV RX11 251 RX7 yX7_passDays wsX7_passDays) := goodIn_app (goodIn_of _ (by decide +kernel)) ggX11_days_X7_passDays
