theorem dX12_lineOf_0 : decode cX12_lineOf 0 = .ok (.bipush 12, 2) := by decide +kernel
theorem dX12_lineOf_2 : decode cX12_lineOf 2 = .ok (.iload_n 0, 1) := by decide +kernel
theorem dX12_lineOf_3 : decode cX12_lineOf 3 = .ok (.imul, 1) := by decide +kernel
theorem dX12_lineOf_4 : decode cX12_lineOf 4 = .ok (.iconst 2, 1) := by decide +kernel
theorem dX12_lineOf_5 : decode cX12_lineOf 5 = .ok (.iload_n 1, 1) := by decide +kernel
theorem dX12_lineOf_6 : decode cX12_lineOf 6 = .ok (.imul, 1) := by decide +kernel
theorem dX12_lineOf_7 : decode cX12_lineOf 7 = .ok (.iadd, 1) := by decide +kernel
theorem dX12_lineOf_8 : decode cX12_lineOf 8 = .ok (.iload_n 2, 1) := by decide +kernel
theorem dX12_lineOf_9 : decode cX12_lineOf 9 = .ok (.iadd, 1) := by decide +kernel
theorem dX12_lineOf_10 : decode cX12_lineOf 10 = .ok (.ireturn, 1) := by decide +kernel
theorem dX12_stir_0 : decode cX12_stir 0 = .ok (.aload_n 0, 1) := by decide +kernel
theorem dX12_stir_1 : decode cX12_stir 1 = .ok (.iconst 0, 1) := by decide +kernel
theorem dX12_stir_2 : decode cX12_stir 2 = .ok (.putfield 1, 3) := by decide +kernel
theorem dX12_stir_5 : decode cX12_stir 5 = .ok (.aload_n 0, 1) := by decide +kernel
theorem dX12_stir_6 : decode cX12_stir 6 = .ok (.iconst 0, 1) := by decide +kernel
theorem dX12_stir_7 : decode cX12_stir 7 = .ok (.iload_n 1, 1) := by decide +kernel
theorem dX12_stir_8 : decode cX12_stir 8 = .ok (.iload_n 2, 1) := by decide +kernel
theorem dX12_stir_9 : decode cX12_stir 9 = .ok (.iload_n 3, 1) := by decide +kernel
theorem dX12_stir_10 : decode cX12_stir 10 = .ok (.invokestatic 302, 3) := by decide +kernel
theorem dX12_stir_13 : decode cX12_stir 13 = .ok (.iconst 0, 1) := by decide +kernel
theorem dX12_stir_14 : decode cX12_stir 14 = .ok (.iload_n 1, 1) := by decide +kernel
theorem dX12_stir_15 : decode cX12_stir 15 = .ok (.iconst 0, 1) := by decide +kernel
theorem dX12_stir_16 : decode cX12_stir 16 = .ok (.iconst 1, 1) := by decide +kernel
theorem dX12_stir_17 : decode cX12_stir 17 = .ok (.invokestatic 75, 3) := by decide +kernel
theorem dX12_stir_20 : decode cX12_stir 20 = .ok (.ifCond .eq 41, 3) := by decide +kernel
theorem dX12_stir_23 : decode cX12_stir 23 = .ok (.iload_n 3, 1) := by decide +kernel
theorem dX12_stir_24 : decode cX12_stir 24 = .ok (.iconst 0, 1) := by decide +kernel
theorem dX12_stir_25 : decode cX12_stir 25 = .ok (.iconst 1, 1) := by decide +kernel
theorem dX12_stir_26 : decode cX12_stir 26 = .ok (.invokestatic 75, 3) := by decide +kernel
theorem dX12_stir_29 : decode cX12_stir 29 = .ok (.ifCond .eq 32, 3) := by decide +kernel
theorem dX12_stir_32 : decode cX12_stir 32 = .ok (.iload_n 2, 1) := by decide +kernel
theorem dX12_stir_33 : decode cX12_stir 33 = .ok (.iconst 0, 1) := by decide +kernel
theorem dX12_stir_34 : decode cX12_stir 34 = .ok (.aload_n 0, 1) := by decide +kernel
theorem dX12_stir_35 : decode cX12_stir 35 = .ok (.getfield 98, 3) := by decide +kernel
theorem dX12_stir_38 : decode cX12_stir 38 = .ok (.iload_n 1, 1) := by decide +kernel
theorem dX12_stir_39 : decode cX12_stir 39 = .ok (.iconst 1, 1) := by decide +kernel
theorem dX12_stir_40 : decode cX12_stir 40 = .ok (.if_icmp .ne 7, 3) := by decide +kernel
theorem dX12_stir_47 : decode cX12_stir 47 = .ok (.iconst 1, 1) := by decide +kernel
theorem dX12_stir_48 : decode cX12_stir 48 = .ok (.iaload, 1) := by decide +kernel
theorem dX12_stir_49 : decode cX12_stir 49 = .ok (.iconst 1, 1) := by decide +kernel
theorem dX12_stir_50 : decode cX12_stir 50 = .ok (.isub, 1) := by decide +kernel
theorem dX12_stir_51 : decode cX12_stir 51 = .ok (.invokestatic 75, 3) := by decide +kernel
theorem dX12_stir_54 : decode cX12_stir 54 = .ok (.ifCond .eq 7, 3) := by decide +kernel
theorem dX12_stir_57 : decode cX12_stir 57 = .ok (.iconst 1, 1) := by decide +kernel
theorem dX12_stir_58 : decode cX12_stir 58 = .ok (.goto 4, 3) := by decide +kernel
theorem dX12_stir_62 : decode cX12_stir 62 = .ok (.invokevirtual 305, 3) := by decide +kernel
theorem dX12_stir_65 : decode cX12_stir 65 = .ok (.ireturn, 1) := by decide +kernel
theorem dX12_stir_61 : decode cX12_stir 61 = .ok (.iconst 0, 1) := by decide +kernel
theorem dX12_stir_43 : decode cX12_stir 43 = .ok (.iconst 0, 1) := by decide +kernel
theorem dX12_stir_44 : decode cX12_stir 44 = .ok (.goto 4, 3) := by decide +kernel
theorem dX12_row_0 : decode cX12_row 0 = .ok (.aload_n 0, 1) := by decide +kernel
theorem dX12_row_1 : decode cX12_row 1 = .ok (.iconst 0, 1) := by decide +kernel
theorem dX12_row_2 : decode cX12_row 2 = .ok (.putfield 1, 3) := by decide +kernel
theorem dX12_row_5 : decode cX12_row 5 = .ok (.aload_n 0, 1) := by decide +kernel
theorem dX12_row_6 : decode cX12_row 6 = .ok (.iconst 1, 1) := by decide +kernel
theorem dX12_row_7 : decode cX12_row 7 = .ok (.iload_n 1, 1) := by decide +kernel
theorem dX12_row_8 : decode cX12_row 8 = .ok (.iload_n 2, 1) := by decide +kernel
theorem dX12_row_9 : decode cX12_row 9 = .ok (.aload_n 0, 1) := by decide +kernel
theorem dX12_row_10 : decode cX12_row 10 = .ok (.iload_n 1, 1) := by decide +kernel
theorem dX12_row_11 : decode cX12_row 11 = .ok (.invokevirtual 260, 3) := by decide +kernel
theorem dX12_row_14 : decode cX12_row 14 = .ok (.ifCond .eq 16, 3) := by decide +kernel
theorem dX12_row_17 : decode cX12_row 17 = .ok (.iload_n 2, 1) := by decide +kernel
theorem dX12_row_18 : decode cX12_row 18 = .ok (.iconst 0, 1) := by decide +kernel
theorem dX12_row_19 : decode cX12_row 19 = .ok (.iconst 3, 1) := by decide +kernel
theorem dX12_row_20 : decode cX12_row 20 = .ok (.invokestatic 75, 3) := by decide +kernel
theorem dX12_row_23 : decode cX12_row 23 = .ok (.ifCond .eq 7, 3) := by decide +kernel
theorem dX12_row_26 : decode cX12_row 26 = .ok (.iconst 1, 1) := by decide +kernel
theorem dX12_row_27 : decode cX12_row 27 = .ok (.goto 4, 3) := by decide +kernel
theorem dX12_row_31 : decode cX12_row 31 = .ok (.invokevirtual 305, 3) := by decide +kernel
theorem dX12_row_34 : decode cX12_row 34 = .ok (.ireturn, 1) := by decide +kernel
theorem dX12_row_30 : decode cX12_row 30 = .ok (.iconst 0, 1) := by decide +kernel
theorem dX12_flour_0 : decode cX12_flour 0 = .ok (.aload_n 0, 1) := by decide +kernel
theorem dX12_flour_1 : decode cX12_flour 1 = .ok (.iconst 0, 1) := by decide +kernel
theorem dX12_flour_2 : decode cX12_flour 2 = .ok (.putfield 1, 3) := by decide +kernel
theorem dX12_flour_5 : decode cX12_flour 5 = .ok (.aload_n 0, 1) := by decide +kernel
theorem dX12_flour_6 : decode cX12_flour 6 = .ok (.iconst 2, 1) := by decide +kernel
theorem dX12_flour_7 : decode cX12_flour 7 = .ok (.bipush 6, 2) := by decide +kernel
theorem dX12_flour_9 : decode cX12_flour 9 = .ok (.iload_n 2, 1) := by decide +kernel
theorem dX12_flour_10 : decode cX12_flour 10 = .ok (.imul, 1) := by decide +kernel
theorem dX12_flour_11 : decode cX12_flour 11 = .ok (.iload_n 1, 1) := by decide +kernel
theorem dX12_flour_12 : decode cX12_flour 12 = .ok (.iadd, 1) := by decide +kernel
theorem dX12_flour_13 : decode cX12_flour 13 = .ok (.iload_n 3, 1) := by decide +kernel
theorem dX12_flour_14 : decode cX12_flour 14 = .ok (.aload_n 0, 1) := by decide +kernel
theorem dX12_flour_15 : decode cX12_flour 15 = .ok (.iload_n 1, 1) := by decide +kernel
theorem dX12_flour_16 : decode cX12_flour 16 = .ok (.iload_n 2, 1) := by decide +kernel
theorem dX12_flour_17 : decode cX12_flour 17 = .ok (.invokevirtual 252, 3) := by decide +kernel
theorem dX12_flour_20 : decode cX12_flour 20 = .ok (.ifCond .eq 17, 3) := by decide +kernel
theorem dX12_flour_23 : decode cX12_flour 23 = .ok (.iload_n 3, 1) := by decide +kernel
theorem dX12_flour_24 : decode cX12_flour 24 = .ok (.iconst 1, 1) := by decide +kernel
theorem dX12_flour_25 : decode cX12_flour 25 = .ok (.bipush 9, 2) := by decide +kernel
theorem dX12_flour_27 : decode cX12_flour 27 = .ok (.invokestatic 75, 3) := by decide +kernel
theorem dX12_flour_30 : decode cX12_flour 30 = .ok (.ifCond .eq 7, 3) := by decide +kernel
theorem dX12_flour_33 : decode cX12_flour 33 = .ok (.iconst 1, 1) := by decide +kernel
theorem dX12_flour_34 : decode cX12_flour 34 = .ok (.goto 4, 3) := by decide +kernel
theorem dX12_flour_38 : decode cX12_flour 38 = .ok (.invokevirtual 305, 3) := by decide +kernel
theorem dX12_flour_41 : decode cX12_flour 41 = .ok (.ireturn, 1) := by decide +kernel
theorem dX12_flour_37 : decode cX12_flour 37 = .ok (.iconst 0, 1) := by decide +kernel
theorem dX12_milk_0 : decode cX12_milk 0 = .ok (.aload_n 0, 1) := by decide +kernel
theorem dX12_milk_1 : decode cX12_milk 1 = .ok (.iconst 0, 1) := by decide +kernel
theorem dX12_milk_2 : decode cX12_milk 2 = .ok (.putfield 1, 3) := by decide +kernel
theorem dX12_milk_5 : decode cX12_milk 5 = .ok (.aload_n 0, 1) := by decide +kernel
theorem dX12_milk_6 : decode cX12_milk 6 = .ok (.iconst 3, 1) := by decide +kernel
theorem dX12_milk_7 : decode cX12_milk 7 = .ok (.bipush 6, 2) := by decide +kernel
theorem dX12_milk_9 : decode cX12_milk 9 = .ok (.iload_n 2, 1) := by decide +kernel
theorem dX12_milk_10 : decode cX12_milk 10 = .ok (.imul, 1) := by decide +kernel
theorem dX12_milk_11 : decode cX12_milk 11 = .ok (.iload_n 1, 1) := by decide +kernel
theorem dX12_milk_12 : decode cX12_milk 12 = .ok (.iadd, 1) := by decide +kernel
theorem dX12_milk_13 : decode cX12_milk 13 = .ok (.iload_n 3, 1) := by decide +kernel
theorem dX12_milk_14 : decode cX12_milk 14 = .ok (.aload_n 0, 1) := by decide +kernel
theorem dX12_milk_15 : decode cX12_milk 15 = .ok (.iload_n 1, 1) := by decide +kernel
theorem dX12_milk_16 : decode cX12_milk 16 = .ok (.iload_n 2, 1) := by decide +kernel
theorem dX12_milk_17 : decode cX12_milk 17 = .ok (.invokevirtual 252, 3) := by decide +kernel
theorem dX12_milk_20 : decode cX12_milk 20 = .ok (.ifCond .eq 17, 3) := by decide +kernel
theorem dX12_milk_23 : decode cX12_milk 23 = .ok (.iload_n 3, 1) := by decide +kernel
theorem dX12_milk_24 : decode cX12_milk 24 = .ok (.iconst 1, 1) := by decide +kernel
theorem dX12_milk_25 : decode cX12_milk 25 = .ok (.bipush 9, 2) := by decide +kernel
theorem dX12_milk_27 : decode cX12_milk 27 = .ok (.invokestatic 75, 3) := by decide +kernel
theorem dX12_milk_30 : decode cX12_milk 30 = .ok (.ifCond .eq 7, 3) := by decide +kernel
theorem dX12_milk_33 : decode cX12_milk 33 = .ok (.iconst 1, 1) := by decide +kernel
theorem dX12_milk_34 : decode cX12_milk 34 = .ok (.goto 4, 3) := by decide +kernel
theorem dX12_milk_38 : decode cX12_milk 38 = .ok (.invokevirtual 305, 3) := by decide +kernel
theorem dX12_milk_41 : decode cX12_milk 41 = .ok (.ireturn, 1) := by decide +kernel
theorem dX12_milk_37 : decode cX12_milk 37 = .ok (.iconst 0, 1) := by decide +kernel
theorem dX12_stove_0 : decode cX12_stove 0 = .ok (.aload_n 0, 1) := by decide +kernel
theorem dX12_stove_1 : decode cX12_stove 1 = .ok (.iconst 0, 1) := by decide +kernel
theorem dX12_stove_2 : decode cX12_stove 2 = .ok (.putfield 1, 3) := by decide +kernel
theorem dX12_stove_5 : decode cX12_stove 5 = .ok (.aload_n 0, 1) := by decide +kernel
theorem dX12_stove_6 : decode cX12_stove 6 = .ok (.iconst 4, 1) := by decide +kernel
theorem dX12_stove_7 : decode cX12_stove 7 = .ok (.iload_n 1, 1) := by decide +kernel
theorem dX12_stove_8 : decode cX12_stove 8 = .ok (.iconst 0, 1) := by decide +kernel
theorem dX12_stove_9 : decode cX12_stove 9 = .ok (.iload_n 1, 1) := by decide +kernel
theorem dX12_stove_10 : decode cX12_stove 10 = .ok (.iconst 1, 1) := by decide +kernel
theorem dX12_stove_11 : decode cX12_stove 11 = .ok (.bipush 20, 2) := by decide +kernel
theorem dX12_stove_13 : decode cX12_stove 13 = .ok (.invokestatic 75, 3) := by decide +kernel
theorem dX12_stove_16 : decode cX12_stove 16 = .ok (.invokevirtual 305, 3) := by decide +kernel
theorem dX12_stove_19 : decode cX12_stove 19 = .ok (.ireturn, 1) := by decide +kernel
set_option maxRecDepth 100000 in
theorem ggX12_stir_X12_lineOf : GoodIn wsX12_stir wsX12_lineOf := goodIn_r _ [6] rfl (by decide +kernel)
set_option maxRecDepth 100000 in
theorem ggX12_stir_X12_isIn : GoodIn wsX12_stir wsX12_isIn := goodIn_r _ [9] rfl (by decide +kernel)
set_option maxRecDepth 100000 in
theorem ggX12_stir_X12_act : GoodIn wsX12_stir wsX12_act := goodIn_r _ [13, 14, 15, 16, 5, 17, 2, 18, 19, 20, 21, 22, 23, 24, 25, 26, 27, 28, 29, 30, 31, 32, 33, 7, 8, 9, 34, 35, 36, 37, 38, 39, 40, 41, 42, 43, 44, 45, 46, 47, 48, 49, 50, 51, 52, 53, 54, 55, 56, 57, 58, 59, 60, 61, 62, 63, 64, 65, 66, 67, 68, 69, 70, 71, 72, 73, 74, 75, 76, 77, 78, 79, 80, 81, 82, 83, 84, 85, 86, 87, 88, 89, 90, 91, 92, 93, 94, 95, 96, 97, 98, 99, 100, 101, 102, 103, 104, 105, 106, 107, 108, 109, 110, 111, 112, 113, 114, 115] rfl (by decide +kernel)
set_option maxRecDepth 100000 in
theorem ggX12_row_X12_isBoat : GoodIn wsX12_row wsX12_isBoat := goodIn_r _ [6, 7, 8, 9, 5, 10, 65, 66, 67, 68, 69, 70, 71, 72, 73, 74, 75, 76, 77, 78, 79, 80, 81, 82, 83, 84, 85, 86, 87, 88, 89, 90, 91, 92, 93, 94, 95, 96, 97, 98, 99, 100, 101, 102, 103, 104, 105, 106, 107, 108, 109, 110, 111, 112, 113, 114, 115, 116] rfl (by decide +kernel)
set_option maxRecDepth 100000 in
theorem ggX12_row_X12_isIn : GoodIn wsX12_row wsX12_isIn := goodIn_r _ [10] rfl (by decide +kernel)
set_option maxRecDepth 100000 in
theorem ggX12_row_X12_act : GoodIn wsX12_row wsX12_act := goodIn_r _ [14, 15, 16, 17, 5, 18, 7, 19, 20, 21, 22, 23, 24, 25, 26, 27, 28, 29, 30, 31, 32, 33, 34, 8, 9, 10, 35, 36, 37, 38, 39, 40, 41, 42, 43, 44, 45, 46, 47, 48, 49, 50, 51, 52, 53, 54, 55, 56, 57, 58, 59, 60, 61, 62, 63, 64, 65, 66, 67, 68, 69, 70, 71, 72, 73, 74, 75, 76, 77, 78, 79, 80, 81, 82, 83, 84, 85, 86, 87, 88, 89, 90, 91, 92, 93, 94, 95, 96, 97, 98, 99, 100, 101, 102, 103, 104, 105, 106, 107, 108, 109, 110, 111, 112, 113, 114, 115, 116] rfl (by decide +kernel)
set_option maxRecDepth 100000 in
theorem ggX12_flour_X12_isCell : GoodIn wsX12_flour wsX12_isCell := goodIn_r _ [6, 7, 8, 9, 5, 10, 61, 62, 63, 64, 65, 66, 67, 68, 69, 70, 71, 72, 73, 74, 75, 76, 77, 78, 79, 80, 81, 82, 83, 84, 85, 86, 87, 88, 89, 90, 91, 92, 93, 94, 95, 96, 97, 98, 99, 100, 101, 102, 103, 104, 105, 106, 107, 108, 109, 110, 111, 112] rfl (by decide +kernel)
set_option maxRecDepth 100000 in
theorem ggX12_flour_X12_isIn : GoodIn wsX12_flour wsX12_isIn := goodIn_r _ [10] rfl (by decide +kernel)
set_option maxRecDepth 100000 in
theorem ggX12_flour_X12_act : GoodIn wsX12_flour wsX12_act := goodIn_r _ [14, 15, 16, 17, 5, 18, 7, 19, 20, 21, 22, 23, 24, 25, 26, 27, 28, 29, 30, 2, 3, 4, 6, 8, 9, 10, 31, 32, 33, 34, 35, 36, 37, 38, 39, 40, 41, 42, 43, 44, 45, 46, 47, 48, 49, 50, 51, 52, 53, 54, 55, 56, 57, 58, 59, 60, 61, 62, 63, 64, 65, 66, 67, 68, 69, 70, 71, 72, 73, 74, 75, 76, 77, 78, 79, 80, 81, 82, 83, 84, 85, 86, 87, 88, 89, 90, 91, 92, 93, 94, 95, 96, 97, 98, 99, 100, 101, 102, 103, 104, 105, 106, 107, 108, 109, 110, 111, 112] rfl (by decide +kernel)
set_option maxRecDepth 100000 in
theorem ggX12_milk_X12_isCell : GoodIn wsX12_milk wsX12_isCell := goodIn_r _ [6, 7, 8, 9, 5, 10, 61, 62, 63, 64, 65, 66, 67, 68, 69, 70, 71, 72, 73, 74, 75, 76, 77, 78, 79, 80, 81, 82, 83, 84, 85, 86, 87, 88, 89, 90, 91, 92, 93, 94, 95, 96, 97, 98, 99, 100, 101, 102, 103, 104, 105, 106, 107, 108, 109, 110, 111, 112] rfl (by decide +kernel)
set_option maxRecDepth 100000 in
theorem ggX12_milk_X12_isIn : GoodIn wsX12_milk wsX12_isIn := goodIn_r _ [10] rfl (by decide +kernel)
set_option maxRecDepth 100000 in
theorem ggX12_milk_X12_act : GoodIn wsX12_milk wsX12_act := goodIn_r _ [14, 15, 16, 17, 5, 18, 7, 19, 20, 21, 22, 23, 24, 25, 26, 27, 28, 29, 30, 2, 3, 4, 6, 8, 9, 10, 31, 32, 33, 34, 35, 36, 37, 38, 39, 40, 41, 42, 43, 44, 45, 46, 47, 48, 49, 50, 51, 52, 53, 54, 55, 56, 57, 58, 59, 60, 61, 62, 63, 64, 65, 66, 67, 68, 69, 70, 71, 72, 73, 74, 75, 76, 77, 78, 79, 80, 81, 82, 83, 84, 85, 86, 87, 88, 89, 90, 91, 92, 93, 94, 95, 96, 97, 98, 99, 100, 101, 102, 103, 104, 105, 106, 107, 108, 109, 110, 111, 112] rfl (by decide +kernel)
set_option maxRecDepth 100000 in
theorem ggX12_stove_X12_isIn : GoodIn wsX12_stove wsX12_isIn := goodIn_r _ [5] rfl (by decide +kernel)
set_option maxRecDepth 100000 in
theorem ggX12_stove_X12_act : GoodIn wsX12_stove wsX12_act := goodIn_r _ [9, 10, 11, 12, 4, 13, 14, 15, 16, 17, 18, 19, 20, 21, 22, 23, 24, 25, 26, 27, 28, 29, 30, 2, 3, 5, 31, 32, 33, 34, 35, 36, 37, 38, 39, 40, 41, 42, 43, 44, 45, 46, 47, 48, 49, 50, 51, 52, 53, 54, 55, 56, 57, 58, 59, 60, 61, 62, 63, 64, 65, 66, 67, 68, 69, 70, 71, 72, 73, 74, 75, 76, 77, 78, 79, 80, 81, 82, 83, 84, 85, 86, 87, 88, 89, 90, 91, 92, 93, 94, 95, 96, 97, 98, 99, 100, 101, 102, 103, 104, 105, 106, 107, 108, 109, 110, 111, 112] rfl (by decide +kernel)
set_option maxRecDepth 100000 in
theorem gX12_stir_X12_lineOf : GoodIn wsX12_stir (va_wsS RX12 302 yX12_lineOf wsX12_lineOf) := goodIn_app (goodIn_of _ (by decide +kernel)) ggX12_stir_X12_lineOf
set_option maxRecDepth 100000 in
theorem gX12_stir_X12_isIn : GoodIn wsX12_stir (va_wsS RX12 75 yX12_isIn wsX12_isIn) := goodIn_app (goodIn_of _ (by decide +kernel)) ggX12_stir_X12_isIn
set_option maxRecDepth 100000 in
theorem gX12_stir_X12_act : GoodIn wsX12_stir (wsV RX12 305 RX12 yX12_act wsX12_act) := goodIn_app (goodIn_of _ (by decide +kernel)) ggX12_stir_X12_act
set_option maxRecDepth 100000 in
theorem gX12_row_X12_isBoat : GoodIn wsX12_row (wsV RX12 260 RX12 yX12_isBoat wsX12_isBoat) := goodIn_app (goodIn_of _ (by decide +kernel)) ggX12_row_X12_isBoat
set_option maxRecDepth 100000 in
theorem gX12_row_X12_isIn : GoodIn wsX12_row (va_wsS RX12 75 yX12_isIn wsX12_isIn) := goodIn_app (goodIn_of _ (by decide +kernel)) ggX12_row_X12_isIn
set_option maxRecDepth 100000 in
theorem gX12_row_X12_act : GoodIn wsX12_row (wsV RX12 305 RX12 yX12_act wsX12_act) := goodIn_app (goodIn_of _ (by decide +kernel)) ggX12_row_X12_act
set_option maxRecDepth 100000 in
theorem gX12_flour_X12_isCell : GoodIn wsX12_flour (wsV RX12 252 RX12 yX12_isCell wsX12_isCell) := goodIn_app (goodIn_of _ (by decide +kernel)) ggX12_flour_X12_isCell
set_option maxRecDepth 100000 in
theorem gX12_flour_X12_isIn : GoodIn wsX12_flour (va_wsS RX12 75 yX12_isIn wsX12_isIn) := goodIn_app (goodIn_of _ (by decide +kernel)) ggX12_flour_X12_isIn
set_option maxRecDepth 100000 in
theorem gX12_flour_X12_act : GoodIn wsX12_flour (wsV RX12 305 RX12 yX12_act wsX12_act) := goodIn_app (goodIn_of _ (by decide +kernel)) ggX12_flour_X12_act
set_option maxRecDepth 100000 in
theorem gX12_milk_X12_isCell : GoodIn wsX12_milk (wsV RX12 252 RX12 yX12_isCell wsX12_isCell) := goodIn_app (goodIn_of _ (by decide +kernel)) ggX12_milk_X12_isCell
set_option maxRecDepth 100000 in
theorem gX12_milk_X12_isIn : GoodIn wsX12_milk (va_wsS RX12 75 yX12_isIn wsX12_isIn) := goodIn_app (goodIn_of _ (by decide +kernel)) ggX12_milk_X12_isIn
set_option maxRecDepth 100000 in
theorem gX12_milk_X12_act : GoodIn wsX12_milk (wsV RX12 305 RX12 yX12_act wsX12_act) := goodIn_app (goodIn_of _ (by decide +kernel)) ggX12_milk_X12_act
set_option maxRecDepth 100000 in
theorem gX12_stove_X12_isIn : GoodIn wsX12_stove (va_wsS RX12 75 yX12_isIn wsX12_isIn) := goodIn_app (goodIn_of _ (by decide +kernel)) ggX12_stove_X12_isIn
set_option maxRecDepth 100000 in
theorem gX12_stove_X12_act : GoodIn wsX12_stove (wsV RX12 305 RX12 yX12_act wsX12_act) := goodIn_app (goodIn_of _ (by decide +kernel)) ggX12_stove_X12_act
theorem nI_self (y : Int32) : y = nI y.toBitVec.toNat := by
  rw [← Int32.toBitVec_inj]; simp [nI]
theorem ush8 (x : Int32) : ∃ m : Nat, m < 16777216 ∧ (x.toUInt32 >>> ((nI 8).toUInt32 &&& Int32.toUInt32 31)).toInt32 = nI m := by
  refine ⟨(x.toUInt32 >>> ((nI 8).toUInt32 &&& Int32.toUInt32 31)).toInt32.toBitVec.toNat, ?_, ?_⟩
  · rw [pk_ushr x (nI 8) 8 (by decide)]
    have h := x.toBitVec.isLt
    omega
  · exact nI_self _
theorem line_d : ∀ c, c < 2 → ∀ n, n < 6 → ∀ b, b < 2 → 0 ≤ (nI 12 * nI c + nI 2 * nI n + nI b).toInt ∧ (nI 12 * nI c + nI 2 * nI n + nI b).toInt ≤ 23 := by decide +kernel
theorem cell_d : ∀ x, x < 6 → ∀ y, y < 6 → 0 ≤ (nI 6 * nI y + nI x).toInt ∧ (nI 6 * nI y + nI x).toInt ≤ 35 := by decide +kernel
theorem line_b {c n b : Int32} (h1 : 0 ≤ c.toInt) (h2 : c.toInt ≤ 1) (h3 : 0 ≤ n.toInt) (h4 : n.toInt ≤ 5) (h5 : 0 ≤ b.toInt) (h6 : b.toInt ≤ 1) : 0 ≤ (nI 12 * c + nI 2 * n + b).toInt ∧ (nI 12 * c + nI 2 * n + b).toInt ≤ 23 := by
  obtain ⟨c', hc, rfl⟩ := nat_of c 2 (by decide) ⟨h1, by omega⟩
  obtain ⟨n', hn, rfl⟩ := nat_of n 6 (by decide) ⟨h3, by omega⟩
  obtain ⟨b', hb, rfl⟩ := nat_of b 2 (by decide) ⟨h5, by omega⟩
  exact line_d c' hc n' hn b' hb
theorem cell_b {x y : Int32} (h1 : 0 ≤ x.toInt) (h2 : x.toInt ≤ 5) (h3 : 0 ≤ y.toInt) (h4 : y.toInt ≤ 5) : 0 ≤ (nI 6 * y + x).toInt ∧ (nI 6 * y + x).toInt ≤ 35 := by
  obtain ⟨x', hx, rfl⟩ := nat_of x 6 (by decide) ⟨h1, by omega⟩
  obtain ⟨y', hy, rfl⟩ := nat_of y 6 (by decide) ⟨h3, by omega⟩
  exact cell_d x' hx y' hy
theorem dec_i (x : Int32) (h : 0 < x.toInt) : (x + Int32.ofInt (-1)).toInt = x.toInt - 1 := by
  have h1 : (Int32.ofInt (-1)).toInt = -1 := by decide
  have h2 := ia_b x
  rw [Int32.toInt_add, h1]
  exact Int.bmod_eq_of_le (by omega) (by omega)
set_option maxRecDepth 20000 in
theorem lf_x_lineOf_1 (cl : Int32) (nn : Int32) (bk : Int32) (y1 : Int32) (y3 : Int32) (y5 : Int32) (y7 : Int32) (e2 : y1 = (nI 12) * cl) (e4 : y3 = (nI 2) * nn) (e6 : y5 = y1 + y3) (e8 : y7 = y5 + bk) : y7 = nI 12 * cl + nI 2 * nn + bk := by
  subst_vars
  rfl
set_option maxHeartbeats 4000000 in
set_option maxRecDepth 100000 in
theorem c_x_lineOf (l : Launch) (dC : Nat → ClassId) (dI : Nat → Nat → Nat) (ky : Nat → ClassId) (cl : Int32) (nn : Int32) (bk : Int32)  : Met l yX12_lineOf wsX12_lineOf ({ frames := 0, cells := 0, slots := 0, locals := 0 }) (PcP dC dI ky [.int cl, .int nn, .int bk] []) (vp_Si (fun r : Int32 => r = nI 12 * cl + nI 2 * nn + bk)) 0 0 (fun _ => False) := by
  refine Met.ofW (cc := cX12_lineOf) (maxL := 3) (ret := (some .int)) (by decide) rfl ?_
  intro p e s m args below meth c s₁ B hml hv
  obtain ⟨rfl, hP, hK⟩ := hv
  have hx := B.exec
  have hb := B.bytes
  have hr := B.returns
  have hts := atoms_spec (ws := wsX12_lineOf) B.pre
  have hown : s.vm.findClass RX12 = some m.cls := findClass_of_methodNamed B.named
  have hlocks := B.notSynchronized
  have hl := lv_entry ([.int cl, .int nn, .int bk]) (n := 3) (Nat.le_of_ble_eq_true rfl)
  rw [lg_entry_eq]
  generalize (lg_sl ([.int cl, .int nn, .int bk]) ++ List.replicate (3 - (lg_sl ([.int cl, .int nn, .int bk])).length) Slot.unset).toArray = ls at hl ⊢
  have hl : lv_has ls 3 [(0, .int cl), (1, .int nn), (2, .int bk)] := hl
  refine q_name (fun Q hQ => ?_)
  generalize ([.int cl, .int nn, .int bk] : List Value).toArray = args at hts hQ ⊢
  refine lv_bipush (v := nI 12) hx hb dX12_lineOf_0 (by decide) ?_
  refine lv_iload_n hx hb dX12_lineOf_2 rfl (lv_at hl 0 rfl) ?_
  refine lv_imul hx hb dX12_lineOf_3 ?_
  refine lv_topi (fun y1 e2 => ?_)
  refine lv_iconst (v := nI 2) hx hb dX12_lineOf_4 (by decide) ?_
  refine lv_iload_n hx hb dX12_lineOf_5 rfl (lv_at hl 1 rfl) ?_
  refine lv_imul hx hb dX12_lineOf_6 ?_
  refine lv_topi (fun y3 e4 => ?_)
  refine lv_iadd hx hb dX12_lineOf_7 ?_
  refine lv_topi (fun y5 e6 => ?_)
  refine lv_iload_n hx hb dX12_lineOf_8 rfl (lv_at hl 2 rfl) ?_
  refine lv_iadd hx hb dX12_lineOf_9 ?_
  refine lv_topi (fun y7 e8 => ?_)
  rw [hQ]
  exact W.iret (v := y7) hx hb hr (fun t9 ht9 hW9 => ⟨y7, rfl, (lf_x_lineOf_1 cl nn bk y1 y3 y5 y7 e2 e4 e6 e8), ht9⟩) (fun _ h => absurd h List.not_mem_nil) dX12_lineOf_10
