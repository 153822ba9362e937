theorem dX12_lineOf_0 : decode cX12_lineOf 0 = .ok (.bipush 12, 2) := by decide +kernel
theorem dX12_lineOf_2 : decode cX12_lineOf 2 = .ok (.iload_n 0, 1) := by decide +kernel
theorem dX12_lineOf_3 : decode cX12_lineOf 3 = .ok (.imul, 1) := by decide +kernel
theorem dX12_lineOf_4 : decode cX12_lineOf 4 = .ok (.iconst 2, 1) := by decide +kernel
theorem dX12_lineOf_5 : decode cX12_lineOf 5 = .ok (.iload_n 1, 1) := by decide +kernel
theorem dX12_lineOf_6 : decode cX12_lineOf 6 = .ok (.imul, 1) := by decide +kernel
theorem dX12_lineOf_7 : decode cX12_lineOf 7 = .ok (.iadd, 1) := by decide +kernel
theorem dX12_lineOf_8 : decode cX12_lineOf 8 = .ok (.iload_n 2, 1) := by decide +kernel
theorem dX12_lineOf_9 : decode cX12_lineOf 9 = .ok (.iadd, 1) := by decide +kernel
theorem dX12_lineOf_10 : decode cX12_lineOf 10 = .ok (.ireturn, 1) := by decide +kernel
theorem dX12_stir_0 : decode cX12_stir 0 = .ok (.aload_n 0, 1) := by decide +kernel
theorem dX12_stir_1 : decode cX12_stir 1 = .ok (.iconst 0, 1) := by decide +kernel
theorem dX12_stir_2 : decode cX12_stir 2 = .ok (.putfield 1, 3) := by decide +kernel
theorem dX12_stir_5 : decode cX12_stir 5 = .ok (.aload_n 0, 1) := by decide +kernel
theorem dX12_stir_6 : decode cX12_stir 6 = .ok (.iconst 0, 1) := by decide +kernel
theorem dX12_stir_7 : decode cX12_stir 7 = .ok (.iload_n 1, 1) := by decide +kernel
theorem dX12_stir_8 : decode cX12_stir 8 = .ok (.iload_n 2, 1) := by decide +kernel
theorem dX12_stir_9 : decode cX12_stir 9 = .ok (.iload_n 3, 1) := by decide +kernel
theorem dX12_stir_10 : decode cX12_stir 10 = .ok (.invokestatic 302, 3) := by decide +kernel
theorem dX12_stir_13 : decode cX12_stir 13 = .ok (.iconst 0, 1) := by decide +kernel
theorem dX12_stir_14 : decode cX12_stir 14 = .ok (.iload_n 1, 1) := by decide +kernel
theorem dX12_stir_15 : decode cX12_stir 15 = .ok (.iconst 0, 1) := by decide +kernel
theorem dX12_stir_16 : decode cX12_stir 16 = .ok (.iconst 1, 1) := by decide +kernel
theorem dX12_stir_17 : decode cX12_stir 17 = .ok (.invokestatic 75, 3) := by decide +kernel
theorem dX12_stir_20 : decode cX12_stir 20 = .ok (.ifCond .eq 41, 3) := by decide +kernel
theorem dX12_stir_23 : decode cX12_stir 23 = .ok (.iload_n 3, 1) := by decide +kernel
theorem dX12_stir_24 : decode cX12_stir 24 = .ok (.iconst 0, 1) := by decide +kernel
theorem dX12_stir_25 : decode cX12_stir 25 = .ok (.iconst 1, 1) := by decide +kernel
theorem dX12_stir_26 : decode cX12_stir 26 = .ok (.invokestatic 75, 3) := by decide +kernel
theorem dX12_stir_29 : decode cX12_stir 29 = .ok (.ifCond .eq 32, 3) := by decide +kernel
theorem dX12_stir_32 : decode cX12_stir 32 = .ok (.iload_n 2, 1) := by decide +kernel
theorem dX12_stir_33 : decode cX12_stir 33 = .ok (.iconst 0, 1) := by decide +kernel
theorem dX12_stir_34 : decode cX12_stir 34 = .ok (.aload_n 0, 1) := by decide +kernel
theorem dX12_stir_35 : decode cX12_stir 35 = .ok (.getfield 98, 3) := by decide +kernel
theorem dX12_stir_38 : decode cX12_stir 38 = .ok (.iload_n 1, 1) := by decide +kernel
theorem dX12_stir_39 : decode cX12_stir 39 = .ok (.iconst 1, 1) := by decide +kernel
theorem dX12_stir_40 : decode cX12_stir 40 = .ok (.if_icmp .ne 7, 3) := by decide +kernel
theorem dX12_stir_47 : decode cX12_stir 47 = .ok (.iconst 1, 1) := by decide +kernel
theorem dX12_stir_48 : decode cX12_stir 48 = .ok (.iaload, 1) := by decide +kernel
theorem dX12_stir_49 : decode cX12_stir 49 = .ok (.iconst 1, 1) := by decide +kernel
theorem dX12_stir_50 : decode cX12_stir 50 = .ok (.isub, 1) := by decide +kernel
theorem dX12_stir_51 : decode cX12_stir 51 = .ok (.invokestatic 75, 3) := by decide +kernel
theorem dX12_stir_54 : decode cX12_stir 54 = .ok (.ifCond .eq 7, 3) := by decide +kernel
theorem dX12_stir_57 : decode cX12_stir 57 = .ok (.iconst 1, 1) := by decide +kernel
theorem dX12_stir_58 : decode cX12_stir 58 = .ok (.goto 4, 3) := by decide +kernel
theorem dX12_stir_62 : decode cX12_stir 62 = .ok (.invokevirtual 305, 3) := by decide +kernel
theorem dX12_stir_65 : decode cX12_stir 65 = .ok (.ireturn, 1) := by decide +kernel
theorem dX12_stir_61 : decode cX12_stir 61 = .ok (.iconst 0, 1) := by decide +kernel
theorem dX12_stir_43 : decode cX12_stir 43 = .ok (.iconst 0, 1) := by decide +kernel
theorem dX12_stir_44 : decode cX12_stir 44 = .ok (.goto 4, 3) := by decide +kernel
theorem dX12_row_0 : decode cX12_row 0 = .ok (.aload_n 0, 1) := by decide +kernel
theorem dX12_row_1 : decode cX12_row 1 = .ok (.iconst 0, 1) := by decide +kernel
theorem dX12_row_2 : decode cX12_row 2 = .ok (.putfield 1, 3) := by decide +kernel
theorem dX12_row_5 : decode cX12_row 5 = .ok (.aload_n 0, 1) := by decide +kernel
theorem dX12_row_6 : decode cX12_row 6 = .ok (.iconst 1, 1) := by decide +kernel
theorem dX12_row_7 : decode cX12_row 7 = .ok (.iload_n 1, 1) := by decide +kernel
theorem dX12_row_8 : decode cX12_row 8 = .ok (.iload_n 2, 1) := by decide +kernel
theorem dX12_row_9 : decode cX12_row 9 = .ok (.aload_n 0, 1) := by decide +kernel
theorem dX12_row_10 : decode cX12_row 10 = .ok (.iload_n 1, 1) := by decide +kernel
theorem dX12_row_11 : decode cX12_row 11 = .ok (.invokevirtual 260, 3) := by decide +kernel
theorem dX12_row_14 : decode cX12_row 14 = .ok (.ifCond .eq 16, 3) := by decide +kernel
theorem dX12_row_17 : decode cX12_row 17 = .ok (.iload_n 2, 1) := by decide +kernel
theorem dX12_row_18 : decode cX12_row 18 = .ok (.iconst 0, 1) := by decide +kernel
theorem dX12_row_19 : decode cX12_row 19 = .ok (.iconst 3, 1) := by decide +kernel
theorem dX12_row_20 : decode cX12_row 20 = .ok (.invokestatic 75, 3) := by decide +kernel
theorem dX12_row_23 : decode cX12_row 23 = .ok (.ifCond .eq 7, 3) := by decide +kernel
theorem dX12_row_26 : decode cX12_row 26 = .ok (.iconst 1, 1) := by decide +kernel
theorem dX12_row_27 : decode cX12_row 27 = .ok (.goto 4, 3) := by decide +kernel
theorem dX12_row_31 : decode cX12_row 31 = .ok (.invokevirtual 305, 3) := by decide +kernel
theorem dX12_row_34 : decode cX12_row 34 = .ok (.ireturn, 1) := by decide +kernel
theorem dX12_row_30 : decode cX12_row 30 = .ok (.iconst 0, 1) := by decide +kernel
theorem dX12_flour_0 : decode cX12_flour 0 = .ok (.aload_n 0, 1) := by decide +kernel
theorem dX12_flour_1 : decode cX12_flour 1 = .ok (.iconst 0, 1) := by decide +kernel
theorem dX12_flour_2 : decode cX12_flour 2 = .ok (.putfield 1, 3) := by decide +kernel
theorem dX12_flour_5 : decode cX12_flour 5 = .ok (.aload_n 0, 1) := by decide +kernel
theorem dX12_flour_6 : decode cX12_flour 6 = .ok (.iconst 2, 1) := by decide +kernel
theorem dX12_flour_7 : decode cX12_flour 7 = .ok (.bipush 6, 2) := by decide +kernel
theorem dX12_flour_9 : decode cX12_flour 9 = .ok (.iload_n 2, 1) := by decide +kernel
theorem dX12_flour_10 : decode cX12_flour 10 = .ok (.imul, 1) := by decide +kernel
theorem dX12_flour_11 : decode cX12_flour 11 = .ok (.iload_n 1, 1) := by decide +kernel
theorem dX12_flour_12 : decode cX12_flour 12 = .ok (.iadd, 1) := by decide +kernel
theorem dX12_flour_13 : decode cX12_flour 13 = .ok (.iload_n 3, 1) := by decide +kernel
theorem dX12_flour_14 : decode cX12_flour 14 = .ok (.aload_n 0, 1) := by decide +kernel
theorem dX12_flour_15 : decode cX12_flour 15 = .ok (.iload_n 1, 1) := by decide +kernel
theorem dX12_flour_16 : decode cX12_flour 16 = .ok (.iload_n 2, 1) := by decide +kernel
theorem dX12_flour_17 : decode cX12_flour 17 = .ok (.invokevirtual 252, 3) := by decide +kernel
theorem dX12_flour_20 : decode cX12_flour 20 = .ok (.ifCond .eq 17, 3) := by decide +kernel
theorem dX12_flour_23 : decode cX12_flour 23 = .ok (.iload_n 3, 1) := by decide +kernel
theorem dX12_flour_24 : decode cX12_flour 24 = .ok (.iconst 1, 1) := by decide +kernel
theorem dX12_flour_25 : decode cX12_flour 25 = .ok (.bipush 9, 2) := by decide +kernel
theorem dX12_flour_27 : decode cX12_flour 27 = .ok (.invokestatic 75, 3) := by decide +kernel
theorem dX12_flour_30 : decode cX12_flour 30 = .ok (.ifCond .eq 7, 3) := by decide +kernel
theorem dX12_flour_33 : decode cX12_flour 33 = .ok (.iconst 1, 1) := by decide +kernel
theorem dX12_flour_34 : decode cX12_flour 34 = .ok (.goto 4, 3) := by decide +kernel
theorem dX12_flour_38 : decode cX12_flour 38 = .ok (.invokevirtual 305, 3) := by decide +kernel
theorem dX12_flour_41 : decode cX12_flour 41 = .ok (.ireturn, 1) := by decide +kernel
theorem dX12_flour_37 : decode cX12_flour 37 = .ok (.iconst 0, 1) := by decide +kernel
theorem dX12_milk_0 : decode cX12_milk 0 = .ok (.aload_n 0, 1) := by decide +kernel
theorem dX12_milk_1 : decode cX12_milk 1 = .ok (.iconst 0, 1) := by decide +kernel
theorem dX12_milk_2 : decode cX12_milk 2 = .ok (.putfield 1, 3) := by decide +kernel
theorem dX12_milk_5 : decode cX12_milk 5 = .ok (.aload_n 0, 1) := by decide +kernel
theorem dX12_milk_6 : decode cX12_milk 6 = .ok (.iconst 3, 1) := by decide +kernel
theorem dX12_milk_7 : decode cX12_milk 7 = .ok (.bipush 6, 2) := by decide +kernel
theorem dX12_milk_9 : decode cX12_milk 9 = .ok (.iload_n 2, 1) := by decide +kernel
theorem dX12_milk_10 : decode cX12_milk 10 = .ok (.imul, 1) := by decide +kernel
theorem dX12_milk_11 : decode cX12_milk 11 = .ok (.iload_n 1, 1) := by decide +kernel
theorem dX12_milk_12 : decode cX12_milk 12 = .ok (.iadd, 1) := by decide +kernel
theorem dX12_milk_13 : decode cX12_milk 13 = .ok (.iload_n 3, 1) := by decide +kernel
theorem dX12_milk_14 : decode cX12_milk 14 = .ok (.aload_n 0, 1) := by decide +kernel
theorem dX12_milk_15 : decode cX12_milk 15 = .ok (.iload_n 1, 1) := by decide +kernel
theorem dX12_milk_16 : decode cX12_milk 16 = .ok (.iload_n 2, 1) := by decide +kernel
theorem dX12_milk_17 : decode cX12_milk 17 = .ok (.invokevirtual 252, 3) := by decide +kernel
theorem dX12_milk_20 : decode cX12_milk 20 = .ok (.ifCond .eq 17, 3) := by decide +kernel
theorem dX12_milk_23 : decode cX12_milk 23 = .ok (.iload_n 3, 1) := by decide +kernel
theorem dX12_milk_24 : decode cX12_milk 24 = .ok (.iconst 1, 1) := by decide +kernel
theorem dX12_milk_25 : decode cX12_milk 25 = .ok (.bipush 9, 2) := by decide +kernel
theorem dX12_milk_27 : decode cX12_milk 27 = .ok (.invokestatic 75, 3) := by decide +kernel
theorem dX12_milk_30 : decode cX12_milk 30 = .ok (.ifCond .eq 7, 3) := by decide +kernel
theorem dX12_milk_33 : decode cX12_milk 33 = .ok (.iconst 1, 1) := by decide +kernel
theorem dX12_milk_34 : decode cX12_milk 34 = .ok (.goto 4, 3) := by decide +kernel
theorem dX12_milk_38 : decode cX12_milk 38 = .ok (.invokevirtual 305, 3) := by decide +kernel
theorem dX12_milk_41 : decode cX12_milk 41 = .ok (.ireturn, 1) := by decide +kernel
theorem dX12_milk_37 : decode cX12_milk 37 = .ok (.iconst 0, 1) := by decide +kernel
theorem dX12_stove_0 : decode cX12_stove 0 = .ok (.aload_n 0, 1) := by decide +kernel
theorem dX12_stove_1 : decode cX12_stove 1 = .ok (.iconst 0, 1) := by decide +kernel
theorem dX12_stove_2 : decode cX12_stove 2 = .ok (.putfield 1, 3) := by decide +kernel
theorem dX12_stove_5 : decode cX12_stove 5 = .ok (.aload_n 0, 1) := by decide +kernel
theorem dX12_stove_6 : decode cX12_stove 6 = .ok (.iconst 4, 1) := by decide +kernel
theorem dX12_stove_7 : decode cX12_stove 7 = .ok (.iload_n 1, 1) := by decide +kernel
theorem dX12_stove_8 : decode cX12_stove 8 = .ok (.iconst 0, 1) := by decide +kernel
theorem dX12_stove_9 : decode cX12_stove 9 = .ok (.iload_n 1, 1) := by decide +kernel
theorem dX12_stove_10 : decode cX12_stove 10 = .ok (.iconst 1, 1) := by decide +kernel
theorem dX12_stove_11 : decode cX12_stove 11 = .ok (.bipush 20, 2) := by decide +kernel
theorem dX12_stove_13 : decode cX12_stove 13 = .ok (.invokestatic 75, 3) := by decide +kernel
theorem dX12_stove_16 : decode cX12_stove 16 = .ok (.invokevirtual 305, 3) := by decide +kernel
theorem dX12_stove_19 : decode cX12_stove 19 = .ok (.ireturn, 1) := by decide +kernel
set_option maxRecDepth 100000 in
theorem ggX12_stir_X12_lineOf : GoodIn wsX12_stir wsX12_lineOf := goodIn_r _ [6] rfl (by decide +kernel)
set_option maxRecDepth 100000 in
theorem ggX12_stir_X12_isIn : GoodIn wsX12_stir wsX12_isIn := goodIn_r _ [9] rfl (by decide +kernel)
set_option maxRecDepth 100000 in
theorem ggX12_stir_X12_act : GoodIn wsX12_stir wsX12_act := goodIn_r _ [13, 14, 15, 16, 5, 17, 2, 18, 19, 20, 21, 22, 23, 24, 25, 26, 27, 28, 29, 30, 31, 32, 33, 7, 8, 9, 34, 35, 36, 37, 38, 39, 40, 41, 42, 43, 44, 45, 46, 47, 48, 49, 50, 51, 52, 53, 54, 55, 56, 57, 58, 59, 60, 61, 62, 63, 64, 65, 66, 67, 68, 69, 70, 71, 72, 73, 74, 75, 76, 77, 78, 79, 80, 81, 82, 83, 84, 85, 86, 87, 88, 89, 90, 91, 92, 93, 94, 95, 96, 97, 98, 99, 100, 101, 102, 103, 104, 105, 106, 107, 108, 109, 110, 111, 112, 113, 114, 115] rfl (by decide +kernel)
set_option maxRecDepth 100000 in
theorem ggX12_row_X12_isBoat : GoodIn wsX12_row wsX12_isBoat := goodIn_r _ [6, 7, 8, 9, 5, 10, 65, 66, 67, 68, 69, 70, 71, 72, 73, 74, 75, 76, 77, 78, 79, 80, 81, 82, 83, 84, 85, 86, 87, 88, 89, 90, 91, 92, 93, 94, 95, 96, 97, 98, 99, 100, 101, 102, 103, 104, 105, 106, 107, 108, 109, 110, 111, 112, 113, 114, 115, 116] rfl (by decide +kernel)
set_option maxRecDepth 100000 in
theorem ggX12_row_X12_isIn : GoodIn wsX12_row wsX12_isIn := goodIn_r _ [10] rfl (by decide +kernel)
set_option maxRecDepth 100000 in
theorem ggX12_row_X12_act : GoodIn wsX12_row wsX12_act := goodIn_r _ [14, 15, 16, 17, 5, 18, 7, 19, 20, 21, 22, 23, 24, 25, 26, 27, 28, 29, 30, 31, 32, 33, 34, 8, 9, 10, 35, 36, 37, 38, 39, 40, 41, 42, 43, 44, 45, 46, 47, 48, 49, 50, 51, 52, 53, 54, 55, 56, 57, 58, 59, 60, 61, 62, 63, 64, 65, 66, 67, 68, 69, 70, 71, 72, 73, 74, 75, 76, 77, 78, 79, 80, 81, 82, 83, 84, 85, 86, 87, 88, 89, 90, 91, 92, 93, 94, 95, 96, 97, 98, 99, 100, 101, 102, 103, 104, 105, 106, 107, 108, 109, 110, 111, 112, 113, 114, 115, 116] rfl (by decide +kernel)
set_option maxRecDepth 100000 in
theorem ggX12_flour_X12_isCell : GoodIn wsX12_flour wsX12_isCell := goodIn_r _ [6, 7, 8, 9, 5, 10, 61, 62, 63, 64, 65, 66, 67, 68, 69, 70, 71, 72, 73, 74, 75, 76, 77, 78, 79, 80, 81, 82, 83, 84, 85, 86, 87, 88, 89, 90, 91, 92, 93, 94, 95, 96, 97, 98, 99, 100, 101, 102, 103, 104, 105, 106, 107, 108, 109, 110, 111, 112] rfl (by decide +kernel)
set_option maxRecDepth 100000 in
theorem ggX12_flour_X12_isIn : GoodIn wsX12_flour wsX12_isIn := goodIn_r _ [10] rfl (by decide +kernel)
set_option maxRecDepth 100000 in
theorem ggX12_flour_X12_act : GoodIn wsX12_flour wsX12_act := goodIn_r _ [14, 15, 16, 17, 5, 18, 7, 19, 20, 21, 22, 23, 24, 25, 26, 27, 28, 29, 30, 2, 3, 4, 6, 8, 9, 10, 31, 32, 33, 34, 35, 36, 37, 38, 39, 40, 41, 42, 43, 44, 45, 46, 47, 48, 49, 50, 51, 52, 53, 54, 55, 56, 57, 58, 59, 60, 61, 62, 63, 64, 65, 66, 67, 68, 69, 70, 71, 72, 73, 74, 75, 76, 77, 78, 79, 80, 81, 82, 83, 84, 85, 86, 87, 88, 89, 90, 91, 92, 93, 94, 95, 96, 97, 98, 99, 100, 101, 102, 103, 104, 105, 106, 107, 108, 109, 110, 111, 112] rfl (by decide +kernel)
set_option maxRecDepth 100000 in
theorem ggX12_milk_X12_isCell : GoodIn wsX12_milk wsX12_isCell := goodIn_r _ [6, 7, 8, 9, 5, 10, 61, 62, 63, 64, 65, 66, 67, 68, 69, 70, 71, 72, 73, 74, 75, 76, 77, 78, 79, 80, 81, 82, 83, 84, 85, 86, 87, 88, 89, 90, 91, 92, 93, 94, 95, 96, 97, 98, 99, 100, 101, 102, 103, 104, 105, 106, 107, 108, 109, 110, 111, 112] rfl (by decide +kernel)
set_option maxRecDepth 100000 in
theorem ggX12_milk_X12_isIn : GoodIn wsX12_milk wsX12_isIn := goodIn_r _ [10] rfl (by decide +kernel)
set_option maxRecDepth 100000 in
theorem ggX12_milk_X12_act : GoodIn wsX12_milk wsX12_act := goodIn_r _ [14, 15, 16, 17, 5, 18, 7, 19, 20, 21, 22, 23, 24, 25, 26, 27, 28, 29, 30, 2, 3, 4, 6, 8, 9, 10, 31, 32, 33, 34, 35, 36, 37, 38, 39, 40, 41, 42, 43, 44, 45, 46, 47, 48, 49, 50, 51, 52, 53, 54, 55, 56, 57, 58, 59, 60, 61, 62, 63, 64, 65, 66, 67, 68, 69, 70, 71, 72, 73, 74, 75, 76, 77, 78, 79, 80, 81, 82, 83, 84, 85, 86, 87, 88, 89, 90, 91, 92, 93, 94, 95, 96, 97, 98, 99, 100, 101, 102, 103, 104, 105, 106, 107, 108, 109, 110, 111, 112] rfl (by decide +kernel)
set_option maxRecDepth 100000 in
theorem ggX12_stove_X12_isIn : GoodIn wsX12_stove wsX12_isIn := goodIn_r _ [5] rfl (by decide +kernel)
set_option maxRecDepth 100000 in
theorem ggX12_stove_X12_act : GoodIn wsX12_stove wsX12_act := goodIn_r _ [9, 10, 11, 12, 4, 13, 14, 15, 16, 17, 18, 19, 20, 21, 22, 23, 24, 25, 26, 27, 28, 29, 30, 2, 3, 5, 31, 32, 33, 34, 35, 36, 37, 38, 39, 40, 41, 42, 43, 44, 45, 46, 47, 48, 49, 50, 51, 52, 53, 54, 55, 56, 57, 58, 59, 60, 61, 62, 63, 64, 65, 66, 67, 68, 69, 70, 71, 72, 73, 74, 75, 76, 77, 78, 79, 80, 81, 82, 83, 84, 85, 86, 87, 88, 89, 90, 91, 92, 93, 94, 95, 96, 97, 98, 99, 100, 101, 102, 103, 104, 105, 106, 107, 108, 109, 110, 111, 112] rfl (by decide +kernel)
set_option maxRecDepth 100000 in
theorem gX12_stir_X12_lineOf : GoodIn wsX12_stir (va_wsS RX12 302 yX12_lineOf wsX12_lineOf) := goodIn_app (goodIn_of _ (by decide +kernel)) ggX12_stir_X12_lineOf
set_option maxRecDepth 100000 in
theorem gX12_stir_X12_isIn : GoodIn wsX12_stir (va_wsS RX12 75 yX12_isIn wsX12_isIn) := goodIn_app (goodIn_of _ (by decide +kernel)) ggX12_stir_X12_isIn
set_option maxRecDepth 100000 in
theorem gX12_stir_X12_act : GoodIn wsX12_stir (wsV RX12 305 RX12 yX12_act wsX12_act) := goodIn_app (goodIn_of _ (by decide +kernel)) ggX12_stir_X12_act
set_option maxRecDepth 100000 in
theorem gX12_row_X12_isBoat : GoodIn wsX12_row (wsV RX12 260 RX12 yX12_isBoat wsX12_isBoat) := goodIn_app (goodIn_of _ (by decide +kernel)) ggX12_row_X12_isBoat
set_option maxRecDepth 100000 in
theorem gX12_row_X12_isIn : GoodIn wsX12_row (va_wsS RX12 75 yX12_isIn wsX12_isIn) := goodIn_app (goodIn_of _ (by decide +kernel)) ggX12_row_X12_isIn
set_option maxRecDepth 100000 in
theorem gX12_row_X12_act : GoodIn wsX12_row (wsV RX12 305 RX12 yX12_act wsX12_act) := goodIn_app (goodIn_of _ (by decide +kernel)) ggX12_row_X12_act
set_option maxRecDepth 100000 in
theorem gX12_flour_X12_isCell : GoodIn wsX12_flour (wsV RX12 252 RX12 yX12_isCell wsX12_isCell) := goodIn_app (goodIn_of _ (by decide +kernel)) ggX12_flour_X12_isCell
set_option maxRecDepth 100000 in
theorem gX12_flour_X12_isIn : GoodIn wsX12_flour (va_wsS RX12 75 yX12_isIn wsX12_isIn) := goodIn_app (goodIn_of _ (by decide +kernel)) ggX12_flour_X12_isIn
set_option maxRecDepth 100000 in
theorem gX12_flour_X12_act : GoodIn wsX12_flour (wsV RX12 305 RX12 yX12_act wsX12_act) := goodIn_app (goodIn_of _ (by decide +kernel)) ggX12_flour_X12_act
set_option maxRecDepth 100000 in
theorem gX12_milk_X12_isCell : GoodIn wsX12_milk (wsV RX12 252 RX12 yX12_isCell wsX12_isCell) := goodIn_app (goodIn_of _ (by decide +kernel)) ggX12_milk_X12_isCell
set_option maxRecDepth 100000 in
theorem gX12_milk_X12_isIn : GoodIn wsX12_milk (va_wsS RX12 75 yX12_isIn wsX12_isIn) := goodIn_app (goodIn_of _ (by decide +kernel)) ggX12_milk_X12_isIn
set_option maxRecDepth 100000 in
theorem gX12_milk_X12_act : GoodIn wsX12_milk (wsV RX12 305 RX12 yX12_act wsX12_act) := goodIn_app (goodIn_of _ (by decide +kernel)) ggX12_milk_X12_act
set_option maxRecDepth 100000 in
theorem gX12_stove_X12_isIn : GoodIn wsX12_stove (va_wsS RX12 75 yX12_isIn wsX12_isIn) := goodIn_app (goodIn_of _ (by decide +kernel)) ggX12_stove_X12_isIn
set_option maxRecDepth 100000 in
theorem gX12_stove_X12_act : GoodIn wsX12_stove (wsV RX12 305 RX12 yX12_act wsX12_act) := goodIn_app (goodIn_of _ (by decide +kernel)) ggX12_stove_X12_act
theorem nI_self (y : Int32) : y = nI y.toBitVec.toNat := by
  rw [← Int32.toBitVec_inj]; simp [nI]
theorem ush8 (x : Int32) : ∃ m : Nat, m < 16777216 ∧ (x.toUInt32 >>> ((nI 8).toUInt32 &&& Int32.toUInt32 31)).toInt32 = nI m := by
  refine ⟨(x.toUInt32 >>> ((nI 8).toUInt32 &&& Int32.toUInt32 31)).toInt32.toBitVec.toNat, ?_, ?_⟩
  · rw [pk_ushr x (nI 8) 8 (by decide)]
    have h := x.toBitVec.isLt
    omega
  · exact nI_self _
theorem line_d : ∀ c, c < 2 → ∀ n, n < 6 → ∀ b, b < 2 → 0 ≤ (nI 12 * nI c + nI 2 * nI n + nI b).toInt ∧ (nI 12 * nI c + nI 2 * nI n + nI b).toInt ≤ 23 := by decide +kernel
theorem cell_d : ∀ x, x < 6 → ∀ y, y < 6 → 0 ≤ (nI 6 * nI y + nI x).toInt ∧ (nI 6 * nI y + nI x).toInt ≤ 35 := by decide +kernel
theorem line_b {c n b : Int32} (h1 : 0 ≤ c.toInt) (h2 : c.toInt ≤ 1) (h3 : 0 ≤ n.toInt) (h4 : n.toInt ≤ 5) (h5 : 0 ≤ b.toInt) (h6 : b.toInt ≤ 1) : 0 ≤ (nI 12 * c + nI 2 * n + b).toInt ∧ (nI 12 * c + nI 2 * n + b).toInt ≤ 23 := by
  obtain ⟨c', hc, rfl⟩ := nat_of c 2 (by decide) ⟨h1, by omega⟩
  obtain ⟨n', hn, rfl⟩ := nat_of n 6 (by decide) ⟨h3, by omega⟩
  obtain ⟨b', hb, rfl⟩ := nat_of b 2 (by decide) ⟨h5, by omega⟩
  exact line_d c' hc n' hn b' hb
theorem cell_b {x y : Int32} (h1 : 0 ≤ x.toInt) (h2 : x.toInt ≤ 5) (h3 : 0 ≤ y.toInt) (h4 : y.toInt ≤ 5) : 0 ≤ (nI 6 * y + x).toInt ∧ (nI 6 * y + x).toInt ≤ 35 := by
  obtain ⟨x', hx, rfl⟩ := nat_of x 6 (by decide) ⟨h1, by omega⟩
  obtain ⟨y', hy, rfl⟩ := nat_of y 6 (by decide) ⟨h3, by omega⟩
  exact cell_d x' hx y' hy
theorem dec_i (x : Int32) (h : 0 < x.toInt) : (x + Int32.ofInt (-1)).toInt = x.toInt - 1 := by
  have h1 : (Int32.ofInt (-1)).toInt = -1 := by decide
  have h2 := ia_b x
  rw [Int32.toInt_add, h1]
  exact Int.bmod_eq_of_le (by omega) (by omega)
set_option maxRecDepth 20000 in
theorem lf_x_lineOf_1 (cl : Int32) (nn : Int32) (bk : Int32) (y1 : Int32) (y3 : Int32) (y5 : Int32) (y7 : Int32) (e2 : y1 = (nI 12) * cl) (e4 : y3 = (nI 2) * nn) (e6 : y5 = y1 + y3) (e8 : y7 = y5 + bk) : y7 = nI 12 * cl + nI 2 * nn + bk := by
  subst_vars
  rfl
set_option maxHeartbeats 4000000 in
set_option maxRecDepth 100000 in
theorem c_x_lineOf (l : Launch) (dC : Nat → ClassId) (dI : Nat → Nat → Nat) (ky : Nat → ClassId) (cl : Int32) (nn : Int32) (bk : Int32)  : Met l yX12_lineOf wsX12_lineOf ({ frames := 0, cells := 0, slots := 0, locals := 0 }) (PcP dC dI ky [.int cl, .int nn, .int bk] []) (vp_Si (fun r : Int32 => r = nI 12 * cl + nI 2 * nn + bk)) 0 0 (fun _ => False) := by
  refine Met.ofW (cc := cX12_lineOf) (maxL := 3) (ret := (some .int)) (by decide) rfl ?_
  intro p e s m args below meth c s₁ B hml hv
  obtain ⟨rfl, hP, hK⟩ := hv
  have hx := B.exec
  have hb := B.bytes
  have hr := B.returns
  have hts := atoms_spec (ws := wsX12_lineOf) B.pre
  have hown : s.vm.findClass RX12 = some m.cls := findClass_of_methodNamed B.named
  have hlocks := B.notSynchronized
  have hl := lv_entry ([.int cl, .int nn, .int bk]) (n := 3) (Nat.le_of_ble_eq_true rfl)
  rw [lg_entry_eq]
  generalize (lg_sl ([.int cl, .int nn, .int bk]) ++ List.replicate (3 - (lg_sl ([.int cl, .int nn, .int bk])).length) Slot.unset).toArray = ls at hl ⊢
  have hl : lv_has ls 3 [(0, .int cl), (1, .int nn), (2, .int bk)] := hl
  refine q_name (fun Q hQ => ?_)
  generalize ([.int cl, .int nn, .int bk] : List Value).toArray = args at hts hQ ⊢
  refine lv_bipush (v := nI 12) hx hb dX12_lineOf_0 (by decide) ?_
  refine lv_iload_n hx hb dX12_lineOf_2 rfl (lv_at hl 0 rfl) ?_
  refine lv_imul hx hb dX12_lineOf_3 ?_
  refine lv_topi (fun y1 e2 => ?_)
  refine lv_iconst (v := nI 2) hx hb dX12_lineOf_4 (by decide) ?_
  refine lv_iload_n hx hb dX12_lineOf_5 rfl (lv_at hl 1 rfl) ?_
  refine lv_imul hx hb dX12_lineOf_6 ?_
  refine lv_topi (fun y3 e4 => ?_)
  refine lv_iadd hx hb dX12_lineOf_7 ?_
  refine lv_topi (fun y5 e6 => ?_)
  refine lv_iload_n hx hb dX12_lineOf_8 rfl (lv_at hl 2 rfl) ?_
  refine lv_iadd hx hb dX12_lineOf_9 ?_
  refine lv_topi (fun y7 e8 => ?_)
  rw [hQ]
  exact W.iret (v := y7) hx hb hr (fun t9 ht9 hW9 => ⟨y7, rfl, (lf_x_lineOf_1 cl nn bk y1 y3 y5 y7 e2 e4 e6 e8), ht9⟩) (fun _ h => absurd h List.not_mem_nil) dX12_lineOf_10
set_option maxRecDepth 20000 in
theorem lf_x_stir_1 (knowF : Nat → Int32) (y16 : Int32) (ab_now : NB knowF) (sb_now : SB knowF) (e17 : y16 = knowF 1) (b18 : 2 ≤ y16.toInt) (b19 : y16.toInt ≤ 6) : 0 ≤ y16.toInt ∧ y16.toInt < ((7 : Nat) : Int) := by
  have b_y16 := ia_b y16
  try simp only [ia_lt, ia_le, ia_eq, ia_m1, ia_0, ia_1, ne_eq, true_and, and_true, false_and, and_false, or_false, false_or, or_true, true_or, not_true_eq_false, not_false_eq_true] at *
  all_goals omega
set_option maxRecDepth 20000 in
theorem lf_x_stir_2 (knowF : Nat → Int32) (y16 : Int32) (n20 : Nat) (ab_now : NB knowF) (sb_now : SB knowF) (e17 : y16 = knowF 1) (b18 : 2 ≤ y16.toInt) (b19 : y16.toInt ≤ 6) (h21 : n20 < 7) (e22 : y16 = nI n20) : 2 ≤ n20 := by
  have b_y16 := ia_b y16
  try have k_0 := ia_n n20 (by first | decide | omega)
  try simp only [ia_lt, ia_le, ia_eq, ia_m1, ia_0, ia_1, ne_eq, true_and, and_true, false_and, and_false, or_false, false_or, or_true, true_or, not_true_eq_false, not_false_eq_true] at *
  all_goals omega
set_option maxRecDepth 20000 in
theorem lf_x_stir_3 (knowF : Nat → Int32) (y16 : Int32) (n20 : Nat) (ab_now : NB knowF) (sb_now : SB knowF) (e17 : y16 = knowF 1) (b18 : 2 ≤ y16.toInt) (b19 : y16.toInt ≤ 6) (h21 : n20 < 7) (e22 : y16 = nI n20) (f23 : 2 ≤ n20) : 1 ≤ n20 := by
  have b_y16 := ia_b y16
  try have k_0 := ia_n n20 (by first | decide | omega)
  try simp only [ia_lt, ia_le, ia_eq, ia_m1, ia_0, ia_1, ne_eq, true_and, and_true, false_and, and_false, or_false, false_or, or_true, true_or, not_true_eq_false, not_false_eq_true] at *
  all_goals omega
set_option maxRecDepth 20000 in
theorem lf_x_stir_4 (knowF : Nat → Int32) (x : Int32) (y : Int32) (z : Int32) (r1 : Int32) (y16 : Int32) (n20 : Nat) (ab_now : NB knowF) (sb_now : SB knowF) (p2 : r1 = nI 12 * x + nI 2 * y + z) (t5 : (nI 0).toInt ≤ x.toInt) (t6 : x.toInt ≤ (nI 1).toInt) (t11 : (nI 0).toInt ≤ z.toInt) (t12 : z.toInt ≤ (nI 1).toInt) (c15 : x ≠ nI 1) (e17 : y16 = knowF 1) (b18 : 2 ≤ y16.toInt) (b19 : y16.toInt ≤ 6) (h21 : n20 < 7) (e22 : y16 = nI n20) (f23 : 2 ≤ n20) (t26 : (nI 0).toInt ≤ y.toInt) (t27 : y.toInt ≤ (nI (n20 - 1)).toInt) : 0 ≤ r1.toInt ∧ r1.toInt ≤ 23 := by
  have b_x := ia_b x
  have b_y := ia_b y
  have b_z := ia_b z
  have b_r1 := ia_b r1
  have b_y16 := ia_b y16
  try have k_0 := ia_n 12 (by first | decide | omega)
  try have k_1 := ia_n 2 (by first | decide | omega)
  try have k_2 := ia_n 0 (by first | decide | omega)
  try have k_3 := ia_n 1 (by first | decide | omega)
  try have k_4 := ia_n n20 (by first | decide | omega)
  try have k_5 := ia_n (n20 - 1) (by first | decide | omega)
  subst_vars
  apply line_b
  all_goals try simp only [ia_lt, ia_le, ia_eq, ia_m1, ia_0, ia_1, ne_eq, true_and, and_true, false_and, and_false, or_false, false_or, or_true, true_or, not_true_eq_false, not_false_eq_true] at *
  all_goals omega
set_option maxRecDepth 20000 in
theorem lf_x_stir_5 (knowF : Nat → Int32) (y45 : Int32) (ab_now : NB knowF) (sb_now : SB knowF) (e46 : y45 = knowF 0) (b47 : 2 ≤ y45.toInt) (b48 : y45.toInt ≤ 6) : 0 ≤ y45.toInt ∧ y45.toInt < ((7 : Nat) : Int) := by
  have b_y45 := ia_b y45
  try simp only [ia_lt, ia_le, ia_eq, ia_m1, ia_0, ia_1, ne_eq, true_and, and_true, false_and, and_false, or_false, false_or, or_true, true_or, not_true_eq_false, not_false_eq_true] at *
  all_goals omega
set_option maxRecDepth 20000 in
theorem lf_x_stir_6 (knowF : Nat → Int32) (y45 : Int32) (n49 : Nat) (ab_now : NB knowF) (sb_now : SB knowF) (e46 : y45 = knowF 0) (b47 : 2 ≤ y45.toInt) (b48 : y45.toInt ≤ 6) (h50 : n49 < 7) (e51 : y45 = nI n49) : 2 ≤ n49 := by
  have b_y45 := ia_b y45
  try have k_0 := ia_n n49 (by first | decide | omega)
  try simp only [ia_lt, ia_le, ia_eq, ia_m1, ia_0, ia_1, ne_eq, true_and, and_true, false_and, and_false, or_false, false_or, or_true, true_or, not_true_eq_false, not_false_eq_true] at *
  all_goals omega
set_option maxRecDepth 20000 in
theorem lf_x_stir_7 (knowF : Nat → Int32) (y45 : Int32) (n49 : Nat) (ab_now : NB knowF) (sb_now : SB knowF) (e46 : y45 = knowF 0) (b47 : 2 ≤ y45.toInt) (b48 : y45.toInt ≤ 6) (h50 : n49 < 7) (e51 : y45 = nI n49) (f52 : 2 ≤ n49) : 1 ≤ n49 := by
  have b_y45 := ia_b y45
  try have k_0 := ia_n n49 (by first | decide | omega)
  try simp only [ia_lt, ia_le, ia_eq, ia_m1, ia_0, ia_1, ne_eq, true_and, and_true, false_and, and_false, or_false, false_or, or_true, true_or, not_true_eq_false, not_false_eq_true] at *
  all_goals omega
set_option maxRecDepth 20000 in
theorem lf_x_stir_8 (knowF : Nat → Int32) (x : Int32) (y : Int32) (z : Int32) (r1 : Int32) (y45 : Int32) (n49 : Nat) (ab_now : NB knowF) (sb_now : SB knowF) (p2 : r1 = nI 12 * x + nI 2 * y + z) (t5 : (nI 0).toInt ≤ x.toInt) (t6 : x.toInt ≤ (nI 1).toInt) (t11 : (nI 0).toInt ≤ z.toInt) (t12 : z.toInt ≤ (nI 1).toInt) (c15 : x = nI 1) (e46 : y45 = knowF 0) (b47 : 2 ≤ y45.toInt) (b48 : y45.toInt ≤ 6) (h50 : n49 < 7) (e51 : y45 = nI n49) (f52 : 2 ≤ n49) (t55 : (nI 0).toInt ≤ y.toInt) (t56 : y.toInt ≤ (nI (n49 - 1)).toInt) : 0 ≤ r1.toInt ∧ r1.toInt ≤ 23 := by
  have b_x := ia_b x
  have b_y := ia_b y
  have b_z := ia_b z
  have b_r1 := ia_b r1
  have b_y45 := ia_b y45
  try have k_0 := ia_n 12 (by first | decide | omega)
  try have k_1 := ia_n 2 (by first | decide | omega)
  try have k_2 := ia_n 0 (by first | decide | omega)
  try have k_3 := ia_n 1 (by first | decide | omega)
  try have k_4 := ia_n n49 (by first | decide | omega)
  try have k_5 := ia_n (n49 - 1) (by first | decide | omega)
  subst_vars
  apply line_b
  all_goals try simp only [ia_lt, ia_le, ia_eq, ia_m1, ia_0, ia_1, ne_eq, true_and, and_true, false_and, and_false, or_false, false_or, or_true, true_or, not_true_eq_false, not_false_eq_true] at *
  all_goals omega
set_option maxHeartbeats 4000000 in
set_option maxRecDepth 100000 in
theorem c_x_stir (l : Launch) (dC : Nat → ClassId) (dI : Nat → Nat → Nat) (ky : Nat → ClassId) (sz : Nat) (o : Nat) (kthrown : Int32) (ktape : Nat) (ktaped : Nat) (ksize : Nat) (klimit : Nat) (kto : Nat) (kfrom : Nat) (kkind : Int32) (knumber : Int32) (ksign : Int32) (kfault : Int32) (kplace : Int32) (kword : Int64) (ktold : Int32) (know : Nat) (kread : Nat) (kkept : Nat) (ksnaps : Nat) (kaside : Nat) (kname : Nat) (kreadName : Nat) (kkeptName : Nat) (kisKept : Nat) (konces : Nat) (ksnapMany : Nat) (khasCells : Int32) (kpoured : Nat) (kfar : Nat) (ksides : Nat) (ksideMany : Nat) (kwayDays : Int32) (khasWay : Int32) (klines : Nat) (kmet : Nat) (kmetMany : Nat) (ksunk : Nat) (ktrying : Nat) (ksunkMany : Nat) (ksending : Int32) (kfleets : Int32) (ktext : Nat) (ktexts : Nat) (kseed : Int32) (kline : Nat) (kwritten : Nat) (klineMany : Nat) (khasWritten : Int32) (knode : Nat) (knodes : Nat) (konesMany : Nat) (kwithin : Nat) (ktop : Nat) (knowF : Nat → Int32) (kpouredF : Nat → Int32) (ksnapsF : Nat → Int32) (x : Int32) (y : Int32) (z : Int32) (iv_ko_0 : ktaped ≤ 940) (iv_ko_1 : ksize ≤ 940) (iv_ko_2 : klimit ≤ 900) (iv_ko_3 : kto ≤ ksize) (iv_ko_4 : kfrom ≤ 940) (iv_ko_5 : ksnapMany ≤ 8) (iv_ko_6 : ksideMany ≤ 36) (iv_ko_7 : kmetMany ≤ 3) (iv_ko_8 : ksunkMany ≤ 36) (iv_ko_9 : ktexts ≤ 64) (iv_ko_10 : klineMany ≤ 40) (iv_ko_11 : knodes ≤ 60) (iv_ko_12 : konesMany ≤ 20) (iv_ko_13 : kwithin ≤ 8) (iv_ko_14 : ktop ≤ 59) (ab_now : NB knowF) (ab_poured : AP36 kpouredF) (ab_snaps : AB512 ksnapsF) (sb_now : SB knowF) : Met l yX12_stir wsX12_stir ({ frames := 4, cells := 0, slots := 0, locals := 97 }) (PcU dC dI ky [.ref o, .int x, .int y, .int z] [(o, .inr (12, [.int kthrown, .ref ktape, .int (nI ktaped), .int (nI ksize), .int (nI klimit), .int (nI kto), .int (nI kfrom), .int kkind, .int knumber, .int ksign, .int kfault, .int kplace, .long kword, .int ktold, .ref know, .ref kread, .ref kkept, .ref ksnaps, .ref kaside, .ref kname, .ref kreadName, .ref kkeptName, .ref kisKept, .ref konces, .int (nI ksnapMany), .int khasCells, .ref kpoured, .ref kfar, .ref ksides, .int (nI ksideMany), .int kwayDays, .int khasWay, .ref klines, .ref kmet, .int (nI kmetMany), .ref ksunk, .ref ktrying, .int (nI ksunkMany), .int ksending, .int kfleets, .ref ktext, .int (nI ktexts), .int kseed, .ref kline, .ref kwritten, .int (nI klineMany), .int khasWritten, .ref knode, .int (nI knodes), .int (nI konesMany), .int (nI kwithin), .int (nI ktop)])), (know, .inl (ky 0, 373, .inl knowF)), (kpoured, .inl (ky 0, 36, .inl kpouredF)), (ksnaps, .inl (ky 0, 512, .inl ksnapsF))] sz) (va_Qi (fun (r : Int32) (u : Int32 × Nat × (Nat → Int32) × (Nat → Int32) × (Nat → Int32)) => match u with | (kthrownG, ksnapManyG, knowG, kpouredG, ksnapsG) => (ksnapManyG ≤ 8) ∧ (NB knowG) ∧ (SB knowG) ∧ (AP36 kpouredG) ∧ (AB512 ksnapsG)) (BU dC dI ky (fun (u : Int32 × Nat × (Nat → Int32) × (Nat → Int32) × (Nat → Int32)) => match u with | (kthrownG, ksnapManyG, knowG, kpouredG, ksnapsG) => [(o, .inr (12, [.int kthrownG, .ref ktape, .int (nI ktaped), .int (nI ksize), .int (nI klimit), .int (nI kto), .int (nI kfrom), .int kkind, .int knumber, .int ksign, .int kfault, .int kplace, .long kword, .int ktold, .ref know, .ref kread, .ref kkept, .ref ksnaps, .ref kaside, .ref kname, .ref kreadName, .ref kkeptName, .ref kisKept, .ref konces, .int (nI ksnapManyG), .int khasCells, .ref kpoured, .ref kfar, .ref ksides, .int (nI ksideMany), .int kwayDays, .int khasWay, .ref klines, .ref kmet, .int (nI kmetMany), .ref ksunk, .ref ktrying, .int (nI ksunkMany), .int ksending, .int kfleets, .ref ktext, .int (nI ktexts), .int kseed, .ref kline, .ref kwritten, .int (nI klineMany), .int khasWritten, .ref knode, .int (nI knodes), .int (nI konesMany), .int (nI kwithin), .int (nI ktop)])), (know, .inl (ky 0, 373, .inl knowG)), (kpoured, .inl (ky 0, 36, .inl kpouredG)), (ksnaps, .inl (ky 0, 512, .inl ksnapsG))]) (va_A [(o, .inr (12, [.int kthrown, .ref ktape, .int (nI ktaped), .int (nI ksize), .int (nI klimit), .int (nI kto), .int (nI kfrom), .int kkind, .int knumber, .int ksign, .int kfault, .int kplace, .long kword, .int ktold, .ref know, .ref kread, .ref kkept, .ref ksnaps, .ref kaside, .ref kname, .ref kreadName, .ref kkeptName, .ref kisKept, .ref konces, .int (nI ksnapMany), .int khasCells, .ref kpoured, .ref kfar, .ref ksides, .int (nI ksideMany), .int kwayDays, .int khasWay, .ref klines, .ref kmet, .int (nI kmetMany), .ref ksunk, .ref ktrying, .int (nI ksunkMany), .int ksending, .int kfleets, .ref ktext, .int (nI ktexts), .int kseed, .ref kline, .ref kwritten, .int (nI klineMany), .int khasWritten, .ref knode, .int (nI knodes), .int (nI konesMany), .int (nI kwithin), .int (nI ktop)])), (know, .inl (ky 0, 373, .inl knowF)), (kpoured, .inl (ky 0, 36, .inl kpouredF)), (ksnaps, .inl (ky 0, 512, .inl ksnapsF))] sz)) (va_A [(o, .inr (12, [.int kthrown, .ref ktape, .int (nI ktaped), .int (nI ksize), .int (nI klimit), .int (nI kto), .int (nI kfrom), .int kkind, .int knumber, .int ksign, .int kfault, .int kplace, .long kword, .int ktold, .ref know, .ref kread, .ref kkept, .ref ksnaps, .ref kaside, .ref kname, .ref kreadName, .ref kkeptName, .ref kisKept, .ref konces, .int (nI ksnapMany), .int khasCells, .ref kpoured, .ref kfar, .ref ksides, .int (nI ksideMany), .int kwayDays, .int khasWay, .ref klines, .ref kmet, .int (nI kmetMany), .ref ksunk, .ref ktrying, .int (nI ksunkMany), .int ksending, .int kfleets, .ref ktext, .int (nI ktexts), .int kseed, .ref kline, .ref kwritten, .int (nI klineMany), .int khasWritten, .ref knode, .int (nI knodes), .int (nI konesMany), .int (nI kwithin), .int (nI ktop)])), (know, .inl (ky 0, 373, .inl knowF)), (kpoured, .inl (ky 0, 36, .inl kpouredF)), (ksnaps, .inl (ky 0, 512, .inl ksnapsF))] sz)) 0 0 (va_A [(o, .inr (12, [.int kthrown, .ref ktape, .int (nI ktaped), .int (nI ksize), .int (nI klimit), .int (nI kto), .int (nI kfrom), .int kkind, .int knumber, .int ksign, .int kfault, .int kplace, .long kword, .int ktold, .ref know, .ref kread, .ref kkept, .ref ksnaps, .ref kaside, .ref kname, .ref kreadName, .ref kkeptName, .ref kisKept, .ref konces, .int (nI ksnapMany), .int khasCells, .ref kpoured, .ref kfar, .ref ksides, .int (nI ksideMany), .int kwayDays, .int khasWay, .ref klines, .ref kmet, .int (nI kmetMany), .ref ksunk, .ref ktrying, .int (nI ksunkMany), .int ksending, .int kfleets, .ref ktext, .int (nI ktexts), .int kseed, .ref kline, .ref kwritten, .int (nI klineMany), .int khasWritten, .ref knode, .int (nI knodes), .int (nI konesMany), .int (nI kwithin), .int (nI ktop)])), (know, .inl (ky 0, 373, .inl knowF)), (kpoured, .inl (ky 0, 36, .inl kpouredF)), (ksnaps, .inl (ky 0, 512, .inl ksnapsF))] sz) := by
  refine Met.ofW (cc := cX12_stir) (maxL := 4) (ret := (some .int)) (by decide) rfl ?_
  intro p e s m args below meth c s₁ B hml hv
  obtain ⟨rfl, hsz, hP, hK, hD0⟩ := hv
  have hx := B.exec
  have hb := B.bytes
  have hr := B.returns
  have hts := atoms_spec (ws := wsX12_stir) B.pre
  have hown : s.vm.findClass RX12 = some m.cls := findClass_of_methodNamed B.named
  have hlocks := B.notSynchronized
  have hin12 : ∀ w ∈ u_ws RX12 TX12 52, w ∈ wsX12_stir := by decide +kernel
  subst hsz
  have hD := hD0.self (sz := s.heap.size)
  generalize hAe : va_A [(o, .inr (12, [.int kthrown, .ref ktape, .int (nI ktaped), .int (nI ksize), .int (nI klimit), .int (nI kto), .int (nI kfrom), .int kkind, .int knumber, .int ksign, .int kfault, .int kplace, .long kword, .int ktold, .ref know, .ref kread, .ref kkept, .ref ksnaps, .ref kaside, .ref kname, .ref kreadName, .ref kkeptName, .ref kisKept, .ref konces, .int (nI ksnapMany), .int khasCells, .ref kpoured, .ref kfar, .ref ksides, .int (nI ksideMany), .int kwayDays, .int khasWay, .ref klines, .ref kmet, .int (nI kmetMany), .ref ksunk, .ref ktrying, .int (nI ksunkMany), .int ksending, .int kfleets, .ref ktext, .int (nI ktexts), .int kseed, .ref kline, .ref kwritten, .int (nI klineMany), .int khasWritten, .ref knode, .int (nI knodes), .int (nI konesMany), .int (nI kwithin), .int (nI ktop)])), (know, .inl (ky 0, 373, .inl knowF)), (kpoured, .inl (ky 0, 36, .inl kpouredF)), (ksnaps, .inl (ky 0, 512, .inl ksnapsF))] s.heap.size = A at hD ⊢
  have hA : ∀ q : Nat, s.heap.size ≤ q → A q := fun q h => by rw [← hAe]; exact Or.inr h
  have hS : va_S A s.heap s.heap [] := va_S.rf
  have hl := lv_entry ([.ref o, .int x, .int y, .int z]) (n := 4) (Nat.le_of_ble_eq_true rfl)
  rw [lg_entry_eq]
  generalize (lg_sl ([.ref o, .int x, .int y, .int z]) ++ List.replicate (4 - (lg_sl ([.ref o, .int x, .int y, .int z])).length) Slot.unset).toArray = ls at hl ⊢
  have hl : lv_has ls 4 [(0, .ref o), (1, .int x), (2, .int y), (3, .int z)] := hl
  refine q_name (fun Q hQ => ?_)
  generalize ([.ref o, .int x, .int y, .int z] : List Value).toArray = args at hts hQ ⊢
  refine lv_aload_n hx hb dX12_stir_0 rfl (lv_at hl 0 rfl) ?_
  refine lv_iconst (v := nI 0) hx hb dX12_stir_1 (by decide) ?_
  refine va_put (D := (dC, dI)) (ci := 12) (v := .int (nI 0)) (ty := .int) (C := RX12) (T := TX12) (N := 52) hx hb hts hin12 tyX12 tyX12_ok nmX12 hown hK hP hD hS 0 rfl rfl 0 (by decide) (hts (.fieldLink RX12 1 "PorridgeSeaModel" "thrown" "I") (List.mem_of_getElem? (i := 1) rfl)) (fun _ h9 => h9) rfl (by decide +kernel) rfl rfl (Nat.le_of_ble_eq_true rfl) dX12_stir_2 (fun H locs hP hD hS => ?_)
  have hP : va_P (dC, dI) vwCl [(o, .inr (12, [.int (nI 0), .ref ktape, .int (nI ktaped), .int (nI ksize), .int (nI klimit), .int (nI kto), .int (nI kfrom), .int kkind, .int knumber, .int ksign, .int kfault, .int kplace, .long kword, .int ktold, .ref know, .ref kread, .ref kkept, .ref ksnaps, .ref kaside, .ref kname, .ref kreadName, .ref kkeptName, .ref kisKept, .ref konces, .int (nI ksnapMany), .int khasCells, .ref kpoured, .ref kfar, .ref ksides, .int (nI ksideMany), .int kwayDays, .int khasWay, .ref klines, .ref kmet, .int (nI kmetMany), .ref ksunk, .ref ktrying, .int (nI ksunkMany), .int ksending, .int kfleets, .ref ktext, .int (nI ktexts), .int kseed, .ref kline, .ref kwritten, .int (nI klineMany), .int khasWritten, .ref knode, .int (nI knodes), .int (nI konesMany), .int (nI kwithin), .int (nI ktop)])), (know, .inl (ky 0, 373, .inl knowF)), (kpoured, .inl (ky 0, 36, .inl kpouredF)), (ksnaps, .inl (ky 0, 512, .inl ksnapsF))] H := hP
  have hD : va_D A [(o, .inr (12, [.int (nI 0), .ref ktape, .int (nI ktaped), .int (nI ksize), .int (nI klimit), .int (nI kto), .int (nI kfrom), .int kkind, .int knumber, .int ksign, .int kfault, .int kplace, .long kword, .int ktold, .ref know, .ref kread, .ref kkept, .ref ksnaps, .ref kaside, .ref kname, .ref kreadName, .ref kkeptName, .ref kisKept, .ref konces, .int (nI ksnapMany), .int khasCells, .ref kpoured, .ref kfar, .ref ksides, .int (nI ksideMany), .int kwayDays, .int khasWay, .ref klines, .ref kmet, .int (nI kmetMany), .ref ksunk, .ref ktrying, .int (nI ksunkMany), .int ksending, .int kfleets, .ref ktext, .int (nI ktexts), .int kseed, .ref kline, .ref kwritten, .int (nI klineMany), .int khasWritten, .ref knode, .int (nI knodes), .int (nI konesMany), .int (nI kwithin), .int (nI ktop)])), (know, .inl (ky 0, 373, .inl knowF)), (kpoured, .inl (ky 0, 36, .inl kpouredF)), (ksnaps, .inl (ky 0, 512, .inl ksnapsF))] := hD
  refine lv_aload_n hx hb dX12_stir_5 rfl (lv_at hl 0 rfl) ?_
  refine lv_iconst (v := nI 0) hx hb dX12_stir_6 (by decide) ?_
  refine lv_iload_n hx hb dX12_stir_7 rfl (lv_at hl 1 rfl) ?_
  refine lv_iload_n hx hb dX12_stir_8 rfl (lv_at hl 2 rfl) ?_
  refine lv_iload_n hx hb dX12_stir_9 rfl (lv_at hl 3 rfl) ?_
  refine vp_callSi (W.runS (As := [.int x, .int y, .int z]) (rest := [.int (nI 0), .ref o]) ⟨hx, hb, hml, hown, hts⟩ (c_x_lineOf l dC dI ky x y z) (va_cwS 3 hts gX12_stir_X12_lineOf rfl rfl rfl (by decide +kernel) ⟨(Nat.le_of_ble_eq_true rfl), (Nat.le_of_ble_eq_true rfl)⟩) (pre_PS hK hP [] rfl) rfl rfl hl.1 rfl (lv_room (Nat.le_of_ble_eq_true rfl)) dX12_stir_10 ⟨(Nat.le_of_ble_eq_true rfl), (Nat.le_of_ble_eq_true rfl)⟩) (fun r1 p2 => ?_)
  refine lv_iconst (v := nI 0) hx hb dX12_stir_13 (by decide) ?_
  refine lv_iload_n hx hb dX12_stir_14 rfl (lv_at hl 1 rfl) ?_
  refine lv_iconst (v := nI 0) hx hb dX12_stir_15 (by decide) ?_
  refine lv_iconst (v := nI 1) hx hb dX12_stir_16 (by decide) ?_
  refine vp_callSi (W.runS (As := [.int x, .int (nI 0), .int (nI 1)]) (rest := [.int (nI 0), .int r1, .int (nI 0), .ref o]) ⟨hx, hb, hml, hown, hts⟩ (c_x_isIn l dC dI ky x (nI 0) (nI 1)) (va_cwS 3 hts gX12_stir_X12_isIn rfl rfl rfl (by decide +kernel) ⟨(Nat.le_of_ble_eq_true rfl), (Nat.le_of_ble_eq_true rfl)⟩) (pre_PS hK hP [] rfl) rfl rfl hl.1 rfl (lv_room (Nat.le_of_ble_eq_true rfl)) dX12_stir_17 ⟨(Nat.le_of_ble_eq_true rfl), (Nat.le_of_ble_eq_true rfl)⟩) (fun r3 p4 => ?_)
  rcases p4 with ⟨rfl, t5, t6⟩ | ⟨rfl, t7⟩
  · refine lv_if_eq (tgt := 61) hx hb dX12_stir_20 (by decide) (fun c8 => absurd c8 (by decide)) (fun c8 => ?_)
    refine lv_iload_n hx hb dX12_stir_23 rfl (lv_at hl 3 rfl) ?_
    refine lv_iconst (v := nI 0) hx hb dX12_stir_24 (by decide) ?_
    refine lv_iconst (v := nI 1) hx hb dX12_stir_25 (by decide) ?_
    refine vp_callSi (W.runS (As := [.int z, .int (nI 0), .int (nI 1)]) (rest := [.int (nI 0), .int r1, .int (nI 0), .ref o]) ⟨hx, hb, hml, hown, hts⟩ (c_x_isIn l dC dI ky z (nI 0) (nI 1)) (va_cwS 3 hts gX12_stir_X12_isIn rfl rfl rfl (by decide +kernel) ⟨(Nat.le_of_ble_eq_true rfl), (Nat.le_of_ble_eq_true rfl)⟩) (pre_PS hK hP [] rfl) rfl rfl hl.1 rfl (lv_room (Nat.le_of_ble_eq_true rfl)) dX12_stir_26 ⟨(Nat.le_of_ble_eq_true rfl), (Nat.le_of_ble_eq_true rfl)⟩) (fun r9 p10 => ?_)
    rcases p10 with ⟨rfl, t11, t12⟩ | ⟨rfl, t13⟩
    · refine lv_if_eq (tgt := 61) hx hb dX12_stir_29 (by decide) (fun c14 => absurd c14 (by decide)) (fun c14 => ?_)
      refine lv_iload_n hx hb dX12_stir_32 rfl (lv_at hl 2 rfl) ?_
      refine lv_iconst (v := nI 0) hx hb dX12_stir_33 (by decide) ?_
      refine lv_aload_n hx hb dX12_stir_34 rfl (lv_at hl 0 rfl) ?_
      refine va_get (D := (dC, dI)) (ci := 12) (v := .ref know) (C := RX12) (T := TX12) (N := 52) hx hb hts hin12 hown hK hP 0 rfl rfl 14 (by decide) (hts (.fieldLink RX12 98 "PorridgeSeaModel" "now" "[I") (List.mem_of_getElem? (i := 2) rfl)) (fun _ h9 => h9) rfl dX12_stir_35 ?_
      refine lv_iload_n hx hb dX12_stir_38 rfl (lv_at hl 1 rfl) ?_
      refine lv_iconst (v := nI 1) hx hb dX12_stir_39 (by decide) ?_
      refine lv_icmp_ne (tgt := 47) hx hb dX12_stir_40 (by decide) (fun c15 => ?_) (fun c15 => ?_)
      · refine lv_iconst (v := nI 1) hx hb dX12_stir_47 (by decide) ?_
        obtain ⟨y16, e17⟩ : ∃ z9, z9 = knowF 1 := ⟨_, rfl⟩
        refine r_iald hx hb hK hP 1 rfl 1 (by decide) (by decide) y16 e17.symm dX12_stir_48 ?_
        obtain ⟨b18, b19⟩ : (2 : Int) ≤ y16.toInt ∧ y16.toInt ≤ 6 := by rw [e17]; exact ld_NB_1 ab_now 1 (by decide) (by decide)
        refine lv_iconst (v := nI 1) hx hb dX12_stir_49 (by decide) ?_
        obtain ⟨n20, h21, e22⟩ := nat_of y16 7 (by decide) (lf_x_stir_1 knowF y16 ab_now sb_now e17 b18 b19)
        have f23 : 2 ≤ n20 := (lf_x_stir_2 knowF y16 n20 ab_now sb_now e17 b18 b19 h21 e22)
        rw [e22]
        refine lv_isub hx hb dX12_stir_50 ?_
        refine r_ti (nI (n20 - 1)) (pk_sub (lf_x_stir_3 knowF y16 n20 ab_now sb_now e17 b18 b19 h21 e22 f23)) ?_
        refine vp_callSi (W.runS (As := [.int y, .int (nI 0), .int (nI (n20 - 1))]) (rest := [.int (nI 0), .int r1, .int (nI 0), .ref o]) ⟨hx, hb, hml, hown, hts⟩ (c_x_isIn l dC dI ky y (nI 0) (nI (n20 - 1))) (va_cwS 3 hts gX12_stir_X12_isIn rfl rfl rfl (by decide +kernel) ⟨(Nat.le_of_ble_eq_true rfl), (Nat.le_of_ble_eq_true rfl)⟩) (pre_PS hK hP [] rfl) rfl rfl hl.1 rfl (lv_room (Nat.le_of_ble_eq_true rfl)) dX12_stir_51 ⟨(Nat.le_of_ble_eq_true rfl), (Nat.le_of_ble_eq_true rfl)⟩) (fun r24 p25 => ?_)
        rcases p25 with ⟨rfl, t26, t27⟩ | ⟨rfl, t28⟩
        · refine lv_if_eq (tgt := 61) hx hb dX12_stir_54 (by decide) (fun c29 => absurd c29 (by decide)) (fun c29 => ?_)
          refine lv_iconst (v := nI 1) hx hb dX12_stir_57 (by decide) ?_
          refine lv_goto (tgt := 62) hx hb dX12_stir_58 (by decide) ?_
          refine r_call_i (wr := []) (va_runV (As := [.int (nI 0), .int r1, .int (nI 0), .int (nI 1)]) (rest := []) ⟨hx, hb, hml, hown, hts⟩ (c_x_act0 l dC dI ky H.size o (nI 0) ktape ktaped ksize klimit kto kfrom kkind knumber ksign kfault kplace kword ktold know kread kkept ksnaps kaside kname kreadName kkeptName kisKept konces ksnapMany khasCells kpoured kfar ksides ksideMany kwayDays khasWay klines kmet kmetMany ksunk ktrying ksunkMany ksending kfleets ktext ktexts kseed kline kwritten klineMany khasWritten knode knodes konesMany kwithin ktop knowF kpouredF ksnapsF r1 (nI 0) iv_ko_0 iv_ko_1 iv_ko_2 iv_ko_3 iv_ko_4 iv_ko_5 iv_ko_6 iv_ko_7 iv_ko_8 iv_ko_9 iv_ko_10 iv_ko_11 iv_ko_12 iv_ko_13 iv_ko_14 ab_now ab_poured ab_snaps sb_now (lf_x_stir_4 knowF x y z r1 y16 n20 ab_now sb_now p2 t5 t6 t11 t12 c15 e17 b18 b19 h21 e22 f23 t26 t27)) (cwV 4 hts gX12_stir_X12_act rfl rfl rfl (by decide +kernel) ⟨(Nat.le_of_ble_eq_true rfl), (Nat.le_of_ble_eq_true rfl)⟩) (pre_UV hK hP hD [0, 1, 2, 3] (by decide) rfl (ci := 12) (q0 := 0) rfl rfl) rfl rfl hl.1 rfl (lv_room (Nat.le_of_ble_eq_true rfl)) dX12_stir_62 ⟨(Nat.le_of_ble_eq_true rfl), (Nat.le_of_ble_eq_true rfl)⟩) hP hD hS hA [0, 1, 2, 3] [] rfl rfl (by decide) (by decide) (fun r32 u30 H locs p31 hP hD hS => ?_)
          obtain ⟨ksnapManyG_33, knowG_34, kpouredG_35, ksnapsG_36⟩ := u30
          try dsimp only at p31
          obtain ⟨p37, p38, p39, p40, p41⟩ := p31
          refine W.widen (k := 0) (n := 0) (Nat.le_of_ble_eq_true rfl) (Nat.le_of_ble_eq_true rfl) ?_
          have hP : va_P (dC, dI) vwCl [(o, .inr (12, [.int (nI 0), .ref ktape, .int (nI ktaped), .int (nI ksize), .int (nI klimit), .int (nI kto), .int (nI kfrom), .int kkind, .int knumber, .int ksign, .int kfault, .int kplace, .long kword, .int ktold, .ref know, .ref kread, .ref kkept, .ref ksnaps, .ref kaside, .ref kname, .ref kreadName, .ref kkeptName, .ref kisKept, .ref konces, .int (nI ksnapManyG_33), .int khasCells, .ref kpoured, .ref kfar, .ref ksides, .int (nI ksideMany), .int kwayDays, .int khasWay, .ref klines, .ref kmet, .int (nI kmetMany), .ref ksunk, .ref ktrying, .int (nI ksunkMany), .int ksending, .int kfleets, .ref ktext, .int (nI ktexts), .int kseed, .ref kline, .ref kwritten, .int (nI klineMany), .int khasWritten, .ref knode, .int (nI knodes), .int (nI konesMany), .int (nI kwithin), .int (nI ktop)])), (know, .inl (ky 0, 373, .inl knowG_34)), (kpoured, .inl (ky 0, 36, .inl kpouredG_35)), (ksnaps, .inl (ky 0, 512, .inl ksnapsG_36))] H := hP
          have hD : va_D A [(o, .inr (12, [.int (nI 0), .ref ktape, .int (nI ktaped), .int (nI ksize), .int (nI klimit), .int (nI kto), .int (nI kfrom), .int kkind, .int knumber, .int ksign, .int kfault, .int kplace, .long kword, .int ktold, .ref know, .ref kread, .ref kkept, .ref ksnaps, .ref kaside, .ref kname, .ref kreadName, .ref kkeptName, .ref kisKept, .ref konces, .int (nI ksnapManyG_33), .int khasCells, .ref kpoured, .ref kfar, .ref ksides, .int (nI ksideMany), .int kwayDays, .int khasWay, .ref klines, .ref kmet, .int (nI kmetMany), .ref ksunk, .ref ktrying, .int (nI ksunkMany), .int ksending, .int kfleets, .ref ktext, .int (nI ktexts), .int kseed, .ref kline, .ref kwritten, .int (nI klineMany), .int khasWritten, .ref knode, .int (nI knodes), .int (nI konesMany), .int (nI kwithin), .int (nI ktop)])), (know, .inl (ky 0, 373, .inl knowG_34)), (kpoured, .inl (ky 0, 36, .inl kpouredG_35)), (ksnaps, .inl (ky 0, 512, .inl ksnapsG_36))] := hD
          rw [hQ]
          exact W.iret (v := r32) hx hb hr (fun t9 ht9 hW9 => ⟨⟨r32, (nI 0, ksnapManyG_33, knowG_34, kpouredG_35, ksnapsG_36), rfl, ⟨p37, p38, p39, p40, p41⟩, by rw [ht9]; exact hP, va_K.moved hW9.alike hK, hD⟩, hS.F ht9⟩) hS.2.2 dX12_stir_65
        · refine lv_if_eq (tgt := 61) hx hb dX12_stir_54 (by decide) (fun c42 => ?_) (fun c42 => absurd (by decide) c42)
          refine lv_iconst (v := nI 0) hx hb dX12_stir_61 (by decide) ?_
          refine vp_callSi (W.runV (As := [.int (nI 0), .int r1, .int (nI 0), .int (nI 0)]) (rest := []) ⟨hx, hb, hml, hown, hts⟩ (c_x_actNo l dC dI ky o (nI 0) ktape ktaped ksize klimit kto kfrom kkind knumber ksign kfault kplace kword ktold know kread kkept ksnaps kaside kname kreadName kkeptName kisKept konces ksnapMany khasCells kpoured kfar ksides ksideMany kwayDays khasWay klines kmet kmetMany ksunk ktrying ksunkMany ksending kfleets ktext ktexts kseed kline kwritten klineMany khasWritten knode knodes konesMany kwithin ktop (nI 0) r1 (nI 0) iv_ko_0 iv_ko_1 iv_ko_2 iv_ko_3 iv_ko_4 iv_ko_5 iv_ko_6 iv_ko_7 iv_ko_8 iv_ko_9 iv_ko_10 iv_ko_11 iv_ko_12 iv_ko_13 iv_ko_14) (cwV 4 hts gX12_stir_X12_act rfl rfl rfl (by decide +kernel) ⟨(Nat.le_of_ble_eq_true rfl), (Nat.le_of_ble_eq_true rfl)⟩) (pre_PV hK hP [0] rfl (ci := 12) (q0 := 0) rfl rfl) rfl rfl hl.1 rfl (lv_room (Nat.le_of_ble_eq_true rfl)) dX12_stir_62 ⟨(Nat.le_of_ble_eq_true rfl), (Nat.le_of_ble_eq_true rfl)⟩) (fun r43 p44 => ?_)
          subst p44
          rw [hQ]
          exact W.iret (v := (-1 : Int32)) hx hb hr (fun t9 ht9 hW9 => ⟨⟨(-1 : Int32), (nI 0, ksnapMany, knowF, kpouredF, ksnapsF), rfl, ⟨iv_ko_5, ab_now, sb_now, ab_poured, ab_snaps⟩, by rw [ht9]; exact hP, va_K.moved hW9.alike hK, hD⟩, hS.F ht9⟩) hS.2.2 dX12_stir_65
      · refine lv_iconst (v := nI 0) hx hb dX12_stir_43 (by decide) ?_
        refine lv_goto (tgt := 48) hx hb dX12_stir_44 (by decide) ?_
        obtain ⟨y45, e46⟩ : ∃ z9, z9 = knowF 0 := ⟨_, rfl⟩
        refine r_iald hx hb hK hP 1 rfl 0 (by decide) (by decide) y45 e46.symm dX12_stir_48 ?_
        obtain ⟨b47, b48⟩ : (2 : Int) ≤ y45.toInt ∧ y45.toInt ≤ 6 := by rw [e46]; exact ld_NB_0 ab_now 0 (by decide) (by decide)
        refine lv_iconst (v := nI 1) hx hb dX12_stir_49 (by decide) ?_
        obtain ⟨n49, h50, e51⟩ := nat_of y45 7 (by decide) (lf_x_stir_5 knowF y45 ab_now sb_now e46 b47 b48)
        have f52 : 2 ≤ n49 := (lf_x_stir_6 knowF y45 n49 ab_now sb_now e46 b47 b48 h50 e51)
        rw [e51]
        refine lv_isub hx hb dX12_stir_50 ?_
        refine r_ti (nI (n49 - 1)) (pk_sub (lf_x_stir_7 knowF y45 n49 ab_now sb_now e46 b47 b48 h50 e51 f52)) ?_
        refine vp_callSi (W.runS (As := [.int y, .int (nI 0), .int (nI (n49 - 1))]) (rest := [.int (nI 0), .int r1, .int (nI 0), .ref o]) ⟨hx, hb, hml, hown, hts⟩ (c_x_isIn l dC dI ky y (nI 0) (nI (n49 - 1))) (va_cwS 3 hts gX12_stir_X12_isIn rfl rfl rfl (by decide +kernel) ⟨(Nat.le_of_ble_eq_true rfl), (Nat.le_of_ble_eq_true rfl)⟩) (pre_PS hK hP [] rfl) rfl rfl hl.1 rfl (lv_room (Nat.le_of_ble_eq_true rfl)) dX12_stir_51 ⟨(Nat.le_of_ble_eq_true rfl), (Nat.le_of_ble_eq_true rfl)⟩) (fun r53 p54 => ?_)
        rcases p54 with ⟨rfl, t55, t56⟩ | ⟨rfl, t57⟩
        · refine lv_if_eq (tgt := 61) hx hb dX12_stir_54 (by decide) (fun c58 => absurd c58 (by decide)) (fun c58 => ?_)
          refine lv_iconst (v := nI 1) hx hb dX12_stir_57 (by decide) ?_
          refine lv_goto (tgt := 62) hx hb dX12_stir_58 (by decide) ?_
          refine r_call_i (wr := []) (va_runV (As := [.int (nI 0), .int r1, .int (nI 0), .int (nI 1)]) (rest := []) ⟨hx, hb, hml, hown, hts⟩ (c_x_act0 l dC dI ky H.size o (nI 0) ktape ktaped ksize klimit kto kfrom kkind knumber ksign kfault kplace kword ktold know kread kkept ksnaps kaside kname kreadName kkeptName kisKept konces ksnapMany khasCells kpoured kfar ksides ksideMany kwayDays khasWay klines kmet kmetMany ksunk ktrying ksunkMany ksending kfleets ktext ktexts kseed kline kwritten klineMany khasWritten knode knodes konesMany kwithin ktop knowF kpouredF ksnapsF r1 (nI 0) iv_ko_0 iv_ko_1 iv_ko_2 iv_ko_3 iv_ko_4 iv_ko_5 iv_ko_6 iv_ko_7 iv_ko_8 iv_ko_9 iv_ko_10 iv_ko_11 iv_ko_12 iv_ko_13 iv_ko_14 ab_now ab_poured ab_snaps sb_now (lf_x_stir_8 knowF x y z r1 y45 n49 ab_now sb_now p2 t5 t6 t11 t12 c15 e46 b47 b48 h50 e51 f52 t55 t56)) (cwV 4 hts gX12_stir_X12_act rfl rfl rfl (by decide +kernel) ⟨(Nat.le_of_ble_eq_true rfl), (Nat.le_of_ble_eq_true rfl)⟩) (pre_UV hK hP hD [0, 1, 2, 3] (by decide) rfl (ci := 12) (q0 := 0) rfl rfl) rfl rfl hl.1 rfl (lv_room (Nat.le_of_ble_eq_true rfl)) dX12_stir_62 ⟨(Nat.le_of_ble_eq_true rfl), (Nat.le_of_ble_eq_true rfl)⟩) hP hD hS hA [0, 1, 2, 3] [] rfl rfl (by decide) (by decide) (fun r61 u59 H locs p60 hP hD hS => ?_)
          obtain ⟨ksnapManyG_62, knowG_63, kpouredG_64, ksnapsG_65⟩ := u59
          try dsimp only at p60
          obtain ⟨p66, p67, p68, p69, p70⟩ := p60
          refine W.widen (k := 0) (n := 0) (Nat.le_of_ble_eq_true rfl) (Nat.le_of_ble_eq_true rfl) ?_
          have hP : va_P (dC, dI) vwCl [(o, .inr (12, [.int (nI 0), .ref ktape, .int (nI ktaped), .int (nI ksize), .int (nI klimit), .int (nI kto), .int (nI kfrom), .int kkind, .int knumber, .int ksign, .int kfault, .int kplace, .long kword, .int ktold, .ref know, .ref kread, .ref kkept, .ref ksnaps, .ref kaside, .ref kname, .ref kreadName, .ref kkeptName, .ref kisKept, .ref konces, .int (nI ksnapManyG_62), .int khasCells, .ref kpoured, .ref kfar, .ref ksides, .int (nI ksideMany), .int kwayDays, .int khasWay, .ref klines, .ref kmet, .int (nI kmetMany), .ref ksunk, .ref ktrying, .int (nI ksunkMany), .int ksending, .int kfleets, .ref ktext, .int (nI ktexts), .int kseed, .ref kline, .ref kwritten, .int (nI klineMany), .int khasWritten, .ref knode, .int (nI knodes), .int (nI konesMany), .int (nI kwithin), .int (nI ktop)])), (know, .inl (ky 0, 373, .inl knowG_63)), (kpoured, .inl (ky 0, 36, .inl kpouredG_64)), (ksnaps, .inl (ky 0, 512, .inl ksnapsG_65))] H := hP
          have hD : va_D A [(o, .inr (12, [.int (nI 0), .ref ktape, .int (nI ktaped), .int (nI ksize), .int (nI klimit), .int (nI kto), .int (nI kfrom), .int kkind, .int knumber, .int ksign, .int kfault, .int kplace, .long kword, .int ktold, .ref know, .ref kread, .ref kkept, .ref ksnaps, .ref kaside, .ref kname, .ref kreadName, .ref kkeptName, .ref kisKept, .ref konces, .int (nI ksnapManyG_62), .int khasCells, .ref kpoured, .ref kfar, .ref ksides, .int (nI ksideMany), .int kwayDays, .int khasWay, .ref klines, .ref kmet, .int (nI kmetMany), .ref ksunk, .ref ktrying, .int (nI ksunkMany), .int ksending, .int kfleets, .ref ktext, .int (nI ktexts), .int kseed, .ref kline, .ref kwritten, .int (nI klineMany), .int khasWritten, .ref knode, .int (nI knodes), .int (nI konesMany), .int (nI kwithin), .int (nI ktop)])), (know, .inl (ky 0, 373, .inl knowG_63)), (kpoured, .inl (ky 0, 36, .inl kpouredG_64)), (ksnaps, .inl (ky 0, 512, .inl ksnapsG_65))] := hD
          rw [hQ]
          exact W.iret (v := r61) hx hb hr (fun t9 ht9 hW9 => ⟨⟨r61, (nI 0, ksnapManyG_62, knowG_63, kpouredG_64, ksnapsG_65), rfl, ⟨p66, p67, p68, p69, p70⟩, by rw [ht9]; exact hP, va_K.moved hW9.alike hK, hD⟩, hS.F ht9⟩) hS.2.2 dX12_stir_65
        · refine lv_if_eq (tgt := 61) hx hb dX12_stir_54 (by decide) (fun c71 => ?_) (fun c71 => absurd (by decide) c71)
          refine lv_iconst (v := nI 0) hx hb dX12_stir_61 (by decide) ?_
          refine vp_callSi (W.runV (As := [.int (nI 0), .int r1, .int (nI 0), .int (nI 0)]) (rest := []) ⟨hx, hb, hml, hown, hts⟩ (c_x_actNo l dC dI ky o (nI 0) ktape ktaped ksize klimit kto kfrom kkind knumber ksign kfault kplace kword ktold know kread kkept ksnaps kaside kname kreadName kkeptName kisKept konces ksnapMany khasCells kpoured kfar ksides ksideMany kwayDays khasWay klines kmet kmetMany ksunk ktrying ksunkMany ksending kfleets ktext ktexts kseed kline kwritten klineMany khasWritten knode knodes konesMany kwithin ktop (nI 0) r1 (nI 0) iv_ko_0 iv_ko_1 iv_ko_2 iv_ko_3 iv_ko_4 iv_ko_5 iv_ko_6 iv_ko_7 iv_ko_8 iv_ko_9 iv_ko_10 iv_ko_11 iv_ko_12 iv_ko_13 iv_ko_14) (cwV 4 hts gX12_stir_X12_act rfl rfl rfl (by decide +kernel) ⟨(Nat.le_of_ble_eq_true rfl), (Nat.le_of_ble_eq_true rfl)⟩) (pre_PV hK hP [0] rfl (ci := 12) (q0 := 0) rfl rfl) rfl rfl hl.1 rfl (lv_room (Nat.le_of_ble_eq_true rfl)) dX12_stir_62 ⟨(Nat.le_of_ble_eq_true rfl), (Nat.le_of_ble_eq_true rfl)⟩) (fun r72 p73 => ?_)
          subst p73
          rw [hQ]
          exact W.iret (v := (-1 : Int32)) hx hb hr (fun t9 ht9 hW9 => ⟨⟨(-1 : Int32), (nI 0, ksnapMany, knowF, kpouredF, ksnapsF), rfl, ⟨iv_ko_5, ab_now, sb_now, ab_poured, ab_snaps⟩, by rw [ht9]; exact hP, va_K.moved hW9.alike hK, hD⟩, hS.F ht9⟩) hS.2.2 dX12_stir_65
    · refine lv_if_eq (tgt := 61) hx hb dX12_stir_29 (by decide) (fun c74 => ?_) (fun c74 => absurd (by decide) c74)
      refine lv_iconst (v := nI 0) hx hb dX12_stir_61 (by decide) ?_
      refine vp_callSi (W.runV (As := [.int (nI 0), .int r1, .int (nI 0), .int (nI 0)]) (rest := []) ⟨hx, hb, hml, hown, hts⟩ (c_x_actNo l dC dI ky o (nI 0) ktape ktaped ksize klimit kto kfrom kkind knumber ksign kfault kplace kword ktold know kread kkept ksnaps kaside kname kreadName kkeptName kisKept konces ksnapMany khasCells kpoured kfar ksides ksideMany kwayDays khasWay klines kmet kmetMany ksunk ktrying ksunkMany ksending kfleets ktext ktexts kseed kline kwritten klineMany khasWritten knode knodes konesMany kwithin ktop (nI 0) r1 (nI 0) iv_ko_0 iv_ko_1 iv_ko_2 iv_ko_3 iv_ko_4 iv_ko_5 iv_ko_6 iv_ko_7 iv_ko_8 iv_ko_9 iv_ko_10 iv_ko_11 iv_ko_12 iv_ko_13 iv_ko_14) (cwV 4 hts gX12_stir_X12_act rfl rfl rfl (by decide +kernel) ⟨(Nat.le_of_ble_eq_true rfl), (Nat.le_of_ble_eq_true rfl)⟩) (pre_PV hK hP [0] rfl (ci := 12) (q0 := 0) rfl rfl) rfl rfl hl.1 rfl (lv_room (Nat.le_of_ble_eq_true rfl)) dX12_stir_62 ⟨(Nat.le_of_ble_eq_true rfl), (Nat.le_of_ble_eq_true rfl)⟩) (fun r75 p76 => ?_)
      subst p76
      rw [hQ]
      exact W.iret (v := (-1 : Int32)) hx hb hr (fun t9 ht9 hW9 => ⟨⟨(-1 : Int32), (nI 0, ksnapMany, knowF, kpouredF, ksnapsF), rfl, ⟨iv_ko_5, ab_now, sb_now, ab_poured, ab_snaps⟩, by rw [ht9]; exact hP, va_K.moved hW9.alike hK, hD⟩, hS.F ht9⟩) hS.2.2 dX12_stir_65
  · refine lv_if_eq (tgt := 61) hx hb dX12_stir_20 (by decide) (fun c77 => ?_) (fun c77 => absurd (by decide) c77)
    refine lv_iconst (v := nI 0) hx hb dX12_stir_61 (by decide) ?_
    refine vp_callSi (W.runV (As := [.int (nI 0), .int r1, .int (nI 0), .int (nI 0)]) (rest := []) ⟨hx, hb, hml, hown, hts⟩ (c_x_actNo l dC dI ky o (nI 0) ktape ktaped ksize klimit kto kfrom kkind knumber ksign kfault kplace kword ktold know kread kkept ksnaps kaside kname kreadName kkeptName kisKept konces ksnapMany khasCells kpoured kfar ksides ksideMany kwayDays khasWay klines kmet kmetMany ksunk ktrying ksunkMany ksending kfleets ktext ktexts kseed kline kwritten klineMany khasWritten knode knodes konesMany kwithin ktop (nI 0) r1 (nI 0) iv_ko_0 iv_ko_1 iv_ko_2 iv_ko_3 iv_ko_4 iv_ko_5 iv_ko_6 iv_ko_7 iv_ko_8 iv_ko_9 iv_ko_10 iv_ko_11 iv_ko_12 iv_ko_13 iv_ko_14) (cwV 4 hts gX12_stir_X12_act rfl rfl rfl (by decide +kernel) ⟨(Nat.le_of_ble_eq_true rfl), (Nat.le_of_ble_eq_true rfl)⟩) (pre_PV hK hP [0] rfl (ci := 12) (q0 := 0) rfl rfl) rfl rfl hl.1 rfl (lv_room (Nat.le_of_ble_eq_true rfl)) dX12_stir_62 ⟨(Nat.le_of_ble_eq_true rfl), (Nat.le_of_ble_eq_true rfl)⟩) (fun r78 p79 => ?_)
    subst p79
    rw [hQ]
    exact W.iret (v := (-1 : Int32)) hx hb hr (fun t9 ht9 hW9 => ⟨⟨(-1 : Int32), (nI 0, ksnapMany, knowF, kpouredF, ksnapsF), rfl, ⟨iv_ko_5, ab_now, sb_now, ab_poured, ab_snaps⟩, by rw [ht9]; exact hP, va_K.moved hW9.alike hK, hD⟩, hS.F ht9⟩) hS.2.2 dX12_stir_65
set_option maxRecDepth 20000 in
theorem lf_x_row_1 (knowF : Nat → Int32) (x : Int32) (ab_now : NB knowF) (sb_now : SB knowF) (t3 : 0 ≤ x.toInt) (t4 : x.toInt < (knowF 3).toInt) (t5 : x.toInt ≤ 5) : 0 ≤ x.toInt ∧ x.toInt < ((6 : Nat) : Int) := by
  have b_x := ia_b x
  try simp only [ia_lt, ia_le, ia_eq, ia_m1, ia_0, ia_1, ne_eq, true_and, and_true, false_and, and_false, or_false, false_or, or_true, true_or, not_true_eq_false, not_false_eq_true] at *
  all_goals omega
set_option maxRecDepth 20000 in
theorem lf_x_row_2 (y : Int32) (t10 : (nI 0).toInt ≤ y.toInt) (t11 : y.toInt ≤ (nI 3).toInt) : 0 ≤ y.toInt ∧ y.toInt ≤ 3 := by
  have b_y := ia_b y
  try have k_0 := ia_n 0 (by first | decide | omega)
  try have k_1 := ia_n 3 (by first | decide | omega)
  try simp only [ia_lt, ia_le, ia_eq, ia_m1, ia_0, ia_1, ne_eq, true_and, and_true, false_and, and_false, or_false, false_or, or_true, true_or, not_true_eq_false, not_false_eq_true] at *
  all_goals omega
set_option maxHeartbeats 4000000 in
set_option maxRecDepth 100000 in
theorem c_x_row (l : Launch) (dC : Nat → ClassId) (dI : Nat → Nat → Nat) (ky : Nat → ClassId) (sz : Nat) (o : Nat) (kthrown : Int32) (ktape : Nat) (ktaped : Nat) (ksize : Nat) (klimit : Nat) (kto : Nat) (kfrom : Nat) (kkind : Int32) (knumber : Int32) (ksign : Int32) (kfault : Int32) (kplace : Int32) (kword : Int64) (ktold : Int32) (know : Nat) (kread : Nat) (kkept : Nat) (ksnaps : Nat) (kaside : Nat) (kname : Nat) (kreadName : Nat) (kkeptName : Nat) (kisKept : Nat) (konces : Nat) (ksnapMany : Nat) (khasCells : Int32) (kpoured : Nat) (kfar : Nat) (ksides : Nat) (ksideMany : Nat) (kwayDays : Int32) (khasWay : Int32) (klines : Nat) (kmet : Nat) (kmetMany : Nat) (ksunk : Nat) (ktrying : Nat) (ksunkMany : Nat) (ksending : Int32) (kfleets : Int32) (ktext : Nat) (ktexts : Nat) (kseed : Int32) (kline : Nat) (kwritten : Nat) (klineMany : Nat) (khasWritten : Int32) (knode : Nat) (knodes : Nat) (konesMany : Nat) (kwithin : Nat) (ktop : Nat) (knowF : Nat → Int32) (ksnapsF : Nat → Int32) (x : Int32) (y : Int32) (iv_ko_0 : ktaped ≤ 940) (iv_ko_1 : ksize ≤ 940) (iv_ko_2 : klimit ≤ 900) (iv_ko_3 : kto ≤ ksize) (iv_ko_4 : kfrom ≤ 940) (iv_ko_5 : ksnapMany ≤ 8) (iv_ko_6 : ksideMany ≤ 36) (iv_ko_7 : kmetMany ≤ 3) (iv_ko_8 : ksunkMany ≤ 36) (iv_ko_9 : ktexts ≤ 64) (iv_ko_10 : klineMany ≤ 40) (iv_ko_11 : knodes ≤ 60) (iv_ko_12 : konesMany ≤ 20) (iv_ko_13 : kwithin ≤ 8) (iv_ko_14 : ktop ≤ 59) (ab_now : NB knowF) (ab_snaps : AB512 ksnapsF) (sb_now : SB knowF) : Met l yX12_row wsX12_row ({ frames := 5, cells := 0, slots := 0, locals := 116 }) (PcU dC dI ky [.ref o, .int x, .int y] [(o, .inr (12, [.int kthrown, .ref ktape, .int (nI ktaped), .int (nI ksize), .int (nI klimit), .int (nI kto), .int (nI kfrom), .int kkind, .int knumber, .int ksign, .int kfault, .int kplace, .long kword, .int ktold, .ref know, .ref kread, .ref kkept, .ref ksnaps, .ref kaside, .ref kname, .ref kreadName, .ref kkeptName, .ref kisKept, .ref konces, .int (nI ksnapMany), .int khasCells, .ref kpoured, .ref kfar, .ref ksides, .int (nI ksideMany), .int kwayDays, .int khasWay, .ref klines, .ref kmet, .int (nI kmetMany), .ref ksunk, .ref ktrying, .int (nI ksunkMany), .int ksending, .int kfleets, .ref ktext, .int (nI ktexts), .int kseed, .ref kline, .ref kwritten, .int (nI klineMany), .int khasWritten, .ref knode, .int (nI knodes), .int (nI konesMany), .int (nI kwithin), .int (nI ktop)])), (know, .inl (ky 0, 373, .inl knowF)), (ksnaps, .inl (ky 0, 512, .inl ksnapsF))] sz) (va_Qi (fun (r : Int32) (u : Int32 × Nat × (Nat → Int32) × (Nat → Int32)) => match u with | (kthrownG, ksnapManyG, knowG, ksnapsG) => (ksnapManyG ≤ 8) ∧ (NB knowG) ∧ (SB knowG) ∧ (AB512 ksnapsG)) (BU dC dI ky (fun (u : Int32 × Nat × (Nat → Int32) × (Nat → Int32)) => match u with | (kthrownG, ksnapManyG, knowG, ksnapsG) => [(o, .inr (12, [.int kthrownG, .ref ktape, .int (nI ktaped), .int (nI ksize), .int (nI klimit), .int (nI kto), .int (nI kfrom), .int kkind, .int knumber, .int ksign, .int kfault, .int kplace, .long kword, .int ktold, .ref know, .ref kread, .ref kkept, .ref ksnaps, .ref kaside, .ref kname, .ref kreadName, .ref kkeptName, .ref kisKept, .ref konces, .int (nI ksnapManyG), .int khasCells, .ref kpoured, .ref kfar, .ref ksides, .int (nI ksideMany), .int kwayDays, .int khasWay, .ref klines, .ref kmet, .int (nI kmetMany), .ref ksunk, .ref ktrying, .int (nI ksunkMany), .int ksending, .int kfleets, .ref ktext, .int (nI ktexts), .int kseed, .ref kline, .ref kwritten, .int (nI klineMany), .int khasWritten, .ref knode, .int (nI knodes), .int (nI konesMany), .int (nI kwithin), .int (nI ktop)])), (know, .inl (ky 0, 373, .inl knowG)), (ksnaps, .inl (ky 0, 512, .inl ksnapsG))]) (va_A [(o, .inr (12, [.int kthrown, .ref ktape, .int (nI ktaped), .int (nI ksize), .int (nI klimit), .int (nI kto), .int (nI kfrom), .int kkind, .int knumber, .int ksign, .int kfault, .int kplace, .long kword, .int ktold, .ref know, .ref kread, .ref kkept, .ref ksnaps, .ref kaside, .ref kname, .ref kreadName, .ref kkeptName, .ref kisKept, .ref konces, .int (nI ksnapMany), .int khasCells, .ref kpoured, .ref kfar, .ref ksides, .int (nI ksideMany), .int kwayDays, .int khasWay, .ref klines, .ref kmet, .int (nI kmetMany), .ref ksunk, .ref ktrying, .int (nI ksunkMany), .int ksending, .int kfleets, .ref ktext, .int (nI ktexts), .int kseed, .ref kline, .ref kwritten, .int (nI klineMany), .int khasWritten, .ref knode, .int (nI knodes), .int (nI konesMany), .int (nI kwithin), .int (nI ktop)])), (know, .inl (ky 0, 373, .inl knowF)), (ksnaps, .inl (ky 0, 512, .inl ksnapsF))] sz)) (va_A [(o, .inr (12, [.int kthrown, .ref ktape, .int (nI ktaped), .int (nI ksize), .int (nI klimit), .int (nI kto), .int (nI kfrom), .int kkind, .int knumber, .int ksign, .int kfault, .int kplace, .long kword, .int ktold, .ref know, .ref kread, .ref kkept, .ref ksnaps, .ref kaside, .ref kname, .ref kreadName, .ref kkeptName, .ref kisKept, .ref konces, .int (nI ksnapMany), .int khasCells, .ref kpoured, .ref kfar, .ref ksides, .int (nI ksideMany), .int kwayDays, .int khasWay, .ref klines, .ref kmet, .int (nI kmetMany), .ref ksunk, .ref ktrying, .int (nI ksunkMany), .int ksending, .int kfleets, .ref ktext, .int (nI ktexts), .int kseed, .ref kline, .ref kwritten, .int (nI klineMany), .int khasWritten, .ref knode, .int (nI knodes), .int (nI konesMany), .int (nI kwithin), .int (nI ktop)])), (know, .inl (ky 0, 373, .inl knowF)), (ksnaps, .inl (ky 0, 512, .inl ksnapsF))] sz)) 0 0 (va_A [(o, .inr (12, [.int kthrown, .ref ktape, .int (nI ktaped), .int (nI ksize), .int (nI klimit), .int (nI kto), .int (nI kfrom), .int kkind, .int knumber, .int ksign, .int kfault, .int kplace, .long kword, .int ktold, .ref know, .ref kread, .ref kkept, .ref ksnaps, .ref kaside, .ref kname, .ref kreadName, .ref kkeptName, .ref kisKept, .ref konces, .int (nI ksnapMany), .int khasCells, .ref kpoured, .ref kfar, .ref ksides, .int (nI ksideMany), .int kwayDays, .int khasWay, .ref klines, .ref kmet, .int (nI kmetMany), .ref ksunk, .ref ktrying, .int (nI ksunkMany), .int ksending, .int kfleets, .ref ktext, .int (nI ktexts), .int kseed, .ref kline, .ref kwritten, .int (nI klineMany), .int khasWritten, .ref knode, .int (nI knodes), .int (nI konesMany), .int (nI kwithin), .int (nI ktop)])), (know, .inl (ky 0, 373, .inl knowF)), (ksnaps, .inl (ky 0, 512, .inl ksnapsF))] sz) := by
  refine Met.ofW (cc := cX12_row) (maxL := 3) (ret := (some .int)) (by decide) rfl ?_
  intro p e s m args below meth c s₁ B hml hv
  obtain ⟨rfl, hsz, hP, hK, hD0⟩ := hv
  have hx := B.exec
  have hb := B.bytes
  have hr := B.returns
  have hts := atoms_spec (ws := wsX12_row) B.pre
  have hown : s.vm.findClass RX12 = some m.cls := findClass_of_methodNamed B.named
  have hlocks := B.notSynchronized
  have hin12 : ∀ w ∈ u_ws RX12 TX12 52, w ∈ wsX12_row := by decide +kernel
  subst hsz
  have hD := hD0.self (sz := s.heap.size)
  generalize hAe : va_A [(o, .inr (12, [.int kthrown, .ref ktape, .int (nI ktaped), .int (nI ksize), .int (nI klimit), .int (nI kto), .int (nI kfrom), .int kkind, .int knumber, .int ksign, .int kfault, .int kplace, .long kword, .int ktold, .ref know, .ref kread, .ref kkept, .ref ksnaps, .ref kaside, .ref kname, .ref kreadName, .ref kkeptName, .ref kisKept, .ref konces, .int (nI ksnapMany), .int khasCells, .ref kpoured, .ref kfar, .ref ksides, .int (nI ksideMany), .int kwayDays, .int khasWay, .ref klines, .ref kmet, .int (nI kmetMany), .ref ksunk, .ref ktrying, .int (nI ksunkMany), .int ksending, .int kfleets, .ref ktext, .int (nI ktexts), .int kseed, .ref kline, .ref kwritten, .int (nI klineMany), .int khasWritten, .ref knode, .int (nI knodes), .int (nI konesMany), .int (nI kwithin), .int (nI ktop)])), (know, .inl (ky 0, 373, .inl knowF)), (ksnaps, .inl (ky 0, 512, .inl ksnapsF))] s.heap.size = A at hD ⊢
  have hA : ∀ q : Nat, s.heap.size ≤ q → A q := fun q h => by rw [← hAe]; exact Or.inr h
  have hS : va_S A s.heap s.heap [] := va_S.rf
  have hl := lv_entry ([.ref o, .int x, .int y]) (n := 3) (Nat.le_of_ble_eq_true rfl)
  rw [lg_entry_eq]
  generalize (lg_sl ([.ref o, .int x, .int y]) ++ List.replicate (3 - (lg_sl ([.ref o, .int x, .int y])).length) Slot.unset).toArray = ls at hl ⊢
  have hl : lv_has ls 3 [(0, .ref o), (1, .int x), (2, .int y)] := hl
  refine q_name (fun Q hQ => ?_)
  generalize ([.ref o, .int x, .int y] : List Value).toArray = args at hts hQ ⊢
  refine lv_aload_n hx hb dX12_row_0 rfl (lv_at hl 0 rfl) ?_
  refine lv_iconst (v := nI 0) hx hb dX12_row_1 (by decide) ?_
  refine va_put (D := (dC, dI)) (ci := 12) (v := .int (nI 0)) (ty := .int) (C := RX12) (T := TX12) (N := 52) hx hb hts hin12 tyX12 tyX12_ok nmX12 hown hK hP hD hS 0 rfl rfl 0 (by decide) (hts (.fieldLink RX12 1 "PorridgeSeaModel" "thrown" "I") (List.mem_of_getElem? (i := 1) rfl)) (fun _ h9 => h9) rfl (by decide +kernel) rfl rfl (Nat.le_of_ble_eq_true rfl) dX12_row_2 (fun H locs hP hD hS => ?_)
  have hP : va_P (dC, dI) vwCl [(o, .inr (12, [.int (nI 0), .ref ktape, .int (nI ktaped), .int (nI ksize), .int (nI klimit), .int (nI kto), .int (nI kfrom), .int kkind, .int knumber, .int ksign, .int kfault, .int kplace, .long kword, .int ktold, .ref know, .ref kread, .ref kkept, .ref ksnaps, .ref kaside, .ref kname, .ref kreadName, .ref kkeptName, .ref kisKept, .ref konces, .int (nI ksnapMany), .int khasCells, .ref kpoured, .ref kfar, .ref ksides, .int (nI ksideMany), .int kwayDays, .int khasWay, .ref klines, .ref kmet, .int (nI kmetMany), .ref ksunk, .ref ktrying, .int (nI ksunkMany), .int ksending, .int kfleets, .ref ktext, .int (nI ktexts), .int kseed, .ref kline, .ref kwritten, .int (nI klineMany), .int khasWritten, .ref knode, .int (nI knodes), .int (nI konesMany), .int (nI kwithin), .int (nI ktop)])), (know, .inl (ky 0, 373, .inl knowF)), (ksnaps, .inl (ky 0, 512, .inl ksnapsF))] H := hP
  have hD : va_D A [(o, .inr (12, [.int (nI 0), .ref ktape, .int (nI ktaped), .int (nI ksize), .int (nI klimit), .int (nI kto), .int (nI kfrom), .int kkind, .int knumber, .int ksign, .int kfault, .int kplace, .long kword, .int ktold, .ref know, .ref kread, .ref kkept, .ref ksnaps, .ref kaside, .ref kname, .ref kreadName, .ref kkeptName, .ref kisKept, .ref konces, .int (nI ksnapMany), .int khasCells, .ref kpoured, .ref kfar, .ref ksides, .int (nI ksideMany), .int kwayDays, .int khasWay, .ref klines, .ref kmet, .int (nI kmetMany), .ref ksunk, .ref ktrying, .int (nI ksunkMany), .int ksending, .int kfleets, .ref ktext, .int (nI ktexts), .int kseed, .ref kline, .ref kwritten, .int (nI klineMany), .int khasWritten, .ref knode, .int (nI knodes), .int (nI konesMany), .int (nI kwithin), .int (nI ktop)])), (know, .inl (ky 0, 373, .inl knowF)), (ksnaps, .inl (ky 0, 512, .inl ksnapsF))] := hD
  refine lv_aload_n hx hb dX12_row_5 rfl (lv_at hl 0 rfl) ?_
  refine lv_iconst (v := nI 1) hx hb dX12_row_6 (by decide) ?_
  refine lv_iload_n hx hb dX12_row_7 rfl (lv_at hl 1 rfl) ?_
  refine lv_iload_n hx hb dX12_row_8 rfl (lv_at hl 2 rfl) ?_
  refine lv_aload_n hx hb dX12_row_9 rfl (lv_at hl 0 rfl) ?_
  refine lv_iload_n hx hb dX12_row_10 rfl (lv_at hl 1 rfl) ?_
  refine vp_callSi (W.runV (As := [.int x]) (rest := [.int y, .int x, .int (nI 1), .ref o]) ⟨hx, hb, hml, hown, hts⟩ (c_x_isBoat l dC dI ky o (nI 0) ktape ktaped ksize klimit kto kfrom kkind knumber ksign kfault kplace kword ktold know kread kkept ksnaps kaside kname kreadName kkeptName kisKept konces ksnapMany khasCells kpoured kfar ksides ksideMany kwayDays khasWay klines kmet kmetMany ksunk ktrying ksunkMany ksending kfleets ktext ktexts kseed kline kwritten klineMany khasWritten knode knodes konesMany kwithin ktop knowF x iv_ko_0 iv_ko_1 iv_ko_2 iv_ko_3 iv_ko_4 iv_ko_5 iv_ko_6 iv_ko_7 iv_ko_8 iv_ko_9 iv_ko_10 iv_ko_11 iv_ko_12 iv_ko_13 iv_ko_14 ab_now) (cwV 1 hts gX12_row_X12_isBoat rfl rfl rfl (by decide +kernel) ⟨(Nat.le_of_ble_eq_true rfl), (Nat.le_of_ble_eq_true rfl)⟩) (pre_PV hK hP [0, 1] rfl (ci := 12) (q0 := 0) rfl rfl) rfl rfl hl.1 rfl (lv_room (Nat.le_of_ble_eq_true rfl)) dX12_row_11 ⟨(Nat.le_of_ble_eq_true rfl), (Nat.le_of_ble_eq_true rfl)⟩) (fun r1 p2 => ?_)
  rcases p2 with ⟨rfl, t3, t4, t5⟩ | ⟨rfl, t6⟩
  · refine lv_if_eq (tgt := 30) hx hb dX12_row_14 (by decide) (fun c7 => absurd c7 (by decide)) (fun c7 => ?_)
    refine lv_iload_n hx hb dX12_row_17 rfl (lv_at hl 2 rfl) ?_
    refine lv_iconst (v := nI 0) hx hb dX12_row_18 (by decide) ?_
    refine lv_iconst (v := nI 3) hx hb dX12_row_19 (by decide) ?_
    refine vp_callSi (W.runS (As := [.int y, .int (nI 0), .int (nI 3)]) (rest := [.int y, .int x, .int (nI 1), .ref o]) ⟨hx, hb, hml, hown, hts⟩ (c_x_isIn l dC dI ky y (nI 0) (nI 3)) (va_cwS 3 hts gX12_row_X12_isIn rfl rfl rfl (by decide +kernel) ⟨(Nat.le_of_ble_eq_true rfl), (Nat.le_of_ble_eq_true rfl)⟩) (pre_PS hK hP [] rfl) rfl rfl hl.1 rfl (lv_room (Nat.le_of_ble_eq_true rfl)) dX12_row_20 ⟨(Nat.le_of_ble_eq_true rfl), (Nat.le_of_ble_eq_true rfl)⟩) (fun r8 p9 => ?_)
    rcases p9 with ⟨rfl, t10, t11⟩ | ⟨rfl, t12⟩
    · refine lv_if_eq (tgt := 30) hx hb dX12_row_23 (by decide) (fun c13 => absurd c13 (by decide)) (fun c13 => ?_)
      refine lv_iconst (v := nI 1) hx hb dX12_row_26 (by decide) ?_
      refine lv_goto (tgt := 31) hx hb dX12_row_27 (by decide) ?_
      obtain ⟨n14, h15, e16⟩ := nat_of x 6 (by decide) (lf_x_row_1 knowF x ab_now sb_now t3 t4 t5)
      rw [e16]
      refine r_call_i (wr := []) (va_runV (As := [.int (nI 1), .int (nI n14), .int y, .int (nI 1)]) (rest := []) ⟨hx, hb, hml, hown, hts⟩ (c_x_act1 l dC dI ky H.size o (nI 0) ktape ktaped ksize klimit kto kfrom kkind knumber ksign kfault kplace kword ktold know kread kkept ksnaps kaside kname kreadName kkeptName kisKept konces ksnapMany khasCells kpoured kfar ksides ksideMany kwayDays khasWay klines kmet kmetMany ksunk ktrying ksunkMany ksending kfleets ktext ktexts kseed kline kwritten klineMany khasWritten knode knodes konesMany kwithin ktop knowF ksnapsF n14 y iv_ko_0 iv_ko_1 iv_ko_2 iv_ko_3 iv_ko_4 iv_ko_5 iv_ko_6 iv_ko_7 iv_ko_8 iv_ko_9 iv_ko_10 iv_ko_11 iv_ko_12 iv_ko_13 iv_ko_14 ab_now ab_snaps sb_now h15 (lf_x_row_2 y t10 t11)) (cwV 4 hts gX12_row_X12_act rfl rfl rfl (by decide +kernel) ⟨(Nat.le_of_ble_eq_true rfl), (Nat.le_of_ble_eq_true rfl)⟩) (pre_UV hK hP hD [0, 1, 2] (by decide) rfl (ci := 12) (q0 := 0) rfl rfl) rfl rfl hl.1 rfl (lv_room (Nat.le_of_ble_eq_true rfl)) dX12_row_31 ⟨(Nat.le_of_ble_eq_true rfl), (Nat.le_of_ble_eq_true rfl)⟩) hP hD hS hA [0, 1, 2] [] rfl rfl (by decide) (by decide) (fun r19 u17 H locs p18 hP hD hS => ?_)
      obtain ⟨ksnapManyG_20, knowG_21, ksnapsG_22⟩ := u17
      try dsimp only at p18
      obtain ⟨p23, p24, p25, p26⟩ := p18
      refine W.widen (k := 0) (n := 0) (Nat.le_of_ble_eq_true rfl) (Nat.le_of_ble_eq_true rfl) ?_
      have hP : va_P (dC, dI) vwCl [(o, .inr (12, [.int (nI 0), .ref ktape, .int (nI ktaped), .int (nI ksize), .int (nI klimit), .int (nI kto), .int (nI kfrom), .int kkind, .int knumber, .int ksign, .int kfault, .int kplace, .long kword, .int ktold, .ref know, .ref kread, .ref kkept, .ref ksnaps, .ref kaside, .ref kname, .ref kreadName, .ref kkeptName, .ref kisKept, .ref konces, .int (nI ksnapManyG_20), .int khasCells, .ref kpoured, .ref kfar, .ref ksides, .int (nI ksideMany), .int kwayDays, .int khasWay, .ref klines, .ref kmet, .int (nI kmetMany), .ref ksunk, .ref ktrying, .int (nI ksunkMany), .int ksending, .int kfleets, .ref ktext, .int (nI ktexts), .int kseed, .ref kline, .ref kwritten, .int (nI klineMany), .int khasWritten, .ref knode, .int (nI knodes), .int (nI konesMany), .int (nI kwithin), .int (nI ktop)])), (know, .inl (ky 0, 373, .inl knowG_21)), (ksnaps, .inl (ky 0, 512, .inl ksnapsG_22))] H := hP
      have hD : va_D A [(o, .inr (12, [.int (nI 0), .ref ktape, .int (nI ktaped), .int (nI ksize), .int (nI klimit), .int (nI kto), .int (nI kfrom), .int kkind, .int knumber, .int ksign, .int kfault, .int kplace, .long kword, .int ktold, .ref know, .ref kread, .ref kkept, .ref ksnaps, .ref kaside, .ref kname, .ref kreadName, .ref kkeptName, .ref kisKept, .ref konces, .int (nI ksnapManyG_20), .int khasCells, .ref kpoured, .ref kfar, .ref ksides, .int (nI ksideMany), .int kwayDays, .int khasWay, .ref klines, .ref kmet, .int (nI kmetMany), .ref ksunk, .ref ktrying, .int (nI ksunkMany), .int ksending, .int kfleets, .ref ktext, .int (nI ktexts), .int kseed, .ref kline, .ref kwritten, .int (nI klineMany), .int khasWritten, .ref knode, .int (nI knodes), .int (nI konesMany), .int (nI kwithin), .int (nI ktop)])), (know, .inl (ky 0, 373, .inl knowG_21)), (ksnaps, .inl (ky 0, 512, .inl ksnapsG_22))] := hD
      rw [hQ]
      exact W.iret (v := r19) hx hb hr (fun t9 ht9 hW9 => ⟨⟨r19, (nI 0, ksnapManyG_20, knowG_21, ksnapsG_22), rfl, ⟨p23, p24, p25, p26⟩, by rw [ht9]; exact hP, va_K.moved hW9.alike hK, hD⟩, hS.F ht9⟩) hS.2.2 dX12_row_34
    · refine lv_if_eq (tgt := 30) hx hb dX12_row_23 (by decide) (fun c27 => ?_) (fun c27 => absurd (by decide) c27)
      refine lv_iconst (v := nI 0) hx hb dX12_row_30 (by decide) ?_
      refine vp_callSi (W.runV (As := [.int (nI 1), .int x, .int y, .int (nI 0)]) (rest := []) ⟨hx, hb, hml, hown, hts⟩ (c_x_actNo l dC dI ky o (nI 0) ktape ktaped ksize klimit kto kfrom kkind knumber ksign kfault kplace kword ktold know kread kkept ksnaps kaside kname kreadName kkeptName kisKept konces ksnapMany khasCells kpoured kfar ksides ksideMany kwayDays khasWay klines kmet kmetMany ksunk ktrying ksunkMany ksending kfleets ktext ktexts kseed kline kwritten klineMany khasWritten knode knodes konesMany kwithin ktop (nI 1) x y iv_ko_0 iv_ko_1 iv_ko_2 iv_ko_3 iv_ko_4 iv_ko_5 iv_ko_6 iv_ko_7 iv_ko_8 iv_ko_9 iv_ko_10 iv_ko_11 iv_ko_12 iv_ko_13 iv_ko_14) (cwV 4 hts gX12_row_X12_act rfl rfl rfl (by decide +kernel) ⟨(Nat.le_of_ble_eq_true rfl), (Nat.le_of_ble_eq_true rfl)⟩) (pre_PV hK hP [0] rfl (ci := 12) (q0 := 0) rfl rfl) rfl rfl hl.1 rfl (lv_room (Nat.le_of_ble_eq_true rfl)) dX12_row_31 ⟨(Nat.le_of_ble_eq_true rfl), (Nat.le_of_ble_eq_true rfl)⟩) (fun r28 p29 => ?_)
      subst p29
      rw [hQ]
      exact W.iret (v := (-1 : Int32)) hx hb hr (fun t9 ht9 hW9 => ⟨⟨(-1 : Int32), (nI 0, ksnapMany, knowF, ksnapsF), rfl, ⟨iv_ko_5, ab_now, sb_now, ab_snaps⟩, by rw [ht9]; exact hP, va_K.moved hW9.alike hK, hD⟩, hS.F ht9⟩) hS.2.2 dX12_row_34
  · refine lv_if_eq (tgt := 30) hx hb dX12_row_14 (by decide) (fun c30 => ?_) (fun c30 => absurd (by decide) c30)
    refine lv_iconst (v := nI 0) hx hb dX12_row_30 (by decide) ?_
    refine vp_callSi (W.runV (As := [.int (nI 1), .int x, .int y, .int (nI 0)]) (rest := []) ⟨hx, hb, hml, hown, hts⟩ (c_x_actNo l dC dI ky o (nI 0) ktape ktaped ksize klimit kto kfrom kkind knumber ksign kfault kplace kword ktold know kread kkept ksnaps kaside kname kreadName kkeptName kisKept konces ksnapMany khasCells kpoured kfar ksides ksideMany kwayDays khasWay klines kmet kmetMany ksunk ktrying ksunkMany ksending kfleets ktext ktexts kseed kline kwritten klineMany khasWritten knode knodes konesMany kwithin ktop (nI 1) x y iv_ko_0 iv_ko_1 iv_ko_2 iv_ko_3 iv_ko_4 iv_ko_5 iv_ko_6 iv_ko_7 iv_ko_8 iv_ko_9 iv_ko_10 iv_ko_11 iv_ko_12 iv_ko_13 iv_ko_14) (cwV 4 hts gX12_row_X12_act rfl rfl rfl (by decide +kernel) ⟨(Nat.le_of_ble_eq_true rfl), (Nat.le_of_ble_eq_true rfl)⟩) (pre_PV hK hP [0] rfl (ci := 12) (q0 := 0) rfl rfl) rfl rfl hl.1 rfl (lv_room (Nat.le_of_ble_eq_true rfl)) dX12_row_31 ⟨(Nat.le_of_ble_eq_true rfl), (Nat.le_of_ble_eq_true rfl)⟩) (fun r31 p32 => ?_)
    subst p32
    rw [hQ]
    exact W.iret (v := (-1 : Int32)) hx hb hr (fun t9 ht9 hW9 => ⟨⟨(-1 : Int32), (nI 0, ksnapMany, knowF, ksnapsF), rfl, ⟨iv_ko_5, ab_now, sb_now, ab_snaps⟩, by rw [ht9]; exact hP, va_K.moved hW9.alike hK, hD⟩, hS.F ht9⟩) hS.2.2 dX12_row_34
set_option maxRecDepth 20000 in
theorem lf_x_flour_1 (knowF : Nat → Int32) (x : Int32) (y : Int32) (y1 : Int32) (y3 : Int32) (ab_now : NB knowF) (sb_now : SB knowF) (e2 : y1 = (nI 6) * y) (e4 : y3 = y1 + x) (t7 : 0 ≤ x.toInt) (t8 : x.toInt < (knowF 0).toInt) (t9 : 0 ≤ y.toInt) (t10 : y.toInt < (knowF 1).toInt) (t11 : x.toInt ≤ 5) (t12 : y.toInt ≤ 5) : 0 ≤ y3.toInt ∧ y3.toInt ≤ 35 := by
  have b_x := ia_b x
  have b_y := ia_b y
  have b_y1 := ia_b y1
  have b_y3 := ia_b y3
  try have k_0 := ia_n 6 (by first | decide | omega)
  subst_vars
  apply cell_b
  all_goals try simp only [ia_lt, ia_le, ia_eq, ia_m1, ia_0, ia_1, ne_eq, true_and, and_true, false_and, and_false, or_false, false_or, or_true, true_or, not_true_eq_false, not_false_eq_true] at *
  all_goals omega
set_option maxRecDepth 20000 in
theorem lf_x_flour_2 (z : Int32) (t17 : (nI 1).toInt ≤ z.toInt) (t18 : z.toInt ≤ (nI 9).toInt) : 1 ≤ z.toInt ∧ z.toInt ≤ 9 := by
  have b_z := ia_b z
  try have k_0 := ia_n 1 (by first | decide | omega)
  try have k_1 := ia_n 9 (by first | decide | omega)
  try simp only [ia_lt, ia_le, ia_eq, ia_m1, ia_0, ia_1, ne_eq, true_and, and_true, false_and, and_false, or_false, false_or, or_true, true_or, not_true_eq_false, not_false_eq_true] at *
  all_goals omega
set_option maxHeartbeats 4000000 in
set_option maxRecDepth 100000 in
theorem c_x_flour (l : Launch) (dC : Nat → ClassId) (dI : Nat → Nat → Nat) (ky : Nat → ClassId) (sz : Nat) (o : Nat) (kthrown : Int32) (ktape : Nat) (ktaped : Nat) (ksize : Nat) (klimit : Nat) (kto : Nat) (kfrom : Nat) (kkind : Int32) (knumber : Int32) (ksign : Int32) (kfault : Int32) (kplace : Int32) (kword : Int64) (ktold : Int32) (know : Nat) (kread : Nat) (kkept : Nat) (ksnaps : Nat) (kaside : Nat) (kname : Nat) (kreadName : Nat) (kkeptName : Nat) (kisKept : Nat) (konces : Nat) (ksnapMany : Nat) (khasCells : Int32) (kpoured : Nat) (kfar : Nat) (ksides : Nat) (ksideMany : Nat) (kwayDays : Int32) (khasWay : Int32) (klines : Nat) (kmet : Nat) (kmetMany : Nat) (ksunk : Nat) (ktrying : Nat) (ksunkMany : Nat) (ksending : Int32) (kfleets : Int32) (ktext : Nat) (ktexts : Nat) (kseed : Int32) (kline : Nat) (kwritten : Nat) (klineMany : Nat) (khasWritten : Int32) (knode : Nat) (knodes : Nat) (konesMany : Nat) (kwithin : Nat) (ktop : Nat) (knowF : Nat → Int32) (ksnapsF : Nat → Int32) (x : Int32) (y : Int32) (z : Int32) (iv_ko_0 : ktaped ≤ 940) (iv_ko_1 : ksize ≤ 940) (iv_ko_2 : klimit ≤ 900) (iv_ko_3 : kto ≤ ksize) (iv_ko_4 : kfrom ≤ 940) (iv_ko_5 : ksnapMany ≤ 8) (iv_ko_6 : ksideMany ≤ 36) (iv_ko_7 : kmetMany ≤ 3) (iv_ko_8 : ksunkMany ≤ 36) (iv_ko_9 : ktexts ≤ 64) (iv_ko_10 : klineMany ≤ 40) (iv_ko_11 : knodes ≤ 60) (iv_ko_12 : konesMany ≤ 20) (iv_ko_13 : kwithin ≤ 8) (iv_ko_14 : ktop ≤ 59) (ab_now : NB knowF) (ab_snaps : AB512 ksnapsF) (sb_now : SB knowF) : Met l yX12_flour wsX12_flour ({ frames := 3, cells := 0, slots := 0, locals := 69 }) (PcU dC dI ky [.ref o, .int x, .int y, .int z] [(o, .inr (12, [.int kthrown, .ref ktape, .int (nI ktaped), .int (nI ksize), .int (nI klimit), .int (nI kto), .int (nI kfrom), .int kkind, .int knumber, .int ksign, .int kfault, .int kplace, .long kword, .int ktold, .ref know, .ref kread, .ref kkept, .ref ksnaps, .ref kaside, .ref kname, .ref kreadName, .ref kkeptName, .ref kisKept, .ref konces, .int (nI ksnapMany), .int khasCells, .ref kpoured, .ref kfar, .ref ksides, .int (nI ksideMany), .int kwayDays, .int khasWay, .ref klines, .ref kmet, .int (nI kmetMany), .ref ksunk, .ref ktrying, .int (nI ksunkMany), .int ksending, .int kfleets, .ref ktext, .int (nI ktexts), .int kseed, .ref kline, .ref kwritten, .int (nI klineMany), .int khasWritten, .ref knode, .int (nI knodes), .int (nI konesMany), .int (nI kwithin), .int (nI ktop)])), (know, .inl (ky 0, 373, .inl knowF)), (ksnaps, .inl (ky 0, 512, .inl ksnapsF))] sz) (va_Qi (fun (r : Int32) (u : Int32 × Nat × (Nat → Int32) × (Nat → Int32)) => match u with | (kthrownG, ksnapManyG, knowG, ksnapsG) => (ksnapManyG ≤ 8) ∧ (NB knowG) ∧ (SB knowG) ∧ (AB512 ksnapsG)) (BU dC dI ky (fun (u : Int32 × Nat × (Nat → Int32) × (Nat → Int32)) => match u with | (kthrownG, ksnapManyG, knowG, ksnapsG) => [(o, .inr (12, [.int kthrownG, .ref ktape, .int (nI ktaped), .int (nI ksize), .int (nI klimit), .int (nI kto), .int (nI kfrom), .int kkind, .int knumber, .int ksign, .int kfault, .int kplace, .long kword, .int ktold, .ref know, .ref kread, .ref kkept, .ref ksnaps, .ref kaside, .ref kname, .ref kreadName, .ref kkeptName, .ref kisKept, .ref konces, .int (nI ksnapManyG), .int khasCells, .ref kpoured, .ref kfar, .ref ksides, .int (nI ksideMany), .int kwayDays, .int khasWay, .ref klines, .ref kmet, .int (nI kmetMany), .ref ksunk, .ref ktrying, .int (nI ksunkMany), .int ksending, .int kfleets, .ref ktext, .int (nI ktexts), .int kseed, .ref kline, .ref kwritten, .int (nI klineMany), .int khasWritten, .ref knode, .int (nI knodes), .int (nI konesMany), .int (nI kwithin), .int (nI ktop)])), (know, .inl (ky 0, 373, .inl knowG)), (ksnaps, .inl (ky 0, 512, .inl ksnapsG))]) (va_A [(o, .inr (12, [.int kthrown, .ref ktape, .int (nI ktaped), .int (nI ksize), .int (nI klimit), .int (nI kto), .int (nI kfrom), .int kkind, .int knumber, .int ksign, .int kfault, .int kplace, .long kword, .int ktold, .ref know, .ref kread, .ref kkept, .ref ksnaps, .ref kaside, .ref kname, .ref kreadName, .ref kkeptName, .ref kisKept, .ref konces, .int (nI ksnapMany), .int khasCells, .ref kpoured, .ref kfar, .ref ksides, .int (nI ksideMany), .int kwayDays, .int khasWay, .ref klines, .ref kmet, .int (nI kmetMany), .ref ksunk, .ref ktrying, .int (nI ksunkMany), .int ksending, .int kfleets, .ref ktext, .int (nI ktexts), .int kseed, .ref kline, .ref kwritten, .int (nI klineMany), .int khasWritten, .ref knode, .int (nI knodes), .int (nI konesMany), .int (nI kwithin), .int (nI ktop)])), (know, .inl (ky 0, 373, .inl knowF)), (ksnaps, .inl (ky 0, 512, .inl ksnapsF))] sz)) (va_A [(o, .inr (12, [.int kthrown, .ref ktape, .int (nI ktaped), .int (nI ksize), .int (nI klimit), .int (nI kto), .int (nI kfrom), .int kkind, .int knumber, .int ksign, .int kfault, .int kplace, .long kword, .int ktold, .ref know, .ref kread, .ref kkept, .ref ksnaps, .ref kaside, .ref kname, .ref kreadName, .ref kkeptName, .ref kisKept, .ref konces, .int (nI ksnapMany), .int khasCells, .ref kpoured, .ref kfar, .ref ksides, .int (nI ksideMany), .int kwayDays, .int khasWay, .ref klines, .ref kmet, .int (nI kmetMany), .ref ksunk, .ref ktrying, .int (nI ksunkMany), .int ksending, .int kfleets, .ref ktext, .int (nI ktexts), .int kseed, .ref kline, .ref kwritten, .int (nI klineMany), .int khasWritten, .ref knode, .int (nI knodes), .int (nI konesMany), .int (nI kwithin), .int (nI ktop)])), (know, .inl (ky 0, 373, .inl knowF)), (ksnaps, .inl (ky 0, 512, .inl ksnapsF))] sz)) 0 0 (va_A [(o, .inr (12, [.int kthrown, .ref ktape, .int (nI ktaped), .int (nI ksize), .int (nI klimit), .int (nI kto), .int (nI kfrom), .int kkind, .int knumber, .int ksign, .int kfault, .int kplace, .long kword, .int ktold, .ref know, .ref kread, .ref kkept, .ref ksnaps, .ref kaside, .ref kname, .ref kreadName, .ref kkeptName, .ref kisKept, .ref konces, .int (nI ksnapMany), .int khasCells, .ref kpoured, .ref kfar, .ref ksides, .int (nI ksideMany), .int kwayDays, .int khasWay, .ref klines, .ref kmet, .int (nI kmetMany), .ref ksunk, .ref ktrying, .int (nI ksunkMany), .int ksending, .int kfleets, .ref ktext, .int (nI ktexts), .int kseed, .ref kline, .ref kwritten, .int (nI klineMany), .int khasWritten, .ref knode, .int (nI knodes), .int (nI konesMany), .int (nI kwithin), .int (nI ktop)])), (know, .inl (ky 0, 373, .inl knowF)), (ksnaps, .inl (ky 0, 512, .inl ksnapsF))] sz) := by
  refine Met.ofW (cc := cX12_flour) (maxL := 4) (ret := (some .int)) (by decide) rfl ?_
  intro p e s m args below meth c s₁ B hml hv
  obtain ⟨rfl, hsz, hP, hK, hD0⟩ := hv
  have hx := B.exec
  have hb := B.bytes
  have hr := B.returns
  have hts := atoms_spec (ws := wsX12_flour) B.pre
  have hown : s.vm.findClass RX12 = some m.cls := findClass_of_methodNamed B.named
  have hlocks := B.notSynchronized
  have hin12 : ∀ w ∈ u_ws RX12 TX12 52, w ∈ wsX12_flour := by decide +kernel
  subst hsz
  have hD := hD0.self (sz := s.heap.size)
  generalize hAe : va_A [(o, .inr (12, [.int kthrown, .ref ktape, .int (nI ktaped), .int (nI ksize), .int (nI klimit), .int (nI kto), .int (nI kfrom), .int kkind, .int knumber, .int ksign, .int kfault, .int kplace, .long kword, .int ktold, .ref know, .ref kread, .ref kkept, .ref ksnaps, .ref kaside, .ref kname, .ref kreadName, .ref kkeptName, .ref kisKept, .ref konces, .int (nI ksnapMany), .int khasCells, .ref kpoured, .ref kfar, .ref ksides, .int (nI ksideMany), .int kwayDays, .int khasWay, .ref klines, .ref kmet, .int (nI kmetMany), .ref ksunk, .ref ktrying, .int (nI ksunkMany), .int ksending, .int kfleets, .ref ktext, .int (nI ktexts), .int kseed, .ref kline, .ref kwritten, .int (nI klineMany), .int khasWritten, .ref knode, .int (nI knodes), .int (nI konesMany), .int (nI kwithin), .int (nI ktop)])), (know, .inl (ky 0, 373, .inl knowF)), (ksnaps, .inl (ky 0, 512, .inl ksnapsF))] s.heap.size = A at hD ⊢
  have hA : ∀ q : Nat, s.heap.size ≤ q → A q := fun q h => by rw [← hAe]; exact Or.inr h
  have hS : va_S A s.heap s.heap [] := va_S.rf
  have hl := lv_entry ([.ref o, .int x, .int y, .int z]) (n := 4) (Nat.le_of_ble_eq_true rfl)
  rw [lg_entry_eq]
  generalize (lg_sl ([.ref o, .int x, .int y, .int z]) ++ List.replicate (4 - (lg_sl ([.ref o, .int x, .int y, .int z])).length) Slot.unset).toArray = ls at hl ⊢
  have hl : lv_has ls 4 [(0, .ref o), (1, .int x), (2, .int y), (3, .int z)] := hl
  refine q_name (fun Q hQ => ?_)
  generalize ([.ref o, .int x, .int y, .int z] : List Value).toArray = args at hts hQ ⊢
  refine lv_aload_n hx hb dX12_flour_0 rfl (lv_at hl 0 rfl) ?_
  refine lv_iconst (v := nI 0) hx hb dX12_flour_1 (by decide) ?_
  refine va_put (D := (dC, dI)) (ci := 12) (v := .int (nI 0)) (ty := .int) (C := RX12) (T := TX12) (N := 52) hx hb hts hin12 tyX12 tyX12_ok nmX12 hown hK hP hD hS 0 rfl rfl 0 (by decide) (hts (.fieldLink RX12 1 "PorridgeSeaModel" "thrown" "I") (List.mem_of_getElem? (i := 1) rfl)) (fun _ h9 => h9) rfl (by decide +kernel) rfl rfl (Nat.le_of_ble_eq_true rfl) dX12_flour_2 (fun H locs hP hD hS => ?_)
  have hP : va_P (dC, dI) vwCl [(o, .inr (12, [.int (nI 0), .ref ktape, .int (nI ktaped), .int (nI ksize), .int (nI klimit), .int (nI kto), .int (nI kfrom), .int kkind, .int knumber, .int ksign, .int kfault, .int kplace, .long kword, .int ktold, .ref know, .ref kread, .ref kkept, .ref ksnaps, .ref kaside, .ref kname, .ref kreadName, .ref kkeptName, .ref kisKept, .ref konces, .int (nI ksnapMany), .int khasCells, .ref kpoured, .ref kfar, .ref ksides, .int (nI ksideMany), .int kwayDays, .int khasWay, .ref klines, .ref kmet, .int (nI kmetMany), .ref ksunk, .ref ktrying, .int (nI ksunkMany), .int ksending, .int kfleets, .ref ktext, .int (nI ktexts), .int kseed, .ref kline, .ref kwritten, .int (nI klineMany), .int khasWritten, .ref knode, .int (nI knodes), .int (nI konesMany), .int (nI kwithin), .int (nI ktop)])), (know, .inl (ky 0, 373, .inl knowF)), (ksnaps, .inl (ky 0, 512, .inl ksnapsF))] H := hP
  have hD : va_D A [(o, .inr (12, [.int (nI 0), .ref ktape, .int (nI ktaped), .int (nI ksize), .int (nI klimit), .int (nI kto), .int (nI kfrom), .int kkind, .int knumber, .int ksign, .int kfault, .int kplace, .long kword, .int ktold, .ref know, .ref kread, .ref kkept, .ref ksnaps, .ref kaside, .ref kname, .ref kreadName, .ref kkeptName, .ref kisKept, .ref konces, .int (nI ksnapMany), .int khasCells, .ref kpoured, .ref kfar, .ref ksides, .int (nI ksideMany), .int kwayDays, .int khasWay, .ref klines, .ref kmet, .int (nI kmetMany), .ref ksunk, .ref ktrying, .int (nI ksunkMany), .int ksending, .int kfleets, .ref ktext, .int (nI ktexts), .int kseed, .ref kline, .ref kwritten, .int (nI klineMany), .int khasWritten, .ref knode, .int (nI knodes), .int (nI konesMany), .int (nI kwithin), .int (nI ktop)])), (know, .inl (ky 0, 373, .inl knowF)), (ksnaps, .inl (ky 0, 512, .inl ksnapsF))] := hD
  refine lv_aload_n hx hb dX12_flour_5 rfl (lv_at hl 0 rfl) ?_
  refine lv_iconst (v := nI 2) hx hb dX12_flour_6 (by decide) ?_
  refine lv_bipush (v := nI 6) hx hb dX12_flour_7 (by decide) ?_
  refine lv_iload_n hx hb dX12_flour_9 rfl (lv_at hl 2 rfl) ?_
  refine lv_imul hx hb dX12_flour_10 ?_
  refine lv_topi (fun y1 e2 => ?_)
  refine lv_iload_n hx hb dX12_flour_11 rfl (lv_at hl 1 rfl) ?_
  refine lv_iadd hx hb dX12_flour_12 ?_
  refine lv_topi (fun y3 e4 => ?_)
  refine lv_iload_n hx hb dX12_flour_13 rfl (lv_at hl 3 rfl) ?_
  refine lv_aload_n hx hb dX12_flour_14 rfl (lv_at hl 0 rfl) ?_
  refine lv_iload_n hx hb dX12_flour_15 rfl (lv_at hl 1 rfl) ?_
  refine lv_iload_n hx hb dX12_flour_16 rfl (lv_at hl 2 rfl) ?_
  refine vp_callSi (W.runV (As := [.int x, .int y]) (rest := [.int z, .int y3, .int (nI 2), .ref o]) ⟨hx, hb, hml, hown, hts⟩ (c_x_isCell l dC dI ky o (nI 0) ktape ktaped ksize klimit kto kfrom kkind knumber ksign kfault kplace kword ktold know kread kkept ksnaps kaside kname kreadName kkeptName kisKept konces ksnapMany khasCells kpoured kfar ksides ksideMany kwayDays khasWay klines kmet kmetMany ksunk ktrying ksunkMany ksending kfleets ktext ktexts kseed kline kwritten klineMany khasWritten knode knodes konesMany kwithin ktop knowF x y iv_ko_0 iv_ko_1 iv_ko_2 iv_ko_3 iv_ko_4 iv_ko_5 iv_ko_6 iv_ko_7 iv_ko_8 iv_ko_9 iv_ko_10 iv_ko_11 iv_ko_12 iv_ko_13 iv_ko_14 ab_now) (cwV 2 hts gX12_flour_X12_isCell rfl rfl rfl (by decide +kernel) ⟨(Nat.le_of_ble_eq_true rfl), (Nat.le_of_ble_eq_true rfl)⟩) (pre_PV hK hP [0, 1] rfl (ci := 12) (q0 := 0) rfl rfl) rfl rfl hl.1 rfl (lv_room (Nat.le_of_ble_eq_true rfl)) dX12_flour_17 ⟨(Nat.le_of_ble_eq_true rfl), (Nat.le_of_ble_eq_true rfl)⟩) (fun r5 p6 => ?_)
  rcases p6 with ⟨rfl, t7, t8, t9, t10, t11, t12⟩ | ⟨rfl, t13⟩
  · refine lv_if_eq (tgt := 37) hx hb dX12_flour_20 (by decide) (fun c14 => absurd c14 (by decide)) (fun c14 => ?_)
    refine lv_iload_n hx hb dX12_flour_23 rfl (lv_at hl 3 rfl) ?_
    refine lv_iconst (v := nI 1) hx hb dX12_flour_24 (by decide) ?_
    refine lv_bipush (v := nI 9) hx hb dX12_flour_25 (by decide) ?_
    refine vp_callSi (W.runS (As := [.int z, .int (nI 1), .int (nI 9)]) (rest := [.int z, .int y3, .int (nI 2), .ref o]) ⟨hx, hb, hml, hown, hts⟩ (c_x_isIn l dC dI ky z (nI 1) (nI 9)) (va_cwS 3 hts gX12_flour_X12_isIn rfl rfl rfl (by decide +kernel) ⟨(Nat.le_of_ble_eq_true rfl), (Nat.le_of_ble_eq_true rfl)⟩) (pre_PS hK hP [] rfl) rfl rfl hl.1 rfl (lv_room (Nat.le_of_ble_eq_true rfl)) dX12_flour_27 ⟨(Nat.le_of_ble_eq_true rfl), (Nat.le_of_ble_eq_true rfl)⟩) (fun r15 p16 => ?_)
    rcases p16 with ⟨rfl, t17, t18⟩ | ⟨rfl, t19⟩
    · refine lv_if_eq (tgt := 37) hx hb dX12_flour_30 (by decide) (fun c20 => absurd c20 (by decide)) (fun c20 => ?_)
      refine lv_iconst (v := nI 1) hx hb dX12_flour_33 (by decide) ?_
      refine lv_goto (tgt := 38) hx hb dX12_flour_34 (by decide) ?_
      refine r_call_i (wr := []) (va_runV (As := [.int (nI 2), .int y3, .int z, .int (nI 1)]) (rest := []) ⟨hx, hb, hml, hown, hts⟩ (c_x_act2 l dC dI ky H.size o (nI 0) ktape ktaped ksize klimit kto kfrom kkind knumber ksign kfault kplace kword ktold know kread kkept ksnaps kaside kname kreadName kkeptName kisKept konces ksnapMany khasCells kpoured kfar ksides ksideMany kwayDays khasWay klines kmet kmetMany ksunk ktrying ksunkMany ksending kfleets ktext ktexts kseed kline kwritten klineMany khasWritten knode knodes konesMany kwithin ktop knowF ksnapsF y3 z iv_ko_0 iv_ko_1 iv_ko_2 iv_ko_3 iv_ko_4 iv_ko_5 iv_ko_6 iv_ko_7 iv_ko_8 iv_ko_9 iv_ko_10 iv_ko_11 iv_ko_12 iv_ko_13 iv_ko_14 ab_now ab_snaps sb_now (lf_x_flour_1 knowF x y y1 y3 ab_now sb_now e2 e4 t7 t8 t9 t10 t11 t12) (lf_x_flour_2 z t17 t18)) (cwV 4 hts gX12_flour_X12_act rfl rfl rfl (by decide +kernel) ⟨(Nat.le_of_ble_eq_true rfl), (Nat.le_of_ble_eq_true rfl)⟩) (pre_UV hK hP hD [0, 1, 2] (by decide) rfl (ci := 12) (q0 := 0) rfl rfl) rfl rfl hl.1 rfl (lv_room (Nat.le_of_ble_eq_true rfl)) dX12_flour_38 ⟨(Nat.le_of_ble_eq_true rfl), (Nat.le_of_ble_eq_true rfl)⟩) hP hD hS hA [0, 1, 2] [] rfl rfl (by decide) (by decide) (fun r23 u21 H locs p22 hP hD hS => ?_)
      obtain ⟨ksnapManyG_24, knowG_25, ksnapsG_26⟩ := u21
      try dsimp only at p22
      obtain ⟨p27, p28, p29, p30⟩ := p22
      refine W.widen (k := 0) (n := 0) (Nat.le_of_ble_eq_true rfl) (Nat.le_of_ble_eq_true rfl) ?_
      have hP : va_P (dC, dI) vwCl [(o, .inr (12, [.int (nI 0), .ref ktape, .int (nI ktaped), .int (nI ksize), .int (nI klimit), .int (nI kto), .int (nI kfrom), .int kkind, .int knumber, .int ksign, .int kfault, .int kplace, .long kword, .int ktold, .ref know, .ref kread, .ref kkept, .ref ksnaps, .ref kaside, .ref kname, .ref kreadName, .ref kkeptName, .ref kisKept, .ref konces, .int (nI ksnapManyG_24), .int khasCells, .ref kpoured, .ref kfar, .ref ksides, .int (nI ksideMany), .int kwayDays, .int khasWay, .ref klines, .ref kmet, .int (nI kmetMany), .ref ksunk, .ref ktrying, .int (nI ksunkMany), .int ksending, .int kfleets, .ref ktext, .int (nI ktexts), .int kseed, .ref kline, .ref kwritten, .int (nI klineMany), .int khasWritten, .ref knode, .int (nI knodes), .int (nI konesMany), .int (nI kwithin), .int (nI ktop)])), (know, .inl (ky 0, 373, .inl knowG_25)), (ksnaps, .inl (ky 0, 512, .inl ksnapsG_26))] H := hP
      have hD : va_D A [(o, .inr (12, [.int (nI 0), .ref ktape, .int (nI ktaped), .int (nI ksize), .int (nI klimit), .int (nI kto), .int (nI kfrom), .int kkind, .int knumber, .int ksign, .int kfault, .int kplace, .long kword, .int ktold, .ref know, .ref kread, .ref kkept, .ref ksnaps, .ref kaside, .ref kname, .ref kreadName, .ref kkeptName, .ref kisKept, .ref konces, .int (nI ksnapManyG_24), .int khasCells, .ref kpoured, .ref kfar, .ref ksides, .int (nI ksideMany), .int kwayDays, .int khasWay, .ref klines, .ref kmet, .int (nI kmetMany), .ref ksunk, .ref ktrying, .int (nI ksunkMany), .int ksending, .int kfleets, .ref ktext, .int (nI ktexts), .int kseed, .ref kline, .ref kwritten, .int (nI klineMany), .int khasWritten, .ref knode, .int (nI knodes), .int (nI konesMany), .int (nI kwithin), .int (nI ktop)])), (know, .inl (ky 0, 373, .inl knowG_25)), (ksnaps, .inl (ky 0, 512, .inl ksnapsG_26))] := hD
      rw [hQ]
      exact W.iret (v := r23) hx hb hr (fun t9 ht9 hW9 => ⟨⟨r23, (nI 0, ksnapManyG_24, knowG_25, ksnapsG_26), rfl, ⟨p27, p28, p29, p30⟩, by rw [ht9]; exact hP, va_K.moved hW9.alike hK, hD⟩, hS.F ht9⟩) hS.2.2 dX12_flour_41
    · refine lv_if_eq (tgt := 37) hx hb dX12_flour_30 (by decide) (fun c31 => ?_) (fun c31 => absurd (by decide) c31)
      refine lv_iconst (v := nI 0) hx hb dX12_flour_37 (by decide) ?_
      refine vp_callSi (W.runV (As := [.int (nI 2), .int y3, .int z, .int (nI 0)]) (rest := []) ⟨hx, hb, hml, hown, hts⟩ (c_x_actNo l dC dI ky o (nI 0) ktape ktaped ksize klimit kto kfrom kkind knumber ksign kfault kplace kword ktold know kread kkept ksnaps kaside kname kreadName kkeptName kisKept konces ksnapMany khasCells kpoured kfar ksides ksideMany kwayDays khasWay klines kmet kmetMany ksunk ktrying ksunkMany ksending kfleets ktext ktexts kseed kline kwritten klineMany khasWritten knode knodes konesMany kwithin ktop (nI 2) y3 z iv_ko_0 iv_ko_1 iv_ko_2 iv_ko_3 iv_ko_4 iv_ko_5 iv_ko_6 iv_ko_7 iv_ko_8 iv_ko_9 iv_ko_10 iv_ko_11 iv_ko_12 iv_ko_13 iv_ko_14) (cwV 4 hts gX12_flour_X12_act rfl rfl rfl (by decide +kernel) ⟨(Nat.le_of_ble_eq_true rfl), (Nat.le_of_ble_eq_true rfl)⟩) (pre_PV hK hP [0] rfl (ci := 12) (q0 := 0) rfl rfl) rfl rfl hl.1 rfl (lv_room (Nat.le_of_ble_eq_true rfl)) dX12_flour_38 ⟨(Nat.le_of_ble_eq_true rfl), (Nat.le_of_ble_eq_true rfl)⟩) (fun r32 p33 => ?_)
      subst p33
      rw [hQ]
      exact W.iret (v := (-1 : Int32)) hx hb hr (fun t9 ht9 hW9 => ⟨⟨(-1 : Int32), (nI 0, ksnapMany, knowF, ksnapsF), rfl, ⟨iv_ko_5, ab_now, sb_now, ab_snaps⟩, by rw [ht9]; exact hP, va_K.moved hW9.alike hK, hD⟩, hS.F ht9⟩) hS.2.2 dX12_flour_41
  · refine lv_if_eq (tgt := 37) hx hb dX12_flour_20 (by decide) (fun c34 => ?_) (fun c34 => absurd (by decide) c34)
    refine lv_iconst (v := nI 0) hx hb dX12_flour_37 (by decide) ?_
    refine vp_callSi (W.runV (As := [.int (nI 2), .int y3, .int z, .int (nI 0)]) (rest := []) ⟨hx, hb, hml, hown, hts⟩ (c_x_actNo l dC dI ky o (nI 0) ktape ktaped ksize klimit kto kfrom kkind knumber ksign kfault kplace kword ktold know kread kkept ksnaps kaside kname kreadName kkeptName kisKept konces ksnapMany khasCells kpoured kfar ksides ksideMany kwayDays khasWay klines kmet kmetMany ksunk ktrying ksunkMany ksending kfleets ktext ktexts kseed kline kwritten klineMany khasWritten knode knodes konesMany kwithin ktop (nI 2) y3 z iv_ko_0 iv_ko_1 iv_ko_2 iv_ko_3 iv_ko_4 iv_ko_5 iv_ko_6 iv_ko_7 iv_ko_8 iv_ko_9 iv_ko_10 iv_ko_11 iv_ko_12 iv_ko_13 iv_ko_14) (cwV 4 hts gX12_flour_X12_act rfl rfl rfl (by decide +kernel) ⟨(Nat.le_of_ble_eq_true rfl), (Nat.le_of_ble_eq_true rfl)⟩) (pre_PV hK hP [0] rfl (ci := 12) (q0 := 0) rfl rfl) rfl rfl hl.1 rfl (lv_room (Nat.le_of_ble_eq_true rfl)) dX12_flour_38 ⟨(Nat.le_of_ble_eq_true rfl), (Nat.le_of_ble_eq_true rfl)⟩) (fun r35 p36 => ?_)
    subst p36
    rw [hQ]
    exact W.iret (v := (-1 : Int32)) hx hb hr (fun t9 ht9 hW9 => ⟨⟨(-1 : Int32), (nI 0, ksnapMany, knowF, ksnapsF), rfl, ⟨iv_ko_5, ab_now, sb_now, ab_snaps⟩, by rw [ht9]; exact hP, va_K.moved hW9.alike hK, hD⟩, hS.F ht9⟩) hS.2.2 dX12_flour_41
set_option maxRecDepth 20000 in
theorem lf_x_milk_1 (knowF : Nat → Int32) (x : Int32) (y : Int32) (y1 : Int32) (y3 : Int32) (ab_now : NB knowF) (sb_now : SB knowF) (e2 : y1 = (nI 6) * y) (e4 : y3 = y1 + x) (t7 : 0 ≤ x.toInt) (t8 : x.toInt < (knowF 0).toInt) (t9 : 0 ≤ y.toInt) (t10 : y.toInt < (knowF 1).toInt) (t11 : x.toInt ≤ 5) (t12 : y.toInt ≤ 5) : 0 ≤ y3.toInt ∧ y3.toInt ≤ 35 := by
  have b_x := ia_b x
  have b_y := ia_b y
  have b_y1 := ia_b y1
  have b_y3 := ia_b y3
  try have k_0 := ia_n 6 (by first | decide | omega)
  subst_vars
  apply cell_b
  all_goals try simp only [ia_lt, ia_le, ia_eq, ia_m1, ia_0, ia_1, ne_eq, true_and, and_true, false_and, and_false, or_false, false_or, or_true, true_or, not_true_eq_false, not_false_eq_true] at *
  all_goals omega
set_option maxRecDepth 20000 in
theorem lf_x_milk_2 (z : Int32) (t17 : (nI 1).toInt ≤ z.toInt) (t18 : z.toInt ≤ (nI 9).toInt) : 1 ≤ z.toInt ∧ z.toInt ≤ 9 := by
  have b_z := ia_b z
  try have k_0 := ia_n 1 (by first | decide | omega)
  try have k_1 := ia_n 9 (by first | decide | omega)
  try simp only [ia_lt, ia_le, ia_eq, ia_m1, ia_0, ia_1, ne_eq, true_and, and_true, false_and, and_false, or_false, false_or, or_true, true_or, not_true_eq_false, not_false_eq_true] at *
  all_goals omega
set_option maxHeartbeats 4000000 in
set_option maxRecDepth 100000 in
theorem c_x_milk (l : Launch) (dC : Nat → ClassId) (dI : Nat → Nat → Nat) (ky : Nat → ClassId) (sz : Nat) (o : Nat) (kthrown : Int32) (ktape : Nat) (ktaped : Nat) (ksize : Nat) (klimit : Nat) (kto : Nat) (kfrom : Nat) (kkind : Int32) (knumber : Int32) (ksign : Int32) (kfault : Int32) (kplace : Int32) (kword : Int64) (ktold : Int32) (know : Nat) (kread : Nat) (kkept : Nat) (ksnaps : Nat) (kaside : Nat) (kname : Nat) (kreadName : Nat) (kkeptName : Nat) (kisKept : Nat) (konces : Nat) (ksnapMany : Nat) (khasCells : Int32) (kpoured : Nat) (kfar : Nat) (ksides : Nat) (ksideMany : Nat) (kwayDays : Int32) (khasWay : Int32) (klines : Nat) (kmet : Nat) (kmetMany : Nat) (ksunk : Nat) (ktrying : Nat) (ksunkMany : Nat) (ksending : Int32) (kfleets : Int32) (ktext : Nat) (ktexts : Nat) (kseed : Int32) (kline : Nat) (kwritten : Nat) (klineMany : Nat) (khasWritten : Int32) (knode : Nat) (knodes : Nat) (konesMany : Nat) (kwithin : Nat) (ktop : Nat) (knowF : Nat → Int32) (ksnapsF : Nat → Int32) (x : Int32) (y : Int32) (z : Int32) (iv_ko_0 : ktaped ≤ 940) (iv_ko_1 : ksize ≤ 940) (iv_ko_2 : klimit ≤ 900) (iv_ko_3 : kto ≤ ksize) (iv_ko_4 : kfrom ≤ 940) (iv_ko_5 : ksnapMany ≤ 8) (iv_ko_6 : ksideMany ≤ 36) (iv_ko_7 : kmetMany ≤ 3) (iv_ko_8 : ksunkMany ≤ 36) (iv_ko_9 : ktexts ≤ 64) (iv_ko_10 : klineMany ≤ 40) (iv_ko_11 : knodes ≤ 60) (iv_ko_12 : konesMany ≤ 20) (iv_ko_13 : kwithin ≤ 8) (iv_ko_14 : ktop ≤ 59) (ab_now : NB knowF) (ab_snaps : AB512 ksnapsF) (sb_now : SB knowF) : Met l yX12_milk wsX12_milk ({ frames := 3, cells := 0, slots := 0, locals := 69 }) (PcU dC dI ky [.ref o, .int x, .int y, .int z] [(o, .inr (12, [.int kthrown, .ref ktape, .int (nI ktaped), .int (nI ksize), .int (nI klimit), .int (nI kto), .int (nI kfrom), .int kkind, .int knumber, .int ksign, .int kfault, .int kplace, .long kword, .int ktold, .ref know, .ref kread, .ref kkept, .ref ksnaps, .ref kaside, .ref kname, .ref kreadName, .ref kkeptName, .ref kisKept, .ref konces, .int (nI ksnapMany), .int khasCells, .ref kpoured, .ref kfar, .ref ksides, .int (nI ksideMany), .int kwayDays, .int khasWay, .ref klines, .ref kmet, .int (nI kmetMany), .ref ksunk, .ref ktrying, .int (nI ksunkMany), .int ksending, .int kfleets, .ref ktext, .int (nI ktexts), .int kseed, .ref kline, .ref kwritten, .int (nI klineMany), .int khasWritten, .ref knode, .int (nI knodes), .int (nI konesMany), .int (nI kwithin), .int (nI ktop)])), (know, .inl (ky 0, 373, .inl knowF)), (ksnaps, .inl (ky 0, 512, .inl ksnapsF))] sz) (va_Qi (fun (r : Int32) (u : Int32 × Nat × (Nat → Int32) × (Nat → Int32)) => match u with | (kthrownG, ksnapManyG, knowG, ksnapsG) => (ksnapManyG ≤ 8) ∧ (NB knowG) ∧ (SB knowG) ∧ (AB512 ksnapsG)) (BU dC dI ky (fun (u : Int32 × Nat × (Nat → Int32) × (Nat → Int32)) => match u with | (kthrownG, ksnapManyG, knowG, ksnapsG) => [(o, .inr (12, [.int kthrownG, .ref ktape, .int (nI ktaped), .int (nI ksize), .int (nI klimit), .int (nI kto), .int (nI kfrom), .int kkind, .int knumber, .int ksign, .int kfault, .int kplace, .long kword, .int ktold, .ref know, .ref kread, .ref kkept, .ref ksnaps, .ref kaside, .ref kname, .ref kreadName, .ref kkeptName, .ref kisKept, .ref konces, .int (nI ksnapManyG), .int khasCells, .ref kpoured, .ref kfar, .ref ksides, .int (nI ksideMany), .int kwayDays, .int khasWay, .ref klines, .ref kmet, .int (nI kmetMany), .ref ksunk, .ref ktrying, .int (nI ksunkMany), .int ksending, .int kfleets, .ref ktext, .int (nI ktexts), .int kseed, .ref kline, .ref kwritten, .int (nI klineMany), .int khasWritten, .ref knode, .int (nI knodes), .int (nI konesMany), .int (nI kwithin), .int (nI ktop)])), (know, .inl (ky 0, 373, .inl knowG)), (ksnaps, .inl (ky 0, 512, .inl ksnapsG))]) (va_A [(o, .inr (12, [.int kthrown, .ref ktape, .int (nI ktaped), .int (nI ksize), .int (nI klimit), .int (nI kto), .int (nI kfrom), .int kkind, .int knumber, .int ksign, .int kfault, .int kplace, .long kword, .int ktold, .ref know, .ref kread, .ref kkept, .ref ksnaps, .ref kaside, .ref kname, .ref kreadName, .ref kkeptName, .ref kisKept, .ref konces, .int (nI ksnapMany), .int khasCells, .ref kpoured, .ref kfar, .ref ksides, .int (nI ksideMany), .int kwayDays, .int khasWay, .ref klines, .ref kmet, .int (nI kmetMany), .ref ksunk, .ref ktrying, .int (nI ksunkMany), .int ksending, .int kfleets, .ref ktext, .int (nI ktexts), .int kseed, .ref kline, .ref kwritten, .int (nI klineMany), .int khasWritten, .ref knode, .int (nI knodes), .int (nI konesMany), .int (nI kwithin), .int (nI ktop)])), (know, .inl (ky 0, 373, .inl knowF)), (ksnaps, .inl (ky 0, 512, .inl ksnapsF))] sz)) (va_A [(o, .inr (12, [.int kthrown, .ref ktape, .int (nI ktaped), .int (nI ksize), .int (nI klimit), .int (nI kto), .int (nI kfrom), .int kkind, .int knumber, .int ksign, .int kfault, .int kplace, .long kword, .int ktold, .ref know, .ref kread, .ref kkept, .ref ksnaps, .ref kaside, .ref kname, .ref kreadName, .ref kkeptName, .ref kisKept, .ref konces, .int (nI ksnapMany), .int khasCells, .ref kpoured, .ref kfar, .ref ksides, .int (nI ksideMany), .int kwayDays, .int khasWay, .ref klines, .ref kmet, .int (nI kmetMany), .ref ksunk, .ref ktrying, .int (nI ksunkMany), .int ksending, .int kfleets, .ref ktext, .int (nI ktexts), .int kseed, .ref kline, .ref kwritten, .int (nI klineMany), .int khasWritten, .ref knode, .int (nI knodes), .int (nI konesMany), .int (nI kwithin), .int (nI ktop)])), (know, .inl (ky 0, 373, .inl knowF)), (ksnaps, .inl (ky 0, 512, .inl ksnapsF))] sz)) 0 0 (va_A [(o, .inr (12, [.int kthrown, .ref ktape, .int (nI ktaped), .int (nI ksize), .int (nI klimit), .int (nI kto), .int (nI kfrom), .int kkind, .int knumber, .int ksign, .int kfault, .int kplace, .long kword, .int ktold, .ref know, .ref kread, .ref kkept, .ref ksnaps, .ref kaside, .ref kname, .ref kreadName, .ref kkeptName, .ref kisKept, .ref konces, .int (nI ksnapMany), .int khasCells, .ref kpoured, .ref kfar, .ref ksides, .int (nI ksideMany), .int kwayDays, .int khasWay, .ref klines, .ref kmet, .int (nI kmetMany), .ref ksunk, .ref ktrying, .int (nI ksunkMany), .int ksending, .int kfleets, .ref ktext, .int (nI ktexts), .int kseed, .ref kline, .ref kwritten, .int (nI klineMany), .int khasWritten, .ref knode, .int (nI knodes), .int (nI konesMany), .int (nI kwithin), .int (nI ktop)])), (know, .inl (ky 0, 373, .inl knowF)), (ksnaps, .inl (ky 0, 512, .inl ksnapsF))] sz) := by
  refine Met.ofW (cc := cX12_milk) (maxL := 4) (ret := (some .int)) (by decide) rfl ?_
  intro p e s m args below meth c s₁ B hml hv
  obtain ⟨rfl, hsz, hP, hK, hD0⟩ := hv
  have hx := B.exec
  have hb := B.bytes
  have hr := B.returns
  have hts := atoms_spec (ws := wsX12_milk) B.pre
  have hown : s.vm.findClass RX12 = some m.cls := findClass_of_methodNamed B.named
  have hlocks := B.notSynchronized
  have hin12 : ∀ w ∈ u_ws RX12 TX12 52, w ∈ wsX12_milk := by decide +kernel
  subst hsz
  have hD := hD0.self (sz := s.heap.size)
  generalize hAe : va_A [(o, .inr (12, [.int kthrown, .ref ktape, .int (nI ktaped), .int (nI ksize), .int (nI klimit), .int (nI kto), .int (nI kfrom), .int kkind, .int knumber, .int ksign, .int kfault, .int kplace, .long kword, .int ktold, .ref know, .ref kread, .ref kkept, .ref ksnaps, .ref kaside, .ref kname, .ref kreadName, .ref kkeptName, .ref kisKept, .ref konces, .int (nI ksnapMany), .int khasCells, .ref kpoured, .ref kfar, .ref ksides, .int (nI ksideMany), .int kwayDays, .int khasWay, .ref klines, .ref kmet, .int (nI kmetMany), .ref ksunk, .ref ktrying, .int (nI ksunkMany), .int ksending, .int kfleets, .ref ktext, .int (nI ktexts), .int kseed, .ref kline, .ref kwritten, .int (nI klineMany), .int khasWritten, .ref knode, .int (nI knodes), .int (nI konesMany), .int (nI kwithin), .int (nI ktop)])), (know, .inl (ky 0, 373, .inl knowF)), (ksnaps, .inl (ky 0, 512, .inl ksnapsF))] s.heap.size = A at hD ⊢
  have hA : ∀ q : Nat, s.heap.size ≤ q → A q := fun q h => by rw [← hAe]; exact Or.inr h
  have hS : va_S A s.heap s.heap [] := va_S.rf
  have hl := lv_entry ([.ref o, .int x, .int y, .int z]) (n := 4) (Nat.le_of_ble_eq_true rfl)
  rw [lg_entry_eq]
  generalize (lg_sl ([.ref o, .int x, .int y, .int z]) ++ List.replicate (4 - (lg_sl ([.ref o, .int x, .int y, .int z])).length) Slot.unset).toArray = ls at hl ⊢
  have hl : lv_has ls 4 [(0, .ref o), (1, .int x), (2, .int y), (3, .int z)] := hl
  refine q_name (fun Q hQ => ?_)
  generalize ([.ref o, .int x, .int y, .int z] : List Value).toArray = args at hts hQ ⊢
  refine lv_aload_n hx hb dX12_milk_0 rfl (lv_at hl 0 rfl) ?_
  refine lv_iconst (v := nI 0) hx hb dX12_milk_1 (by decide) ?_
  refine va_put (D := (dC, dI)) (ci := 12) (v := .int (nI 0)) (ty := .int) (C := RX12) (T := TX12) (N := 52) hx hb hts hin12 tyX12 tyX12_ok nmX12 hown hK hP hD hS 0 rfl rfl 0 (by decide) (hts (.fieldLink RX12 1 "PorridgeSeaModel" "thrown" "I") (List.mem_of_getElem? (i := 1) rfl)) (fun _ h9 => h9) rfl (by decide +kernel) rfl rfl (Nat.le_of_ble_eq_true rfl) dX12_milk_2 (fun H locs hP hD hS => ?_)
  have hP : va_P (dC, dI) vwCl [(o, .inr (12, [.int (nI 0), .ref ktape, .int (nI ktaped), .int (nI ksize), .int (nI klimit), .int (nI kto), .int (nI kfrom), .int kkind, .int knumber, .int ksign, .int kfault, .int kplace, .long kword, .int ktold, .ref know, .ref kread, .ref kkept, .ref ksnaps, .ref kaside, .ref kname, .ref kreadName, .ref kkeptName, .ref kisKept, .ref konces, .int (nI ksnapMany), .int khasCells, .ref kpoured, .ref kfar, .ref ksides, .int (nI ksideMany), .int kwayDays, .int khasWay, .ref klines, .ref kmet, .int (nI kmetMany), .ref ksunk, .ref ktrying, .int (nI ksunkMany), .int ksending, .int kfleets, .ref ktext, .int (nI ktexts), .int kseed, .ref kline, .ref kwritten, .int (nI klineMany), .int khasWritten, .ref knode, .int (nI knodes), .int (nI konesMany), .int (nI kwithin), .int (nI ktop)])), (know, .inl (ky 0, 373, .inl knowF)), (ksnaps, .inl (ky 0, 512, .inl ksnapsF))] H := hP
  have hD : va_D A [(o, .inr (12, [.int (nI 0), .ref ktape, .int (nI ktaped), .int (nI ksize), .int (nI klimit), .int (nI kto), .int (nI kfrom), .int kkind, .int knumber, .int ksign, .int kfault, .int kplace, .long kword, .int ktold, .ref know, .ref kread, .ref kkept, .ref ksnaps, .ref kaside, .ref kname, .ref kreadName, .ref kkeptName, .ref kisKept, .ref konces, .int (nI ksnapMany), .int khasCells, .ref kpoured, .ref kfar, .ref ksides, .int (nI ksideMany), .int kwayDays, .int khasWay, .ref klines, .ref kmet, .int (nI kmetMany), .ref ksunk, .ref ktrying, .int (nI ksunkMany), .int ksending, .int kfleets, .ref ktext, .int (nI ktexts), .int kseed, .ref kline, .ref kwritten, .int (nI klineMany), .int khasWritten, .ref knode, .int (nI knodes), .int (nI konesMany), .int (nI kwithin), .int (nI ktop)])), (know, .inl (ky 0, 373, .inl knowF)), (ksnaps, .inl (ky 0, 512, .inl ksnapsF))] := hD
  refine lv_aload_n hx hb dX12_milk_5 rfl (lv_at hl 0 rfl) ?_
  refine lv_iconst (v := nI 3) hx hb dX12_milk_6 (by decide) ?_
  refine lv_bipush (v := nI 6) hx hb dX12_milk_7 (by decide) ?_
  refine lv_iload_n hx hb dX12_milk_9 rfl (lv_at hl 2 rfl) ?_
  refine lv_imul hx hb dX12_milk_10 ?_
  refine lv_topi (fun y1 e2 => ?_)
  refine lv_iload_n hx hb dX12_milk_11 rfl (lv_at hl 1 rfl) ?_
  refine lv_iadd hx hb dX12_milk_12 ?_
  refine lv_topi (fun y3 e4 => ?_)
  refine lv_iload_n hx hb dX12_milk_13 rfl (lv_at hl 3 rfl) ?_
  refine lv_aload_n hx hb dX12_milk_14 rfl (lv_at hl 0 rfl) ?_
  refine lv_iload_n hx hb dX12_milk_15 rfl (lv_at hl 1 rfl) ?_
  refine lv_iload_n hx hb dX12_milk_16 rfl (lv_at hl 2 rfl) ?_
  refine vp_callSi (W.runV (As := [.int x, .int y]) (rest := [.int z, .int y3, .int (nI 3), .ref o]) ⟨hx, hb, hml, hown, hts⟩ (c_x_isCell l dC dI ky o (nI 0) ktape ktaped ksize klimit kto kfrom kkind knumber ksign kfault kplace kword ktold know kread kkept ksnaps kaside kname kreadName kkeptName kisKept konces ksnapMany khasCells kpoured kfar ksides ksideMany kwayDays khasWay klines kmet kmetMany ksunk ktrying ksunkMany ksending kfleets ktext ktexts kseed kline kwritten klineMany khasWritten knode knodes konesMany kwithin ktop knowF x y iv_ko_0 iv_ko_1 iv_ko_2 iv_ko_3 iv_ko_4 iv_ko_5 iv_ko_6 iv_ko_7 iv_ko_8 iv_ko_9 iv_ko_10 iv_ko_11 iv_ko_12 iv_ko_13 iv_ko_14 ab_now) (cwV 2 hts gX12_milk_X12_isCell rfl rfl rfl (by decide +kernel) ⟨(Nat.le_of_ble_eq_true rfl), (Nat.le_of_ble_eq_true rfl)⟩) (pre_PV hK hP [0, 1] rfl (ci := 12) (q0 := 0) rfl rfl) rfl rfl hl.1 rfl (lv_room (Nat.le_of_ble_eq_true rfl)) dX12_milk_17 ⟨(Nat.le_of_ble_eq_true rfl), (Nat.le_of_ble_eq_true rfl)⟩) (fun r5 p6 => ?_)
  rcases p6 with ⟨rfl, t7, t8, t9, t10, t11, t12⟩ | ⟨rfl, t13⟩
  · refine lv_if_eq (tgt := 37) hx hb dX12_milk_20 (by decide) (fun c14 => absurd c14 (by decide)) (fun c14 => ?_)
    refine lv_iload_n hx hb dX12_milk_23 rfl (lv_at hl 3 rfl) ?_
    refine lv_iconst (v := nI 1) hx hb dX12_milk_24 (by decide) ?_
    refine lv_bipush (v := nI 9) hx hb dX12_milk_25 (by decide) ?_
    refine vp_callSi (W.runS (As := [.int z, .int (nI 1), .int (nI 9)]) (rest := [.int z, .int y3, .int (nI 3), .ref o]) ⟨hx, hb, hml, hown, hts⟩ (c_x_isIn l dC dI ky z (nI 1) (nI 9)) (va_cwS 3 hts gX12_milk_X12_isIn rfl rfl rfl (by decide +kernel) ⟨(Nat.le_of_ble_eq_true rfl), (Nat.le_of_ble_eq_true rfl)⟩) (pre_PS hK hP [] rfl) rfl rfl hl.1 rfl (lv_room (Nat.le_of_ble_eq_true rfl)) dX12_milk_27 ⟨(Nat.le_of_ble_eq_true rfl), (Nat.le_of_ble_eq_true rfl)⟩) (fun r15 p16 => ?_)
    rcases p16 with ⟨rfl, t17, t18⟩ | ⟨rfl, t19⟩
    · refine lv_if_eq (tgt := 37) hx hb dX12_milk_30 (by decide) (fun c20 => absurd c20 (by decide)) (fun c20 => ?_)
      refine lv_iconst (v := nI 1) hx hb dX12_milk_33 (by decide) ?_
      refine lv_goto (tgt := 38) hx hb dX12_milk_34 (by decide) ?_
      refine r_call_i (wr := []) (va_runV (As := [.int (nI 3), .int y3, .int z, .int (nI 1)]) (rest := []) ⟨hx, hb, hml, hown, hts⟩ (c_x_act3 l dC dI ky H.size o (nI 0) ktape ktaped ksize klimit kto kfrom kkind knumber ksign kfault kplace kword ktold know kread kkept ksnaps kaside kname kreadName kkeptName kisKept konces ksnapMany khasCells kpoured kfar ksides ksideMany kwayDays khasWay klines kmet kmetMany ksunk ktrying ksunkMany ksending kfleets ktext ktexts kseed kline kwritten klineMany khasWritten knode knodes konesMany kwithin ktop knowF ksnapsF y3 z iv_ko_0 iv_ko_1 iv_ko_2 iv_ko_3 iv_ko_4 iv_ko_5 iv_ko_6 iv_ko_7 iv_ko_8 iv_ko_9 iv_ko_10 iv_ko_11 iv_ko_12 iv_ko_13 iv_ko_14 ab_now ab_snaps sb_now (lf_x_milk_1 knowF x y y1 y3 ab_now sb_now e2 e4 t7 t8 t9 t10 t11 t12) (lf_x_milk_2 z t17 t18)) (cwV 4 hts gX12_milk_X12_act rfl rfl rfl (by decide +kernel) ⟨(Nat.le_of_ble_eq_true rfl), (Nat.le_of_ble_eq_true rfl)⟩) (pre_UV hK hP hD [0, 1, 2] (by decide) rfl (ci := 12) (q0 := 0) rfl rfl) rfl rfl hl.1 rfl (lv_room (Nat.le_of_ble_eq_true rfl)) dX12_milk_38 ⟨(Nat.le_of_ble_eq_true rfl), (Nat.le_of_ble_eq_true rfl)⟩) hP hD hS hA [0, 1, 2] [] rfl rfl (by decide) (by decide) (fun r23 u21 H locs p22 hP hD hS => ?_)
      obtain ⟨ksnapManyG_24, knowG_25, ksnapsG_26⟩ := u21
      try dsimp only at p22
      obtain ⟨p27, p28, p29, p30⟩ := p22
      refine W.widen (k := 0) (n := 0) (Nat.le_of_ble_eq_true rfl) (Nat.le_of_ble_eq_true rfl) ?_
      have hP : va_P (dC, dI) vwCl [(o, .inr (12, [.int (nI 0), .ref ktape, .int (nI ktaped), .int (nI ksize), .int (nI klimit), .int (nI kto), .int (nI kfrom), .int kkind, .int knumber, .int ksign, .int kfault, .int kplace, .long kword, .int ktold, .ref know, .ref kread, .ref kkept, .ref ksnaps, .ref kaside, .ref kname, .ref kreadName, .ref kkeptName, .ref kisKept, .ref konces, .int (nI ksnapManyG_24), .int khasCells, .ref kpoured, .ref kfar, .ref ksides, .int (nI ksideMany), .int kwayDays, .int khasWay, .ref klines, .ref kmet, .int (nI kmetMany), .ref ksunk, .ref ktrying, .int (nI ksunkMany), .int ksending, .int kfleets, .ref ktext, .int (nI ktexts), .int kseed, .ref kline, .ref kwritten, .int (nI klineMany), .int khasWritten, .ref knode, .int (nI knodes), .int (nI konesMany), .int (nI kwithin), .int (nI ktop)])), (know, .inl (ky 0, 373, .inl knowG_25)), (ksnaps, .inl (ky 0, 512, .inl ksnapsG_26))] H := hP
      have hD : va_D A [(o, .inr (12, [.int (nI 0), .ref ktape, .int (nI ktaped), .int (nI ksize), .int (nI klimit), .int (nI kto), .int (nI kfrom), .int kkind, .int knumber, .int ksign, .int kfault, .int kplace, .long kword, .int ktold, .ref know, .ref kread, .ref kkept, .ref ksnaps, .ref kaside, .ref kname, .ref kreadName, .ref kkeptName, .ref kisKept, .ref konces, .int (nI ksnapManyG_24), .int khasCells, .ref kpoured, .ref kfar, .ref ksides, .int (nI ksideMany), .int kwayDays, .int khasWay, .ref klines, .ref kmet, .int (nI kmetMany), .ref ksunk, .ref ktrying, .int (nI ksunkMany), .int ksending, .int kfleets, .ref ktext, .int (nI ktexts), .int kseed, .ref kline, .ref kwritten, .int (nI klineMany), .int khasWritten, .ref knode, .int (nI knodes), .int (nI konesMany), .int (nI kwithin), .int (nI ktop)])), (know, .inl (ky 0, 373, .inl knowG_25)), (ksnaps, .inl (ky 0, 512, .inl ksnapsG_26))] := hD
      rw [hQ]
      exact W.iret (v := r23) hx hb hr (fun t9 ht9 hW9 => ⟨⟨r23, (nI 0, ksnapManyG_24, knowG_25, ksnapsG_26), rfl, ⟨p27, p28, p29, p30⟩, by rw [ht9]; exact hP, va_K.moved hW9.alike hK, hD⟩, hS.F ht9⟩) hS.2.2 dX12_milk_41
    · refine lv_if_eq (tgt := 37) hx hb dX12_milk_30 (by decide) (fun c31 => ?_) (fun c31 => absurd (by decide) c31)
      refine lv_iconst (v := nI 0) hx hb dX12_milk_37 (by decide) ?_
      refine vp_callSi (W.runV (As := [.int (nI 3), .int y3, .int z, .int (nI 0)]) (rest := []) ⟨hx, hb, hml, hown, hts⟩ (c_x_actNo l dC dI ky o (nI 0) ktape ktaped ksize klimit kto kfrom kkind knumber ksign kfault kplace kword ktold know kread kkept ksnaps kaside kname kreadName kkeptName kisKept konces ksnapMany khasCells kpoured kfar ksides ksideMany kwayDays khasWay klines kmet kmetMany ksunk ktrying ksunkMany ksending kfleets ktext ktexts kseed kline kwritten klineMany khasWritten knode knodes konesMany kwithin ktop (nI 3) y3 z iv_ko_0 iv_ko_1 iv_ko_2 iv_ko_3 iv_ko_4 iv_ko_5 iv_ko_6 iv_ko_7 iv_ko_8 iv_ko_9 iv_ko_10 iv_ko_11 iv_ko_12 iv_ko_13 iv_ko_14) (cwV 4 hts gX12_milk_X12_act rfl rfl rfl (by decide +kernel) ⟨(Nat.le_of_ble_eq_true rfl), (Nat.le_of_ble_eq_true rfl)⟩) (pre_PV hK hP [0] rfl (ci := 12) (q0 := 0) rfl rfl) rfl rfl hl.1 rfl (lv_room (Nat.le_of_ble_eq_true rfl)) dX12_milk_38 ⟨(Nat.le_of_ble_eq_true rfl), (Nat.le_of_ble_eq_true rfl)⟩) (fun r32 p33 => ?_)
      subst p33
      rw [hQ]
      exact W.iret (v := (-1 : Int32)) hx hb hr (fun t9 ht9 hW9 => ⟨⟨(-1 : Int32), (nI 0, ksnapMany, knowF, ksnapsF), rfl, ⟨iv_ko_5, ab_now, sb_now, ab_snaps⟩, by rw [ht9]; exact hP, va_K.moved hW9.alike hK, hD⟩, hS.F ht9⟩) hS.2.2 dX12_milk_41
  · refine lv_if_eq (tgt := 37) hx hb dX12_milk_20 (by decide) (fun c34 => ?_) (fun c34 => absurd (by decide) c34)
    refine lv_iconst (v := nI 0) hx hb dX12_milk_37 (by decide) ?_
    refine vp_callSi (W.runV (As := [.int (nI 3), .int y3, .int z, .int (nI 0)]) (rest := []) ⟨hx, hb, hml, hown, hts⟩ (c_x_actNo l dC dI ky o (nI 0) ktape ktaped ksize klimit kto kfrom kkind knumber ksign kfault kplace kword ktold know kread kkept ksnaps kaside kname kreadName kkeptName kisKept konces ksnapMany khasCells kpoured kfar ksides ksideMany kwayDays khasWay klines kmet kmetMany ksunk ktrying ksunkMany ksending kfleets ktext ktexts kseed kline kwritten klineMany khasWritten knode knodes konesMany kwithin ktop (nI 3) y3 z iv_ko_0 iv_ko_1 iv_ko_2 iv_ko_3 iv_ko_4 iv_ko_5 iv_ko_6 iv_ko_7 iv_ko_8 iv_ko_9 iv_ko_10 iv_ko_11 iv_ko_12 iv_ko_13 iv_ko_14) (cwV 4 hts gX12_milk_X12_act rfl rfl rfl (by decide +kernel) ⟨(Nat.le_of_ble_eq_true rfl), (Nat.le_of_ble_eq_true rfl)⟩) (pre_PV hK hP [0] rfl (ci := 12) (q0 := 0) rfl rfl) rfl rfl hl.1 rfl (lv_room (Nat.le_of_ble_eq_true rfl)) dX12_milk_38 ⟨(Nat.le_of_ble_eq_true rfl), (Nat.le_of_ble_eq_true rfl)⟩) (fun r35 p36 => ?_)
    subst p36
    rw [hQ]
    exact W.iret (v := (-1 : Int32)) hx hb hr (fun t9 ht9 hW9 => ⟨⟨(-1 : Int32), (nI 0, ksnapMany, knowF, ksnapsF), rfl, ⟨iv_ko_5, ab_now, sb_now, ab_snaps⟩, by rw [ht9]; exact hP, va_K.moved hW9.alike hK, hD⟩, hS.F ht9⟩) hS.2.2 dX12_milk_41
set_option maxHeartbeats 4000000 in
set_option maxRecDepth 100000 in
theorem c_x_stove (l : Launch) (dC : Nat → ClassId) (dI : Nat → Nat → Nat) (ky : Nat → ClassId) (sz : Nat) (o : Nat) (kthrown : Int32) (ktape : Nat) (ktaped : Nat) (ksize : Nat) (klimit : Nat) (kto : Nat) (kfrom : Nat) (kkind : Int32) (knumber : Int32) (ksign : Int32) (kfault : Int32) (kplace : Int32) (kword : Int64) (ktold : Int32) (know : Nat) (kread : Nat) (kkept : Nat) (ksnaps : Nat) (kaside : Nat) (kname : Nat) (kreadName : Nat) (kkeptName : Nat) (kisKept : Nat) (konces : Nat) (ksnapMany : Nat) (khasCells : Int32) (kpoured : Nat) (kfar : Nat) (ksides : Nat) (ksideMany : Nat) (kwayDays : Int32) (khasWay : Int32) (klines : Nat) (kmet : Nat) (kmetMany : Nat) (ksunk : Nat) (ktrying : Nat) (ksunkMany : Nat) (ksending : Int32) (kfleets : Int32) (ktext : Nat) (ktexts : Nat) (kseed : Int32) (kline : Nat) (kwritten : Nat) (klineMany : Nat) (khasWritten : Int32) (knode : Nat) (knodes : Nat) (konesMany : Nat) (kwithin : Nat) (ktop : Nat) (knowF : Nat → Int32) (ksnapsF : Nat → Int32) (x : Int32) (iv_ko_0 : ktaped ≤ 940) (iv_ko_1 : ksize ≤ 940) (iv_ko_2 : klimit ≤ 900) (iv_ko_3 : kto ≤ ksize) (iv_ko_4 : kfrom ≤ 940) (iv_ko_5 : ksnapMany ≤ 8) (iv_ko_6 : ksideMany ≤ 36) (iv_ko_7 : kmetMany ≤ 3) (iv_ko_8 : ksunkMany ≤ 36) (iv_ko_9 : ktexts ≤ 64) (iv_ko_10 : klineMany ≤ 40) (iv_ko_11 : knodes ≤ 60) (iv_ko_12 : konesMany ≤ 20) (iv_ko_13 : kwithin ≤ 8) (iv_ko_14 : ktop ≤ 59) (ab_now : NB knowF) (ab_snaps : AB512 ksnapsF) (sb_now : SB knowF) : Met l yX12_stove wsX12_stove ({ frames := 3, cells := 0, slots := 0, locals := 69 }) (PcU dC dI ky [.ref o, .int x] [(o, .inr (12, [.int kthrown, .ref ktape, .int (nI ktaped), .int (nI ksize), .int (nI klimit), .int (nI kto), .int (nI kfrom), .int kkind, .int knumber, .int ksign, .int kfault, .int kplace, .long kword, .int ktold, .ref know, .ref kread, .ref kkept, .ref ksnaps, .ref kaside, .ref kname, .ref kreadName, .ref kkeptName, .ref kisKept, .ref konces, .int (nI ksnapMany), .int khasCells, .ref kpoured, .ref kfar, .ref ksides, .int (nI ksideMany), .int kwayDays, .int khasWay, .ref klines, .ref kmet, .int (nI kmetMany), .ref ksunk, .ref ktrying, .int (nI ksunkMany), .int ksending, .int kfleets, .ref ktext, .int (nI ktexts), .int kseed, .ref kline, .ref kwritten, .int (nI klineMany), .int khasWritten, .ref knode, .int (nI knodes), .int (nI konesMany), .int (nI kwithin), .int (nI ktop)])), (know, .inl (ky 0, 373, .inl knowF)), (ksnaps, .inl (ky 0, 512, .inl ksnapsF))] sz) (va_Qi (fun (r : Int32) (u : Int32 × Nat × (Nat → Int32) × (Nat → Int32)) => match u with | (kthrownG, ksnapManyG, knowG, ksnapsG) => (ksnapManyG ≤ 8) ∧ (NB knowG) ∧ (SB knowG) ∧ (AB512 ksnapsG)) (BU dC dI ky (fun (u : Int32 × Nat × (Nat → Int32) × (Nat → Int32)) => match u with | (kthrownG, ksnapManyG, knowG, ksnapsG) => [(o, .inr (12, [.int kthrownG, .ref ktape, .int (nI ktaped), .int (nI ksize), .int (nI klimit), .int (nI kto), .int (nI kfrom), .int kkind, .int knumber, .int ksign, .int kfault, .int kplace, .long kword, .int ktold, .ref know, .ref kread, .ref kkept, .ref ksnaps, .ref kaside, .ref kname, .ref kreadName, .ref kkeptName, .ref kisKept, .ref konces, .int (nI ksnapManyG), .int khasCells, .ref kpoured, .ref kfar, .ref ksides, .int (nI ksideMany), .int kwayDays, .int khasWay, .ref klines, .ref kmet, .int (nI kmetMany), .ref ksunk, .ref ktrying, .int (nI ksunkMany), .int ksending, .int kfleets, .ref ktext, .int (nI ktexts), .int kseed, .ref kline, .ref kwritten, .int (nI klineMany), .int khasWritten, .ref knode, .int (nI knodes), .int (nI konesMany), .int (nI kwithin), .int (nI ktop)])), (know, .inl (ky 0, 373, .inl knowG)), (ksnaps, .inl (ky 0, 512, .inl ksnapsG))]) (va_A [(o, .inr (12, [.int kthrown, .ref ktape, .int (nI ktaped), .int (nI ksize), .int (nI klimit), .int (nI kto), .int (nI kfrom), .int kkind, .int knumber, .int ksign, .int kfault, .int kplace, .long kword, .int ktold, .ref know, .ref kread, .ref kkept, .ref ksnaps, .ref kaside, .ref kname, .ref kreadName, .ref kkeptName, .ref kisKept, .ref konces, .int (nI ksnapMany), .int khasCells, .ref kpoured, .ref kfar, .ref ksides, .int (nI ksideMany), .int kwayDays, .int khasWay, .ref klines, .ref kmet, .int (nI kmetMany), .ref ksunk, .ref ktrying, .int (nI ksunkMany), .int ksending, .int kfleets, .ref ktext, .int (nI ktexts), .int kseed, .ref kline, .ref kwritten, .int (nI klineMany), .int khasWritten, .ref knode, .int (nI knodes), .int (nI konesMany), .int (nI kwithin), .int (nI ktop)])), (know, .inl (ky 0, 373, .inl knowF)), (ksnaps, .inl (ky 0, 512, .inl ksnapsF))] sz)) (va_A [(o, .inr (12, [.int kthrown, .ref ktape, .int (nI ktaped), .int (nI ksize), .int (nI klimit), .int (nI kto), .int (nI kfrom), .int kkind, .int knumber, .int ksign, .int kfault, .int kplace, .long kword, .int ktold, .ref know, .ref kread, .ref kkept, .ref ksnaps, .ref kaside, .ref kname, .ref kreadName, .ref kkeptName, .ref kisKept, .ref konces, .int (nI ksnapMany), .int khasCells, .ref kpoured, .ref kfar, .ref ksides, .int (nI ksideMany), .int kwayDays, .int khasWay, .ref klines, .ref kmet, .int (nI kmetMany), .ref ksunk, .ref ktrying, .int (nI ksunkMany), .int ksending, .int kfleets, .ref ktext, .int (nI ktexts), .int kseed, .ref kline, .ref kwritten, .int (nI klineMany), .int khasWritten, .ref knode, .int (nI knodes), .int (nI konesMany), .int (nI kwithin), .int (nI ktop)])), (know, .inl (ky 0, 373, .inl knowF)), (ksnaps, .inl (ky 0, 512, .inl ksnapsF))] sz)) 0 0 (va_A [(o, .inr (12, [.int kthrown, .ref ktape, .int (nI ktaped), .int (nI ksize), .int (nI klimit), .int (nI kto), .int (nI kfrom), .int kkind, .int knumber, .int ksign, .int kfault, .int kplace, .long kword, .int ktold, .ref know, .ref kread, .ref kkept, .ref ksnaps, .ref kaside, .ref kname, .ref kreadName, .ref kkeptName, .ref kisKept, .ref konces, .int (nI ksnapMany), .int khasCells, .ref kpoured, .ref kfar, .ref ksides, .int (nI ksideMany), .int kwayDays, .int khasWay, .ref klines, .ref kmet, .int (nI kmetMany), .ref ksunk, .ref ktrying, .int (nI ksunkMany), .int ksending, .int kfleets, .ref ktext, .int (nI ktexts), .int kseed, .ref kline, .ref kwritten, .int (nI klineMany), .int khasWritten, .ref knode, .int (nI knodes), .int (nI konesMany), .int (nI kwithin), .int (nI ktop)])), (know, .inl (ky 0, 373, .inl knowF)), (ksnaps, .inl (ky 0, 512, .inl ksnapsF))] sz) := by
  refine Met.ofW (cc := cX12_stove) (maxL := 2) (ret := (some .int)) (by decide) rfl ?_
  intro p e s m args below meth c s₁ B hml hv
  obtain ⟨rfl, hsz, hP, hK, hD0⟩ := hv
  have hx := B.exec
  have hb := B.bytes
  have hr := B.returns
  have hts := atoms_spec (ws := wsX12_stove) B.pre
  have hown : s.vm.findClass RX12 = some m.cls := findClass_of_methodNamed B.named
  have hlocks := B.notSynchronized
  have hin12 : ∀ w ∈ u_ws RX12 TX12 52, w ∈ wsX12_stove := by decide +kernel
  subst hsz
  have hD := hD0.self (sz := s.heap.size)
  generalize hAe : va_A [(o, .inr (12, [.int kthrown, .ref ktape, .int (nI ktaped), .int (nI ksize), .int (nI klimit), .int (nI kto), .int (nI kfrom), .int kkind, .int knumber, .int ksign, .int kfault, .int kplace, .long kword, .int ktold, .ref know, .ref kread, .ref kkept, .ref ksnaps, .ref kaside, .ref kname, .ref kreadName, .ref kkeptName, .ref kisKept, .ref konces, .int (nI ksnapMany), .int khasCells, .ref kpoured, .ref kfar, .ref ksides, .int (nI ksideMany), .int kwayDays, .int khasWay, .ref klines, .ref kmet, .int (nI kmetMany), .ref ksunk, .ref ktrying, .int (nI ksunkMany), .int ksending, .int kfleets, .ref ktext, .int (nI ktexts), .int kseed, .ref kline, .ref kwritten, .int (nI klineMany), .int khasWritten, .ref knode, .int (nI knodes), .int (nI konesMany), .int (nI kwithin), .int (nI ktop)])), (know, .inl (ky 0, 373, .inl knowF)), (ksnaps, .inl (ky 0, 512, .inl ksnapsF))] s.heap.size = A at hD ⊢
  have hA : ∀ q : Nat, s.heap.size ≤ q → A q := fun q h => by rw [← hAe]; exact Or.inr h
  have hS : va_S A s.heap s.heap [] := va_S.rf
  have hl := lv_entry ([.ref o, .int x]) (n := 2) (Nat.le_of_ble_eq_true rfl)
  rw [lg_entry_eq]
  generalize (lg_sl ([.ref o, .int x]) ++ List.replicate (2 - (lg_sl ([.ref o, .int x])).length) Slot.unset).toArray = ls at hl ⊢
  have hl : lv_has ls 2 [(0, .ref o), (1, .int x)] := hl
  refine q_name (fun Q hQ => ?_)
  generalize ([.ref o, .int x] : List Value).toArray = args at hts hQ ⊢
  refine lv_aload_n hx hb dX12_stove_0 rfl (lv_at hl 0 rfl) ?_
  refine lv_iconst (v := nI 0) hx hb dX12_stove_1 (by decide) ?_
  refine va_put (D := (dC, dI)) (ci := 12) (v := .int (nI 0)) (ty := .int) (C := RX12) (T := TX12) (N := 52) hx hb hts hin12 tyX12 tyX12_ok nmX12 hown hK hP hD hS 0 rfl rfl 0 (by decide) (hts (.fieldLink RX12 1 "PorridgeSeaModel" "thrown" "I") (List.mem_of_getElem? (i := 1) rfl)) (fun _ h9 => h9) rfl (by decide +kernel) rfl rfl (Nat.le_of_ble_eq_true rfl) dX12_stove_2 (fun H locs hP hD hS => ?_)
  have hP : va_P (dC, dI) vwCl [(o, .inr (12, [.int (nI 0), .ref ktape, .int (nI ktaped), .int (nI ksize), .int (nI klimit), .int (nI kto), .int (nI kfrom), .int kkind, .int knumber, .int ksign, .int kfault, .int kplace, .long kword, .int ktold, .ref know, .ref kread, .ref kkept, .ref ksnaps, .ref kaside, .ref kname, .ref kreadName, .ref kkeptName, .ref kisKept, .ref konces, .int (nI ksnapMany), .int khasCells, .ref kpoured, .ref kfar, .ref ksides, .int (nI ksideMany), .int kwayDays, .int khasWay, .ref klines, .ref kmet, .int (nI kmetMany), .ref ksunk, .ref ktrying, .int (nI ksunkMany), .int ksending, .int kfleets, .ref ktext, .int (nI ktexts), .int kseed, .ref kline, .ref kwritten, .int (nI klineMany), .int khasWritten, .ref knode, .int (nI knodes), .int (nI konesMany), .int (nI kwithin), .int (nI ktop)])), (know, .inl (ky 0, 373, .inl knowF)), (ksnaps, .inl (ky 0, 512, .inl ksnapsF))] H := hP
  have hD : va_D A [(o, .inr (12, [.int (nI 0), .ref ktape, .int (nI ktaped), .int (nI ksize), .int (nI klimit), .int (nI kto), .int (nI kfrom), .int kkind, .int knumber, .int ksign, .int kfault, .int kplace, .long kword, .int ktold, .ref know, .ref kread, .ref kkept, .ref ksnaps, .ref kaside, .ref kname, .ref kreadName, .ref kkeptName, .ref kisKept, .ref konces, .int (nI ksnapMany), .int khasCells, .ref kpoured, .ref kfar, .ref ksides, .int (nI ksideMany), .int kwayDays, .int khasWay, .ref klines, .ref kmet, .int (nI kmetMany), .ref ksunk, .ref ktrying, .int (nI ksunkMany), .int ksending, .int kfleets, .ref ktext, .int (nI ktexts), .int kseed, .ref kline, .ref kwritten, .int (nI klineMany), .int khasWritten, .ref knode, .int (nI knodes), .int (nI konesMany), .int (nI kwithin), .int (nI ktop)])), (know, .inl (ky 0, 373, .inl knowF)), (ksnaps, .inl (ky 0, 512, .inl ksnapsF))] := hD
  refine lv_aload_n hx hb dX12_stove_5 rfl (lv_at hl 0 rfl) ?_
  refine lv_iconst (v := nI 4) hx hb dX12_stove_6 (by decide) ?_
  refine lv_iload_n hx hb dX12_stove_7 rfl (lv_at hl 1 rfl) ?_
  refine lv_iconst (v := nI 0) hx hb dX12_stove_8 (by decide) ?_
  refine lv_iload_n hx hb dX12_stove_9 rfl (lv_at hl 1 rfl) ?_
  refine lv_iconst (v := nI 1) hx hb dX12_stove_10 (by decide) ?_
  refine lv_bipush (v := nI 20) hx hb dX12_stove_11 (by decide) ?_
  refine vp_callSi (W.runS (As := [.int x, .int (nI 1), .int (nI 20)]) (rest := [.int (nI 0), .int x, .int (nI 4), .ref o]) ⟨hx, hb, hml, hown, hts⟩ (c_x_isIn l dC dI ky x (nI 1) (nI 20)) (va_cwS 3 hts gX12_stove_X12_isIn rfl rfl rfl (by decide +kernel) ⟨(Nat.le_of_ble_eq_true rfl), (Nat.le_of_ble_eq_true rfl)⟩) (pre_PS hK hP [] rfl) rfl rfl hl.1 rfl (lv_room (Nat.le_of_ble_eq_true rfl)) dX12_stove_13 ⟨(Nat.le_of_ble_eq_true rfl), (Nat.le_of_ble_eq_true rfl)⟩) (fun r1 p2 => ?_)
  rcases p2 with ⟨rfl, t3, t4⟩ | ⟨rfl, t5⟩
  · refine r_call_i (wr := []) (va_runV (As := [.int (nI 4), .int x, .int (nI 0), .int (nI 1)]) (rest := []) ⟨hx, hb, hml, hown, hts⟩ (c_x_act4 l dC dI ky H.size o (nI 0) ktape ktaped ksize klimit kto kfrom kkind knumber ksign kfault kplace kword ktold know kread kkept ksnaps kaside kname kreadName kkeptName kisKept konces ksnapMany khasCells kpoured kfar ksides ksideMany kwayDays khasWay klines kmet kmetMany ksunk ktrying ksunkMany ksending kfleets ktext ktexts kseed kline kwritten klineMany khasWritten knode knodes konesMany kwithin ktop knowF ksnapsF x (nI 0) iv_ko_0 iv_ko_1 iv_ko_2 iv_ko_3 iv_ko_4 iv_ko_5 iv_ko_6 iv_ko_7 iv_ko_8 iv_ko_9 iv_ko_10 iv_ko_11 iv_ko_12 iv_ko_13 iv_ko_14 ab_now ab_snaps sb_now) (cwV 4 hts gX12_stove_X12_act rfl rfl rfl (by decide +kernel) ⟨(Nat.le_of_ble_eq_true rfl), (Nat.le_of_ble_eq_true rfl)⟩) (pre_UV hK hP hD [0, 1, 2] (by decide) rfl (ci := 12) (q0 := 0) rfl rfl) rfl rfl hl.1 rfl (lv_room (Nat.le_of_ble_eq_true rfl)) dX12_stove_16 ⟨(Nat.le_of_ble_eq_true rfl), (Nat.le_of_ble_eq_true rfl)⟩) hP hD hS hA [0, 1, 2] [] rfl rfl (by decide) (by decide) (fun r8 u6 H locs p7 hP hD hS => ?_)
    obtain ⟨ksnapManyG_9, knowG_10, ksnapsG_11⟩ := u6
    try dsimp only at p7
    obtain ⟨p12, p13, p14, p15⟩ := p7
    refine W.widen (k := 0) (n := 0) (Nat.le_of_ble_eq_true rfl) (Nat.le_of_ble_eq_true rfl) ?_
    have hP : va_P (dC, dI) vwCl [(o, .inr (12, [.int (nI 0), .ref ktape, .int (nI ktaped), .int (nI ksize), .int (nI klimit), .int (nI kto), .int (nI kfrom), .int kkind, .int knumber, .int ksign, .int kfault, .int kplace, .long kword, .int ktold, .ref know, .ref kread, .ref kkept, .ref ksnaps, .ref kaside, .ref kname, .ref kreadName, .ref kkeptName, .ref kisKept, .ref konces, .int (nI ksnapManyG_9), .int khasCells, .ref kpoured, .ref kfar, .ref ksides, .int (nI ksideMany), .int kwayDays, .int khasWay, .ref klines, .ref kmet, .int (nI kmetMany), .ref ksunk, .ref ktrying, .int (nI ksunkMany), .int ksending, .int kfleets, .ref ktext, .int (nI ktexts), .int kseed, .ref kline, .ref kwritten, .int (nI klineMany), .int khasWritten, .ref knode, .int (nI knodes), .int (nI konesMany), .int (nI kwithin), .int (nI ktop)])), (know, .inl (ky 0, 373, .inl knowG_10)), (ksnaps, .inl (ky 0, 512, .inl ksnapsG_11))] H := hP
    have hD : va_D A [(o, .inr (12, [.int (nI 0), .ref ktape, .int (nI ktaped), .int (nI ksize), .int (nI klimit), .int (nI kto), .int (nI kfrom), .int kkind, .int knumber, .int ksign, .int kfault, .int kplace, .long kword, .int ktold, .ref know, .ref kread, .ref kkept, .ref ksnaps, .ref kaside, .ref kname, .ref kreadName, .ref kkeptName, .ref kisKept, .ref konces, .int (nI ksnapManyG_9), .int khasCells, .ref kpoured, .ref kfar, .ref ksides, .int (nI ksideMany), .int kwayDays, .int khasWay, .ref klines, .ref kmet, .int (nI kmetMany), .ref ksunk, .ref ktrying, .int (nI ksunkMany), .int ksending, .int kfleets, .ref ktext, .int (nI ktexts), .int kseed, .ref kline, .ref kwritten, .int (nI klineMany), .int khasWritten, .ref knode, .int (nI knodes), .int (nI konesMany), .int (nI kwithin), .int (nI ktop)])), (know, .inl (ky 0, 373, .inl knowG_10)), (ksnaps, .inl (ky 0, 512, .inl ksnapsG_11))] := hD
    rw [hQ]
    exact W.iret (v := r8) hx hb hr (fun t9 ht9 hW9 => ⟨⟨r8, (nI 0, ksnapManyG_9, knowG_10, ksnapsG_11), rfl, ⟨p12, p13, p14, p15⟩, by rw [ht9]; exact hP, va_K.moved hW9.alike hK, hD⟩, hS.F ht9⟩) hS.2.2 dX12_stove_19
  · refine vp_callSi (W.runV (As := [.int (nI 4), .int x, .int (nI 0), .int (nI 0)]) (rest := []) ⟨hx, hb, hml, hown, hts⟩ (c_x_actNo l dC dI ky o (nI 0) ktape ktaped ksize klimit kto kfrom kkind knumber ksign kfault kplace kword ktold know kread kkept ksnaps kaside kname kreadName kkeptName kisKept konces ksnapMany khasCells kpoured kfar ksides ksideMany kwayDays khasWay klines kmet kmetMany ksunk ktrying ksunkMany ksending kfleets ktext ktexts kseed kline kwritten klineMany khasWritten knode knodes konesMany kwithin ktop (nI 4) x (nI 0) iv_ko_0 iv_ko_1 iv_ko_2 iv_ko_3 iv_ko_4 iv_ko_5 iv_ko_6 iv_ko_7 iv_ko_8 iv_ko_9 iv_ko_10 iv_ko_11 iv_ko_12 iv_ko_13 iv_ko_14) (cwV 4 hts gX12_stove_X12_act rfl rfl rfl (by decide +kernel) ⟨(Nat.le_of_ble_eq_true rfl), (Nat.le_of_ble_eq_true rfl)⟩) (pre_PV hK hP [0] rfl (ci := 12) (q0 := 0) rfl rfl) rfl rfl hl.1 rfl (lv_room (Nat.le_of_ble_eq_true rfl)) dX12_stove_16 ⟨(Nat.le_of_ble_eq_true rfl), (Nat.le_of_ble_eq_true rfl)⟩) (fun r16 p17 => ?_)
    subst p17
    rw [hQ]
    exact W.iret (v := (-1 : Int32)) hx hb hr (fun t9 ht9 hW9 => ⟨⟨(-1 : Int32), (nI 0, ksnapMany, knowF, ksnapsF), rfl, ⟨iv_ko_5, ab_now, sb_now, ab_snaps⟩, by rw [ht9]; exact hP, va_K.moved hW9.alike hK, hD⟩, hS.F ht9⟩) hS.2.2 dX12_stove_19
