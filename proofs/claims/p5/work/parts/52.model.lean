theorem dX12_saysOne_0 : decode cX12_saysOne 0 = .ok (.iconst 4, 1) := by decide +kernel
theorem dX12_saysOne_1 : decode cX12_saysOne 1 = .ok (.aload_n 0, 1) := by decide +kernel
theorem dX12_saysOne_2 : decode cX12_saysOne 2 = .ok (.getfield 426, 3) := by decide +kernel
theorem dX12_saysOne_5 : decode cX12_saysOne 5 = .ok (.imul, 1) := by decide +kernel
theorem dX12_saysOne_6 : decode cX12_saysOne 6 = .ok (.istore 5, 2) := by decide +kernel
theorem dX12_saysOne_8 : decode cX12_saysOne 8 = .ok (.aload_n 0, 1) := by decide +kernel
theorem dX12_saysOne_9 : decode cX12_saysOne 9 = .ok (.getfield 169, 3) := by decide +kernel
theorem dX12_saysOne_12 : decode cX12_saysOne 12 = .ok (.iload 5, 2) := by decide +kernel
theorem dX12_saysOne_14 : decode cX12_saysOne 14 = .ok (.iload_n 1, 1) := by decide +kernel
theorem dX12_saysOne_15 : decode cX12_saysOne 15 = .ok (.iastore, 1) := by decide +kernel
theorem dX12_saysOne_16 : decode cX12_saysOne 16 = .ok (.aload_n 0, 1) := by decide +kernel
theorem dX12_saysOne_17 : decode cX12_saysOne 17 = .ok (.getfield 169, 3) := by decide +kernel
theorem dX12_saysOne_20 : decode cX12_saysOne 20 = .ok (.iload 5, 2) := by decide +kernel
theorem dX12_saysOne_22 : decode cX12_saysOne 22 = .ok (.iconst 1, 1) := by decide +kernel
theorem dX12_saysOne_23 : decode cX12_saysOne 23 = .ok (.iadd, 1) := by decide +kernel
theorem dX12_saysOne_24 : decode cX12_saysOne 24 = .ok (.iload_n 2, 1) := by decide +kernel
theorem dX12_saysOne_25 : decode cX12_saysOne 25 = .ok (.iastore, 1) := by decide +kernel
theorem dX12_saysOne_26 : decode cX12_saysOne 26 = .ok (.aload_n 0, 1) := by decide +kernel
theorem dX12_saysOne_27 : decode cX12_saysOne 27 = .ok (.getfield 169, 3) := by decide +kernel
theorem dX12_saysOne_30 : decode cX12_saysOne 30 = .ok (.iload 5, 2) := by decide +kernel
theorem dX12_saysOne_32 : decode cX12_saysOne 32 = .ok (.iconst 2, 1) := by decide +kernel
theorem dX12_saysOne_33 : decode cX12_saysOne 33 = .ok (.iadd, 1) := by decide +kernel
theorem dX12_saysOne_34 : decode cX12_saysOne 34 = .ok (.iload_n 3, 1) := by decide +kernel
theorem dX12_saysOne_35 : decode cX12_saysOne 35 = .ok (.iastore, 1) := by decide +kernel
theorem dX12_saysOne_36 : decode cX12_saysOne 36 = .ok (.aload_n 0, 1) := by decide +kernel
theorem dX12_saysOne_37 : decode cX12_saysOne 37 = .ok (.getfield 169, 3) := by decide +kernel
theorem dX12_saysOne_40 : decode cX12_saysOne 40 = .ok (.iload 5, 2) := by decide +kernel
theorem dX12_saysOne_42 : decode cX12_saysOne 42 = .ok (.iconst 3, 1) := by decide +kernel
theorem dX12_saysOne_43 : decode cX12_saysOne 43 = .ok (.iadd, 1) := by decide +kernel
theorem dX12_saysOne_44 : decode cX12_saysOne 44 = .ok (.iload 4, 2) := by decide +kernel
theorem dX12_saysOne_46 : decode cX12_saysOne 46 = .ok (.iastore, 1) := by decide +kernel
theorem dX12_saysOne_47 : decode cX12_saysOne 47 = .ok (.aload_n 0, 1) := by decide +kernel
theorem dX12_saysOne_48 : decode cX12_saysOne 48 = .ok (.dup, 1) := by decide +kernel
theorem dX12_saysOne_49 : decode cX12_saysOne 49 = .ok (.getfield 426, 3) := by decide +kernel
theorem dX12_saysOne_52 : decode cX12_saysOne 52 = .ok (.iconst 1, 1) := by decide +kernel
theorem dX12_saysOne_53 : decode cX12_saysOne 53 = .ok (.iadd, 1) := by decide +kernel
theorem dX12_saysOne_54 : decode cX12_saysOne 54 = .ok (.putfield 426, 3) := by decide +kernel
theorem dX12_saysOne_57 : decode cX12_saysOne 57 = .ok (.aload_n 0, 1) := by decide +kernel
theorem dX12_saysOne_58 : decode cX12_saysOne 58 = .ok (.getfield 426, 3) := by decide +kernel
theorem dX12_saysOne_61 : decode cX12_saysOne 61 = .ok (.iconst 1, 1) := by decide +kernel
theorem dX12_saysOne_62 : decode cX12_saysOne 62 = .ok (.isub, 1) := by decide +kernel
theorem dX12_saysOne_63 : decode cX12_saysOne 63 = .ok (.ireturn, 1) := by decide +kernel
theorem dX12_readLumpName_0 : decode cX12_readLumpName 0 = .ok (.aload_n 0, 1) := by decide +kernel
theorem dX12_readLumpName_1 : decode cX12_readLumpName 1 = .ok (.invokevirtual 178, 3) := by decide +kernel
theorem dX12_readLumpName_4 : decode cX12_readLumpName 4 = .ok (.ifCond .ne 9, 3) := by decide +kernel
theorem dX12_readLumpName_13 : decode cX12_readLumpName 13 = .ok (.aload_n 0, 1) := by decide +kernel
theorem dX12_readLumpName_14 : decode cX12_readLumpName 14 = .ok (.aload_n 0, 1) := by decide +kernel
theorem dX12_readLumpName_15 : decode cX12_readLumpName 15 = .ok (.getfield 113, 3) := by decide +kernel
theorem dX12_readLumpName_18 : decode cX12_readLumpName 18 = .ok (.iconst 0, 1) := by decide +kernel
theorem dX12_readLumpName_19 : decode cX12_readLumpName 19 = .ok (.aload_n 0, 1) := by decide +kernel
theorem dX12_readLumpName_20 : decode cX12_readLumpName 20 = .ok (.getfield 98, 3) := by decide +kernel
theorem dX12_readLumpName_23 : decode cX12_readLumpName 23 = .ok (.iconst 2, 1) := by decide +kernel
theorem dX12_readLumpName_24 : decode cX12_readLumpName 24 = .ok (.iaload, 1) := by decide +kernel
theorem dX12_readLumpName_25 : decode cX12_readLumpName 25 = .ok (.aload_n 0, 1) := by decide +kernel
theorem dX12_readLumpName_26 : decode cX12_readLumpName 26 = .ok (.getfield 43, 3) := by decide +kernel
theorem dX12_readLumpName_29 : decode cX12_readLumpName 29 = .ok (.invokestatic 182, 3) := by decide +kernel
theorem dX12_readLumpName_32 : decode cX12_readLumpName 32 = .ok (.putfield 79, 3) := by decide +kernel
theorem dX12_readLumpName_35 : decode cX12_readLumpName 35 = .ok (.aload_n 0, 1) := by decide +kernel
theorem dX12_readLumpName_36 : decode cX12_readLumpName 36 = .ok (.getfield 79, 3) := by decide +kernel
theorem dX12_readLumpName_39 : decode cX12_readLumpName 39 = .ok (.iconst (-1), 1) := by decide +kernel
theorem dX12_readLumpName_40 : decode cX12_readLumpName 40 = .ok (.if_icmp .ne 9, 3) := by decide +kernel
theorem dX12_readLumpName_43 : decode cX12_readLumpName 43 = .ok (.aload_n 0, 1) := by decide +kernel
theorem dX12_readLumpName_44 : decode cX12_readLumpName 44 = .ok (.iconst 3, 1) := by decide +kernel
theorem dX12_readLumpName_45 : decode cX12_readLumpName 45 = .ok (.invokevirtual 72, 3) := by decide +kernel
theorem dX12_readLumpName_48 : decode cX12_readLumpName 48 = .ok (.ireturn, 1) := by decide +kernel
theorem dX12_readLumpName_49 : decode cX12_readLumpName 49 = .ok (.aload_n 0, 1) := by decide +kernel
theorem dX12_readLumpName_50 : decode cX12_readLumpName 50 = .ok (.invokevirtual 82, 3) := by decide +kernel
theorem dX12_readLumpName_53 : decode cX12_readLumpName 53 = .ok (.iconst 1, 1) := by decide +kernel
theorem dX12_readLumpName_54 : decode cX12_readLumpName 54 = .ok (.ireturn, 1) := by decide +kernel
theorem dX12_readLumpName_7 : decode cX12_readLumpName 7 = .ok (.aload_n 0, 1) := by decide +kernel
theorem dX12_readLumpName_8 : decode cX12_readLumpName 8 = .ok (.iconst 1, 1) := by decide +kernel
theorem dX12_readLumpName_9 : decode cX12_readLumpName 9 = .ok (.invokevirtual 72, 3) := by decide +kernel
theorem dX12_readLumpName_12 : decode cX12_readLumpName 12 = .ok (.ireturn, 1) := by decide +kernel
theorem dX12_readOf_0 : decode cX12_readOf 0 = .ok (.aload_n 0, 1) := by decide +kernel
theorem dX12_readOf_1 : decode cX12_readOf 1 = .ok (.invokevirtual 463, 3) := by decide +kernel
theorem dX12_readOf_4 : decode cX12_readOf 4 = .ok (.ifCond .ne 5, 3) := by decide +kernel
theorem dX12_readOf_9 : decode cX12_readOf 9 = .ok (.aload_n 0, 1) := by decide +kernel
theorem dX12_readOf_10 : decode cX12_readOf 10 = .ok (.aload_n 0, 1) := by decide +kernel
theorem dX12_readOf_11 : decode cX12_readOf 11 = .ok (.bipush 50, 2) := by decide +kernel
theorem dX12_readOf_13 : decode cX12_readOf 13 = .ok (.iload_n 1, 1) := by decide +kernel
theorem dX12_readOf_14 : decode cX12_readOf 14 = .ok (.iadd, 1) := by decide +kernel
theorem dX12_readOf_15 : decode cX12_readOf 15 = .ok (.aload_n 0, 1) := by decide +kernel
theorem dX12_readOf_16 : decode cX12_readOf 16 = .ok (.getfield 79, 3) := by decide +kernel
theorem dX12_readOf_19 : decode cX12_readOf 19 = .ok (.iconst 0, 1) := by decide +kernel
theorem dX12_readOf_20 : decode cX12_readOf 20 = .ok (.iconst 0, 1) := by decide +kernel
theorem dX12_readOf_21 : decode cX12_readOf 21 = .ok (.invokevirtual 435, 3) := by decide +kernel
theorem dX12_readOf_24 : decode cX12_readOf 24 = .ok (.putfield 432, 3) := by decide +kernel
theorem dX12_readOf_27 : decode cX12_readOf 27 = .ok (.iconst 1, 1) := by decide +kernel
theorem dX12_readOf_28 : decode cX12_readOf 28 = .ok (.ireturn, 1) := by decide +kernel
theorem dX12_readOf_7 : decode cX12_readOf 7 = .ok (.iconst 0, 1) := by decide +kernel
theorem dX12_readOf_8 : decode cX12_readOf 8 = .ok (.ireturn, 1) := by decide +kernel
theorem dX12_readCompare_0 : decode cX12_readCompare 0 = .ok (.aload_n 0, 1) := by decide +kernel
theorem dX12_readCompare_1 : decode cX12_readCompare 1 = .ok (.bipush 60, 2) := by decide +kernel
theorem dX12_readCompare_3 : decode cX12_readCompare 3 = .ok (.invokevirtual 86, 3) := by decide +kernel
theorem dX12_readCompare_6 : decode cX12_readCompare 6 = .ok (.ifCond .ne 27, 3) := by decide +kernel
theorem dX12_readCompare_33 : decode cX12_readCompare 33 = .ok (.aload_n 0, 1) := by decide +kernel
theorem dX12_readCompare_34 : decode cX12_readCompare 34 = .ok (.getfield 40, 3) := by decide +kernel
theorem dX12_readCompare_37 : decode cX12_readCompare 37 = .ok (.istore_n 2, 1) := by decide +kernel
theorem dX12_readCompare_38 : decode cX12_readCompare 38 = .ok (.aload_n 0, 1) := by decide +kernel
theorem dX12_readCompare_39 : decode cX12_readCompare 39 = .ok (.invokevirtual 82, 3) := by decide +kernel
theorem dX12_readCompare_42 : decode cX12_readCompare 42 = .ok (.aload_n 0, 1) := by decide +kernel
theorem dX12_readCompare_43 : decode cX12_readCompare 43 = .ok (.iconst 0, 1) := by decide +kernel
theorem dX12_readCompare_44 : decode cX12_readCompare 44 = .ok (.sipush 999, 3) := by decide +kernel
theorem dX12_readCompare_47 : decode cX12_readCompare 47 = .ok (.invokevirtual 200, 3) := by decide +kernel
theorem dX12_readCompare_50 : decode cX12_readCompare 50 = .ok (.ifCond .ne 5, 3) := by decide +kernel
theorem dX12_readCompare_55 : decode cX12_readCompare 55 = .ok (.aload_n 0, 1) := by decide +kernel
theorem dX12_readCompare_56 : decode cX12_readCompare 56 = .ok (.aload_n 0, 1) := by decide +kernel
theorem dX12_readCompare_57 : decode cX12_readCompare 57 = .ok (.bipush 50, 2) := by decide +kernel
theorem dX12_readCompare_59 : decode cX12_readCompare 59 = .ok (.iload_n 1, 1) := by decide +kernel
theorem dX12_readCompare_60 : decode cX12_readCompare 60 = .ok (.iadd, 1) := by decide +kernel
theorem dX12_readCompare_61 : decode cX12_readCompare 61 = .ok (.iconst 0, 1) := by decide +kernel
theorem dX12_readCompare_62 : decode cX12_readCompare 62 = .ok (.aload_n 0, 1) := by decide +kernel
theorem dX12_readCompare_63 : decode cX12_readCompare 63 = .ok (.getfield 79, 3) := by decide +kernel
theorem dX12_readCompare_66 : decode cX12_readCompare 66 = .ok (.iload_n 2, 1) := by decide +kernel
theorem dX12_readCompare_67 : decode cX12_readCompare 67 = .ok (.invokevirtual 435, 3) := by decide +kernel
theorem dX12_readCompare_70 : decode cX12_readCompare 70 = .ok (.putfield 432, 3) := by decide +kernel
theorem dX12_readCompare_73 : decode cX12_readCompare 73 = .ok (.iconst 1, 1) := by decide +kernel
theorem dX12_readCompare_74 : decode cX12_readCompare 74 = .ok (.ireturn, 1) := by decide +kernel
theorem dX12_readCompare_53 : decode cX12_readCompare 53 = .ok (.iconst 0, 1) := by decide +kernel
theorem dX12_readCompare_54 : decode cX12_readCompare 54 = .ok (.ireturn, 1) := by decide +kernel
theorem dX12_readCompare_9 : decode cX12_readCompare 9 = .ok (.aload_n 0, 1) := by decide +kernel
theorem dX12_readCompare_10 : decode cX12_readCompare 10 = .ok (.bipush 61, 2) := by decide +kernel
theorem dX12_readCompare_12 : decode cX12_readCompare 12 = .ok (.invokevirtual 86, 3) := by decide +kernel
theorem dX12_readCompare_15 : decode cX12_readCompare 15 = .ok (.ifCond .ne 18, 3) := by decide +kernel
theorem dX12_readCompare_18 : decode cX12_readCompare 18 = .ok (.aload_n 0, 1) := by decide +kernel
theorem dX12_readCompare_19 : decode cX12_readCompare 19 = .ok (.bipush 62, 2) := by decide +kernel
theorem dX12_readCompare_21 : decode cX12_readCompare 21 = .ok (.invokevirtual 86, 3) := by decide +kernel
theorem dX12_readCompare_24 : decode cX12_readCompare 24 = .ok (.ifCond .ne 9, 3) := by decide +kernel
theorem dX12_readCompare_27 : decode cX12_readCompare 27 = .ok (.aload_n 0, 1) := by decide +kernel
theorem dX12_readCompare_28 : decode cX12_readCompare 28 = .ok (.iconst 1, 1) := by decide +kernel
theorem dX12_readCompare_29 : decode cX12_readCompare 29 = .ok (.invokevirtual 72, 3) := by decide +kernel
theorem dX12_readCompare_32 : decode cX12_readCompare 32 = .ok (.ireturn, 1) := by decide +kernel
set_option maxRecDepth 100000 in
theorem ggX12_readLumpName_X12_isName : GoodIn wsX12_readLumpName wsX12_isName := goodIn_r _ [9, 10, 3, 11, 12, 8, 13, 14, 15, 16, 17, 18, 49, 50, 51, 52, 53, 54, 55, 56, 57, 58, 59, 60, 61, 62, 63, 64, 65, 66, 67, 68, 69, 70, 71, 72, 73, 74, 75, 76, 77, 78, 79, 80, 81, 82, 83, 84, 85, 86, 87, 88, 89, 90, 91, 92, 93, 94, 95, 96, 97, 98, 99, 100] rfl (by decide +kernel)
set_option maxRecDepth 100000 in
theorem ggX12_readLumpName_X12_findIn : GoodIn wsX12_readLumpName wsX12_findIn := goodIn_r _ [28] rfl (by decide +kernel)
set_option maxRecDepth 100000 in
theorem ggX12_readLumpName_X12_bad : GoodIn wsX12_readLumpName wsX12_bad := goodIn_r _ [22, 10, 23, 24, 25, 49, 50, 51, 52, 53, 54, 55, 56, 57, 58, 59, 60, 61, 62, 63, 64, 65, 66, 67, 68, 69, 70, 71, 72, 73, 74, 75, 76, 77, 78, 79, 80, 81, 82, 83, 84, 85, 86, 87, 88, 89, 90, 91, 92, 93, 94, 95, 96, 97, 98, 99, 100] rfl (by decide +kernel)
set_option maxRecDepth 100000 in
theorem ggX12_readLumpName_X12_go : GoodIn wsX12_readLumpName wsX12_go := goodIn_r _ [32, 33, 34, 35, 24, 36, 10, 37, 3, 38, 17, 18, 39, 40, 8, 41, 42, 43, 44, 45, 46, 47, 48, 49, 50, 51, 52, 53, 54, 55, 56, 57, 58, 59, 60, 61, 62, 63, 64, 65, 66, 67, 68, 69, 70, 71, 72, 73, 74, 75, 76, 77, 78, 79, 80, 81, 82, 83, 84, 85, 86, 87, 88, 89, 90, 91, 92, 93, 94, 95, 96, 97, 98, 99, 100] rfl (by decide +kernel)
set_option maxRecDepth 100000 in
theorem ggX12_readOf_X12_readLumpName : GoodIn wsX12_readOf wsX12_readLumpName := goodIn_r _ [7, 8, 9, 10, 1, 11, 12, 13, 6, 14, 15, 16, 17, 18, 19, 20, 21, 22, 23, 24, 25, 26, 27, 28, 29, 30, 31, 32, 33, 34, 35, 36, 37, 38, 39, 40, 41, 42, 43, 44, 45, 46, 47, 48, 49, 50, 51, 52, 53, 60, 61, 62, 63, 64, 65, 66, 67, 68, 69, 70, 71, 72, 73, 74, 75, 76, 77, 78, 79, 80, 81, 82, 83, 84, 85, 86, 87, 88, 89, 90, 91, 92, 93, 94, 95, 96, 97, 98, 99, 100, 101, 102, 103, 104, 105, 106, 107, 108, 109, 110, 111] rfl (by decide +kernel)
set_option maxRecDepth 100000 in
theorem ggX12_readOf_X12_saysOne : GoodIn wsX12_readOf wsX12_saysOne := goodIn_r _ [57, 58, 59, 60, 61, 62, 63, 64, 65, 66, 67, 68, 69, 70, 71, 72, 73, 74, 75, 76, 77, 78, 79, 80, 81, 82, 83, 84, 85, 86, 87, 88, 89, 90, 91, 92, 93, 94, 95, 96, 97, 98, 99, 100, 101, 102, 103, 104, 105, 106, 107, 108, 109, 110, 111] rfl (by decide +kernel)
set_option maxRecDepth 100000 in
theorem ggX12_readCompare_X12_isSign : GoodIn wsX12_readCompare wsX12_isSign := goodIn_r _ [8, 9, 1, 52, 53, 54, 55, 56, 57, 58, 59, 60, 61, 62, 63, 64, 65, 66, 67, 68, 69, 70, 71, 72, 73, 74, 75, 76, 77, 78, 79, 80, 81, 82, 83, 84, 85, 86, 87, 88, 89, 90, 91, 92, 93, 94, 95, 96, 97, 98, 99, 100, 101, 102, 103] rfl (by decide +kernel)
set_option maxRecDepth 100000 in
theorem ggX12_readCompare_X12_go : GoodIn wsX12_readCompare wsX12_go := goodIn_r _ [20, 21, 22, 23, 15, 24, 9, 1, 25, 26, 27, 28, 29, 30, 7, 31, 32, 33, 34, 35, 36, 37, 38, 52, 53, 54, 55, 56, 57, 58, 59, 60, 61, 62, 63, 64, 65, 66, 67, 68, 69, 70, 71, 72, 73, 74, 75, 76, 77, 78, 79, 80, 81, 82, 83, 84, 85, 86, 87, 88, 89, 90, 91, 92, 93, 94, 95, 96, 97, 98, 99, 100, 101, 102, 103] rfl (by decide +kernel)
set_option maxRecDepth 100000 in
theorem ggX12_readCompare_X12_readNumber : GoodIn wsX12_readCompare wsX12_readNumber := goodIn_r _ [42, 9, 26, 2, 10, 11, 12, 7, 13, 14, 15, 16, 43, 44, 45, 17, 18, 19, 20, 21, 22, 23, 24, 1, 25, 27, 28, 29, 30, 31, 32, 33, 34, 35, 36, 37, 38, 52, 53, 54, 55, 56, 57, 58, 59, 60, 61, 62, 63, 64, 65, 66, 67, 68, 69, 70, 71, 72, 73, 74, 75, 76, 77, 78, 79, 80, 81, 82, 83, 84, 85, 86, 87, 88, 89, 90, 91, 92, 93, 94, 95, 96, 97, 98, 99, 100, 101, 102, 103] rfl (by decide +kernel)
set_option maxRecDepth 100000 in
theorem ggX12_readCompare_X12_saysOne : GoodIn wsX12_readCompare wsX12_saysOne := goodIn_r _ [49, 50, 51, 52, 53, 54, 55, 56, 57, 58, 59, 60, 61, 62, 63, 64, 65, 66, 67, 68, 69, 70, 71, 72, 73, 74, 75, 76, 77, 78, 79, 80, 81, 82, 83, 84, 85, 86, 87, 88, 89, 90, 91, 92, 93, 94, 95, 96, 97, 98, 99, 100, 101, 102, 103] rfl (by decide +kernel)
set_option maxRecDepth 100000 in
theorem ggX12_readCompare_X12_bad : GoodIn wsX12_readCompare wsX12_bad := goodIn_r _ [13, 9, 14, 15, 16, 52, 53, 54, 55, 56, 57, 58, 59, 60, 61, 62, 63, 64, 65, 66, 67, 68, 69, 70, 71, 72, 73, 74, 75, 76, 77, 78, 79, 80, 81, 82, 83, 84, 85, 86, 87, 88, 89, 90, 91, 92, 93, 94, 95, 96, 97, 98, 99, 100, 101, 102, 103] rfl (by decide +kernel)
set_option maxRecDepth 100000 in
theorem gX12_readLumpName_X12_isName : GoodIn wsX12_readLumpName (wsV RX12 178 RX12 yX12_isName wsX12_isName) := goodIn_app (goodIn_of _ (by decide +kernel)) ggX12_readLumpName_X12_isName
set_option maxRecDepth 100000 in
theorem gX12_readLumpName_X12_findIn : GoodIn wsX12_readLumpName (va_wsS RX12 182 yX12_findIn wsX12_findIn) := goodIn_app (goodIn_of _ (by decide +kernel)) ggX12_readLumpName_X12_findIn
set_option maxRecDepth 100000 in
theorem gX12_readLumpName_X12_bad : GoodIn wsX12_readLumpName (wsV RX12 72 RX12 yX12_bad wsX12_bad) := goodIn_app (goodIn_of _ (by decide +kernel)) ggX12_readLumpName_X12_bad
set_option maxRecDepth 100000 in
theorem gX12_readLumpName_X12_go : GoodIn wsX12_readLumpName (wsV RX12 82 RX12 yX12_go wsX12_go) := goodIn_app (goodIn_of _ (by decide +kernel)) ggX12_readLumpName_X12_go
set_option maxRecDepth 100000 in
theorem gX12_readOf_X12_readLumpName : GoodIn wsX12_readOf (wsV RX12 463 RX12 yX12_readLumpName wsX12_readLumpName) := goodIn_app (goodIn_of _ (by decide +kernel)) ggX12_readOf_X12_readLumpName
set_option maxRecDepth 100000 in
theorem gX12_readOf_X12_saysOne : GoodIn wsX12_readOf (wsV RX12 435 RX12 yX12_saysOne wsX12_saysOne) := goodIn_app (goodIn_of _ (by decide +kernel)) ggX12_readOf_X12_saysOne
set_option maxRecDepth 100000 in
theorem gX12_readCompare_X12_isSign : GoodIn wsX12_readCompare (wsV RX12 86 RX12 yX12_isSign wsX12_isSign) := goodIn_app (goodIn_of _ (by decide +kernel)) ggX12_readCompare_X12_isSign
set_option maxRecDepth 100000 in
theorem gX12_readCompare_X12_go : GoodIn wsX12_readCompare (wsV RX12 82 RX12 yX12_go wsX12_go) := goodIn_app (goodIn_of _ (by decide +kernel)) ggX12_readCompare_X12_go
set_option maxRecDepth 100000 in
theorem gX12_readCompare_X12_readNumber : GoodIn wsX12_readCompare (wsV RX12 200 RX12 yX12_readNumber wsX12_readNumber) := goodIn_app (goodIn_of _ (by decide +kernel)) ggX12_readCompare_X12_readNumber
set_option maxRecDepth 100000 in
theorem gX12_readCompare_X12_saysOne : GoodIn wsX12_readCompare (wsV RX12 435 RX12 yX12_saysOne wsX12_saysOne) := goodIn_app (goodIn_of _ (by decide +kernel)) ggX12_readCompare_X12_saysOne
set_option maxRecDepth 100000 in
theorem gX12_readCompare_X12_bad : GoodIn wsX12_readCompare (wsV RX12 72 RX12 yX12_bad wsX12_bad) := goodIn_app (goodIn_of _ (by decide +kernel)) ggX12_readCompare_X12_bad
/-- the nodes of a sentence that is being read -/
def SN (f : Nat → Int32) : Prop := ∀ k, k < 60 → NodeOk (f (4 * k)) (f (4 * k + 1)) (f (4 * k + 2)) k
theorem SN_add {f : Nat → Int32} {w a b r : Int32} {n : Nat} (h : SN f) (hk : NodeOk w a b n) : SN (upd (upd (upd (upd f (4 * n) w) (4 * n + 1) a) (4 * n + 2) b) (4 * n + 3) r) := by
  intro k hk60
  by_cases e : k = n
  · subst e
    rw [upd_ne (by omega), upd_ne (by omega), upd_ne (by omega), upd_eq, upd_ne (by omega), upd_ne (by omega), upd_eq, upd_ne (by omega), upd_eq]
    exact hk
  · rw [upd_ne (by omega), upd_ne (by omega), upd_ne (by omega), upd_ne (by omega), upd_ne (by omega), upd_ne (by omega), upd_ne (by omega), upd_ne (by omega), upd_ne (by omega), upd_ne (by omega), upd_ne (by omega), upd_ne (by omega)]
    exact h k hk60
theorem SB_of_SN {f g : Nat → Int32} (h : SN f) (he : ∀ j, j < 240 → g (133 + j) = f j) : SB g := by
  intro k hk
  have h1 := h k hk
  rw [← he (4 * k) (by omega), ← he (4 * k + 1) (by omega), ← he (4 * k + 2) (by omega)] at h1
  rw [show 134 + 4 * k = 133 + (4 * k + 1) by omega, show 135 + 4 * k = 133 + (4 * k + 2) by omega]
  exact h1
theorem nodeNot {a n : Nat} {b : Int32} (ha : a < n) (hn : n ≤ 60) : NodeOk (nI 1) (nI a) b n := by
  have h1 := ia_n a (by omega)
  refine ⟨fun _ => ⟨by omega, by omega⟩, fun h => absurd h (by decide), fun h => absurd h (by decide)⟩
theorem nodeTwo {w : Int32} {a b n : Nat} (hw : w = nI 2 ∨ w = nI 3) (ha : a < n) (hb : b < n) (hn : n ≤ 60) : NodeOk w (nI a) (nI b) n := by
  have h1 := ia_n a (by omega)
  have h2 := ia_n b (by omega)
  refine ⟨fun h => ?_, fun _ => ⟨by omega, by omega, by omega, by omega⟩, fun h => ?_⟩
  · rcases hw with e | e <;> rw [e] at h <;> exact absurd h (by decide)
  · rcases hw with e | e <;> rw [e] at h <;> exact absurd h (by decide)
theorem nodeWord {m n : Nat} {a b : Int32} (h4 : 4 ≤ m) (hm : m < 1000) (ha : 0 ≤ a.toInt ∧ a.toInt < 6) : NodeOk (nI m) a b n := by
  have h0 := ia_n m (by omega)
  have h1 : (nI 1).toInt = 1 := by decide
  have h2 : (nI 2).toInt = 2 := by decide
  have h3 : (nI 3).toInt = 3 := by decide
  refine ⟨fun h => ?_, fun h => ?_, fun _ => ha⟩
  · rw [h] at h0; omega
  · rcases h with h | h <;> rw [h] at h0 <;> omega
theorem nodeA1 {w a b : Int32} {k : Nat} (h : NodeOk w a b k) : ¬ w = nI 1 ∨ (0 ≤ a.toInt ∧ a.toInt < (k : Int)) := by
  by_cases e : w = nI 1
  · exact Or.inr (h.1 e)
  · exact Or.inl e
theorem nodeA2 {w a b : Int32} {k : Nat} (h : NodeOk w a b k) : (¬ w = nI 2 ∧ ¬ w = nI 3) ∨ (0 ≤ a.toInt ∧ a.toInt < (k : Int) ∧ 0 ≤ b.toInt ∧ b.toInt < (k : Int)) := by
  by_cases e : w = nI 2 ∨ w = nI 3
  · exact Or.inr (h.2.1 e)
  · exact Or.inl ⟨fun q => e (Or.inl q), fun q => e (Or.inr q)⟩
theorem nodeA3 {w a b : Int32} {k : Nat} (h : NodeOk w a b k) : ¬ w = nI 76 ∨ (0 ≤ a.toInt ∧ a.toInt < 6) := by
  by_cases e : w = nI 76
  · exact Or.inr (h.2.2 e)
  · exact Or.inl e
set_option maxRecDepth 20000 in
theorem lf_x_saysOne_1 (knodes : Nat) (wq : Int32) (aq : Int32) (zq : Int32) (iv_ko_11 : knodes ≤ 60) (hn59 : knodes ≤ 59) (hok : NodeOk wq aq zq knodes) : (4 * knodes) < 240 := by
  have b_wq := ia_b wq
  have b_aq := ia_b aq
  have b_zq := ia_b zq
  try simp only [ia_lt, ia_le, ia_eq, ia_m1, ia_0, ia_1, ne_eq, true_and, and_true, false_and, and_false, or_false, false_or, or_true, true_or, not_true_eq_false, not_false_eq_true] at *
  all_goals omega
set_option maxRecDepth 20000 in
theorem lf_x_saysOne_2 (knodes : Nat) (knodeF : Nat → Int32) (wq : Int32) (aq : Int32) (zq : Int32) (g1 : Nat → Int32) (iv_ko_11 : knodes ≤ 60) (ab_node : SN knodeF) (hn59 : knodes ≤ 59) (hok : NodeOk wq aq zq knodes) (e2 : g1 = upd knodeF (4 * knodes) wq) : ((4 * knodes) + 1) < 240 := by
  have b_wq := ia_b wq
  have b_aq := ia_b aq
  have b_zq := ia_b zq
  try simp only [ia_lt, ia_le, ia_eq, ia_m1, ia_0, ia_1, ne_eq, true_and, and_true, false_and, and_false, or_false, false_or, or_true, true_or, not_true_eq_false, not_false_eq_true] at *
  all_goals omega
set_option maxRecDepth 20000 in
theorem lf_x_saysOne_3 (knodes : Nat) (knodeF : Nat → Int32) (wq : Int32) (aq : Int32) (zq : Int32) (g1 : Nat → Int32) (g3 : Nat → Int32) (iv_ko_11 : knodes ≤ 60) (ab_node : SN knodeF) (hn59 : knodes ≤ 59) (hok : NodeOk wq aq zq knodes) (e2 : g1 = upd knodeF (4 * knodes) wq) (e4 : g3 = upd g1 ((4 * knodes) + 1) aq) : ((4 * knodes) + 2) < 240 := by
  have b_wq := ia_b wq
  have b_aq := ia_b aq
  have b_zq := ia_b zq
  try simp only [ia_lt, ia_le, ia_eq, ia_m1, ia_0, ia_1, ne_eq, true_and, and_true, false_and, and_false, or_false, false_or, or_true, true_or, not_true_eq_false, not_false_eq_true] at *
  all_goals omega
set_option maxRecDepth 20000 in
theorem lf_x_saysOne_4 (knodes : Nat) (knodeF : Nat → Int32) (wq : Int32) (aq : Int32) (zq : Int32) (g1 : Nat → Int32) (g3 : Nat → Int32) (g5 : Nat → Int32) (iv_ko_11 : knodes ≤ 60) (ab_node : SN knodeF) (hn59 : knodes ≤ 59) (hok : NodeOk wq aq zq knodes) (e2 : g1 = upd knodeF (4 * knodes) wq) (e4 : g3 = upd g1 ((4 * knodes) + 1) aq) (e6 : g5 = upd g3 ((4 * knodes) + 2) zq) : ((4 * knodes) + 3) < 240 := by
  have b_wq := ia_b wq
  have b_aq := ia_b aq
  have b_zq := ia_b zq
  try simp only [ia_lt, ia_le, ia_eq, ia_m1, ia_0, ia_1, ne_eq, true_and, and_true, false_and, and_false, or_false, false_or, or_true, true_or, not_true_eq_false, not_false_eq_true] at *
  all_goals omega
set_option maxRecDepth 20000 in
theorem lf_x_saysOne_5 (knodes : Nat) (wq : Int32) (aq : Int32) (zq : Int32) (iv_ko_11 : knodes ≤ 60) (hn59 : knodes ≤ 59) (hok : NodeOk wq aq zq knodes) : 1 ≤ (knodes + 1) := by
  have b_wq := ia_b wq
  have b_aq := ia_b aq
  have b_zq := ia_b zq
  try simp only [ia_lt, ia_le, ia_eq, ia_m1, ia_0, ia_1, ne_eq, true_and, and_true, false_and, and_false, or_false, false_or, or_true, true_or, not_true_eq_false, not_false_eq_true] at *
  all_goals omega
set_option maxRecDepth 20000 in
theorem lf_x_saysOne_6 (knodes : Nat) (wq : Int32) (aq : Int32) (zq : Int32) (iv_ko_11 : knodes ≤ 60) (hn59 : knodes ≤ 59) (hok : NodeOk wq aq zq knodes) : ((knodes + 1) - 1) = knodes := by
  have b_wq := ia_b wq
  have b_aq := ia_b aq
  have b_zq := ia_b zq
  try simp only [ia_lt, ia_le, ia_eq, ia_m1, ia_0, ia_1, ne_eq, true_and, and_true, false_and, and_false, or_false, false_or, or_true, true_or, not_true_eq_false, not_false_eq_true] at *
  all_goals omega
set_option maxRecDepth 20000 in
theorem lf_x_saysOne_7 (knodes : Nat) (wq : Int32) (aq : Int32) (zq : Int32) (iv_ko_11 : knodes ≤ 60) (hn59 : knodes ≤ 59) (hok : NodeOk wq aq zq knodes) : (knodes + 1) ≤ 60 := by
  have b_wq := ia_b wq
  have b_aq := ia_b aq
  have b_zq := ia_b zq
  try simp only [ia_lt, ia_le, ia_eq, ia_m1, ia_0, ia_1, ne_eq, true_and, and_true, false_and, and_false, or_false, false_or, or_true, true_or, not_true_eq_false, not_false_eq_true] at *
  all_goals omega
set_option maxHeartbeats 4000000 in
set_option maxRecDepth 100000 in
theorem c_x_saysOne (l : Launch) (dC : Nat → ClassId) (dI : Nat → Nat → Nat) (ky : Nat → ClassId) (sz : Nat) (o : Nat) (kthrown : Int32) (ktape : Nat) (ktaped : Nat) (ksize : Nat) (klimit : Nat) (kto : Nat) (kfrom : Nat) (kkind : Int32) (knumber : Int32) (ksign : Int32) (kfault : Int32) (kplace : Int32) (kword : Int64) (ktold : Int32) (know : Nat) (kread : Nat) (kkept : Nat) (ksnaps : Nat) (kaside : Nat) (kname : Nat) (kreadName : Nat) (kkeptName : Nat) (kisKept : Nat) (konces : Nat) (ksnapMany : Nat) (khasCells : Int32) (kpoured : Nat) (kfar : Nat) (ksides : Nat) (ksideMany : Nat) (kwayDays : Int32) (khasWay : Int32) (klines : Nat) (kmet : Nat) (kmetMany : Nat) (ksunk : Nat) (ktrying : Nat) (ksunkMany : Nat) (ksending : Int32) (kfleets : Int32) (ktext : Nat) (ktexts : Nat) (kseed : Int32) (kline : Nat) (kwritten : Nat) (klineMany : Nat) (khasWritten : Int32) (knode : Nat) (knodes : Nat) (konesMany : Nat) (kwithin : Nat) (ktop : Nat) (knodeF : Nat → Int32) (wq : Int32) (aq : Int32) (zq : Int32) (rq : Int32) (iv_ko_0 : ktaped ≤ 940) (iv_ko_1 : ksize ≤ 940) (iv_ko_2 : klimit ≤ 900) (iv_ko_3 : kto ≤ ksize) (iv_ko_4 : kfrom ≤ 940) (iv_ko_5 : ksnapMany ≤ 8) (iv_ko_6 : ksideMany ≤ 36) (iv_ko_7 : kmetMany ≤ 3) (iv_ko_8 : ksunkMany ≤ 36) (iv_ko_9 : ktexts ≤ 64) (iv_ko_10 : klineMany ≤ 40) (iv_ko_11 : knodes ≤ 60) (iv_ko_12 : konesMany ≤ 20) (iv_ko_13 : kwithin ≤ 8) (iv_ko_14 : ktop ≤ 59) (ab_node : SN knodeF) (hn59 : knodes ≤ 59) (hok : NodeOk wq aq zq knodes) : Met l yX12_saysOne wsX12_saysOne ({ frames := 0, cells := 0, slots := 0, locals := 0 }) (PcU dC dI ky [.ref o, .int wq, .int aq, .int zq, .int rq] [(o, .inr (12, [.int kthrown, .ref ktape, .int (nI ktaped), .int (nI ksize), .int (nI klimit), .int (nI kto), .int (nI kfrom), .int kkind, .int knumber, .int ksign, .int kfault, .int kplace, .long kword, .int ktold, .ref know, .ref kread, .ref kkept, .ref ksnaps, .ref kaside, .ref kname, .ref kreadName, .ref kkeptName, .ref kisKept, .ref konces, .int (nI ksnapMany), .int khasCells, .ref kpoured, .ref kfar, .ref ksides, .int (nI ksideMany), .int kwayDays, .int khasWay, .ref klines, .ref kmet, .int (nI kmetMany), .ref ksunk, .ref ktrying, .int (nI ksunkMany), .int ksending, .int kfleets, .ref ktext, .int (nI ktexts), .int kseed, .ref kline, .ref kwritten, .int (nI klineMany), .int khasWritten, .ref knode, .int (nI knodes), .int (nI konesMany), .int (nI kwithin), .int (nI ktop)])), (knode, .inl (ky 0, 240, .inl knodeF))] sz) (va_Qi (fun (r : Int32) (u : Nat × (Nat → Int32)) => match u with | (knodesG, knodeG) => (∃ k9 : Nat, (k9 = knodes) ∧ r = nI k9) ∧ (knodesG ≤ 60) ∧ (SN knodeG) ∧ (knodesG = knodes + 1)) (BU dC dI ky (fun (u : Nat × (Nat → Int32)) => match u with | (knodesG, knodeG) => [(o, .inr (12, [.int kthrown, .ref ktape, .int (nI ktaped), .int (nI ksize), .int (nI klimit), .int (nI kto), .int (nI kfrom), .int kkind, .int knumber, .int ksign, .int kfault, .int kplace, .long kword, .int ktold, .ref know, .ref kread, .ref kkept, .ref ksnaps, .ref kaside, .ref kname, .ref kreadName, .ref kkeptName, .ref kisKept, .ref konces, .int (nI ksnapMany), .int khasCells, .ref kpoured, .ref kfar, .ref ksides, .int (nI ksideMany), .int kwayDays, .int khasWay, .ref klines, .ref kmet, .int (nI kmetMany), .ref ksunk, .ref ktrying, .int (nI ksunkMany), .int ksending, .int kfleets, .ref ktext, .int (nI ktexts), .int kseed, .ref kline, .ref kwritten, .int (nI klineMany), .int khasWritten, .ref knode, .int (nI knodesG), .int (nI konesMany), .int (nI kwithin), .int (nI ktop)])), (knode, .inl (ky 0, 240, .inl knodeG))]) (va_A [(o, .inr (12, [.int kthrown, .ref ktape, .int (nI ktaped), .int (nI ksize), .int (nI klimit), .int (nI kto), .int (nI kfrom), .int kkind, .int knumber, .int ksign, .int kfault, .int kplace, .long kword, .int ktold, .ref know, .ref kread, .ref kkept, .ref ksnaps, .ref kaside, .ref kname, .ref kreadName, .ref kkeptName, .ref kisKept, .ref konces, .int (nI ksnapMany), .int khasCells, .ref kpoured, .ref kfar, .ref ksides, .int (nI ksideMany), .int kwayDays, .int khasWay, .ref klines, .ref kmet, .int (nI kmetMany), .ref ksunk, .ref ktrying, .int (nI ksunkMany), .int ksending, .int kfleets, .ref ktext, .int (nI ktexts), .int kseed, .ref kline, .ref kwritten, .int (nI klineMany), .int khasWritten, .ref knode, .int (nI knodes), .int (nI konesMany), .int (nI kwithin), .int (nI ktop)])), (knode, .inl (ky 0, 240, .inl knodeF))] sz)) (va_A [(o, .inr (12, [.int kthrown, .ref ktape, .int (nI ktaped), .int (nI ksize), .int (nI klimit), .int (nI kto), .int (nI kfrom), .int kkind, .int knumber, .int ksign, .int kfault, .int kplace, .long kword, .int ktold, .ref know, .ref kread, .ref kkept, .ref ksnaps, .ref kaside, .ref kname, .ref kreadName, .ref kkeptName, .ref kisKept, .ref konces, .int (nI ksnapMany), .int khasCells, .ref kpoured, .ref kfar, .ref ksides, .int (nI ksideMany), .int kwayDays, .int khasWay, .ref klines, .ref kmet, .int (nI kmetMany), .ref ksunk, .ref ktrying, .int (nI ksunkMany), .int ksending, .int kfleets, .ref ktext, .int (nI ktexts), .int kseed, .ref kline, .ref kwritten, .int (nI klineMany), .int khasWritten, .ref knode, .int (nI knodes), .int (nI konesMany), .int (nI kwithin), .int (nI ktop)])), (knode, .inl (ky 0, 240, .inl knodeF))] sz)) 0 0 (va_A [(o, .inr (12, [.int kthrown, .ref ktape, .int (nI ktaped), .int (nI ksize), .int (nI klimit), .int (nI kto), .int (nI kfrom), .int kkind, .int knumber, .int ksign, .int kfault, .int kplace, .long kword, .int ktold, .ref know, .ref kread, .ref kkept, .ref ksnaps, .ref kaside, .ref kname, .ref kreadName, .ref kkeptName, .ref kisKept, .ref konces, .int (nI ksnapMany), .int khasCells, .ref kpoured, .ref kfar, .ref ksides, .int (nI ksideMany), .int kwayDays, .int khasWay, .ref klines, .ref kmet, .int (nI kmetMany), .ref ksunk, .ref ktrying, .int (nI ksunkMany), .int ksending, .int kfleets, .ref ktext, .int (nI ktexts), .int kseed, .ref kline, .ref kwritten, .int (nI klineMany), .int khasWritten, .ref knode, .int (nI knodes), .int (nI konesMany), .int (nI kwithin), .int (nI ktop)])), (knode, .inl (ky 0, 240, .inl knodeF))] sz) := by
  refine Met.ofW (cc := cX12_saysOne) (maxL := 6) (ret := (some .int)) (by decide) rfl ?_
  intro p e s m args below meth c s₁ B hml hv
  obtain ⟨rfl, hsz, hP, hK, hD0⟩ := hv
  have hx := B.exec
  have hb := B.bytes
  have hr := B.returns
  have hts := atoms_spec (ws := wsX12_saysOne) B.pre
  have hown : s.vm.findClass RX12 = some m.cls := findClass_of_methodNamed B.named
  have hlocks := B.notSynchronized
  have hin12 : ∀ w ∈ u_ws RX12 TX12 52, w ∈ wsX12_saysOne := by decide +kernel
  subst hsz
  have hD := hD0.self (sz := s.heap.size)
  generalize hAe : va_A [(o, .inr (12, [.int kthrown, .ref ktape, .int (nI ktaped), .int (nI ksize), .int (nI klimit), .int (nI kto), .int (nI kfrom), .int kkind, .int knumber, .int ksign, .int kfault, .int kplace, .long kword, .int ktold, .ref know, .ref kread, .ref kkept, .ref ksnaps, .ref kaside, .ref kname, .ref kreadName, .ref kkeptName, .ref kisKept, .ref konces, .int (nI ksnapMany), .int khasCells, .ref kpoured, .ref kfar, .ref ksides, .int (nI ksideMany), .int kwayDays, .int khasWay, .ref klines, .ref kmet, .int (nI kmetMany), .ref ksunk, .ref ktrying, .int (nI ksunkMany), .int ksending, .int kfleets, .ref ktext, .int (nI ktexts), .int kseed, .ref kline, .ref kwritten, .int (nI klineMany), .int khasWritten, .ref knode, .int (nI knodes), .int (nI konesMany), .int (nI kwithin), .int (nI ktop)])), (knode, .inl (ky 0, 240, .inl knodeF))] s.heap.size = A at hD ⊢
  have hA : ∀ q : Nat, s.heap.size ≤ q → A q := fun q h => by rw [← hAe]; exact Or.inr h
  have hS : va_S A s.heap s.heap [] := va_S.rf
  have hl := lv_entry ([.ref o, .int wq, .int aq, .int zq, .int rq]) (n := 6) (Nat.le_of_ble_eq_true rfl)
  rw [lg_entry_eq]
  generalize (lg_sl ([.ref o, .int wq, .int aq, .int zq, .int rq]) ++ List.replicate (6 - (lg_sl ([.ref o, .int wq, .int aq, .int zq, .int rq])).length) Slot.unset).toArray = ls at hl ⊢
  have hl : lv_has ls 6 [(0, .ref o), (1, .int wq), (2, .int aq), (3, .int zq), (4, .int rq)] := hl
  refine q_name (fun Q hQ => ?_)
  generalize ([.ref o, .int wq, .int aq, .int zq, .int rq] : List Value).toArray = args at hts hQ ⊢
  refine lv_iconst (v := nI 4) hx hb dX12_saysOne_0 (by decide) ?_
  refine lv_aload_n hx hb dX12_saysOne_1 rfl (lv_at hl 0 rfl) ?_
  refine va_get (D := (dC, dI)) (ci := 12) (v := .int (nI knodes)) (C := RX12) (T := TX12) (N := 52) hx hb hts hin12 hown hK hP 0 rfl rfl 48 (by decide) (hts (.fieldLink RX12 426 "PorridgeSeaModel" "nodes" "I") (List.mem_of_getElem? (i := 1) rfl)) (fun _ h9 => h9) rfl dX12_saysOne_2 ?_
  refine lv_imul hx hb dX12_saysOne_5 ?_
  refine r_ti (nI (4 * knodes)) (pk_mul _ _) ?_
  refine lv_istore (lv' := [(5, .int (nI (4 * knodes))), (0, .ref o), (1, .int wq), (2, .int aq), (3, .int zq), (4, .int rq)]) hx hb dX12_saysOne_6 hl (by decide) rfl (fun ls hl => ?_)
  refine lv_aload_n hx hb dX12_saysOne_8 rfl (lv_at hl 1 rfl) ?_
  refine va_get (D := (dC, dI)) (ci := 12) (v := .ref knode) (C := RX12) (T := TX12) (N := 52) hx hb hts hin12 hown hK hP 0 rfl rfl 47 (by decide) (hts (.fieldLink RX12 169 "PorridgeSeaModel" "node" "[I") (List.mem_of_getElem? (i := 2) rfl)) (fun _ h9 => h9) rfl dX12_saysOne_9 ?_
  refine lv_iload hx hb dX12_saysOne_12 (lv_at hl 0 rfl) ?_
  refine lv_iload_n hx hb dX12_saysOne_14 rfl (lv_at hl 2 rfl) ?_
  refine r_iast (x := wq) hx hb hK hP hD hS 1 rfl (4 * knodes) (lf_x_saysOne_1 knodes wq aq zq iv_ko_11 hn59 hok) (by decide) dX12_saysOne_15 (fun H locs hP hD hS => ?_)
  obtain ⟨g1, e2⟩ : ∃ z9, z9 = upd knodeF (4 * knodes) wq := ⟨_, rfl⟩
  rw [← e2] at hP hD
  have hP : va_P (dC, dI) vwCl [(o, .inr (12, [.int kthrown, .ref ktape, .int (nI ktaped), .int (nI ksize), .int (nI klimit), .int (nI kto), .int (nI kfrom), .int kkind, .int knumber, .int ksign, .int kfault, .int kplace, .long kword, .int ktold, .ref know, .ref kread, .ref kkept, .ref ksnaps, .ref kaside, .ref kname, .ref kreadName, .ref kkeptName, .ref kisKept, .ref konces, .int (nI ksnapMany), .int khasCells, .ref kpoured, .ref kfar, .ref ksides, .int (nI ksideMany), .int kwayDays, .int khasWay, .ref klines, .ref kmet, .int (nI kmetMany), .ref ksunk, .ref ktrying, .int (nI ksunkMany), .int ksending, .int kfleets, .ref ktext, .int (nI ktexts), .int kseed, .ref kline, .ref kwritten, .int (nI klineMany), .int khasWritten, .ref knode, .int (nI knodes), .int (nI konesMany), .int (nI kwithin), .int (nI ktop)])), (knode, .inl (ky 0, 240, .inl g1))] H := hP
  have hD : va_D A [(o, .inr (12, [.int kthrown, .ref ktape, .int (nI ktaped), .int (nI ksize), .int (nI klimit), .int (nI kto), .int (nI kfrom), .int kkind, .int knumber, .int ksign, .int kfault, .int kplace, .long kword, .int ktold, .ref know, .ref kread, .ref kkept, .ref ksnaps, .ref kaside, .ref kname, .ref kreadName, .ref kkeptName, .ref kisKept, .ref konces, .int (nI ksnapMany), .int khasCells, .ref kpoured, .ref kfar, .ref ksides, .int (nI ksideMany), .int kwayDays, .int khasWay, .ref klines, .ref kmet, .int (nI kmetMany), .ref ksunk, .ref ktrying, .int (nI ksunkMany), .int ksending, .int kfleets, .ref ktext, .int (nI ktexts), .int kseed, .ref kline, .ref kwritten, .int (nI klineMany), .int khasWritten, .ref knode, .int (nI knodes), .int (nI konesMany), .int (nI kwithin), .int (nI ktop)])), (knode, .inl (ky 0, 240, .inl g1))] := hD
  refine lv_aload_n hx hb dX12_saysOne_16 rfl (lv_at hl 1 rfl) ?_
  refine va_get (D := (dC, dI)) (ci := 12) (v := .ref knode) (C := RX12) (T := TX12) (N := 52) hx hb hts hin12 hown hK hP 0 rfl rfl 47 (by decide) (hts (.fieldLink RX12 169 "PorridgeSeaModel" "node" "[I") (List.mem_of_getElem? (i := 2) rfl)) (fun _ h9 => h9) rfl dX12_saysOne_17 ?_
  refine lv_iload hx hb dX12_saysOne_20 (lv_at hl 0 rfl) ?_
  refine lv_iconst (v := nI 1) hx hb dX12_saysOne_22 (by decide) ?_
  refine lv_iadd hx hb dX12_saysOne_23 ?_
  refine r_ti (nI ((4 * knodes) + 1)) (nI_add _ _) ?_
  refine lv_iload_n hx hb dX12_saysOne_24 rfl (lv_at hl 3 rfl) ?_
  refine r_iast (x := aq) hx hb hK hP hD hS 1 rfl ((4 * knodes) + 1) (lf_x_saysOne_2 knodes knodeF wq aq zq g1 iv_ko_11 ab_node hn59 hok e2) (by decide) dX12_saysOne_25 (fun H locs hP hD hS => ?_)
  obtain ⟨g3, e4⟩ : ∃ z9, z9 = upd g1 ((4 * knodes) + 1) aq := ⟨_, rfl⟩
  rw [← e4] at hP hD
  have hP : va_P (dC, dI) vwCl [(o, .inr (12, [.int kthrown, .ref ktape, .int (nI ktaped), .int (nI ksize), .int (nI klimit), .int (nI kto), .int (nI kfrom), .int kkind, .int knumber, .int ksign, .int kfault, .int kplace, .long kword, .int ktold, .ref know, .ref kread, .ref kkept, .ref ksnaps, .ref kaside, .ref kname, .ref kreadName, .ref kkeptName, .ref kisKept, .ref konces, .int (nI ksnapMany), .int khasCells, .ref kpoured, .ref kfar, .ref ksides, .int (nI ksideMany), .int kwayDays, .int khasWay, .ref klines, .ref kmet, .int (nI kmetMany), .ref ksunk, .ref ktrying, .int (nI ksunkMany), .int ksending, .int kfleets, .ref ktext, .int (nI ktexts), .int kseed, .ref kline, .ref kwritten, .int (nI klineMany), .int khasWritten, .ref knode, .int (nI knodes), .int (nI konesMany), .int (nI kwithin), .int (nI ktop)])), (knode, .inl (ky 0, 240, .inl g3))] H := hP
  have hD : va_D A [(o, .inr (12, [.int kthrown, .ref ktape, .int (nI ktaped), .int (nI ksize), .int (nI klimit), .int (nI kto), .int (nI kfrom), .int kkind, .int knumber, .int ksign, .int kfault, .int kplace, .long kword, .int ktold, .ref know, .ref kread, .ref kkept, .ref ksnaps, .ref kaside, .ref kname, .ref kreadName, .ref kkeptName, .ref kisKept, .ref konces, .int (nI ksnapMany), .int khasCells, .ref kpoured, .ref kfar, .ref ksides, .int (nI ksideMany), .int kwayDays, .int khasWay, .ref klines, .ref kmet, .int (nI kmetMany), .ref ksunk, .ref ktrying, .int (nI ksunkMany), .int ksending, .int kfleets, .ref ktext, .int (nI ktexts), .int kseed, .ref kline, .ref kwritten, .int (nI klineMany), .int khasWritten, .ref knode, .int (nI knodes), .int (nI konesMany), .int (nI kwithin), .int (nI ktop)])), (knode, .inl (ky 0, 240, .inl g3))] := hD
  refine lv_aload_n hx hb dX12_saysOne_26 rfl (lv_at hl 1 rfl) ?_
  refine va_get (D := (dC, dI)) (ci := 12) (v := .ref knode) (C := RX12) (T := TX12) (N := 52) hx hb hts hin12 hown hK hP 0 rfl rfl 47 (by decide) (hts (.fieldLink RX12 169 "PorridgeSeaModel" "node" "[I") (List.mem_of_getElem? (i := 2) rfl)) (fun _ h9 => h9) rfl dX12_saysOne_27 ?_
  refine lv_iload hx hb dX12_saysOne_30 (lv_at hl 0 rfl) ?_
  refine lv_iconst (v := nI 2) hx hb dX12_saysOne_32 (by decide) ?_
  refine lv_iadd hx hb dX12_saysOne_33 ?_
  refine r_ti (nI ((4 * knodes) + 2)) (nI_add _ _) ?_
  refine lv_iload_n hx hb dX12_saysOne_34 rfl (lv_at hl 4 rfl) ?_
  refine r_iast (x := zq) hx hb hK hP hD hS 1 rfl ((4 * knodes) + 2) (lf_x_saysOne_3 knodes knodeF wq aq zq g1 g3 iv_ko_11 ab_node hn59 hok e2 e4) (by decide) dX12_saysOne_35 (fun H locs hP hD hS => ?_)
  obtain ⟨g5, e6⟩ : ∃ z9, z9 = upd g3 ((4 * knodes) + 2) zq := ⟨_, rfl⟩
  rw [← e6] at hP hD
  have hP : va_P (dC, dI) vwCl [(o, .inr (12, [.int kthrown, .ref ktape, .int (nI ktaped), .int (nI ksize), .int (nI klimit), .int (nI kto), .int (nI kfrom), .int kkind, .int knumber, .int ksign, .int kfault, .int kplace, .long kword, .int ktold, .ref know, .ref kread, .ref kkept, .ref ksnaps, .ref kaside, .ref kname, .ref kreadName, .ref kkeptName, .ref kisKept, .ref konces, .int (nI ksnapMany), .int khasCells, .ref kpoured, .ref kfar, .ref ksides, .int (nI ksideMany), .int kwayDays, .int khasWay, .ref klines, .ref kmet, .int (nI kmetMany), .ref ksunk, .ref ktrying, .int (nI ksunkMany), .int ksending, .int kfleets, .ref ktext, .int (nI ktexts), .int kseed, .ref kline, .ref kwritten, .int (nI klineMany), .int khasWritten, .ref knode, .int (nI knodes), .int (nI konesMany), .int (nI kwithin), .int (nI ktop)])), (knode, .inl (ky 0, 240, .inl g5))] H := hP
  have hD : va_D A [(o, .inr (12, [.int kthrown, .ref ktape, .int (nI ktaped), .int (nI ksize), .int (nI klimit), .int (nI kto), .int (nI kfrom), .int kkind, .int knumber, .int ksign, .int kfault, .int kplace, .long kword, .int ktold, .ref know, .ref kread, .ref kkept, .ref ksnaps, .ref kaside, .ref kname, .ref kreadName, .ref kkeptName, .ref kisKept, .ref konces, .int (nI ksnapMany), .int khasCells, .ref kpoured, .ref kfar, .ref ksides, .int (nI ksideMany), .int kwayDays, .int khasWay, .ref klines, .ref kmet, .int (nI kmetMany), .ref ksunk, .ref ktrying, .int (nI ksunkMany), .int ksending, .int kfleets, .ref ktext, .int (nI ktexts), .int kseed, .ref kline, .ref kwritten, .int (nI klineMany), .int khasWritten, .ref knode, .int (nI knodes), .int (nI konesMany), .int (nI kwithin), .int (nI ktop)])), (knode, .inl (ky 0, 240, .inl g5))] := hD
  refine lv_aload_n hx hb dX12_saysOne_36 rfl (lv_at hl 1 rfl) ?_
  refine va_get (D := (dC, dI)) (ci := 12) (v := .ref knode) (C := RX12) (T := TX12) (N := 52) hx hb hts hin12 hown hK hP 0 rfl rfl 47 (by decide) (hts (.fieldLink RX12 169 "PorridgeSeaModel" "node" "[I") (List.mem_of_getElem? (i := 2) rfl)) (fun _ h9 => h9) rfl dX12_saysOne_37 ?_
  refine lv_iload hx hb dX12_saysOne_40 (lv_at hl 0 rfl) ?_
  refine lv_iconst (v := nI 3) hx hb dX12_saysOne_42 (by decide) ?_
  refine lv_iadd hx hb dX12_saysOne_43 ?_
  refine r_ti (nI ((4 * knodes) + 3)) (nI_add _ _) ?_
  refine lv_iload hx hb dX12_saysOne_44 (lv_at hl 5 rfl) ?_
  refine r_iast (x := rq) hx hb hK hP hD hS 1 rfl ((4 * knodes) + 3) (lf_x_saysOne_4 knodes knodeF wq aq zq g1 g3 g5 iv_ko_11 ab_node hn59 hok e2 e4 e6) (by decide) dX12_saysOne_46 (fun H locs hP hD hS => ?_)
  obtain ⟨g7, e8⟩ : ∃ z9, z9 = upd g5 ((4 * knodes) + 3) rq := ⟨_, rfl⟩
  rw [← e8] at hP hD
  have sn9 : SN g7 := by rw [e8, e6, e4, e2]; exact SN_add ab_node hok
  have hP : va_P (dC, dI) vwCl [(o, .inr (12, [.int kthrown, .ref ktape, .int (nI ktaped), .int (nI ksize), .int (nI klimit), .int (nI kto), .int (nI kfrom), .int kkind, .int knumber, .int ksign, .int kfault, .int kplace, .long kword, .int ktold, .ref know, .ref kread, .ref kkept, .ref ksnaps, .ref kaside, .ref kname, .ref kreadName, .ref kkeptName, .ref kisKept, .ref konces, .int (nI ksnapMany), .int khasCells, .ref kpoured, .ref kfar, .ref ksides, .int (nI ksideMany), .int kwayDays, .int khasWay, .ref klines, .ref kmet, .int (nI kmetMany), .ref ksunk, .ref ktrying, .int (nI ksunkMany), .int ksending, .int kfleets, .ref ktext, .int (nI ktexts), .int kseed, .ref kline, .ref kwritten, .int (nI klineMany), .int khasWritten, .ref knode, .int (nI knodes), .int (nI konesMany), .int (nI kwithin), .int (nI ktop)])), (knode, .inl (ky 0, 240, .inl g7))] H := hP
  have hD : va_D A [(o, .inr (12, [.int kthrown, .ref ktape, .int (nI ktaped), .int (nI ksize), .int (nI klimit), .int (nI kto), .int (nI kfrom), .int kkind, .int knumber, .int ksign, .int kfault, .int kplace, .long kword, .int ktold, .ref know, .ref kread, .ref kkept, .ref ksnaps, .ref kaside, .ref kname, .ref kreadName, .ref kkeptName, .ref kisKept, .ref konces, .int (nI ksnapMany), .int khasCells, .ref kpoured, .ref kfar, .ref ksides, .int (nI ksideMany), .int kwayDays, .int khasWay, .ref klines, .ref kmet, .int (nI kmetMany), .ref ksunk, .ref ktrying, .int (nI ksunkMany), .int ksending, .int kfleets, .ref ktext, .int (nI ktexts), .int kseed, .ref kline, .ref kwritten, .int (nI klineMany), .int khasWritten, .ref knode, .int (nI knodes), .int (nI konesMany), .int (nI kwithin), .int (nI ktop)])), (knode, .inl (ky 0, 240, .inl g7))] := hD
  refine lv_aload_n hx hb dX12_saysOne_47 rfl (lv_at hl 1 rfl) ?_
  refine lv_dup hx hb dX12_saysOne_48 rfl ?_
  refine va_get (D := (dC, dI)) (ci := 12) (v := .int (nI knodes)) (C := RX12) (T := TX12) (N := 52) hx hb hts hin12 hown hK hP 0 rfl rfl 48 (by decide) (hts (.fieldLink RX12 426 "PorridgeSeaModel" "nodes" "I") (List.mem_of_getElem? (i := 1) rfl)) (fun _ h9 => h9) rfl dX12_saysOne_49 ?_
  refine lv_iconst (v := nI 1) hx hb dX12_saysOne_52 (by decide) ?_
  refine lv_iadd hx hb dX12_saysOne_53 ?_
  refine r_ti (nI (knodes + 1)) (nI_add _ _) ?_
  refine va_put (D := (dC, dI)) (ci := 12) (v := .int (nI (knodes + 1))) (ty := .int) (C := RX12) (T := TX12) (N := 52) hx hb hts hin12 tyX12 tyX12_ok nmX12 hown hK hP hD hS 0 rfl rfl 48 (by decide) (hts (.fieldLink RX12 426 "PorridgeSeaModel" "nodes" "I") (List.mem_of_getElem? (i := 1) rfl)) (fun _ h9 => h9) rfl (by decide +kernel) rfl rfl (Nat.le_of_ble_eq_true rfl) dX12_saysOne_54 (fun H locs hP hD hS => ?_)
  have hP : va_P (dC, dI) vwCl [(o, .inr (12, [.int kthrown, .ref ktape, .int (nI ktaped), .int (nI ksize), .int (nI klimit), .int (nI kto), .int (nI kfrom), .int kkind, .int knumber, .int ksign, .int kfault, .int kplace, .long kword, .int ktold, .ref know, .ref kread, .ref kkept, .ref ksnaps, .ref kaside, .ref kname, .ref kreadName, .ref kkeptName, .ref kisKept, .ref konces, .int (nI ksnapMany), .int khasCells, .ref kpoured, .ref kfar, .ref ksides, .int (nI ksideMany), .int kwayDays, .int khasWay, .ref klines, .ref kmet, .int (nI kmetMany), .ref ksunk, .ref ktrying, .int (nI ksunkMany), .int ksending, .int kfleets, .ref ktext, .int (nI ktexts), .int kseed, .ref kline, .ref kwritten, .int (nI klineMany), .int khasWritten, .ref knode, .int (nI (knodes + 1)), .int (nI konesMany), .int (nI kwithin), .int (nI ktop)])), (knode, .inl (ky 0, 240, .inl g7))] H := hP
  have hD : va_D A [(o, .inr (12, [.int kthrown, .ref ktape, .int (nI ktaped), .int (nI ksize), .int (nI klimit), .int (nI kto), .int (nI kfrom), .int kkind, .int knumber, .int ksign, .int kfault, .int kplace, .long kword, .int ktold, .ref know, .ref kread, .ref kkept, .ref ksnaps, .ref kaside, .ref kname, .ref kreadName, .ref kkeptName, .ref kisKept, .ref konces, .int (nI ksnapMany), .int khasCells, .ref kpoured, .ref kfar, .ref ksides, .int (nI ksideMany), .int kwayDays, .int khasWay, .ref klines, .ref kmet, .int (nI kmetMany), .ref ksunk, .ref ktrying, .int (nI ksunkMany), .int ksending, .int kfleets, .ref ktext, .int (nI ktexts), .int kseed, .ref kline, .ref kwritten, .int (nI klineMany), .int khasWritten, .ref knode, .int (nI (knodes + 1)), .int (nI konesMany), .int (nI kwithin), .int (nI ktop)])), (knode, .inl (ky 0, 240, .inl g7))] := hD
  refine lv_aload_n hx hb dX12_saysOne_57 rfl (lv_at hl 1 rfl) ?_
  refine va_get (D := (dC, dI)) (ci := 12) (v := .int (nI (knodes + 1))) (C := RX12) (T := TX12) (N := 52) hx hb hts hin12 hown hK hP 0 rfl rfl 48 (by decide) (hts (.fieldLink RX12 426 "PorridgeSeaModel" "nodes" "I") (List.mem_of_getElem? (i := 1) rfl)) (fun _ h9 => h9) rfl dX12_saysOne_58 ?_
  refine lv_iconst (v := nI 1) hx hb dX12_saysOne_61 (by decide) ?_
  refine lv_isub hx hb dX12_saysOne_62 ?_
  refine r_ti (nI ((knodes + 1) - 1)) (pk_sub (lf_x_saysOne_5 knodes wq aq zq iv_ko_11 hn59 hok)) ?_
  rw [hQ]
  exact W.iret (v := nI ((knodes + 1) - 1)) hx hb hr (fun t9 ht9 hW9 => ⟨⟨nI ((knodes + 1) - 1), ((knodes + 1), g7), rfl, ⟨⟨((knodes + 1) - 1), (lf_x_saysOne_6 knodes wq aq zq iv_ko_11 hn59 hok), rfl⟩, (lf_x_saysOne_7 knodes wq aq zq iv_ko_11 hn59 hok), sn9, rfl⟩, by rw [ht9]; exact hP, va_K.moved hW9.alike hK, hD⟩, hS.F ht9⟩) hS.2.2 dX12_saysOne_63
