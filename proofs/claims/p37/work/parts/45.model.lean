theorem dX12_readNew_0 : decode cX12_readNew 0 = .ok (.aload_n 0, 1) := by decide +kernel
theorem dX12_readNew_1 : decode cX12_readNew 1 = .ok (.invokevirtual 178, 3) := by decide +kernel
theorem dX12_readNew_4 : decode cX12_readNew 4 = .ok (.ifCond .ne 9, 3) := by decide +kernel
theorem dX12_readNew_13 : decode cX12_readNew 13 = .ok (.aload_n 0, 1) := by decide +kernel
theorem dX12_readNew_14 : decode cX12_readNew 14 = .ok (.getfield 117, 3) := by decide +kernel
theorem dX12_readNew_17 : decode cX12_readNew 17 = .ok (.iconst 0, 1) := by decide +kernel
theorem dX12_readNew_18 : decode cX12_readNew 18 = .ok (.aload_n 0, 1) := by decide +kernel
theorem dX12_readNew_19 : decode cX12_readNew 19 = .ok (.getfield 101, 3) := by decide +kernel
theorem dX12_readNew_22 : decode cX12_readNew 22 = .ok (.iconst 2, 1) := by decide +kernel
theorem dX12_readNew_23 : decode cX12_readNew 23 = .ok (.iaload, 1) := by decide +kernel
theorem dX12_readNew_24 : decode cX12_readNew 24 = .ok (.aload_n 0, 1) := by decide +kernel
theorem dX12_readNew_25 : decode cX12_readNew 25 = .ok (.getfield 43, 3) := by decide +kernel
theorem dX12_readNew_28 : decode cX12_readNew 28 = .ok (.invokestatic 182, 3) := by decide +kernel
theorem dX12_readNew_31 : decode cX12_readNew 31 = .ok (.iconst (-1), 1) := by decide +kernel
theorem dX12_readNew_32 : decode cX12_readNew 32 = .ok (.if_icmp .ne 26, 3) := by decide +kernel
theorem dX12_readNew_35 : decode cX12_readNew 35 = .ok (.aload_n 0, 1) := by decide +kernel
theorem dX12_readNew_36 : decode cX12_readNew 36 = .ok (.getfield 117, 3) := by decide +kernel
theorem dX12_readNew_39 : decode cX12_readNew 39 = .ok (.bipush 6, 2) := by decide +kernel
theorem dX12_readNew_41 : decode cX12_readNew 41 = .ok (.aload_n 0, 1) := by decide +kernel
theorem dX12_readNew_42 : decode cX12_readNew 42 = .ok (.getfield 101, 3) := by decide +kernel
theorem dX12_readNew_45 : decode cX12_readNew 45 = .ok (.iconst 3, 1) := by decide +kernel
theorem dX12_readNew_46 : decode cX12_readNew 46 = .ok (.iaload, 1) := by decide +kernel
theorem dX12_readNew_47 : decode cX12_readNew 47 = .ok (.aload_n 0, 1) := by decide +kernel
theorem dX12_readNew_48 : decode cX12_readNew 48 = .ok (.getfield 43, 3) := by decide +kernel
theorem dX12_readNew_51 : decode cX12_readNew 51 = .ok (.invokestatic 182, 3) := by decide +kernel
theorem dX12_readNew_54 : decode cX12_readNew 54 = .ok (.iconst (-1), 1) := by decide +kernel
theorem dX12_readNew_55 : decode cX12_readNew 55 = .ok (.if_icmp .eq 9, 3) := by decide +kernel
theorem dX12_readNew_64 : decode cX12_readNew 64 = .ok (.aload_n 0, 1) := by decide +kernel
theorem dX12_readNew_65 : decode cX12_readNew 65 = .ok (.getfield 117, 3) := by decide +kernel
theorem dX12_readNew_68 : decode cX12_readNew 68 = .ok (.iload_n 1, 1) := by decide +kernel
theorem dX12_readNew_69 : decode cX12_readNew 69 = .ok (.aload_n 0, 1) := by decide +kernel
theorem dX12_readNew_70 : decode cX12_readNew 70 = .ok (.getfield 43, 3) := by decide +kernel
theorem dX12_readNew_73 : decode cX12_readNew 73 = .ok (.lastore, 1) := by decide +kernel
theorem dX12_readNew_74 : decode cX12_readNew 74 = .ok (.aload_n 0, 1) := by decide +kernel
theorem dX12_readNew_75 : decode cX12_readNew 75 = .ok (.invokevirtual 82, 3) := by decide +kernel
theorem dX12_readNew_78 : decode cX12_readNew 78 = .ok (.iconst 1, 1) := by decide +kernel
theorem dX12_readNew_79 : decode cX12_readNew 79 = .ok (.ireturn, 1) := by decide +kernel
theorem dX12_readNew_58 : decode cX12_readNew 58 = .ok (.aload_n 0, 1) := by decide +kernel
theorem dX12_readNew_59 : decode cX12_readNew 59 = .ok (.iconst 3, 1) := by decide +kernel
theorem dX12_readNew_60 : decode cX12_readNew 60 = .ok (.invokevirtual 72, 3) := by decide +kernel
theorem dX12_readNew_63 : decode cX12_readNew 63 = .ok (.ireturn, 1) := by decide +kernel
theorem dX12_readNew_7 : decode cX12_readNew 7 = .ok (.aload_n 0, 1) := by decide +kernel
theorem dX12_readNew_8 : decode cX12_readNew 8 = .ok (.iconst 1, 1) := by decide +kernel
theorem dX12_readNew_9 : decode cX12_readNew 9 = .ok (.invokevirtual 72, 3) := by decide +kernel
theorem dX12_readNew_12 : decode cX12_readNew 12 = .ok (.ireturn, 1) := by decide +kernel
theorem dX12_readFirst_0 : decode cX12_readFirst 0 = .ok (.aload_n 0, 1) := by decide +kernel
theorem dX12_readFirst_1 : decode cX12_readFirst 1 = .ok (.getfield 101, 3) := by decide +kernel
theorem dX12_readFirst_4 : decode cX12_readFirst 4 = .ok (.iload_n 1, 1) := by decide +kernel
theorem dX12_readFirst_5 : decode cX12_readFirst 5 = .ok (.iaload, 1) := by decide +kernel
theorem dX12_readFirst_6 : decode cX12_readFirst 6 = .ok (.iload_n 2, 1) := by decide +kernel
theorem dX12_readFirst_7 : decode cX12_readFirst 7 = .ok (.if_icmp .ne 9, 3) := by decide +kernel
theorem dX12_readFirst_16 : decode cX12_readFirst 16 = .ok (.aload_n 0, 1) := by decide +kernel
theorem dX12_readFirst_17 : decode cX12_readFirst 17 = .ok (.invokevirtual 82, 3) := by decide +kernel
theorem dX12_readFirst_20 : decode cX12_readFirst 20 = .ok (.iconst 1, 1) := by decide +kernel
theorem dX12_readFirst_21 : decode cX12_readFirst 21 = .ok (.ireturn, 1) := by decide +kernel
theorem dX12_readFirst_10 : decode cX12_readFirst 10 = .ok (.aload_n 0, 1) := by decide +kernel
theorem dX12_readFirst_11 : decode cX12_readFirst 11 = .ok (.iconst 4, 1) := by decide +kernel
theorem dX12_readFirst_12 : decode cX12_readFirst 12 = .ok (.invokevirtual 72, 3) := by decide +kernel
theorem dX12_readFirst_15 : decode cX12_readFirst 15 = .ok (.ireturn, 1) := by decide +kernel
theorem dX12_put_0 : decode cX12_put 0 = .ok (.iload_n 2, 1) := by decide +kernel
theorem dX12_put_1 : decode cX12_put 1 = .ok (.ifCond .eq 13, 3) := by decide +kernel
theorem dX12_put_14 : decode cX12_put 14 = .ok (.iload_n 2, 1) := by decide +kernel
theorem dX12_put_15 : decode cX12_put 15 = .ok (.ireturn, 1) := by decide +kernel
theorem dX12_put_4 : decode cX12_put 4 = .ok (.aload_n 0, 1) := by decide +kernel
theorem dX12_put_5 : decode cX12_put 5 = .ok (.getfield 101, 3) := by decide +kernel
theorem dX12_put_8 : decode cX12_put 8 = .ok (.iload_n 1, 1) := by decide +kernel
theorem dX12_put_9 : decode cX12_put 9 = .ok (.aload_n 0, 1) := by decide +kernel
theorem dX12_put_10 : decode cX12_put 10 = .ok (.getfield 79, 3) := by decide +kernel
theorem dX12_put_13 : decode cX12_put 13 = .ok (.iastore, 1) := by decide +kernel
theorem dX12_isFresh_0 : decode cX12_isFresh 0 = .ok (.aload_n 0, 1) := by decide +kernel
theorem dX12_isFresh_1 : decode cX12_isFresh 1 = .ok (.getfield 127, 3) := by decide +kernel
theorem dX12_isFresh_4 : decode cX12_isFresh 4 = .ok (.iload_n 1, 1) := by decide +kernel
theorem dX12_isFresh_5 : decode cX12_isFresh 5 = .ok (.baload, 1) := by decide +kernel
theorem dX12_isFresh_6 : decode cX12_isFresh 6 = .ok (.ifCond .eq 9, 3) := by decide +kernel
theorem dX12_isFresh_15 : decode cX12_isFresh 15 = .ok (.aload_n 0, 1) := by decide +kernel
theorem dX12_isFresh_16 : decode cX12_isFresh 16 = .ok (.getfield 127, 3) := by decide +kernel
theorem dX12_isFresh_19 : decode cX12_isFresh 19 = .ok (.iload_n 1, 1) := by decide +kernel
theorem dX12_isFresh_20 : decode cX12_isFresh 20 = .ok (.iconst 1, 1) := by decide +kernel
theorem dX12_isFresh_21 : decode cX12_isFresh 21 = .ok (.bastore, 1) := by decide +kernel
theorem dX12_isFresh_22 : decode cX12_isFresh 22 = .ok (.aload_n 0, 1) := by decide +kernel
theorem dX12_isFresh_23 : decode cX12_isFresh 23 = .ok (.invokevirtual 82, 3) := by decide +kernel
theorem dX12_isFresh_26 : decode cX12_isFresh 26 = .ok (.iconst 1, 1) := by decide +kernel
theorem dX12_isFresh_27 : decode cX12_isFresh 27 = .ok (.ireturn, 1) := by decide +kernel
theorem dX12_isFresh_9 : decode cX12_isFresh 9 = .ok (.aload_n 0, 1) := by decide +kernel
theorem dX12_isFresh_10 : decode cX12_isFresh 10 = .ok (.iconst 3, 1) := by decide +kernel
theorem dX12_isFresh_11 : decode cX12_isFresh 11 = .ok (.invokevirtual 72, 3) := by decide +kernel
theorem dX12_isFresh_14 : decode cX12_isFresh 14 = .ok (.ireturn, 1) := by decide +kernel
theorem dX12_readSize_0 : decode cX12_readSize 0 = .ok (.aload_n 0, 1) := by decide +kernel
theorem dX12_readSize_1 : decode cX12_readSize 1 = .ok (.iconst 2, 1) := by decide +kernel
theorem dX12_readSize_2 : decode cX12_readSize 2 = .ok (.bipush 6, 2) := by decide +kernel
theorem dX12_readSize_4 : decode cX12_readSize 4 = .ok (.invokevirtual 200, 3) := by decide +kernel
theorem dX12_readSize_7 : decode cX12_readSize 7 = .ok (.ireturn, 1) := by decide +kernel
theorem dX12_readSea_0 : decode cX12_readSea 0 = .ok (.aload_n 0, 1) := by decide +kernel
theorem dX12_readSea_1 : decode cX12_readSea 1 = .ok (.getfield 186, 3) := by decide +kernel
theorem dX12_readSea_4 : decode cX12_readSea 4 = .ok (.ifCond .eq 9, 3) := by decide +kernel
theorem dX12_readSea_13 : decode cX12_readSea 13 = .ok (.aload_n 0, 1) := by decide +kernel
theorem dX12_readSea_14 : decode cX12_readSea 14 = .ok (.iconst 3, 1) := by decide +kernel
theorem dX12_readSea_15 : decode cX12_readSea 15 = .ok (.invokevirtual 190, 3) := by decide +kernel
theorem dX12_readSea_18 : decode cX12_readSea 18 = .ok (.ifCond .eq 31, 3) := by decide +kernel
theorem dX12_readSea_21 : decode cX12_readSea 21 = .ok (.aload_n 0, 1) := by decide +kernel
theorem dX12_readSea_22 : decode cX12_readSea 22 = .ok (.iconst 0, 1) := by decide +kernel
theorem dX12_readSea_23 : decode cX12_readSea 23 = .ok (.aload_n 0, 1) := by decide +kernel
theorem dX12_readSea_24 : decode cX12_readSea 24 = .ok (.invokevirtual 193, 3) := by decide +kernel
theorem dX12_readSea_27 : decode cX12_readSea 27 = .ok (.invokevirtual 196, 3) := by decide +kernel
theorem dX12_readSea_30 : decode cX12_readSea 30 = .ok (.ifCond .eq 19, 3) := by decide +kernel
theorem dX12_readSea_33 : decode cX12_readSea 33 = .ok (.aload_n 0, 1) := by decide +kernel
theorem dX12_readSea_34 : decode cX12_readSea 34 = .ok (.iconst 1, 1) := by decide +kernel
theorem dX12_readSea_35 : decode cX12_readSea 35 = .ok (.aload_n 0, 1) := by decide +kernel
theorem dX12_readSea_36 : decode cX12_readSea 36 = .ok (.invokevirtual 193, 3) := by decide +kernel
theorem dX12_readSea_39 : decode cX12_readSea 39 = .ok (.invokevirtual 196, 3) := by decide +kernel
theorem dX12_readSea_42 : decode cX12_readSea 42 = .ok (.ifCond .eq 7, 3) := by decide +kernel
theorem dX12_readSea_45 : decode cX12_readSea 45 = .ok (.iconst 1, 1) := by decide +kernel
theorem dX12_readSea_46 : decode cX12_readSea 46 = .ok (.goto 4, 3) := by decide +kernel
theorem dX12_readSea_50 : decode cX12_readSea 50 = .ok (.ireturn, 1) := by decide +kernel
theorem dX12_readSea_49 : decode cX12_readSea 49 = .ok (.iconst 0, 1) := by decide +kernel
theorem dX12_readSea_7 : decode cX12_readSea 7 = .ok (.aload_n 0, 1) := by decide +kernel
theorem dX12_readSea_8 : decode cX12_readSea 8 = .ok (.iconst 3, 1) := by decide +kernel
theorem dX12_readSea_9 : decode cX12_readSea 9 = .ok (.invokevirtual 72, 3) := by decide +kernel
theorem dX12_readSea_12 : decode cX12_readSea 12 = .ok (.ireturn, 1) := by decide +kernel
theorem dX12_readCell_0 : decode cX12_readCell 0 = .ok (.aload_n 0, 1) := by decide +kernel
theorem dX12_readCell_1 : decode cX12_readCell 1 = .ok (.iconst 1, 1) := by decide +kernel
theorem dX12_readCell_2 : decode cX12_readCell 2 = .ok (.putfield 186, 3) := by decide +kernel
theorem dX12_readCell_5 : decode cX12_readCell 5 = .ok (.aload_n 0, 1) := by decide +kernel
theorem dX12_readCell_6 : decode cX12_readCell 6 = .ok (.iconst 0, 1) := by decide +kernel
theorem dX12_readCell_7 : decode cX12_readCell 7 = .ok (.aload_n 0, 1) := by decide +kernel
theorem dX12_readCell_8 : decode cX12_readCell 8 = .ok (.getfield 101, 3) := by decide +kernel
theorem dX12_readCell_11 : decode cX12_readCell 11 = .ok (.iconst 0, 1) := by decide +kernel
theorem dX12_readCell_12 : decode cX12_readCell 12 = .ok (.iaload, 1) := by decide +kernel
theorem dX12_readCell_13 : decode cX12_readCell 13 = .ok (.iconst 1, 1) := by decide +kernel
theorem dX12_readCell_14 : decode cX12_readCell 14 = .ok (.isub, 1) := by decide +kernel
theorem dX12_readCell_15 : decode cX12_readCell 15 = .ok (.invokevirtual 200, 3) := by decide +kernel
theorem dX12_readCell_18 : decode cX12_readCell 18 = .ok (.ifCond .ne 5, 3) := by decide +kernel
theorem dX12_readCell_23 : decode cX12_readCell 23 = .ok (.aload_n 0, 1) := by decide +kernel
theorem dX12_readCell_24 : decode cX12_readCell 24 = .ok (.getfield 79, 3) := by decide +kernel
theorem dX12_readCell_27 : decode cX12_readCell 27 = .ok (.istore_n 1, 1) := by decide +kernel
theorem dX12_readCell_28 : decode cX12_readCell 28 = .ok (.aload_n 0, 1) := by decide +kernel
theorem dX12_readCell_29 : decode cX12_readCell 29 = .ok (.getfield 30, 3) := by decide +kernel
theorem dX12_readCell_32 : decode cX12_readCell 32 = .ok (.iconst 3, 1) := by decide +kernel
theorem dX12_readCell_33 : decode cX12_readCell 33 = .ok (.if_icmp .eq 11, 3) := by decide +kernel
theorem dX12_readCell_44 : decode cX12_readCell 44 = .ok (.aload_n 0, 1) := by decide +kernel
theorem dX12_readCell_45 : decode cX12_readCell 45 = .ok (.getfield 47, 3) := by decide +kernel
theorem dX12_readCell_48 : decode cX12_readCell 48 = .ok (.aload_n 0, 1) := by decide +kernel
theorem dX12_readCell_49 : decode cX12_readCell 49 = .ok (.getfield 101, 3) := by decide +kernel
theorem dX12_readCell_52 : decode cX12_readCell 52 = .ok (.iconst 1, 1) := by decide +kernel
theorem dX12_readCell_53 : decode cX12_readCell 53 = .ok (.iaload, 1) := by decide +kernel
theorem dX12_readCell_54 : decode cX12_readCell 54 = .ok (.if_icmp .ge 13, 3) := by decide +kernel
theorem dX12_readCell_67 : decode cX12_readCell 67 = .ok (.aload_n 0, 1) := by decide +kernel
theorem dX12_readCell_68 : decode cX12_readCell 68 = .ok (.iconst 2, 1) := by decide +kernel
theorem dX12_readCell_69 : decode cX12_readCell 69 = .ok (.invokevirtual 72, 3) := by decide +kernel
theorem dX12_readCell_72 : decode cX12_readCell 72 = .ok (.pop, 1) := by decide +kernel
theorem dX12_readCell_73 : decode cX12_readCell 73 = .ok (.iconst (-1), 1) := by decide +kernel
theorem dX12_readCell_74 : decode cX12_readCell 74 = .ok (.ireturn, 1) := by decide +kernel
theorem dX12_readCell_57 : decode cX12_readCell 57 = .ok (.bipush 6, 2) := by decide +kernel
theorem dX12_readCell_59 : decode cX12_readCell 59 = .ok (.aload_n 0, 1) := by decide +kernel
theorem dX12_readCell_60 : decode cX12_readCell 60 = .ok (.getfield 47, 3) := by decide +kernel
theorem dX12_readCell_63 : decode cX12_readCell 63 = .ok (.imul, 1) := by decide +kernel
theorem dX12_readCell_64 : decode cX12_readCell 64 = .ok (.iload_n 1, 1) := by decide +kernel
theorem dX12_readCell_65 : decode cX12_readCell 65 = .ok (.iadd, 1) := by decide +kernel
theorem dX12_readCell_66 : decode cX12_readCell 66 = .ok (.ireturn, 1) := by decide +kernel
theorem dX12_readCell_36 : decode cX12_readCell 36 = .ok (.aload_n 0, 1) := by decide +kernel
theorem dX12_readCell_37 : decode cX12_readCell 37 = .ok (.iconst 1, 1) := by decide +kernel
theorem dX12_readCell_38 : decode cX12_readCell 38 = .ok (.invokevirtual 72, 3) := by decide +kernel
theorem dX12_readCell_41 : decode cX12_readCell 41 = .ok (.pop, 1) := by decide +kernel
theorem dX12_readCell_42 : decode cX12_readCell 42 = .ok (.iconst (-1), 1) := by decide +kernel
theorem dX12_readCell_43 : decode cX12_readCell 43 = .ok (.ireturn, 1) := by decide +kernel
theorem dX12_readCell_21 : decode cX12_readCell 21 = .ok (.iconst (-1), 1) := by decide +kernel
theorem dX12_readCell_22 : decode cX12_readCell 22 = .ok (.ireturn, 1) := by decide +kernel
set_option maxRecDepth 100000 in
theorem ggX12_readNew_X12_isName : GoodIn wsX12_readNew wsX12_isName := goodIn_r _ [8, 9, 3, 10, 11, 7, 12, 13, 14, 15, 16, 17, 48, 49, 50, 51, 52, 53, 54, 55, 56, 57, 58, 59, 60, 61, 62, 63, 64, 65, 66, 67, 68, 69, 70, 71, 72, 73, 74, 75, 76, 77, 78, 79, 80, 81, 82, 83, 84, 85, 86, 87, 88, 89, 90, 91, 92, 93, 94, 95, 96, 97, 98, 99] rfl (by decide +kernel)
set_option maxRecDepth 100000 in
theorem ggX12_readNew_X12_findIn : GoodIn wsX12_readNew wsX12_findIn := goodIn_r _ [27] rfl (by decide +kernel)
set_option maxRecDepth 100000 in
theorem ggX12_readNew_X12_go : GoodIn wsX12_readNew wsX12_go := goodIn_r _ [31, 32, 33, 34, 23, 35, 9, 36, 3, 37, 16, 17, 38, 39, 7, 40, 41, 42, 43, 44, 45, 46, 47, 48, 49, 50, 51, 52, 53, 54, 55, 56, 57, 58, 59, 60, 61, 62, 63, 64, 65, 66, 67, 68, 69, 70, 71, 72, 73, 74, 75, 76, 77, 78, 79, 80, 81, 82, 83, 84, 85, 86, 87, 88, 89, 90, 91, 92, 93, 94, 95, 96, 97, 98, 99] rfl (by decide +kernel)
set_option maxRecDepth 100000 in
theorem ggX12_readNew_X12_bad : GoodIn wsX12_readNew wsX12_bad := goodIn_r _ [21, 9, 22, 23, 24, 48, 49, 50, 51, 52, 53, 54, 55, 56, 57, 58, 59, 60, 61, 62, 63, 64, 65, 66, 67, 68, 69, 70, 71, 72, 73, 74, 75, 76, 77, 78, 79, 80, 81, 82, 83, 84, 85, 86, 87, 88, 89, 90, 91, 92, 93, 94, 95, 96, 97, 98, 99] rfl (by decide +kernel)
set_option maxRecDepth 100000 in
theorem ggX12_readFirst_X12_go : GoodIn wsX12_readFirst wsX12_go := goodIn_r _ [14, 15, 16, 17, 9, 18, 7, 19, 20, 21, 22, 23, 24, 25, 5, 26, 27, 28, 29, 30, 31, 32, 33, 34, 35, 36, 37, 38, 39, 40, 41, 42, 43, 44, 45, 46, 47, 48, 49, 50, 51, 52, 53, 54, 55, 56, 57, 58, 59, 60, 61, 62, 63, 64, 65, 66, 67, 68, 69, 70, 71, 72, 73, 74, 75, 76, 77, 78, 79, 80, 81, 82, 83, 84, 85] rfl (by decide +kernel)
set_option maxRecDepth 100000 in
theorem ggX12_readFirst_X12_bad : GoodIn wsX12_readFirst wsX12_bad := goodIn_r _ [6, 7, 8, 9, 10, 34, 35, 36, 37, 38, 39, 40, 41, 42, 43, 44, 45, 46, 47, 48, 49, 50, 51, 52, 53, 54, 55, 56, 57, 58, 59, 60, 61, 62, 63, 64, 65, 66, 67, 68, 69, 70, 71, 72, 73, 74, 75, 76, 77, 78, 79, 80, 81, 82, 83, 84, 85] rfl (by decide +kernel)
set_option maxRecDepth 100000 in
theorem ggX12_isFresh_X12_go : GoodIn wsX12_isFresh wsX12_go := goodIn_r _ [14, 15, 16, 17, 9, 18, 7, 19, 20, 21, 22, 23, 24, 25, 5, 26, 27, 28, 29, 30, 31, 32, 33, 34, 35, 36, 37, 38, 39, 40, 41, 42, 43, 44, 45, 46, 47, 48, 49, 50, 51, 52, 53, 54, 55, 56, 57, 58, 59, 60, 61, 62, 63, 64, 65, 66, 67, 68, 69, 70, 71, 72, 73, 74, 75, 76, 77, 78, 79, 80, 81, 82, 83, 84, 85] rfl (by decide +kernel)
set_option maxRecDepth 100000 in
theorem ggX12_isFresh_X12_bad : GoodIn wsX12_isFresh wsX12_bad := goodIn_r _ [6, 7, 8, 9, 10, 34, 35, 36, 37, 38, 39, 40, 41, 42, 43, 44, 45, 46, 47, 48, 49, 50, 51, 52, 53, 54, 55, 56, 57, 58, 59, 60, 61, 62, 63, 64, 65, 66, 67, 68, 69, 70, 71, 72, 73, 74, 75, 76, 77, 78, 79, 80, 81, 82, 83, 84, 85] rfl (by decide +kernel)
set_option maxRecDepth 100000 in
theorem ggX12_readSize_X12_readNumber : GoodIn wsX12_readSize wsX12_readNumber := goodIn_r _ [5, 6, 7, 8, 9, 10, 11, 4, 12, 13, 14, 15, 16, 17, 18, 19, 20, 21, 22, 23, 24, 25, 26, 27, 28, 29, 30, 31, 32, 33, 34, 35, 36, 37, 38, 39, 40, 41, 42, 43, 44, 45, 46, 47, 48, 49, 50, 51, 52, 53, 54, 55, 56, 57, 58, 59, 60, 61, 62, 63, 64, 65, 66, 67, 68, 69, 70, 71, 72, 73, 74, 75, 76, 77, 78, 79, 80, 81, 82, 83, 84, 85, 86, 87, 88, 89, 90, 91, 92] rfl (by decide +kernel)
set_option maxRecDepth 100000 in
theorem ggX12_readSea_X12_isFresh : GoodIn wsX12_readSea wsX12_isFresh := goodIn_r _ [14, 15, 2, 3, 4, 5, 6, 7, 8, 9, 10, 16, 17, 18, 19, 20, 21, 22, 23, 24, 25, 26, 27, 28, 29, 30, 31, 32, 33, 34, 35, 36, 37, 38, 56, 57, 58, 59, 60, 61, 62, 63, 64, 65, 66, 67, 68, 69, 70, 71, 72, 73, 74, 75, 76, 77, 78, 79, 80, 81, 82, 83, 84, 85, 86, 87, 88, 89, 90, 91, 92, 93, 94, 95, 96, 97, 98, 99, 100, 101, 102, 103, 104, 105, 106, 107] rfl (by decide +kernel)
set_option maxRecDepth 100000 in
theorem ggX12_readSea_X12_readSize : GoodIn wsX12_readSea wsX12_readSize := goodIn_r _ [42, 43, 44, 45, 5, 46, 7, 26, 47, 2, 3, 4, 6, 8, 9, 10, 48, 49, 50, 16, 17, 18, 19, 20, 21, 22, 23, 24, 25, 27, 28, 29, 30, 31, 32, 33, 34, 35, 36, 37, 38, 56, 57, 58, 59, 60, 61, 62, 63, 64, 65, 66, 67, 68, 69, 70, 71, 72, 73, 74, 75, 76, 77, 78, 79, 80, 81, 82, 83, 84, 85, 86, 87, 88, 89, 90, 91, 92, 93, 94, 95, 96, 97, 98, 99, 100, 101, 102, 103, 104, 105, 106, 107] rfl (by decide +kernel)
set_option maxRecDepth 100000 in
theorem ggX12_readSea_X12_put : GoodIn wsX12_readSea wsX12_put := goodIn_r _ [54, 55, 47, 56, 57, 58, 59, 60, 61, 62, 63, 64, 65, 66, 67, 68, 69, 70, 71, 72, 73, 74, 75, 76, 77, 78, 79, 80, 81, 82, 83, 84, 85, 86, 87, 88, 89, 90, 91, 92, 93, 94, 95, 96, 97, 98, 99, 100, 101, 102, 103, 104, 105, 106, 107] rfl (by decide +kernel)
set_option maxRecDepth 100000 in
theorem ggX12_readSea_X12_bad : GoodIn wsX12_readSea wsX12_bad := goodIn_r _ [6, 7, 8, 9, 10, 56, 57, 58, 59, 60, 61, 62, 63, 64, 65, 66, 67, 68, 69, 70, 71, 72, 73, 74, 75, 76, 77, 78, 79, 80, 81, 82, 83, 84, 85, 86, 87, 88, 89, 90, 91, 92, 93, 94, 95, 96, 97, 98, 99, 100, 101, 102, 103, 104, 105, 106, 107] rfl (by decide +kernel)
set_option maxRecDepth 100000 in
theorem ggX12_readCell_X12_readNumber : GoodIn wsX12_readCell wsX12_readNumber := goodIn_r _ [10, 4, 5, 3, 11, 12, 13, 9, 14, 15, 16, 17, 18, 19, 20, 21, 22, 23, 24, 25, 26, 27, 28, 29, 30, 31, 32, 33, 34, 35, 36, 37, 38, 39, 40, 41, 42, 43, 44, 45, 46, 47, 48, 49, 50, 51, 52, 53, 54, 55, 56, 57, 58, 59, 60, 61, 62, 63, 64, 65, 66, 67, 68, 69, 70, 71, 72, 73, 74, 75, 76, 77, 78, 79, 80, 81, 82, 83, 84, 85, 86, 87, 88, 89, 90, 91, 92, 93, 94] rfl (by decide +kernel)
set_option maxRecDepth 100000 in
theorem ggX12_readCell_X12_bad : GoodIn wsX12_readCell wsX12_bad := goodIn_r _ [14, 4, 15, 16, 17, 43, 44, 45, 46, 47, 48, 49, 50, 51, 52, 53, 54, 55, 56, 57, 58, 59, 60, 61, 62, 63, 64, 65, 66, 67, 68, 69, 70, 71, 72, 73, 74, 75, 76, 77, 78, 79, 80, 81, 82, 83, 84, 85, 86, 87, 88, 89, 90, 91, 92, 93, 94] rfl (by decide +kernel)
set_option maxRecDepth 100000 in
theorem gX12_readNew_X12_isName : GoodIn wsX12_readNew (wsV RX12 178 RX12 yX12_isName wsX12_isName) := goodIn_app (goodIn_of _ (by decide +kernel)) ggX12_readNew_X12_isName
set_option maxRecDepth 100000 in
theorem gX12_readNew_X12_findIn : GoodIn wsX12_readNew (va_wsS RX12 182 yX12_findIn wsX12_findIn) := goodIn_app (goodIn_of _ (by decide +kernel)) ggX12_readNew_X12_findIn
set_option maxRecDepth 100000 in
theorem gX12_readNew_X12_go : GoodIn wsX12_readNew (wsV RX12 82 RX12 yX12_go wsX12_go) := goodIn_app (goodIn_of _ (by decide +kernel)) ggX12_readNew_X12_go
set_option maxRecDepth 100000 in
theorem gX12_readNew_X12_bad : GoodIn wsX12_readNew (wsV RX12 72 RX12 yX12_bad wsX12_bad) := goodIn_app (goodIn_of _ (by decide +kernel)) ggX12_readNew_X12_bad
set_option maxRecDepth 100000 in
theorem gX12_readFirst_X12_go : GoodIn wsX12_readFirst (wsV RX12 82 RX12 yX12_go wsX12_go) := goodIn_app (goodIn_of _ (by decide +kernel)) ggX12_readFirst_X12_go
set_option maxRecDepth 100000 in
theorem gX12_readFirst_X12_bad : GoodIn wsX12_readFirst (wsV RX12 72 RX12 yX12_bad wsX12_bad) := goodIn_app (goodIn_of _ (by decide +kernel)) ggX12_readFirst_X12_bad
set_option maxRecDepth 100000 in
theorem gX12_isFresh_X12_go : GoodIn wsX12_isFresh (wsV RX12 82 RX12 yX12_go wsX12_go) := goodIn_app (goodIn_of _ (by decide +kernel)) ggX12_isFresh_X12_go
set_option maxRecDepth 100000 in
theorem gX12_isFresh_X12_bad : GoodIn wsX12_isFresh (wsV RX12 72 RX12 yX12_bad wsX12_bad) := goodIn_app (goodIn_of _ (by decide +kernel)) ggX12_isFresh_X12_bad
set_option maxRecDepth 100000 in
theorem gX12_readSize_X12_readNumber : GoodIn wsX12_readSize (wsV RX12 200 RX12 yX12_readNumber wsX12_readNumber) := goodIn_app (goodIn_of _ (by decide +kernel)) ggX12_readSize_X12_readNumber
set_option maxRecDepth 100000 in
theorem gX12_readSea_X12_isFresh : GoodIn wsX12_readSea (wsV RX12 190 RX12 yX12_isFresh wsX12_isFresh) := goodIn_app (goodIn_of _ (by decide +kernel)) ggX12_readSea_X12_isFresh
set_option maxRecDepth 100000 in
theorem gX12_readSea_X12_readSize : GoodIn wsX12_readSea (wsV RX12 193 RX12 yX12_readSize wsX12_readSize) := goodIn_app (goodIn_of _ (by decide +kernel)) ggX12_readSea_X12_readSize
set_option maxRecDepth 100000 in
theorem gX12_readSea_X12_put : GoodIn wsX12_readSea (wsV RX12 196 RX12 yX12_put wsX12_put) := goodIn_app (goodIn_of _ (by decide +kernel)) ggX12_readSea_X12_put
set_option maxRecDepth 100000 in
theorem gX12_readSea_X12_bad : GoodIn wsX12_readSea (wsV RX12 72 RX12 yX12_bad wsX12_bad) := goodIn_app (goodIn_of _ (by decide +kernel)) ggX12_readSea_X12_bad
set_option maxRecDepth 100000 in
theorem gX12_readCell_X12_readNumber : GoodIn wsX12_readCell (wsV RX12 200 RX12 yX12_readNumber wsX12_readNumber) := goodIn_app (goodIn_of _ (by decide +kernel)) ggX12_readCell_X12_readNumber
set_option maxRecDepth 100000 in
theorem gX12_readCell_X12_bad : GoodIn wsX12_readCell (wsV RX12 72 RX12 yX12_bad wsX12_bad) := goodIn_app (goodIn_of _ (by decide +kernel)) ggX12_readCell_X12_bad
set_option maxRecDepth 20000 in
theorem lf_x_put0_1   : (nI 0) = nI 0 := by
  try have k_0 := ia_n 0 (by first | decide | omega)
  try simp only [ia_lt, ia_le, ia_eq, ia_m1, ia_0, ia_1, ne_eq, true_and, and_true, false_and, and_false, or_false, false_or, or_true, true_or, not_true_eq_false, not_false_eq_true] at *
  all_goals omega
set_option maxHeartbeats 4000000 in
set_option maxRecDepth 100000 in
theorem c_x_put0 (l : Launch) (dC : Nat → ClassId) (dI : Nat → Nat → Nat) (ky : Nat → ClassId) (o : Nat) (kthrown : Int32) (ktape : Nat) (ktaped : Nat) (ksize : Nat) (klimit : Nat) (kto : Nat) (kfrom : Nat) (kkind : Int32) (knumber : Int32) (ksign : Int32) (kfault : Int32) (kplace : Int32) (kword : Int64) (ktold : Int32) (know : Nat) (kread : Nat) (kkept : Nat) (ksnaps : Nat) (kaside : Nat) (kname : Nat) (kreadName : Nat) (kkeptName : Nat) (kisKept : Nat) (konces : Nat) (ksnapMany : Nat) (khasCells : Int32) (kpoured : Nat) (kfar : Nat) (ksides : Nat) (ksideMany : Nat) (kwayDays : Int32) (khasWay : Int32) (klines : Nat) (kmet : Nat) (kmetMany : Nat) (ksunk : Nat) (ktrying : Nat) (ksunkMany : Nat) (ksending : Int32) (kfleets : Int32) (ktext : Nat) (ktexts : Nat) (kseed : Int32) (kline : Nat) (kwritten : Nat) (klineMany : Nat) (khasWritten : Int32) (knode : Nat) (knodes : Nat) (konesMany : Nat) (kwithin : Nat) (ktop : Nat) (x : Int32) (iv_ko_0 : ktaped ≤ 940) (iv_ko_1 : ksize ≤ 940) (iv_ko_2 : klimit ≤ 900) (iv_ko_3 : kto ≤ ksize) (iv_ko_4 : kfrom ≤ 940) (iv_ko_5 : ksnapMany ≤ 8) (iv_ko_6 : ksideMany ≤ 36) (iv_ko_7 : kmetMany ≤ 3) (iv_ko_8 : ksunkMany ≤ 36) (iv_ko_9 : ktexts ≤ 64) (iv_ko_10 : klineMany ≤ 40) (iv_ko_11 : knodes ≤ 60) (iv_ko_12 : konesMany ≤ 20) (iv_ko_13 : kwithin ≤ 8) (iv_ko_14 : ktop ≤ 59) : Met l yX12_put wsX12_put ({ frames := 0, cells := 0, slots := 0, locals := 0 }) (PcP dC dI ky [.ref o, .int x, .int (nI 0)] [(o, .inr (12, [.int kthrown, .ref ktape, .int (nI ktaped), .int (nI ksize), .int (nI klimit), .int (nI kto), .int (nI kfrom), .int kkind, .int knumber, .int ksign, .int kfault, .int kplace, .long kword, .int ktold, .ref know, .ref kread, .ref kkept, .ref ksnaps, .ref kaside, .ref kname, .ref kreadName, .ref kkeptName, .ref kisKept, .ref konces, .int (nI ksnapMany), .int khasCells, .ref kpoured, .ref kfar, .ref ksides, .int (nI ksideMany), .int kwayDays, .int khasWay, .ref klines, .ref kmet, .int (nI kmetMany), .ref ksunk, .ref ktrying, .int (nI ksunkMany), .int ksending, .int kfleets, .ref ktext, .int (nI ktexts), .int kseed, .ref kline, .ref kwritten, .int (nI klineMany), .int khasWritten, .ref knode, .int (nI knodes), .int (nI konesMany), .int (nI kwithin), .int (nI ktop)]))]) (vp_Si (fun r : Int32 => r = nI 0)) 0 0 (fun _ => False) := by
  refine Met.ofW (cc := cX12_put) (maxL := 3) (ret := (some .boolean)) (by decide) rfl ?_
  intro p e s m args below meth c s₁ B hml hv
  obtain ⟨rfl, hP, hK⟩ := hv
  have hx := B.exec
  have hb := B.bytes
  have hr := B.returns
  have hts := atoms_spec (ws := wsX12_put) B.pre
  have hown : s.vm.findClass RX12 = some m.cls := findClass_of_methodNamed B.named
  have hlocks := B.notSynchronized
  have hl := lv_entry ([.ref o, .int x, .int (nI 0)]) (n := 3) (Nat.le_of_ble_eq_true rfl)
  rw [lg_entry_eq]
  generalize (lg_sl ([.ref o, .int x, .int (nI 0)]) ++ List.replicate (3 - (lg_sl ([.ref o, .int x, .int (nI 0)])).length) Slot.unset).toArray = ls at hl ⊢
  have hl : lv_has ls 3 [(0, .ref o), (1, .int x), (2, .int (nI 0))] := hl
  refine q_name (fun Q hQ => ?_)
  generalize ([.ref o, .int x, .int (nI 0)] : List Value).toArray = args at hts hQ ⊢
  refine lv_iload_n hx hb dX12_put_0 rfl (lv_at hl 2 rfl) ?_
  refine lv_if_eq (tgt := 14) hx hb dX12_put_1 (by decide) (fun c1 => ?_) (fun c1 => absurd (by decide) c1)
  refine lv_iload_n hx hb dX12_put_14 rfl (lv_at hl 2 rfl) ?_
  rw [hQ]
  exact W.zret (v := nI 0) hx hb hr (by decide) (fun t9 ht9 hW9 => ⟨nI 0, rfl, (lf_x_put0_1), ht9⟩) (fun _ h => absurd h List.not_mem_nil) dX12_put_15
