theorem dX12_sentence_0 : decode cX12_sentence 0 = .ok (.aload_n 0, 1) := by decide +kernel
theorem dX12_sentence_1 : decode cX12_sentence 1 = .ok (.sipush 200, 3) := by decide +kernel
theorem dX12_sentence_4 : decode cX12_sentence 4 = .ok (.invokevirtual 228, 3) := by decide +kernel
theorem dX12_sentence_7 : decode cX12_sentence 7 = .ok (.aload_n 0, 1) := by decide +kernel
theorem dX12_sentence_8 : decode cX12_sentence 8 = .ok (.iconst 0, 1) := by decide +kernel
theorem dX12_sentence_9 : decode cX12_sentence 9 = .ok (.putfield 426, 3) := by decide +kernel
theorem dX12_sentence_12 : decode cX12_sentence 12 = .ok (.aload_n 0, 1) := by decide +kernel
theorem dX12_sentence_13 : decode cX12_sentence 13 = .ok (.iconst 0, 1) := by decide +kernel
theorem dX12_sentence_14 : decode cX12_sentence 14 = .ok (.putfield 442, 3) := by decide +kernel
theorem dX12_sentence_17 : decode cX12_sentence 17 = .ok (.aload_n 0, 1) := by decide +kernel
theorem dX12_sentence_18 : decode cX12_sentence 18 = .ok (.iconst 0, 1) := by decide +kernel
theorem dX12_sentence_19 : decode cX12_sentence 19 = .ok (.putfield 445, 3) := by decide +kernel
theorem dX12_sentence_22 : decode cX12_sentence 22 = .ok (.aload_n 0, 1) := by decide +kernel
theorem dX12_sentence_23 : decode cX12_sentence 23 = .ok (.invokevirtual 460, 3) := by decide +kernel
theorem dX12_sentence_26 : decode cX12_sentence 26 = .ok (.ifCond .ne 10, 3) := by decide +kernel
theorem dX12_sentence_36 : decode cX12_sentence 36 = .ok (.aload_n 0, 1) := by decide +kernel
theorem dX12_sentence_37 : decode cX12_sentence 37 = .ok (.getfield 30, 3) := by decide +kernel
theorem dX12_sentence_40 : decode cX12_sentence 40 = .ok (.ifCond .eq 16, 3) := by decide +kernel
theorem dX12_sentence_56 : decode cX12_sentence 56 = .ok (.aload_n 0, 1) := by decide +kernel
theorem dX12_sentence_57 : decode cX12_sentence 57 = .ok (.getfield 98, 3) := by decide +kernel
theorem dX12_sentence_60 : decode cX12_sentence 60 = .ok (.sipush 131, 3) := by decide +kernel
theorem dX12_sentence_63 : decode cX12_sentence 63 = .ok (.iconst 1, 1) := by decide +kernel
theorem dX12_sentence_64 : decode cX12_sentence 64 = .ok (.iastore, 1) := by decide +kernel
theorem dX12_sentence_65 : decode cX12_sentence 65 = .ok (.aload_n 0, 1) := by decide +kernel
theorem dX12_sentence_66 : decode cX12_sentence 66 = .ok (.getfield 98, 3) := by decide +kernel
theorem dX12_sentence_69 : decode cX12_sentence 69 = .ok (.sipush 132, 3) := by decide +kernel
theorem dX12_sentence_72 : decode cX12_sentence 72 = .ok (.aload_n 0, 1) := by decide +kernel
theorem dX12_sentence_73 : decode cX12_sentence 73 = .ok (.getfield 432, 3) := by decide +kernel
theorem dX12_sentence_76 : decode cX12_sentence 76 = .ok (.iastore, 1) := by decide +kernel
theorem dX12_sentence_77 : decode cX12_sentence 77 = .ok (.iconst 0, 1) := by decide +kernel
theorem dX12_sentence_78 : decode cX12_sentence 78 = .ok (.istore_n 1, 1) := by decide +kernel
theorem dX12_sentence_79 : decode cX12_sentence 79 = .ok (.iload_n 1, 1) := by decide +kernel
theorem dX12_sentence_80 : decode cX12_sentence 80 = .ok (.sipush 240, 3) := by decide +kernel
theorem dX12_sentence_83 : decode cX12_sentence 83 = .ok (.if_icmp .ge 25, 3) := by decide +kernel
theorem dX12_sentence_86 : decode cX12_sentence 86 = .ok (.aload_n 0, 1) := by decide +kernel
theorem dX12_sentence_87 : decode cX12_sentence 87 = .ok (.getfield 98, 3) := by decide +kernel
theorem dX12_sentence_90 : decode cX12_sentence 90 = .ok (.sipush 133, 3) := by decide +kernel
theorem dX12_sentence_93 : decode cX12_sentence 93 = .ok (.iload_n 1, 1) := by decide +kernel
theorem dX12_sentence_94 : decode cX12_sentence 94 = .ok (.iadd, 1) := by decide +kernel
theorem dX12_sentence_95 : decode cX12_sentence 95 = .ok (.aload_n 0, 1) := by decide +kernel
theorem dX12_sentence_96 : decode cX12_sentence 96 = .ok (.getfield 169, 3) := by decide +kernel
theorem dX12_sentence_99 : decode cX12_sentence 99 = .ok (.iload_n 1, 1) := by decide +kernel
theorem dX12_sentence_100 : decode cX12_sentence 100 = .ok (.iaload, 1) := by decide +kernel
theorem dX12_sentence_101 : decode cX12_sentence 101 = .ok (.iastore, 1) := by decide +kernel
theorem dX12_sentence_102 : decode cX12_sentence 102 = .ok (.iinc 1 1, 3) := by decide +kernel
theorem dX12_sentence_105 : decode cX12_sentence 105 = .ok (.goto (-26), 3) := by decide +kernel
theorem dX12_sentence_108 : decode cX12_sentence 108 = .ok (.aload_n 0, 1) := by decide +kernel
theorem dX12_sentence_109 : decode cX12_sentence 109 = .ok (.getfield 442, 3) := by decide +kernel
theorem dX12_sentence_112 : decode cX12_sentence 112 = .ok (.ireturn, 1) := by decide +kernel
theorem dX12_sentence_43 : decode cX12_sentence 43 = .ok (.aload_n 0, 1) := by decide +kernel
theorem dX12_sentence_44 : decode cX12_sentence 44 = .ok (.iconst 1, 1) := by decide +kernel
theorem dX12_sentence_45 : decode cX12_sentence 45 = .ok (.invokevirtual 72, 3) := by decide +kernel
theorem dX12_sentence_48 : decode cX12_sentence 48 = .ok (.pop, 1) := by decide +kernel
theorem dX12_sentence_49 : decode cX12_sentence 49 = .ok (.iconst (-1), 1) := by decide +kernel
theorem dX12_sentence_50 : decode cX12_sentence 50 = .ok (.aload_n 0, 1) := by decide +kernel
theorem dX12_sentence_51 : decode cX12_sentence 51 = .ok (.getfield 69, 3) := by decide +kernel
theorem dX12_sentence_54 : decode cX12_sentence 54 = .ok (.isub, 1) := by decide +kernel
theorem dX12_sentence_55 : decode cX12_sentence 55 = .ok (.ireturn, 1) := by decide +kernel
theorem dX12_sentence_29 : decode cX12_sentence 29 = .ok (.iconst (-1), 1) := by decide +kernel
theorem dX12_sentence_30 : decode cX12_sentence 30 = .ok (.aload_n 0, 1) := by decide +kernel
theorem dX12_sentence_31 : decode cX12_sentence 31 = .ok (.getfield 69, 3) := by decide +kernel
theorem dX12_sentence_34 : decode cX12_sentence 34 = .ok (.isub, 1) := by decide +kernel
theorem dX12_sentence_35 : decode cX12_sentence 35 = .ok (.ireturn, 1) := by decide +kernel
set_option maxRecDepth 100000 in
theorem ggX12_sentence_X12_begin : GoodIn wsX12_sentence wsX12_begin := goodIn_r _ [13, 14, 15, 16, 17, 18, 19, 20, 21, 12, 22, 23, 24, 25, 26, 27, 28, 29, 5, 30, 31, 32, 33, 34, 35, 36, 37, 38, 39, 40, 41, 42, 43, 44, 115, 116, 117, 118, 119, 120, 121, 122, 123, 124, 125, 126, 127, 128, 129, 130, 131, 132, 133, 134, 135, 136, 137, 138, 139, 140, 141, 142, 143, 144, 145, 146, 147, 148, 149, 150, 151, 152, 153, 154, 155, 156, 157, 158, 159, 160, 161, 162, 163, 164, 165, 166] rfl (by decide +kernel)
set_option maxRecDepth 100000 in
theorem ggX12_sentence_X12_readOr : GoodIn wsX12_sentence wsX12_readOr := goodIn_r _ [48, 7, 49, 50, 51, 12, 52, 53, 54, 55, 5, 31, 56, 57, 58, 59, 60, 61, 33, 34, 24, 25, 26, 27, 18, 15, 28, 29, 16, 30, 32, 35, 36, 37, 38, 39, 40, 41, 42, 43, 44, 62, 63, 64, 65, 1, 8, 66, 67, 68, 69, 70, 45, 46, 47, 71, 72, 73, 74, 75, 76, 77, 78, 17, 4, 79, 80, 2, 3, 81, 82, 83, 84, 85, 86, 87, 88, 89, 90, 91, 92, 93, 94, 95, 96, 6, 97, 98, 99, 100, 101, 102, 103, 104, 105, 106, 107, 108, 109, 110, 111, 112, 113, 114, 115, 116, 117, 118, 119, 120, 121, 122, 123, 124, 125, 126, 127, 128, 129, 130, 131, 132, 133, 134, 135, 136, 137, 138, 139, 140, 141, 142, 143, 144, 145, 146, 147, 148, 149, 150, 151, 152, 153, 154, 155, 156, 157, 158, 159, 160, 161, 162, 163, 164, 165, 166] rfl (by decide +kernel)
set_option maxRecDepth 100000 in
theorem ggX12_sentence_X12_bad : GoodIn wsX12_sentence wsX12_bad := goodIn_r _ [78, 5, 17, 29, 4, 115, 116, 117, 118, 119, 120, 121, 122, 123, 124, 125, 126, 127, 128, 129, 130, 131, 132, 133, 134, 135, 136, 137, 138, 139, 140, 141, 142, 143, 144, 145, 146, 147, 148, 149, 150, 151, 152, 153, 154, 155, 156, 157, 158, 159, 160, 161, 162, 163, 164, 165, 166] rfl (by decide +kernel)
set_option maxRecDepth 100000 in
theorem gX12_sentence_X12_begin : GoodIn wsX12_sentence (wsV RX12 228 RX12 yX12_begin wsX12_begin) := goodIn_app (goodIn_of _ (by decide +kernel)) ggX12_sentence_X12_begin
set_option maxRecDepth 100000 in
theorem gX12_sentence_X12_readOr : GoodIn wsX12_sentence (wsV RX12 460 RX12 yX12_readOr wsX12_readOr) := goodIn_app (goodIn_of _ (by decide +kernel)) ggX12_sentence_X12_readOr
set_option maxRecDepth 100000 in
theorem gX12_sentence_X12_bad : GoodIn wsX12_sentence (wsV RX12 72 RX12 yX12_bad wsX12_bad) := goodIn_app (goodIn_of _ (by decide +kernel)) ggX12_sentence_X12_bad
