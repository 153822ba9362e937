theorem dX12_sea_0 : decode cX12_sea 0 = .ok (.aload_n 0, 1) := by decide +kernel
theorem dX12_sea_1 : decode cX12_sea 1 = .ok (.sipush 900, 3) := by decide +kernel
theorem dX12_sea_4 : decode cX12_sea 4 = .ok (.invokevirtual 228, 3) := by decide +kernel
theorem dX12_sea_7 : decode cX12_sea 7 = .ok (.aload_n 0, 1) := by decide +kernel
theorem dX12_sea_8 : decode cX12_sea 8 = .ok (.invokevirtual 172, 3) := by decide +kernel
theorem dX12_sea_11 : decode cX12_sea 11 = .ok (.aload_n 0, 1) := by decide +kernel
theorem dX12_sea_12 : decode cX12_sea 12 = .ok (.iconst 0, 1) := by decide +kernel
theorem dX12_sea_13 : decode cX12_sea 13 = .ok (.putfield 186, 3) := by decide +kernel
theorem dX12_sea_16 : decode cX12_sea 16 = .ok (.iconst 0, 1) := by decide +kernel
theorem dX12_sea_17 : decode cX12_sea 17 = .ok (.istore_n 1, 1) := by decide +kernel
theorem dX12_sea_18 : decode cX12_sea 18 = .ok (.aload_n 0, 1) := by decide +kernel
theorem dX12_sea_19 : decode cX12_sea 19 = .ok (.getfield 30, 3) := by decide +kernel
theorem dX12_sea_22 : decode cX12_sea 22 = .ok (.ifCond .eq 30, 3) := by decide +kernel
theorem dX12_sea_52 : decode cX12_sea 52 = .ok (.iconst 0, 1) := by decide +kernel
theorem dX12_sea_53 : decode cX12_sea 53 = .ok (.istore_n 2, 1) := by decide +kernel
theorem dX12_sea_54 : decode cX12_sea 54 = .ok (.iload_n 2, 1) := by decide +kernel
theorem dX12_sea_55 : decode cX12_sea 55 = .ok (.bipush 67, 2) := by decide +kernel
theorem dX12_sea_57 : decode cX12_sea 57 = .ok (.if_icmp .ge 21, 3) := by decide +kernel
theorem dX12_sea_60 : decode cX12_sea 60 = .ok (.aload_n 0, 1) := by decide +kernel
theorem dX12_sea_61 : decode cX12_sea 61 = .ok (.getfield 98, 3) := by decide +kernel
theorem dX12_sea_64 : decode cX12_sea 64 = .ok (.iload_n 2, 1) := by decide +kernel
theorem dX12_sea_65 : decode cX12_sea 65 = .ok (.aload_n 0, 1) := by decide +kernel
theorem dX12_sea_66 : decode cX12_sea 66 = .ok (.getfield 101, 3) := by decide +kernel
theorem dX12_sea_69 : decode cX12_sea 69 = .ok (.iload_n 2, 1) := by decide +kernel
theorem dX12_sea_70 : decode cX12_sea 70 = .ok (.iaload, 1) := by decide +kernel
theorem dX12_sea_71 : decode cX12_sea 71 = .ok (.iastore, 1) := by decide +kernel
theorem dX12_sea_72 : decode cX12_sea 72 = .ok (.iinc 2 1, 3) := by decide +kernel
theorem dX12_sea_75 : decode cX12_sea 75 = .ok (.goto (-21), 3) := by decide +kernel
theorem dX12_sea_78 : decode cX12_sea 78 = .ok (.iconst 0, 1) := by decide +kernel
theorem dX12_sea_79 : decode cX12_sea 79 = .ok (.istore_n 2, 1) := by decide +kernel
theorem dX12_sea_80 : decode cX12_sea 80 = .ok (.iload_n 2, 1) := by decide +kernel
theorem dX12_sea_81 : decode cX12_sea 81 = .ok (.bipush 12, 2) := by decide +kernel
theorem dX12_sea_83 : decode cX12_sea 83 = .ok (.if_icmp .ge 21, 3) := by decide +kernel
theorem dX12_sea_86 : decode cX12_sea 86 = .ok (.aload_n 0, 1) := by decide +kernel
theorem dX12_sea_87 : decode cX12_sea 87 = .ok (.getfield 113, 3) := by decide +kernel
theorem dX12_sea_90 : decode cX12_sea 90 = .ok (.iload_n 2, 1) := by decide +kernel
theorem dX12_sea_91 : decode cX12_sea 91 = .ok (.aload_n 0, 1) := by decide +kernel
theorem dX12_sea_92 : decode cX12_sea 92 = .ok (.getfield 117, 3) := by decide +kernel
theorem dX12_sea_95 : decode cX12_sea 95 = .ok (.iload_n 2, 1) := by decide +kernel
theorem dX12_sea_96 : decode cX12_sea 96 = .ok (.laload, 1) := by decide +kernel
theorem dX12_sea_97 : decode cX12_sea 97 = .ok (.lastore, 1) := by decide +kernel
theorem dX12_sea_98 : decode cX12_sea 98 = .ok (.iinc 2 1, 3) := by decide +kernel
theorem dX12_sea_101 : decode cX12_sea 101 = .ok (.goto (-21), 3) := by decide +kernel
theorem dX12_sea_104 : decode cX12_sea 104 = .ok (.aload_n 0, 1) := by decide +kernel
theorem dX12_sea_105 : decode cX12_sea 105 = .ok (.invokevirtual 175, 3) := by decide +kernel
theorem dX12_sea_108 : decode cX12_sea 108 = .ok (.aload_n 0, 1) := by decide +kernel
theorem dX12_sea_109 : decode cX12_sea 109 = .ok (.iconst 0, 1) := by decide +kernel
theorem dX12_sea_110 : decode cX12_sea 110 = .ok (.putfield 237, 3) := by decide +kernel
theorem dX12_sea_113 : decode cX12_sea 113 = .ok (.iload_n 1, 1) := by decide +kernel
theorem dX12_sea_114 : decode cX12_sea 114 = .ok (.ireturn, 1) := by decide +kernel
theorem dX12_sea_25 : decode cX12_sea 25 = .ok (.aload_n 0, 1) := by decide +kernel
theorem dX12_sea_26 : decode cX12_sea 26 = .ok (.invokevirtual 231, 3) := by decide +kernel
theorem dX12_sea_29 : decode cX12_sea 29 = .ok (.ifCond .eq 10, 3) := by decide +kernel
theorem dX12_sea_32 : decode cX12_sea 32 = .ok (.aload_n 0, 1) := by decide +kernel
theorem dX12_sea_33 : decode cX12_sea 33 = .ok (.invokevirtual 234, 3) := by decide +kernel
theorem dX12_sea_36 : decode cX12_sea 36 = .ok (.ifCond .ne 10, 3) := by decide +kernel
theorem dX12_sea_46 : decode cX12_sea 46 = .ok (.iinc 1 1, 3) := by decide +kernel
theorem dX12_sea_49 : decode cX12_sea 49 = .ok (.goto (-31), 3) := by decide +kernel
theorem dX12_sea_39 : decode cX12_sea 39 = .ok (.iconst (-1), 1) := by decide +kernel
theorem dX12_sea_40 : decode cX12_sea 40 = .ok (.aload_n 0, 1) := by decide +kernel
theorem dX12_sea_41 : decode cX12_sea 41 = .ok (.getfield 69, 3) := by decide +kernel
theorem dX12_sea_44 : decode cX12_sea 44 = .ok (.isub, 1) := by decide +kernel
theorem dX12_sea_45 : decode cX12_sea 45 = .ok (.ireturn, 1) := by decide +kernel
set_option maxRecDepth 100000 in
theorem ggX12_sea_X12_begin : GoodIn wsX12_sea wsX12_begin := goodIn_r _ [13, 14, 15, 16, 17, 18, 19, 20, 21, 12, 22, 23, 24, 25, 26, 27, 28, 29, 2, 30, 31, 32, 33, 34, 35, 36, 37, 38, 39, 40, 41, 42, 43, 44, 135, 136, 137, 138, 139, 140, 141, 142, 143, 144, 145, 146, 147, 148, 149, 150, 151, 152, 153, 154, 155, 156, 157, 158, 159, 160, 161, 162, 163, 164, 165, 166, 167, 168, 169, 170, 171, 172, 173, 174, 175, 176, 177, 178, 179, 180, 181, 182, 183, 184, 185, 186] rfl (by decide +kernel)
set_option maxRecDepth 100000 in
theorem ggX12_sea_X12_startRead : GoodIn wsX12_sea wsX12_startRead := goodIn_r _ [48, 5, 49, 135, 136, 137, 138, 139, 140, 141, 142, 143, 144, 145, 146, 147, 148, 149, 150, 151, 152, 153, 154, 155, 156, 157, 158, 159, 160, 161, 162, 163, 164, 165, 166, 167, 168, 169, 170, 171, 172, 173, 174, 175, 176, 177, 178, 179, 180, 181, 182, 183, 184, 185, 186] rfl (by decide +kernel)
set_option maxRecDepth 100000 in
theorem ggX12_sea_X12_startSo : GoodIn wsX12_sea wsX12_startSo := goodIn_r _ [134, 4, 135, 136, 137, 138, 139, 140, 141, 142, 143, 144, 145, 146, 147, 148, 149, 150, 151, 152, 153, 154, 155, 156, 157, 158, 159, 160, 161, 162, 163, 164, 165, 166, 167, 168, 169, 170, 171, 172, 173, 174, 175, 176, 177, 178, 179, 180, 181, 182, 183, 184, 185, 186] rfl (by decide +kernel)
set_option maxRecDepth 100000 in
theorem ggX12_sea_X12_readLine : GoodIn wsX12_sea wsX12_readLine := goodIn_r _ [53, 54, 55, 56, 12, 57, 2, 31, 58, 59, 60, 61, 62, 63, 33, 34, 64, 65, 66, 67, 1, 68, 69, 70, 71, 17, 29, 3, 72, 73, 74, 75, 49, 24, 25, 26, 27, 18, 15, 28, 16, 30, 32, 35, 36, 37, 38, 39, 40, 41, 42, 43, 44, 76, 77, 78, 79, 80, 81, 82, 83, 84, 85, 86, 87, 88, 89, 90, 91, 5, 92, 93, 94, 95, 96, 97, 98, 99, 100, 101, 102, 103, 104, 105, 106, 107, 108, 109, 110, 111, 7, 112, 113, 114, 115, 116, 117, 118, 119, 120, 121, 122, 135, 136, 137, 138, 139, 140, 141, 142, 143, 144, 145, 146, 147, 148, 149, 150, 151, 152, 153, 154, 155, 156, 157, 158, 159, 160, 161, 162, 163, 164, 165, 166, 167, 168, 169, 170, 171, 172, 173, 174, 175, 176, 177, 178, 179, 180, 181, 182, 183, 184, 185, 186] rfl (by decide +kernel)
set_option maxRecDepth 100000 in
theorem ggX12_sea_X12_readEnd : GoodIn wsX12_sea wsX12_readEnd := goodIn_r _ [126, 127, 128, 129, 12, 130, 2, 30, 68, 69, 70, 71, 17, 29, 3, 24, 25, 26, 27, 18, 15, 28, 16, 31, 32, 33, 34, 35, 36, 37, 38, 39, 40, 41, 42, 43, 44, 135, 136, 137, 138, 139, 140, 141, 142, 143, 144, 145, 146, 147, 148, 149, 150, 151, 152, 153, 154, 155, 156, 157, 158, 159, 160, 161, 162, 163, 164, 165, 166, 167, 168, 169, 170, 171, 172, 173, 174, 175, 176, 177, 178, 179, 180, 181, 182, 183, 184, 185, 186] rfl (by decide +kernel)
set_option maxRecDepth 100000 in
theorem gX12_sea_X12_begin : GoodIn wsX12_sea (wsV RX12 228 RX12 yX12_begin wsX12_begin) := goodIn_app (goodIn_of _ (by decide +kernel)) ggX12_sea_X12_begin
set_option maxRecDepth 100000 in
theorem gX12_sea_X12_startRead : GoodIn wsX12_sea (wsV RX12 172 RX12 yX12_startRead wsX12_startRead) := goodIn_app (goodIn_of _ (by decide +kernel)) ggX12_sea_X12_startRead
set_option maxRecDepth 100000 in
theorem gX12_sea_X12_startSo : GoodIn wsX12_sea (wsV RX12 175 RX12 yX12_startSo wsX12_startSo) := goodIn_app (goodIn_of _ (by decide +kernel)) ggX12_sea_X12_startSo
set_option maxRecDepth 100000 in
theorem gX12_sea_X12_readLine : GoodIn wsX12_sea (wsV RX12 231 RX12 yX12_readLine wsX12_readLine) := goodIn_app (goodIn_of _ (by decide +kernel)) ggX12_sea_X12_readLine
set_option maxRecDepth 100000 in
theorem gX12_sea_X12_readEnd : GoodIn wsX12_sea (wsV RX12 234 RX12 yX12_readEnd wsX12_readEnd) := goodIn_app (goodIn_of _ (by decide +kernel)) ggX12_sea_X12_readEnd
