theorem dX12_stay_0 : decode cX12_stay 0 = .ok (.iconst 0, 1) := by decide +kernel
theorem dX12_stay_1 : decode cX12_stay 1 = .ok (.istore_n 2, 1) := by decide +kernel
theorem dX12_stay_2 : decode cX12_stay 2 = .ok (.iload_n 2, 1) := by decide +kernel
theorem dX12_stay_3 : decode cX12_stay 3 = .ok (.bipush 64, 2) := by decide +kernel
theorem dX12_stay_5 : decode cX12_stay 5 = .ok (.if_icmp .ge 41, 3) := by decide +kernel
theorem dX12_stay_8 : decode cX12_stay 8 = .ok (.aload_n 0, 1) := by decide +kernel
theorem dX12_stay_9 : decode cX12_stay 9 = .ok (.getfield 98, 3) := by decide +kernel
theorem dX12_stay_12 : decode cX12_stay 12 = .ok (.bipush 67, 2) := by decide +kernel
theorem dX12_stay_14 : decode cX12_stay 14 = .ok (.iload_n 2, 1) := by decide +kernel
theorem dX12_stay_15 : decode cX12_stay 15 = .ok (.iadd, 1) := by decide +kernel
theorem dX12_stay_16 : decode cX12_stay 16 = .ok (.iaload, 1) := by decide +kernel
theorem dX12_stay_17 : decode cX12_stay 17 = .ok (.istore_n 3, 1) := by decide +kernel
theorem dX12_stay_18 : decode cX12_stay 18 = .ok (.aload_n 0, 1) := by decide +kernel
theorem dX12_stay_19 : decode cX12_stay 19 = .ok (.getfield 98, 3) := by decide +kernel
theorem dX12_stay_22 : decode cX12_stay 22 = .ok (.bipush 67, 2) := by decide +kernel
theorem dX12_stay_24 : decode cX12_stay 24 = .ok (.iload_n 2, 1) := by decide +kernel
theorem dX12_stay_25 : decode cX12_stay 25 = .ok (.iadd, 1) := by decide +kernel
theorem dX12_stay_26 : decode cX12_stay 26 = .ok (.aload_n 0, 1) := by decide +kernel
theorem dX12_stay_27 : decode cX12_stay 27 = .ok (.getfield 110, 3) := by decide +kernel
theorem dX12_stay_30 : decode cX12_stay 30 = .ok (.iload_n 2, 1) := by decide +kernel
theorem dX12_stay_31 : decode cX12_stay 31 = .ok (.iaload, 1) := by decide +kernel
theorem dX12_stay_32 : decode cX12_stay 32 = .ok (.iastore, 1) := by decide +kernel
theorem dX12_stay_33 : decode cX12_stay 33 = .ok (.aload_n 0, 1) := by decide +kernel
theorem dX12_stay_34 : decode cX12_stay 34 = .ok (.getfield 110, 3) := by decide +kernel
theorem dX12_stay_37 : decode cX12_stay 37 = .ok (.iload_n 2, 1) := by decide +kernel
theorem dX12_stay_38 : decode cX12_stay 38 = .ok (.iload_n 3, 1) := by decide +kernel
theorem dX12_stay_39 : decode cX12_stay 39 = .ok (.iastore, 1) := by decide +kernel
theorem dX12_stay_40 : decode cX12_stay 40 = .ok (.iinc 2 1, 3) := by decide +kernel
theorem dX12_stay_43 : decode cX12_stay 43 = .ok (.goto (-41), 3) := by decide +kernel
theorem dX12_stay_46 : decode cX12_stay 46 = .ok (.iload_n 1, 1) := by decide +kernel
theorem dX12_stay_47 : decode cX12_stay 47 = .ok (.ifCond .ne 4, 3) := by decide +kernel
theorem dX12_stay_51 : decode cX12_stay 51 = .ok (.aload_n 0, 1) := by decide +kernel
theorem dX12_stay_52 : decode cX12_stay 52 = .ok (.invokevirtual 295, 3) := by decide +kernel
theorem dX12_stay_55 : decode cX12_stay 55 = .ok (.aload_n 0, 1) := by decide +kernel
theorem dX12_stay_56 : decode cX12_stay 56 = .ok (.invokevirtual 395, 3) := by decide +kernel
theorem dX12_stay_59 : decode cX12_stay 59 = .ok (.return_, 1) := by decide +kernel
theorem dX12_stay_50 : decode cX12_stay 50 = .ok (.return_, 1) := by decide +kernel
theorem dX12_book_0 : decode cX12_book 0 = .ok (.aload_n 0, 1) := by decide +kernel
theorem dX12_book_1 : decode cX12_book 1 = .ok (.iconst 0, 1) := by decide +kernel
theorem dX12_book_2 : decode cX12_book 2 = .ok (.putfield 1, 3) := by decide +kernel
theorem dX12_book_5 : decode cX12_book 5 = .ok (.iload_n 1, 1) := by decide +kernel
theorem dX12_book_6 : decode cX12_book 6 = .ok (.iconst 0, 1) := by decide +kernel
theorem dX12_book_7 : decode cX12_book 7 = .ok (.iconst 1, 1) := by decide +kernel
theorem dX12_book_8 : decode cX12_book 8 = .ok (.invokestatic 75, 3) := by decide +kernel
theorem dX12_book_11 : decode cX12_book 11 = .ok (.ifCond .ne 7, 3) := by decide +kernel
theorem dX12_book_18 : decode cX12_book 18 = .ok (.aload_n 0, 1) := by decide +kernel
theorem dX12_book_19 : decode cX12_book 19 = .ok (.sipush 400, 3) := by decide +kernel
theorem dX12_book_22 : decode cX12_book 22 = .ok (.invokevirtual 228, 3) := by decide +kernel
theorem dX12_book_25 : decode cX12_book 25 = .ok (.aload_n 0, 1) := by decide +kernel
theorem dX12_book_26 : decode cX12_book 26 = .ok (.iconst 0, 1) := by decide +kernel
theorem dX12_book_27 : decode cX12_book 27 = .ok (.putfield 404, 3) := by decide +kernel
theorem dX12_book_30 : decode cX12_book 30 = .ok (.aload_n 0, 1) := by decide +kernel
theorem dX12_book_31 : decode cX12_book 31 = .ok (.getfield 30, 3) := by decide +kernel
theorem dX12_book_34 : decode cX12_book 34 = .ok (.ifCond .eq 31, 3) := by decide +kernel
theorem dX12_book_65 : decode cX12_book 65 = .ok (.aload_n 0, 1) := by decide +kernel
theorem dX12_book_66 : decode cX12_book 66 = .ok (.invokevirtual 392, 3) := by decide +kernel
theorem dX12_book_69 : decode cX12_book 69 = .ok (.iconst 0, 1) := by decide +kernel
theorem dX12_book_70 : decode cX12_book 70 = .ok (.istore_n 2, 1) := by decide +kernel
theorem dX12_book_71 : decode cX12_book 71 = .ok (.iconst 0, 1) := by decide +kernel
theorem dX12_book_72 : decode cX12_book 72 = .ok (.istore_n 3, 1) := by decide +kernel
theorem dX12_book_73 : decode cX12_book 73 = .ok (.iload_n 2, 1) := by decide +kernel
theorem dX12_book_74 : decode cX12_book 74 = .ok (.aload_n 0, 1) := by decide +kernel
theorem dX12_book_75 : decode cX12_book 75 = .ok (.getfield 404, 3) := by decide +kernel
theorem dX12_book_78 : decode cX12_book 78 = .ok (.if_icmp .ge 25, 3) := by decide +kernel
theorem dX12_book_103 : decode cX12_book 103 = .ok (.aload_n 0, 1) := by decide +kernel
theorem dX12_book_104 : decode cX12_book 104 = .ok (.getfield 166, 3) := by decide +kernel
theorem dX12_book_107 : decode cX12_book 107 = .ok (.iconst 0, 1) := by decide +kernel
theorem dX12_book_108 : decode cX12_book 108 = .ok (.iload_n 3, 1) := by decide +kernel
theorem dX12_book_109 : decode cX12_book 109 = .ok (.iastore, 1) := by decide +kernel
theorem dX12_book_110 : decode cX12_book 110 = .ok (.aload_n 0, 1) := by decide +kernel
theorem dX12_book_111 : decode cX12_book 111 = .ok (.getfield 166, 3) := by decide +kernel
theorem dX12_book_114 : decode cX12_book 114 = .ok (.iconst 1, 1) := by decide +kernel
theorem dX12_book_115 : decode cX12_book 115 = .ok (.iload_n 2, 1) := by decide +kernel
theorem dX12_book_116 : decode cX12_book 116 = .ok (.iastore, 1) := by decide +kernel
theorem dX12_book_117 : decode cX12_book 117 = .ok (.aload_n 0, 1) := by decide +kernel
theorem dX12_book_118 : decode cX12_book 118 = .ok (.getfield 166, 3) := by decide +kernel
theorem dX12_book_121 : decode cX12_book 121 = .ok (.iconst 2, 1) := by decide +kernel
theorem dX12_book_122 : decode cX12_book 122 = .ok (.aload_n 0, 1) := by decide +kernel
theorem dX12_book_123 : decode cX12_book 123 = .ok (.getfield 98, 3) := by decide +kernel
theorem dX12_book_126 : decode cX12_book 126 = .ok (.bipush 67, 2) := by decide +kernel
theorem dX12_book_128 : decode cX12_book 128 = .ok (.iaload, 1) := by decide +kernel
theorem dX12_book_129 : decode cX12_book 129 = .ok (.iastore, 1) := by decide +kernel
theorem dX12_book_130 : decode cX12_book 130 = .ok (.aload_n 0, 1) := by decide +kernel
theorem dX12_book_131 : decode cX12_book 131 = .ok (.getfield 166, 3) := by decide +kernel
theorem dX12_book_134 : decode cX12_book 134 = .ok (.iconst 3, 1) := by decide +kernel
theorem dX12_book_135 : decode cX12_book 135 = .ok (.aload_n 0, 1) := by decide +kernel
theorem dX12_book_136 : decode cX12_book 136 = .ok (.invokevirtual 269, 3) := by decide +kernel
theorem dX12_book_139 : decode cX12_book 139 = .ok (.iastore, 1) := by decide +kernel
theorem dX12_book_140 : decode cX12_book 140 = .ok (.aload_n 0, 1) := by decide +kernel
theorem dX12_book_141 : decode cX12_book 141 = .ok (.iconst 1, 1) := by decide +kernel
theorem dX12_book_142 : decode cX12_book 142 = .ok (.putfield 419, 3) := by decide +kernel
theorem dX12_book_145 : decode cX12_book 145 = .ok (.aload_n 0, 1) := by decide +kernel
theorem dX12_book_146 : decode cX12_book 146 = .ok (.iload_n 1, 1) := by decide +kernel
theorem dX12_book_147 : decode cX12_book 147 = .ok (.iconst 1, 1) := by decide +kernel
theorem dX12_book_148 : decode cX12_book 148 = .ok (.if_icmp .ne 11, 3) := by decide +kernel
theorem dX12_book_159 : decode cX12_book 159 = .ok (.iconst 0, 1) := by decide +kernel
theorem dX12_book_160 : decode cX12_book 160 = .ok (.invokevirtual 422, 3) := by decide +kernel
theorem dX12_book_163 : decode cX12_book 163 = .ok (.iload_n 3, 1) := by decide +kernel
theorem dX12_book_164 : decode cX12_book 164 = .ok (.ifCond .ne 7, 3) := by decide +kernel
theorem dX12_book_167 : decode cX12_book 167 = .ok (.iconst (-1), 1) := by decide +kernel
theorem dX12_book_168 : decode cX12_book 168 = .ok (.goto 4, 3) := by decide +kernel
theorem dX12_book_172 : decode cX12_book 172 = .ok (.ireturn, 1) := by decide +kernel
theorem dX12_book_151 : decode cX12_book 151 = .ok (.iload_n 2, 1) := by decide +kernel
theorem dX12_book_152 : decode cX12_book 152 = .ok (.ifCond .le 7, 3) := by decide +kernel
theorem dX12_book_37 : decode cX12_book 37 = .ok (.aload_n 0, 1) := by decide +kernel
theorem dX12_book_38 : decode cX12_book 38 = .ok (.invokevirtual 413, 3) := by decide +kernel
theorem dX12_book_41 : decode cX12_book 41 = .ok (.ifCond .ne 11, 3) := by decide +kernel
theorem dX12_book_52 : decode cX12_book 52 = .ok (.aload_n 0, 1) := by decide +kernel
theorem dX12_book_53 : decode cX12_book 53 = .ok (.dup, 1) := by decide +kernel
theorem dX12_book_54 : decode cX12_book 54 = .ok (.getfield 404, 3) := by decide +kernel
theorem dX12_book_57 : decode cX12_book 57 = .ok (.iconst 1, 1) := by decide +kernel
theorem dX12_book_58 : decode cX12_book 58 = .ok (.iadd, 1) := by decide +kernel
theorem dX12_book_59 : decode cX12_book 59 = .ok (.putfield 404, 3) := by decide +kernel
theorem dX12_book_62 : decode cX12_book 62 = .ok (.goto (-32), 3) := by decide +kernel
theorem dX12_book_44 : decode cX12_book 44 = .ok (.bipush (-2), 2) := by decide +kernel
theorem dX12_book_46 : decode cX12_book 46 = .ok (.aload_n 0, 1) := by decide +kernel
theorem dX12_book_47 : decode cX12_book 47 = .ok (.getfield 69, 3) := by decide +kernel
theorem dX12_book_50 : decode cX12_book 50 = .ok (.isub, 1) := by decide +kernel
theorem dX12_book_51 : decode cX12_book 51 = .ok (.ireturn, 1) := by decide +kernel
theorem dX12_book_81 : decode cX12_book 81 = .ok (.iload_n 3, 1) := by decide +kernel
theorem dX12_book_82 : decode cX12_book 82 = .ok (.ifCond .ne 21, 3) := by decide +kernel
theorem dX12_book_85 : decode cX12_book 85 = .ok (.aload_n 0, 1) := by decide +kernel
theorem dX12_book_86 : decode cX12_book 86 = .ok (.iconst 4, 1) := by decide +kernel
theorem dX12_book_87 : decode cX12_book 87 = .ok (.iload_n 2, 1) := by decide +kernel
theorem dX12_book_88 : decode cX12_book 88 = .ok (.imul, 1) := by decide +kernel
theorem dX12_book_89 : decode cX12_book 89 = .ok (.invokevirtual 416, 3) := by decide +kernel
theorem dX12_book_92 : decode cX12_book 92 = .ok (.istore_n 3, 1) := by decide +kernel
theorem dX12_book_93 : decode cX12_book 93 = .ok (.iload_n 3, 1) := by decide +kernel
theorem dX12_book_94 : decode cX12_book 94 = .ok (.ifCond .ne (-21), 3) := by decide +kernel
theorem dX12_book_97 : decode cX12_book 97 = .ok (.iinc 2 1, 3) := by decide +kernel
theorem dX12_book_100 : decode cX12_book 100 = .ok (.goto (-27), 3) := by decide +kernel
theorem dX12_book_171 : decode cX12_book 171 = .ok (.iload_n 2, 1) := by decide +kernel
theorem dX12_book_155 : decode cX12_book 155 = .ok (.iconst 1, 1) := by decide +kernel
theorem dX12_book_156 : decode cX12_book 156 = .ok (.goto 4, 3) := by decide +kernel
theorem dX12_book_14 : decode cX12_book 14 = .ok (.sipush (-1000), 3) := by decide +kernel
theorem dX12_book_17 : decode cX12_book 17 = .ok (.ireturn, 1) := by decide +kernel
set_option maxRecDepth 100000 in
theorem ggX12_stay_X12_snap : GoodIn wsX12_stay wsX12_snap := goodIn_r _ [7, 8, 9, 1, 14, 15, 16, 17, 18, 19, 20, 21, 22, 23, 24, 25, 26, 27, 28, 29, 30, 31, 32, 33, 34, 35, 36, 37, 38, 39, 40, 41, 42, 43, 44, 45, 46, 47, 48, 49, 50, 51, 52, 53, 54, 55, 56, 57, 58, 59, 60, 61, 62, 63, 64, 65] rfl (by decide +kernel)
set_option maxRecDepth 100000 in
theorem ggX12_stay_X12_takeBack : GoodIn wsX12_stay wsX12_takeBack := goodIn_r _ [13, 1, 2, 14, 15, 16, 17, 18, 19, 20, 21, 22, 23, 24, 25, 26, 27, 28, 29, 30, 31, 32, 33, 34, 35, 36, 37, 38, 39, 40, 41, 42, 43, 44, 45, 46, 47, 48, 49, 50, 51, 52, 53, 54, 55, 56, 57, 58, 59, 60, 61, 62, 63, 64, 65] rfl (by decide +kernel)
set_option maxRecDepth 100000 in
theorem ggX12_book_X12_isIn : GoodIn wsX12_book wsX12_isIn := goodIn_r _ [11] rfl (by decide +kernel)
set_option maxRecDepth 100000 in
theorem ggX12_book_X12_begin : GoodIn wsX12_book wsX12_begin := goodIn_r _ [15, 1, 16, 17, 18, 19, 20, 21, 22, 10, 23, 24, 25, 26, 27, 28, 29, 30, 3, 31, 32, 33, 34, 35, 36, 37, 38, 39, 40, 41, 42, 43, 44, 45, 200, 201, 202, 203, 204, 205, 206, 207, 208, 209, 210, 211, 212, 213, 214, 215, 216, 217, 218, 219, 220, 221, 222, 223, 224, 225, 226, 227, 228, 229, 230, 231, 232, 233, 234, 235, 236, 237, 238, 239, 240, 241, 242, 243, 244, 245, 246, 247, 248, 249, 250, 251] rfl (by decide +kernel)
set_option maxRecDepth 100000 in
theorem ggX12_book_X12_layAside : GoodIn wsX12_book wsX12_layAside := goodIn_r _ [105, 106, 6, 200, 201, 202, 203, 204, 205, 206, 207, 208, 209, 210, 211, 212, 213, 214, 215, 216, 217, 218, 219, 220, 221, 222, 223, 224, 225, 226, 227, 228, 229, 230, 231, 232, 233, 234, 235, 236, 237, 238, 239, 240, 241, 242, 243, 244, 245, 246, 247, 248, 249, 250, 251] rfl (by decide +kernel)
set_option maxRecDepth 100000 in
theorem ggX12_book_X12_eaten : GoodIn wsX12_book wsX12_eaten := goodIn_r _ [185, 6, 126, 127, 128, 10, 129, 200, 201, 202, 203, 204, 205, 206, 207, 208, 209, 210, 211, 212, 213, 214, 215, 216, 217, 218, 219, 220, 221, 222, 223, 224, 225, 226, 227, 228, 229, 230, 231, 232, 233, 234, 235, 236, 237, 238, 239, 240, 241, 242, 243, 244, 245, 246, 247, 248, 249, 250, 251] rfl (by decide +kernel)
set_option maxRecDepth 100000 in
theorem ggX12_book_X12_stay : GoodIn wsX12_book wsX12_stay := goodIn_r _ [189, 6, 106, 190, 191, 192, 10, 193, 194, 195, 196, 197, 198, 199, 200, 201, 202, 203, 204, 205, 206, 207, 208, 209, 210, 211, 212, 213, 214, 215, 216, 217, 218, 219, 220, 221, 222, 223, 224, 225, 226, 227, 228, 229, 230, 231, 232, 233, 234, 235, 236, 237, 238, 239, 240, 241, 242, 243, 244, 245, 246, 247, 248, 249, 250, 251] rfl (by decide +kernel)
set_option maxRecDepth 100000 in
theorem ggX12_book_X12_readBookLine : GoodIn wsX12_book wsX12_readBookLine := goodIn_r _ [49, 50, 6, 32, 2, 51, 52, 53, 54, 10, 55, 3, 56, 57, 58, 59, 60, 61, 34, 35, 62, 63, 64, 65, 66, 67, 68, 69, 18, 30, 4, 70, 71, 72, 25, 26, 27, 28, 19, 16, 29, 17, 31, 33, 36, 37, 38, 39, 40, 41, 42, 43, 44, 45, 73, 74, 75, 76, 77, 78, 79, 80, 81, 82, 83, 84, 85, 86, 87, 88, 89, 8, 9, 11, 90, 91, 92, 93, 94, 95, 96, 97, 98, 99, 100, 101, 200, 201, 202, 203, 204, 205, 206, 207, 208, 209, 210, 211, 212, 213, 214, 215, 216, 217, 218, 219, 220, 221, 222, 223, 224, 225, 226, 227, 228, 229, 230, 231, 232, 233, 234, 235, 236, 237, 238, 239, 240, 241, 242, 243, 244, 245, 246, 247, 248, 249, 250, 251] rfl (by decide +kernel)
set_option maxRecDepth 100000 in
theorem ggX12_book_X12_goBy : GoodIn wsX12_book wsX12_goBy := goodIn_r _ [110, 51, 6, 111, 112, 113, 10, 114, 115, 116, 117, 118, 119, 120, 121, 122, 123, 124, 125, 126, 127, 128, 129, 130, 131, 132, 133, 134, 135, 136, 137, 138, 139, 140, 141, 142, 143, 144, 145, 146, 147, 148, 149, 150, 151, 152, 8, 9, 11, 153, 154, 155, 156, 157, 158, 159, 160, 161, 162, 163, 164, 165, 166, 167, 168, 169, 170, 171, 172, 173, 174, 175, 176, 177, 178, 179, 180, 181, 200, 201, 202, 203, 204, 205, 206, 207, 208, 209, 210, 211, 212, 213, 214, 215, 216, 217, 218, 219, 220, 221, 222, 223, 224, 225, 226, 227, 228, 229, 230, 231, 232, 233, 234, 235, 236, 237, 238, 239, 240, 241, 242, 243, 244, 245, 246, 247, 248, 249, 250, 251] rfl (by decide +kernel)
set_option maxRecDepth 100000 in
theorem gX12_stay_X12_snap : GoodIn wsX12_stay (wsV RX12 295 RX12 yX12_snap wsX12_snap) := goodIn_app (goodIn_of _ (by decide +kernel)) ggX12_stay_X12_snap
set_option maxRecDepth 100000 in
theorem gX12_stay_X12_takeBack : GoodIn wsX12_stay (wsV RX12 395 RX12 yX12_takeBack wsX12_takeBack) := goodIn_app (goodIn_of _ (by decide +kernel)) ggX12_stay_X12_takeBack
set_option maxRecDepth 100000 in
theorem gX12_book_X12_isIn : GoodIn wsX12_book (va_wsS RX12 75 yX12_isIn wsX12_isIn) := goodIn_app (goodIn_of _ (by decide +kernel)) ggX12_book_X12_isIn
set_option maxRecDepth 100000 in
theorem gX12_book_X12_begin : GoodIn wsX12_book (wsV RX12 228 RX12 yX12_begin wsX12_begin) := goodIn_app (goodIn_of _ (by decide +kernel)) ggX12_book_X12_begin
set_option maxRecDepth 100000 in
theorem gX12_book_X12_layAside : GoodIn wsX12_book (wsV RX12 392 RX12 yX12_layAside wsX12_layAside) := goodIn_app (goodIn_of _ (by decide +kernel)) ggX12_book_X12_layAside
set_option maxRecDepth 100000 in
theorem gX12_book_X12_eaten : GoodIn wsX12_book (wsV RX12 269 RX12 yX12_eaten wsX12_eaten) := goodIn_app (goodIn_of _ (by decide +kernel)) ggX12_book_X12_eaten
set_option maxRecDepth 100000 in
theorem gX12_book_X12_stay : GoodIn wsX12_book (wsV RX12 422 RX12 yX12_stay wsX12_stay) := goodIn_app (goodIn_of _ (by decide +kernel)) ggX12_book_X12_stay
set_option maxRecDepth 100000 in
theorem gX12_book_X12_readBookLine : GoodIn wsX12_book (wsV RX12 413 RX12 yX12_readBookLine wsX12_readBookLine) := goodIn_app (goodIn_of _ (by decide +kernel)) ggX12_book_X12_readBookLine
set_option maxRecDepth 100000 in
theorem gX12_book_X12_goBy : GoodIn wsX12_book (wsV RX12 416 RX12 yX12_goBy wsX12_goBy) := goodIn_app (goodIn_of _ (by decide +kernel)) ggX12_book_X12_goBy
