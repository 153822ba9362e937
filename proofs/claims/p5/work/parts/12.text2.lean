theorem dX8_read_0 : decode cX8_read 0 = .ok (.aload_n 2, 1) := by decide +kernel
theorem dX8_read_1 : decode cX8_read 1 = .ok (.invokevirtual 11, 3) := by decide +kernel
theorem dX8_read_4 : decode cX8_read 4 = .ok (.aload_n 0, 1) := by decide +kernel
theorem dX8_read_5 : decode cX8_read 5 = .ok (.iconst 0, 1) := by decide +kernel
theorem dX8_read_6 : decode cX8_read 6 = .ok (.putfield 16, 3) := by decide +kernel
theorem dX8_read_9 : decode cX8_read 9 = .ok (.iconst 0, 1) := by decide +kernel
theorem dX8_read_10 : decode cX8_read 10 = .ok (.istore_n 3, 1) := by decide +kernel
theorem dX8_read_11 : decode cX8_read 11 = .ok (.iload_n 3, 1) := by decide +kernel
theorem dX8_read_12 : decode cX8_read 12 = .ok (.sipush 900, 3) := by decide +kernel
theorem dX8_read_15 : decode cX8_read 15 = .ok (.if_icmp .ge 160, 3) := by decide +kernel
theorem dX8_read_18 : decode cX8_read 18 = .ok (.aload_n 1, 1) := by decide +kernel
theorem dX8_read_19 : decode cX8_read 19 = .ok (.getfield 22, 3) := by decide +kernel
theorem dX8_read_22 : decode cX8_read 22 = .ok (.ifCond .eq 153, 3) := by decide +kernel
theorem dX8_read_175 : decode cX8_read 175 = .ok (.iload_n 3, 1) := by decide +kernel
theorem dX8_read_176 : decode cX8_read 176 = .ok (.ireturn, 1) := by decide +kernel
theorem dX8_read_25 : decode cX8_read 25 = .ok (.aload_n 1, 1) := by decide +kernel
theorem dX8_read_26 : decode cX8_read 26 = .ok (.invokevirtual 25, 3) := by decide +kernel
theorem dX8_read_29 : decode cX8_read 29 = .ok (.istore 4, 2) := by decide +kernel
theorem dX8_read_31 : decode cX8_read 31 = .ok (.iload 4, 2) := by decide +kernel
theorem dX8_read_33 : decode cX8_read 33 = .ok (.tableswitch 100 0 6 #[43, 54, 65, 76, 87, 87, 87], 43) := by decide +kernel
theorem dX8_read_133 : decode cX8_read 133 = .ok (.aload_n 1, 1) := by decide +kernel
theorem dX8_read_134 : decode cX8_read 134 = .ok (.iconst 1, 1) := by decide +kernel
theorem dX8_read_135 : decode cX8_read 135 = .ok (.invokevirtual 46, 3) := by decide +kernel
theorem dX8_read_138 : decode cX8_read 138 = .ok (.istore 5, 2) := by decide +kernel
theorem dX8_read_76 : decode cX8_read 76 = .ok (.aload_n 0, 1) := by decide +kernel
theorem dX8_read_77 : decode cX8_read 77 = .ok (.aload_n 1, 1) := by decide +kernel
theorem dX8_read_78 : decode cX8_read 78 = .ok (.aload_n 2, 1) := by decide +kernel
theorem dX8_read_79 : decode cX8_read 79 = .ok (.invokevirtual 29, 3) := by decide +kernel
theorem dX8_read_82 : decode cX8_read 82 = .ok (.istore 5, 2) := by decide +kernel
theorem dX8_read_84 : decode cX8_read 84 = .ok (.goto 56, 3) := by decide +kernel
theorem dX8_read_87 : decode cX8_read 87 = .ok (.aload_n 0, 1) := by decide +kernel
theorem dX8_read_88 : decode cX8_read 88 = .ok (.aload_n 1, 1) := by decide +kernel
theorem dX8_read_89 : decode cX8_read 89 = .ok (.aload_n 2, 1) := by decide +kernel
theorem dX8_read_90 : decode cX8_read 90 = .ok (.invokevirtual 33, 3) := by decide +kernel
theorem dX8_read_93 : decode cX8_read 93 = .ok (.istore 5, 2) := by decide +kernel
theorem dX8_read_95 : decode cX8_read 95 = .ok (.goto 45, 3) := by decide +kernel
theorem dX8_read_98 : decode cX8_read 98 = .ok (.aload_n 0, 1) := by decide +kernel
theorem dX8_read_99 : decode cX8_read 99 = .ok (.aload_n 1, 1) := by decide +kernel
theorem dX8_read_100 : decode cX8_read 100 = .ok (.aload_n 2, 1) := by decide +kernel
theorem dX8_read_101 : decode cX8_read 101 = .ok (.invokevirtual 36, 3) := by decide +kernel
theorem dX8_read_104 : decode cX8_read 104 = .ok (.istore 5, 2) := by decide +kernel
theorem dX8_read_106 : decode cX8_read 106 = .ok (.goto 34, 3) := by decide +kernel
theorem dX8_read_109 : decode cX8_read 109 = .ok (.aload_n 0, 1) := by decide +kernel
theorem dX8_read_110 : decode cX8_read 110 = .ok (.aload_n 1, 1) := by decide +kernel
theorem dX8_read_111 : decode cX8_read 111 = .ok (.aload_n 2, 1) := by decide +kernel
theorem dX8_read_112 : decode cX8_read 112 = .ok (.invokevirtual 39, 3) := by decide +kernel
theorem dX8_read_115 : decode cX8_read 115 = .ok (.istore 5, 2) := by decide +kernel
theorem dX8_read_117 : decode cX8_read 117 = .ok (.goto 23, 3) := by decide +kernel
theorem dX8_read_120 : decode cX8_read 120 = .ok (.aload_n 0, 1) := by decide +kernel
theorem dX8_read_121 : decode cX8_read 121 = .ok (.aload_n 1, 1) := by decide +kernel
theorem dX8_read_122 : decode cX8_read 122 = .ok (.aload_n 2, 1) := by decide +kernel
theorem dX8_read_123 : decode cX8_read 123 = .ok (.iload 4, 2) := by decide +kernel
theorem dX8_read_125 : decode cX8_read 125 = .ok (.invokevirtual 42, 3) := by decide +kernel
theorem dX8_read_128 : decode cX8_read 128 = .ok (.istore 5, 2) := by decide +kernel
theorem dX8_read_130 : decode cX8_read 130 = .ok (.goto 10, 3) := by decide +kernel
theorem dX8_read_140 : decode cX8_read 140 = .ok (.iload 5, 2) := by decide +kernel
theorem dX8_read_142 : decode cX8_read 142 = .ok (.ifCond .eq 12, 3) := by decide +kernel
theorem dX8_read_154 : decode cX8_read 154 = .ok (.iconst (-1), 1) := by decide +kernel
theorem dX8_read_155 : decode cX8_read 155 = .ok (.ireturn, 1) := by decide +kernel
theorem dX8_read_145 : decode cX8_read 145 = .ok (.aload_n 1, 1) := by decide +kernel
theorem dX8_read_146 : decode cX8_read 146 = .ok (.bipush 59, 2) := by decide +kernel
theorem dX8_read_148 : decode cX8_read 148 = .ok (.invokevirtual 50, 3) := by decide +kernel
theorem dX8_read_151 : decode cX8_read 151 = .ok (.ifCond .ne 5, 3) := by decide +kernel
theorem dX8_read_156 : decode cX8_read 156 = .ok (.aload_n 0, 1) := by decide +kernel
theorem dX8_read_157 : decode cX8_read 157 = .ok (.dup, 1) := by decide +kernel
theorem dX8_read_158 : decode cX8_read 158 = .ok (.getfield 16, 3) := by decide +kernel
theorem dX8_read_161 : decode cX8_read 161 = .ok (.iconst 1, 1) := by decide +kernel
theorem dX8_read_162 : decode cX8_read 162 = .ok (.iload 4, 2) := by decide +kernel
theorem dX8_read_164 : decode cX8_read 164 = .ok (.ishl, 1) := by decide +kernel
theorem dX8_read_165 : decode cX8_read 165 = .ok (.ior, 1) := by decide +kernel
theorem dX8_read_166 : decode cX8_read 166 = .ok (.putfield 16, 3) := by decide +kernel
theorem dX8_read_169 : decode cX8_read 169 = .ok (.iinc 3 1, 3) := by decide +kernel
theorem dX8_read_172 : decode cX8_read 172 = .ok (.goto (-161), 3) := by decide +kernel
set_option maxRecDepth 100000 in
theorem ggX8_read_X7_empty : GoodIn wsX8_read wsX7_empty := goodIn_r _ [7, 8, 9, 10, 11, 12, 13, 14, 15, 16, 17, 18, 208, 209, 210, 211, 212, 213, 214, 215, 216, 217, 218, 219, 220, 221, 222, 223, 224, 225, 226] rfl (by decide +kernel)
set_option maxRecDepth 100000 in
theorem ggX8_read_X5_nextWord : GoodIn wsX8_read wsX5_nextWord := goodIn_r _ [23, 24, 197, 198, 199, 200, 201, 202, 203, 204, 205, 206, 207] rfl (by decide +kernel)
set_option maxRecDepth 100000 in
theorem ggX8_read_X5_refuse : GoodIn wsX8_read wsX5_refuse := goodIn_r _ [35, 36, 37, 38, 39, 22, 40, 41, 42, 197, 198, 199, 200, 201, 202, 203, 204, 205, 206, 207] rfl (by decide +kernel)
set_option maxRecDepth 100000 in
theorem ggX8_read_X8_readSize : GoodIn wsX8_read wsX8_readSize := goodIn_r _ [29, 1, 30, 31, 32, 33, 34, 22, 35, 36, 37, 38, 39, 40, 41, 42, 43, 44, 45, 46, 47, 48, 49, 24, 50, 51, 52, 53, 54, 55, 56, 57, 58, 59, 60, 61, 62, 63, 64, 65, 66, 67, 68, 69, 70, 71, 72, 73, 74, 75, 76, 77, 78, 79, 80, 81, 82, 83, 84, 85, 86, 87, 88, 89, 90, 91, 92, 93, 94, 95, 96, 97, 98, 99, 100, 101, 102, 103, 104, 105, 106, 107, 108, 109, 110, 111, 112, 113, 114, 115, 116, 117, 118, 119, 120, 121, 122, 123, 124, 125, 126, 196, 208, 209, 210, 211, 212, 213, 214, 215, 216, 217, 218, 219, 220, 221, 222, 223, 224, 225, 226, 197, 198, 199, 200, 201, 202, 203, 204, 205, 206, 207] rfl (by decide +kernel)
set_option maxRecDepth 100000 in
theorem ggX8_read_X8_readThick : GoodIn wsX8_read wsX8_readThick := goodIn_r _ [130, 131, 43, 44, 45, 22, 46, 47, 48, 49, 36, 24, 50, 51, 52, 53, 54, 55, 56, 57, 58, 59, 60, 61, 62, 63, 64, 65, 66, 67, 68, 69, 70, 71, 72, 73, 74, 75, 76, 77, 78, 79, 80, 81, 82, 83, 84, 85, 86, 87, 88, 89, 90, 91, 92, 93, 94, 95, 96, 97, 98, 99, 100, 101, 102, 103, 104, 105, 106, 107, 108, 109, 110, 111, 112, 113, 114, 115, 116, 117, 118, 119, 120, 132, 133, 134, 28, 135, 30, 136, 31, 121, 122, 123, 124, 125, 33, 34, 35, 37, 38, 39, 40, 41, 42, 126, 137, 138, 139, 6, 140, 18, 141, 142, 143, 144, 16, 145, 146, 208, 209, 210, 211, 212, 213, 214, 215, 216, 217, 218, 219, 220, 221, 222, 223, 224, 225, 226, 197, 198, 199, 200, 201, 202, 203, 204, 205, 206, 207] rfl (by decide +kernel)
set_option maxRecDepth 100000 in
theorem ggX8_read_X8_readLump : GoodIn wsX8_read wsX8_readLump := goodIn_r _ [150, 151, 152, 32, 33, 34, 22, 35, 36, 37, 38, 39, 40, 41, 42, 43, 44, 45, 46, 47, 48, 49, 24, 50, 51, 52, 53, 54, 55, 56, 57, 58, 59, 60, 61, 62, 63, 64, 65, 66, 67, 68, 69, 70, 71, 72, 73, 74, 75, 76, 77, 78, 79, 80, 81, 82, 83, 84, 85, 86, 87, 88, 89, 90, 91, 92, 93, 94, 95, 96, 97, 98, 99, 100, 101, 102, 103, 104, 105, 106, 107, 108, 109, 110, 111, 112, 113, 114, 115, 116, 117, 118, 119, 120, 153, 154, 155, 28, 156, 19, 20, 21, 23, 157, 158, 159, 6, 160, 16, 161, 162, 163, 164, 165, 17, 166, 132, 133, 134, 135, 30, 136, 31, 121, 122, 123, 124, 125, 126, 137, 138, 139, 140, 18, 141, 142, 143, 144, 145, 146, 167, 168, 169, 170, 208, 209, 210, 211, 212, 213, 214, 215, 216, 217, 218, 219, 220, 221, 222, 223, 224, 225, 226, 197, 198, 199, 200, 201, 202, 203, 204, 205, 206, 207] rfl (by decide +kernel)
set_option maxRecDepth 100000 in
theorem ggX8_read_X8_readBoat : GoodIn wsX8_read wsX8_readBoat := goodIn_r _ [174, 175, 152, 32, 33, 34, 22, 35, 36, 37, 38, 39, 40, 41, 42, 43, 44, 45, 46, 47, 48, 49, 24, 50, 51, 52, 53, 54, 55, 56, 57, 58, 59, 60, 61, 62, 63, 64, 65, 66, 67, 68, 69, 70, 71, 72, 73, 74, 75, 76, 77, 78, 79, 80, 81, 82, 83, 84, 85, 86, 87, 88, 89, 90, 91, 92, 93, 94, 95, 96, 97, 98, 99, 100, 101, 102, 103, 104, 105, 106, 107, 108, 109, 110, 111, 112, 113, 114, 115, 116, 117, 118, 119, 120, 153, 154, 155, 28, 156, 19, 20, 21, 23, 157, 158, 159, 6, 160, 16, 161, 162, 163, 164, 165, 17, 166, 132, 133, 134, 135, 30, 136, 31, 121, 122, 123, 124, 125, 126, 137, 138, 139, 140, 18, 141, 142, 143, 144, 145, 146, 176, 177, 178, 179, 180, 181, 182, 183, 184, 208, 209, 210, 211, 212, 213, 214, 215, 216, 217, 218, 219, 220, 221, 222, 223, 224, 225, 226, 197, 198, 199, 200, 201, 202, 203, 204, 205, 206, 207] rfl (by decide +kernel)
set_option maxRecDepth 100000 in
theorem ggX8_read_X8_readSetting : GoodIn wsX8_read wsX8_readSetting := goodIn_r _ [188, 1, 189, 190, 191, 32, 33, 34, 22, 35, 36, 37, 38, 39, 40, 41, 42, 43, 44, 45, 46, 47, 48, 49, 24, 50, 51, 52, 53, 54, 55, 56, 57, 58, 59, 60, 61, 62, 63, 64, 65, 66, 67, 68, 69, 70, 71, 72, 73, 74, 75, 76, 77, 78, 79, 80, 81, 82, 83, 84, 85, 86, 87, 88, 89, 90, 91, 92, 93, 94, 95, 96, 97, 98, 99, 100, 101, 102, 103, 104, 105, 106, 107, 108, 109, 110, 111, 112, 113, 114, 115, 116, 117, 118, 119, 120, 121, 122, 123, 124, 125, 126, 196, 208, 209, 210, 211, 212, 213, 214, 215, 216, 217, 218, 219, 220, 221, 222, 223, 224, 225, 226, 197, 198, 199, 200, 201, 202, 203, 204, 205, 206, 207] rfl (by decide +kernel)
set_option maxRecDepth 100000 in
theorem ggX8_read_X5_takeSign : GoodIn wsX8_read wsX5_takeSign := goodIn_r _ [195, 51, 125, 33, 34, 22, 35, 36, 37, 38, 39, 40, 41, 42, 126, 44, 45, 46, 47, 48, 49, 24, 50, 52, 53, 54, 55, 56, 57, 58, 59, 60, 61, 62, 63, 64, 65, 66, 67, 68, 69, 70, 71, 72, 73, 74, 75, 76, 77, 78, 79, 80, 81, 82, 83, 84, 85, 86, 87, 88, 89, 90, 91, 92, 93, 94, 95, 96, 97, 98, 99, 100, 101, 102, 103, 104, 105, 106, 107, 108, 109, 110, 111, 112, 113, 114, 115, 116, 117, 118, 119, 120, 197, 198, 199, 200, 201, 202, 203, 204, 205, 206, 207] rfl (by decide +kernel)
set_option maxRecDepth 100000 in
theorem gX8_read_X7_empty : GoodIn wsX8_read (wsV RX8 11 RX7 yX7_empty wsX7_empty) := goodIn_app (goodIn_of _ (by decide +kernel)) ggX8_read_X7_empty
set_option maxRecDepth 100000 in
theorem gX8_read_X5_nextWord : GoodIn wsX8_read (wsV RX8 25 RX5 yX5_nextWord wsX5_nextWord) := goodIn_app (goodIn_of _ (by decide +kernel)) ggX8_read_X5_nextWord
set_option maxRecDepth 100000 in
theorem gX8_read_X5_refuse : GoodIn wsX8_read (wsV RX8 46 RX5 yX5_refuse wsX5_refuse) := goodIn_app (goodIn_of _ (by decide +kernel)) ggX8_read_X5_refuse
set_option maxRecDepth 100000 in
theorem gX8_read_X8_readSize : GoodIn wsX8_read (wsV RX8 29 RX8 yX8_readSize wsX8_readSize) := goodIn_app (goodIn_of _ (by decide +kernel)) ggX8_read_X8_readSize
set_option maxRecDepth 100000 in
theorem gX8_read_X8_readThick : GoodIn wsX8_read (wsV RX8 33 RX8 yX8_readThick wsX8_readThick) := goodIn_app (goodIn_of _ (by decide +kernel)) ggX8_read_X8_readThick
set_option maxRecDepth 100000 in
theorem gX8_read_X8_readLump : GoodIn wsX8_read (wsV RX8 36 RX8 yX8_readLump wsX8_readLump) := goodIn_app (goodIn_of _ (by decide +kernel)) ggX8_read_X8_readLump
set_option maxRecDepth 100000 in
theorem gX8_read_X8_readBoat : GoodIn wsX8_read (wsV RX8 39 RX8 yX8_readBoat wsX8_readBoat) := goodIn_app (goodIn_of _ (by decide +kernel)) ggX8_read_X8_readBoat
set_option maxRecDepth 100000 in
theorem gX8_read_X8_readSetting : GoodIn wsX8_read (wsV RX8 42 RX8 yX8_readSetting wsX8_readSetting) := goodIn_app (goodIn_of _ (by decide +kernel)) ggX8_read_X8_readSetting
set_option maxRecDepth 100000 in
theorem gX8_read_X5_takeSign : GoodIn wsX8_read (wsV RX8 50 RX5 yX5_takeSign wsX5_takeSign) := goodIn_app (goodIn_of _ (by decide +kernel)) ggX8_read_X5_takeSign
