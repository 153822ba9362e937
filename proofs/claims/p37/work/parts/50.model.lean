theorem dX12_goBy_0 : decode cX12_goBy 0 = .ok (.aload_n 0, 1) := by decide +kernel
theorem dX12_goBy_1 : decode cX12_goBy 1 = .ok (.getfield 163, 3) := by decide +kernel
theorem dX12_goBy_4 : decode cX12_goBy 4 = .ok (.iload_n 1, 1) := by decide +kernel
theorem dX12_goBy_5 : decode cX12_goBy 5 = .ok (.iaload, 1) := by decide +kernel
theorem dX12_goBy_6 : decode cX12_goBy 6 = .ok (.istore_n 2, 1) := by decide +kernel
theorem dX12_goBy_7 : decode cX12_goBy 7 = .ok (.aload_n 0, 1) := by decide +kernel
theorem dX12_goBy_8 : decode cX12_goBy 8 = .ok (.getfield 163, 3) := by decide +kernel
theorem dX12_goBy_11 : decode cX12_goBy 11 = .ok (.iload_n 1, 1) := by decide +kernel
theorem dX12_goBy_12 : decode cX12_goBy 12 = .ok (.iconst 1, 1) := by decide +kernel
theorem dX12_goBy_13 : decode cX12_goBy 13 = .ok (.iadd, 1) := by decide +kernel
theorem dX12_goBy_14 : decode cX12_goBy 14 = .ok (.iaload, 1) := by decide +kernel
theorem dX12_goBy_15 : decode cX12_goBy 15 = .ok (.istore_n 3, 1) := by decide +kernel
theorem dX12_goBy_16 : decode cX12_goBy 16 = .ok (.aload_n 0, 1) := by decide +kernel
theorem dX12_goBy_17 : decode cX12_goBy 17 = .ok (.getfield 163, 3) := by decide +kernel
theorem dX12_goBy_20 : decode cX12_goBy 20 = .ok (.iload_n 1, 1) := by decide +kernel
theorem dX12_goBy_21 : decode cX12_goBy 21 = .ok (.iconst 2, 1) := by decide +kernel
theorem dX12_goBy_22 : decode cX12_goBy 22 = .ok (.iadd, 1) := by decide +kernel
theorem dX12_goBy_23 : decode cX12_goBy 23 = .ok (.iaload, 1) := by decide +kernel
theorem dX12_goBy_24 : decode cX12_goBy 24 = .ok (.istore 4, 2) := by decide +kernel
theorem dX12_goBy_26 : decode cX12_goBy 26 = .ok (.iload_n 2, 1) := by decide +kernel
theorem dX12_goBy_27 : decode cX12_goBy 27 = .ok (.iconst 5, 1) := by decide +kernel
theorem dX12_goBy_28 : decode cX12_goBy 28 = .ok (.if_icmp .ne 29, 3) := by decide +kernel
theorem dX12_goBy_57 : decode cX12_goBy 57 = .ok (.iload_n 2, 1) := by decide +kernel
theorem dX12_goBy_58 : decode cX12_goBy 58 = .ok (.ifCond .ne 29, 3) := by decide +kernel
theorem dX12_goBy_61 : decode cX12_goBy 61 = .ok (.iload_n 3, 1) := by decide +kernel
theorem dX12_goBy_62 : decode cX12_goBy 62 = .ok (.iload 4, 2) := by decide +kernel
theorem dX12_goBy_64 : decode cX12_goBy 64 = .ok (.aload_n 0, 1) := by decide +kernel
theorem dX12_goBy_65 : decode cX12_goBy 65 = .ok (.getfield 163, 3) := by decide +kernel
theorem dX12_goBy_68 : decode cX12_goBy 68 = .ok (.iload_n 1, 1) := by decide +kernel
theorem dX12_goBy_69 : decode cX12_goBy 69 = .ok (.iconst 3, 1) := by decide +kernel
theorem dX12_goBy_70 : decode cX12_goBy 70 = .ok (.iadd, 1) := by decide +kernel
theorem dX12_goBy_71 : decode cX12_goBy 71 = .ok (.iaload, 1) := by decide +kernel
theorem dX12_goBy_72 : decode cX12_goBy 72 = .ok (.invokestatic 302, 3) := by decide +kernel
theorem dX12_goBy_75 : decode cX12_goBy 75 = .ok (.istore_n 3, 1) := by decide +kernel
theorem dX12_goBy_76 : decode cX12_goBy 76 = .ok (.aload_n 0, 1) := by decide +kernel
theorem dX12_goBy_77 : decode cX12_goBy 77 = .ok (.iload_n 3, 1) := by decide +kernel
theorem dX12_goBy_78 : decode cX12_goBy 78 = .ok (.invokevirtual 332, 3) := by decide +kernel
theorem dX12_goBy_81 : decode cX12_goBy 81 = .ok (.ifCond .ne 6, 3) := by decide +kernel
theorem dX12_goBy_87 : decode cX12_goBy 87 = .ok (.iload_n 2, 1) := by decide +kernel
theorem dX12_goBy_88 : decode cX12_goBy 88 = .ok (.iconst 2, 1) := by decide +kernel
theorem dX12_goBy_89 : decode cX12_goBy 89 = .ok (.if_icmp .eq 8, 3) := by decide +kernel
theorem dX12_goBy_92 : decode cX12_goBy 92 = .ok (.iload_n 2, 1) := by decide +kernel
theorem dX12_goBy_93 : decode cX12_goBy 93 = .ok (.iconst 3, 1) := by decide +kernel
theorem dX12_goBy_94 : decode cX12_goBy 94 = .ok (.if_icmp .ne 39, 3) := by decide +kernel
theorem dX12_goBy_133 : decode cX12_goBy 133 = .ok (.aload_n 0, 1) := by decide +kernel
theorem dX12_goBy_134 : decode cX12_goBy 134 = .ok (.iload_n 2, 1) := by decide +kernel
theorem dX12_goBy_135 : decode cX12_goBy 135 = .ok (.iload_n 3, 1) := by decide +kernel
theorem dX12_goBy_136 : decode cX12_goBy 136 = .ok (.iload 4, 2) := by decide +kernel
theorem dX12_goBy_138 : decode cX12_goBy 138 = .ok (.invokevirtual 291, 3) := by decide +kernel
theorem dX12_goBy_141 : decode cX12_goBy 141 = .ok (.istore 5, 2) := by decide +kernel
theorem dX12_goBy_143 : decode cX12_goBy 143 = .ok (.iload 5, 2) := by decide +kernel
theorem dX12_goBy_145 : decode cX12_goBy 145 = .ok (.ifCond .eq 11, 3) := by decide +kernel
theorem dX12_goBy_156 : decode cX12_goBy 156 = .ok (.aload_n 0, 1) := by decide +kernel
theorem dX12_goBy_157 : decode cX12_goBy 157 = .ok (.iload_n 2, 1) := by decide +kernel
theorem dX12_goBy_158 : decode cX12_goBy 158 = .ok (.iload_n 3, 1) := by decide +kernel
theorem dX12_goBy_159 : decode cX12_goBy 159 = .ok (.iload 4, 2) := by decide +kernel
theorem dX12_goBy_161 : decode cX12_goBy 161 = .ok (.invokevirtual 298, 3) := by decide +kernel
theorem dX12_goBy_164 : decode cX12_goBy 164 = .ok (.iconst 0, 1) := by decide +kernel
theorem dX12_goBy_165 : decode cX12_goBy 165 = .ok (.ireturn, 1) := by decide +kernel
theorem dX12_goBy_148 : decode cX12_goBy 148 = .ok (.bipush 10, 2) := by decide +kernel
theorem dX12_goBy_150 : decode cX12_goBy 150 = .ok (.iload_n 2, 1) := by decide +kernel
theorem dX12_goBy_151 : decode cX12_goBy 151 = .ok (.imul, 1) := by decide +kernel
theorem dX12_goBy_152 : decode cX12_goBy 152 = .ok (.iload 5, 2) := by decide +kernel
theorem dX12_goBy_154 : decode cX12_goBy 154 = .ok (.iadd, 1) := by decide +kernel
theorem dX12_goBy_155 : decode cX12_goBy 155 = .ok (.ireturn, 1) := by decide +kernel
theorem dX12_goBy_84 : decode cX12_goBy 84 = .ok (.bipush 9, 2) := by decide +kernel
theorem dX12_goBy_86 : decode cX12_goBy 86 = .ok (.ireturn, 1) := by decide +kernel
theorem dX12_goBy_97 : decode cX12_goBy 97 = .ok (.aload_n 0, 1) := by decide +kernel
theorem dX12_goBy_98 : decode cX12_goBy 98 = .ok (.iload_n 3, 1) := by decide +kernel
theorem dX12_goBy_99 : decode cX12_goBy 99 = .ok (.iload 4, 2) := by decide +kernel
theorem dX12_goBy_101 : decode cX12_goBy 101 = .ok (.invokevirtual 252, 3) := by decide +kernel
theorem dX12_goBy_104 : decode cX12_goBy 104 = .ok (.ifCond .ne 11, 3) := by decide +kernel
theorem dX12_goBy_115 : decode cX12_goBy 115 = .ok (.bipush 6, 2) := by decide +kernel
theorem dX12_goBy_117 : decode cX12_goBy 117 = .ok (.iload 4, 2) := by decide +kernel
theorem dX12_goBy_119 : decode cX12_goBy 119 = .ok (.imul, 1) := by decide +kernel
theorem dX12_goBy_120 : decode cX12_goBy 120 = .ok (.iload_n 3, 1) := by decide +kernel
theorem dX12_goBy_121 : decode cX12_goBy 121 = .ok (.iadd, 1) := by decide +kernel
theorem dX12_goBy_122 : decode cX12_goBy 122 = .ok (.istore_n 3, 1) := by decide +kernel
theorem dX12_goBy_123 : decode cX12_goBy 123 = .ok (.aload_n 0, 1) := by decide +kernel
theorem dX12_goBy_124 : decode cX12_goBy 124 = .ok (.getfield 163, 3) := by decide +kernel
theorem dX12_goBy_127 : decode cX12_goBy 127 = .ok (.iload_n 1, 1) := by decide +kernel
theorem dX12_goBy_128 : decode cX12_goBy 128 = .ok (.iconst 3, 1) := by decide +kernel
theorem dX12_goBy_129 : decode cX12_goBy 129 = .ok (.iadd, 1) := by decide +kernel
theorem dX12_goBy_130 : decode cX12_goBy 130 = .ok (.iaload, 1) := by decide +kernel
theorem dX12_goBy_131 : decode cX12_goBy 131 = .ok (.istore 4, 2) := by decide +kernel
theorem dX12_goBy_107 : decode cX12_goBy 107 = .ok (.bipush 10, 2) := by decide +kernel
theorem dX12_goBy_109 : decode cX12_goBy 109 = .ok (.iload_n 2, 1) := by decide +kernel
theorem dX12_goBy_110 : decode cX12_goBy 110 = .ok (.imul, 1) := by decide +kernel
theorem dX12_goBy_111 : decode cX12_goBy 111 = .ok (.bipush 9, 2) := by decide +kernel
theorem dX12_goBy_113 : decode cX12_goBy 113 = .ok (.iadd, 1) := by decide +kernel
theorem dX12_goBy_114 : decode cX12_goBy 114 = .ok (.ireturn, 1) := by decide +kernel
theorem dX12_goBy_31 : decode cX12_goBy 31 = .ok (.aload_n 0, 1) := by decide +kernel
theorem dX12_goBy_32 : decode cX12_goBy 32 = .ok (.getfield 98, 3) := by decide +kernel
theorem dX12_goBy_35 : decode cX12_goBy 35 = .ok (.bipush 67, 2) := by decide +kernel
theorem dX12_goBy_37 : decode cX12_goBy 37 = .ok (.iaload, 1) := by decide +kernel
theorem dX12_goBy_38 : decode cX12_goBy 38 = .ok (.iload_n 3, 1) := by decide +kernel
theorem dX12_goBy_39 : decode cX12_goBy 39 = .ok (.iadd, 1) := by decide +kernel
theorem dX12_goBy_40 : decode cX12_goBy 40 = .ok (.sipush 400, 3) := by decide +kernel
theorem dX12_goBy_43 : decode cX12_goBy 43 = .ok (.if_icmp .le 6, 3) := by decide +kernel
theorem dX12_goBy_49 : decode cX12_goBy 49 = .ok (.aload_n 0, 1) := by decide +kernel
theorem dX12_goBy_50 : decode cX12_goBy 50 = .ok (.iload_n 3, 1) := by decide +kernel
theorem dX12_goBy_51 : decode cX12_goBy 51 = .ok (.invokevirtual 312, 3) := by decide +kernel
theorem dX12_goBy_54 : decode cX12_goBy 54 = .ok (.pop, 1) := by decide +kernel
theorem dX12_goBy_55 : decode cX12_goBy 55 = .ok (.iconst 0, 1) := by decide +kernel
theorem dX12_goBy_56 : decode cX12_goBy 56 = .ok (.ireturn, 1) := by decide +kernel
theorem dX12_goBy_46 : decode cX12_goBy 46 = .ok (.bipush 51, 2) := by decide +kernel
theorem dX12_goBy_48 : decode cX12_goBy 48 = .ok (.ireturn, 1) := by decide +kernel
set_option maxRecDepth 100000 in
theorem ggX12_goBy_X12_lineOf : GoodIn wsX12_goBy wsX12_lineOf := goodIn_r _ [37] rfl (by decide +kernel)
set_option maxRecDepth 100000 in
theorem ggX12_goBy_X12_isLine : GoodIn wsX12_goBy wsX12_isLine := goodIn_r _ [41, 2, 78, 79, 80, 81, 82, 83, 84, 85, 86, 87, 88, 89, 90, 91, 92, 93, 94, 95, 96, 97, 98, 99, 100, 101, 102, 103, 104, 105, 106, 107, 108, 109, 110, 111, 112, 113, 114, 115, 116, 117, 118, 119, 120, 121, 122, 123, 124, 125, 126, 127, 128, 129] rfl (by decide +kernel)
set_option maxRecDepth 100000 in
theorem ggX12_goBy_X12_why : GoodIn wsX12_goBy wsX12_why := goodIn_r _ [52, 2, 27, 28, 29, 6, 30, 19, 20, 21, 22, 53, 54, 55, 56, 42, 43, 44, 45, 46, 47, 48, 57, 58, 59, 60, 78, 79, 80, 81, 82, 83, 84, 85, 86, 87, 88, 89, 90, 91, 92, 93, 94, 95, 96, 97, 98, 99, 100, 101, 102, 103, 104, 105, 106, 107, 108, 109, 110, 111, 112, 113, 114, 115, 116, 117, 118, 119, 120, 121, 122, 123, 124, 125, 126, 127, 128, 129] rfl (by decide +kernel)
set_option maxRecDepth 100000 in
theorem ggX12_goBy_X12_live : GoodIn wsX12_goBy wsX12_live := goodIn_r _ [64, 2, 65, 66, 67, 6, 68, 69, 70, 71, 72, 73, 74, 75, 76, 77, 19, 20, 21, 22, 53, 54, 55, 56, 42, 43, 44, 45, 46, 47, 48, 57, 58, 59, 60, 27, 28, 29, 30, 8, 9, 10, 78, 79, 80, 81, 82, 83, 84, 85, 86, 87, 88, 89, 90, 91, 92, 93, 94, 95, 96, 97, 98, 99, 100, 101, 102, 103, 104, 105, 106, 107, 108, 109, 110, 111, 112, 113, 114, 115, 116, 117, 118, 119, 120, 121, 122, 123, 124, 125, 126, 127, 128, 129] rfl (by decide +kernel)
set_option maxRecDepth 100000 in
theorem ggX12_goBy_X12_isCell : GoodIn wsX12_goBy wsX12_isCell := goodIn_r _ [45, 2, 46, 47, 6, 48, 78, 79, 80, 81, 82, 83, 84, 85, 86, 87, 88, 89, 90, 91, 92, 93, 94, 95, 96, 97, 98, 99, 100, 101, 102, 103, 104, 105, 106, 107, 108, 109, 110, 111, 112, 113, 114, 115, 116, 117, 118, 119, 120, 121, 122, 123, 124, 125, 126, 127, 128, 129] rfl (by decide +kernel)
set_option maxRecDepth 100000 in
theorem ggX12_goBy_X12_passDays : GoodIn wsX12_goBy wsX12_passDays := goodIn_r _ [7, 2, 8, 9, 6, 10, 11, 12, 13, 14, 15, 16, 17, 18, 19, 20, 21, 22, 23, 24, 25, 26, 27, 28, 29, 30, 31, 32, 33, 34, 78, 79, 80, 81, 82, 83, 84, 85, 86, 87, 88, 89, 90, 91, 92, 93, 94, 95, 96, 97, 98, 99, 100, 101, 102, 103, 104, 105, 106, 107, 108, 109, 110, 111, 112, 113, 114, 115, 116, 117, 118, 119, 120, 121, 122, 123, 124, 125, 126, 127, 128, 129] rfl (by decide +kernel)
set_option maxRecDepth 100000 in
theorem gX12_goBy_X12_lineOf : GoodIn wsX12_goBy (va_wsS RX12 302 yX12_lineOf wsX12_lineOf) := goodIn_app (goodIn_of _ (by decide +kernel)) ggX12_goBy_X12_lineOf
set_option maxRecDepth 100000 in
theorem gX12_goBy_X12_isLine : GoodIn wsX12_goBy (wsV RX12 332 RX12 yX12_isLine wsX12_isLine) := goodIn_app (goodIn_of _ (by decide +kernel)) ggX12_goBy_X12_isLine
set_option maxRecDepth 100000 in
theorem gX12_goBy_X12_why : GoodIn wsX12_goBy (wsV RX12 291 RX12 yX12_why wsX12_why) := goodIn_app (goodIn_of _ (by decide +kernel)) ggX12_goBy_X12_why
set_option maxRecDepth 100000 in
theorem gX12_goBy_X12_live : GoodIn wsX12_goBy (wsV RX12 298 RX12 yX12_live wsX12_live) := goodIn_app (goodIn_of _ (by decide +kernel)) ggX12_goBy_X12_live
set_option maxRecDepth 100000 in
theorem gX12_goBy_X12_isCell : GoodIn wsX12_goBy (wsV RX12 252 RX12 yX12_isCell wsX12_isCell) := goodIn_app (goodIn_of _ (by decide +kernel)) ggX12_goBy_X12_isCell
set_option maxRecDepth 100000 in
theorem gX12_goBy_X12_passDays : GoodIn wsX12_goBy (wsV RX12 312 RX12 yX12_passDays wsX12_passDays) := goodIn_app (goodIn_of _ (by decide +kernel)) ggX12_goBy_X12_passDays
