theorem dX9_readOne_0 : decode cX9_readOne 0 = .ok (.aload_n 1, 1) := by decide +kernel
theorem dX9_readOne_1 : decode cX9_readOne 1 = .ok (.invokevirtual 47, 3) := by decide +kernel
theorem dX9_readOne_4 : decode cX9_readOne 4 = .ok (.istore 4, 2) := by decide +kernel
theorem dX9_readOne_6 : decode cX9_readOne 6 = .ok (.aload_n 1, 1) := by decide +kernel
theorem dX9_readOne_7 : decode cX9_readOne 7 = .ok (.getfield 35, 3) := by decide +kernel
theorem dX9_readOne_10 : decode cX9_readOne 10 = .ok (.bipush 40, 2) := by decide +kernel
theorem dX9_readOne_12 : decode cX9_readOne 12 = .ok (.if_icmp .ne 7, 3) := by decide +kernel
theorem dX9_readOne_19 : decode cX9_readOne 19 = .ok (.iconst 0, 1) := by decide +kernel
theorem dX9_readOne_15 : decode cX9_readOne 15 = .ok (.iconst 1, 1) := by decide +kernel
theorem dX9_readOne_16 : decode cX9_readOne 16 = .ok (.goto 4, 3) := by decide +kernel
theorem dX9_readOne_20 : decode cX9_readOne 20 = .ok (.istore 5, 2) := by decide +kernel
theorem dX9_readOne_22 : decode cX9_readOne 22 = .ok (.iload 5, 2) := by decide +kernel
theorem dX9_readOne_24 : decode cX9_readOne 24 = .ok (.ifCond .ne 23, 3) := by decide +kernel
theorem dX9_readOne_47 : decode cX9_readOne 47 = .ok (.aload_n 0, 1) := by decide +kernel
theorem dX9_readOne_48 : decode cX9_readOne 48 = .ok (.getfield 19, 3) := by decide +kernel
theorem dX9_readOne_51 : decode cX9_readOne 51 = .ok (.bipush 20, 2) := by decide +kernel
theorem dX9_readOne_53 : decode cX9_readOne 53 = .ok (.if_icmp .ge 9, 3) := by decide +kernel
theorem dX9_readOne_62 : decode cX9_readOne 62 = .ok (.aload_n 1, 1) := by decide +kernel
theorem dX9_readOne_63 : decode cX9_readOne 63 = .ok (.iconst 4, 1) := by decide +kernel
theorem dX9_readOne_64 : decode cX9_readOne 64 = .ok (.invokevirtual 40, 3) := by decide +kernel
theorem dX9_readOne_67 : decode cX9_readOne 67 = .ok (.ireturn, 1) := by decide +kernel
theorem dX9_readOne_56 : decode cX9_readOne 56 = .ok (.iload_n 3, 1) := by decide +kernel
theorem dX9_readOne_57 : decode cX9_readOne 57 = .ok (.bipush 8, 2) := by decide +kernel
theorem dX9_readOne_59 : decode cX9_readOne 59 = .ok (.if_icmp .le 9, 3) := by decide +kernel
theorem dX9_readOne_27 : decode cX9_readOne 27 = .ok (.iload 4, 2) := by decide +kernel
theorem dX9_readOne_29 : decode cX9_readOne 29 = .ok (.bipush 22, 2) := by decide +kernel
theorem dX9_readOne_31 : decode cX9_readOne 31 = .ok (.if_icmp .lt 10, 3) := by decide +kernel
theorem dX9_readOne_41 : decode cX9_readOne 41 = .ok (.aload_n 1, 1) := by decide +kernel
theorem dX9_readOne_42 : decode cX9_readOne 42 = .ok (.iconst 1, 1) := by decide +kernel
theorem dX9_readOne_43 : decode cX9_readOne 43 = .ok (.invokevirtual 40, 3) := by decide +kernel
theorem dX9_readOne_46 : decode cX9_readOne 46 = .ok (.ireturn, 1) := by decide +kernel
theorem dX9_readOne_34 : decode cX9_readOne 34 = .ok (.iload 4, 2) := by decide +kernel
theorem dX9_readOne_36 : decode cX9_readOne 36 = .ok (.bipush 30, 2) := by decide +kernel
theorem dX9_readOne_38 : decode cX9_readOne 38 = .ok (.if_icmp .le 9, 3) := by decide +kernel
theorem dX9_readAll_0 : decode cX9_readAll 0 = .ok (.aload_n 0, 1) := by decide +kernel
theorem dX9_readAll_1 : decode cX9_readAll 1 = .ok (.aload_n 1, 1) := by decide +kernel
theorem dX9_readAll_2 : decode cX9_readAll 2 = .ok (.aload_n 2, 1) := by decide +kernel
theorem dX9_readAll_3 : decode cX9_readAll 3 = .ok (.iload_n 3, 1) := by decide +kernel
theorem dX9_readAll_4 : decode cX9_readAll 4 = .ok (.invokevirtual 57, 3) := by decide +kernel
theorem dX9_readAll_7 : decode cX9_readAll 7 = .ok (.istore 4, 2) := by decide +kernel
theorem dX9_readAll_9 : decode cX9_readAll 9 = .ok (.iconst 0, 1) := by decide +kernel
theorem dX9_readAll_10 : decode cX9_readAll 10 = .ok (.istore 5, 2) := by decide +kernel
theorem dX9_readAll_12 : decode cX9_readAll 12 = .ok (.iload 5, 2) := by decide +kernel
theorem dX9_readAll_14 : decode cX9_readAll 14 = .ok (.bipush 20, 2) := by decide +kernel
theorem dX9_readAll_16 : decode cX9_readAll 16 = .ok (.if_icmp .ge 53, 3) := by decide +kernel
theorem dX9_readAll_19 : decode cX9_readAll 19 = .ok (.iload 4, 2) := by decide +kernel
theorem dX9_readAll_21 : decode cX9_readAll 21 = .ok (.ifCond .eq 48, 3) := by decide +kernel
theorem dX9_readAll_69 : decode cX9_readAll 69 = .ok (.iload 4, 2) := by decide +kernel
theorem dX9_readAll_71 : decode cX9_readAll 71 = .ok (.ireturn, 1) := by decide +kernel
theorem dX9_readAll_24 : decode cX9_readAll 24 = .ok (.aload_n 1, 1) := by decide +kernel
theorem dX9_readAll_25 : decode cX9_readAll 25 = .ok (.invokevirtual 47, 3) := by decide +kernel
theorem dX9_readAll_28 : decode cX9_readAll 28 = .ok (.bipush 21, 2) := by decide +kernel
theorem dX9_readAll_30 : decode cX9_readAll 30 = .ok (.if_icmp .ne 39, 3) := by decide +kernel
theorem dX9_readAll_33 : decode cX9_readAll 33 = .ok (.aload_n 1, 1) := by decide +kernel
theorem dX9_readAll_34 : decode cX9_readAll 34 = .ok (.invokevirtual 51, 3) := by decide +kernel
theorem dX9_readAll_37 : decode cX9_readAll 37 = .ok (.aload_n 0, 1) := by decide +kernel
theorem dX9_readAll_38 : decode cX9_readAll 38 = .ok (.aload_n 1, 1) := by decide +kernel
theorem dX9_readAll_39 : decode cX9_readAll 39 = .ok (.aload_n 2, 1) := by decide +kernel
theorem dX9_readAll_40 : decode cX9_readAll 40 = .ok (.iload_n 3, 1) := by decide +kernel
theorem dX9_readAll_41 : decode cX9_readAll 41 = .ok (.invokevirtual 57, 3) := by decide +kernel
theorem dX9_readAll_44 : decode cX9_readAll 44 = .ok (.ifCond .eq 16, 3) := by decide +kernel
theorem dX9_readAll_60 : decode cX9_readAll 60 = .ok (.iconst 0, 1) := by decide +kernel
theorem dX9_readAll_61 : decode cX9_readAll 61 = .ok (.istore 4, 2) := by decide +kernel
theorem dX9_readAll_63 : decode cX9_readAll 63 = .ok (.iinc 5 1, 3) := by decide +kernel
theorem dX9_readAll_66 : decode cX9_readAll 66 = .ok (.goto (-54), 3) := by decide +kernel
theorem dX9_readAll_47 : decode cX9_readAll 47 = .ok (.aload_n 0, 1) := by decide +kernel
theorem dX9_readAll_48 : decode cX9_readAll 48 = .ok (.bipush 21, 2) := by decide +kernel
theorem dX9_readAll_50 : decode cX9_readAll 50 = .ok (.invokevirtual 54, 3) := by decide +kernel
theorem dX9_readAll_53 : decode cX9_readAll 53 = .ok (.ifCond .eq 7, 3) := by decide +kernel
theorem dX9_readAll_56 : decode cX9_readAll 56 = .ok (.iconst 1, 1) := by decide +kernel
theorem dX9_readAll_57 : decode cX9_readAll 57 = .ok (.goto 4, 3) := by decide +kernel
theorem dX9_readCond_0 : decode cX9_readCond 0 = .ok (.aload_n 0, 1) := by decide +kernel
theorem dX9_readCond_1 : decode cX9_readCond 1 = .ok (.aload_n 1, 1) := by decide +kernel
theorem dX9_readCond_2 : decode cX9_readCond 2 = .ok (.aload_n 2, 1) := by decide +kernel
theorem dX9_readCond_3 : decode cX9_readCond 3 = .ok (.iload_n 3, 1) := by decide +kernel
theorem dX9_readCond_4 : decode cX9_readCond 4 = .ok (.invokevirtual 44, 3) := by decide +kernel
theorem dX9_readCond_7 : decode cX9_readCond 7 = .ok (.istore 4, 2) := by decide +kernel
theorem dX9_readCond_9 : decode cX9_readCond 9 = .ok (.iconst 0, 1) := by decide +kernel
theorem dX9_readCond_10 : decode cX9_readCond 10 = .ok (.istore 5, 2) := by decide +kernel
theorem dX9_readCond_12 : decode cX9_readCond 12 = .ok (.iload 5, 2) := by decide +kernel
theorem dX9_readCond_14 : decode cX9_readCond 14 = .ok (.bipush 20, 2) := by decide +kernel
theorem dX9_readCond_16 : decode cX9_readCond 16 = .ok (.if_icmp .ge 53, 3) := by decide +kernel
theorem dX9_readCond_19 : decode cX9_readCond 19 = .ok (.iload 4, 2) := by decide +kernel
theorem dX9_readCond_21 : decode cX9_readCond 21 = .ok (.ifCond .eq 48, 3) := by decide +kernel
theorem dX9_readCond_69 : decode cX9_readCond 69 = .ok (.iload 4, 2) := by decide +kernel
theorem dX9_readCond_71 : decode cX9_readCond 71 = .ok (.ireturn, 1) := by decide +kernel
theorem dX9_readCond_24 : decode cX9_readCond 24 = .ok (.aload_n 1, 1) := by decide +kernel
theorem dX9_readCond_25 : decode cX9_readCond 25 = .ok (.invokevirtual 47, 3) := by decide +kernel
theorem dX9_readCond_28 : decode cX9_readCond 28 = .ok (.bipush 20, 2) := by decide +kernel
theorem dX9_readCond_30 : decode cX9_readCond 30 = .ok (.if_icmp .ne 39, 3) := by decide +kernel
theorem dX9_readCond_33 : decode cX9_readCond 33 = .ok (.aload_n 1, 1) := by decide +kernel
theorem dX9_readCond_34 : decode cX9_readCond 34 = .ok (.invokevirtual 51, 3) := by decide +kernel
theorem dX9_readCond_37 : decode cX9_readCond 37 = .ok (.aload_n 0, 1) := by decide +kernel
theorem dX9_readCond_38 : decode cX9_readCond 38 = .ok (.aload_n 1, 1) := by decide +kernel
theorem dX9_readCond_39 : decode cX9_readCond 39 = .ok (.aload_n 2, 1) := by decide +kernel
theorem dX9_readCond_40 : decode cX9_readCond 40 = .ok (.iload_n 3, 1) := by decide +kernel
theorem dX9_readCond_41 : decode cX9_readCond 41 = .ok (.invokevirtual 44, 3) := by decide +kernel
theorem dX9_readCond_44 : decode cX9_readCond 44 = .ok (.ifCond .eq 16, 3) := by decide +kernel
theorem dX9_readCond_60 : decode cX9_readCond 60 = .ok (.iconst 0, 1) := by decide +kernel
theorem dX9_readCond_61 : decode cX9_readCond 61 = .ok (.istore 4, 2) := by decide +kernel
theorem dX9_readCond_63 : decode cX9_readCond 63 = .ok (.iinc 5 1, 3) := by decide +kernel
theorem dX9_readCond_66 : decode cX9_readCond 66 = .ok (.goto (-54), 3) := by decide +kernel
theorem dX9_readCond_47 : decode cX9_readCond 47 = .ok (.aload_n 0, 1) := by decide +kernel
theorem dX9_readCond_48 : decode cX9_readCond 48 = .ok (.bipush 20, 2) := by decide +kernel
theorem dX9_readCond_50 : decode cX9_readCond 50 = .ok (.invokevirtual 54, 3) := by decide +kernel
theorem dX9_readCond_53 : decode cX9_readCond 53 = .ok (.ifCond .eq 7, 3) := by decide +kernel
theorem dX9_readCond_56 : decode cX9_readCond 56 = .ok (.iconst 1, 1) := by decide +kernel
theorem dX9_readCond_57 : decode cX9_readCond 57 = .ok (.goto 4, 3) := by decide +kernel
theorem dX9_readOne_68 : decode cX9_readOne 68 = .ok (.aload_n 0, 1) := by decide +kernel
theorem dX9_readOne_69 : decode cX9_readOne 69 = .ok (.dup, 1) := by decide +kernel
theorem dX9_readOne_70 : decode cX9_readOne 70 = .ok (.getfield 19, 3) := by decide +kernel
theorem dX9_readOne_73 : decode cX9_readOne 73 = .ok (.iconst 1, 1) := by decide +kernel
theorem dX9_readOne_74 : decode cX9_readOne 74 = .ok (.iadd, 1) := by decide +kernel
theorem dX9_readOne_75 : decode cX9_readOne 75 = .ok (.putfield 19, 3) := by decide +kernel
theorem dX9_readOne_78 : decode cX9_readOne 78 = .ok (.aload_n 1, 1) := by decide +kernel
theorem dX9_readOne_79 : decode cX9_readOne 79 = .ok (.invokevirtual 51, 3) := by decide +kernel
theorem dX9_readOne_82 : decode cX9_readOne 82 = .ok (.iload 5, 2) := by decide +kernel
theorem dX9_readOne_84 : decode cX9_readOne 84 = .ok (.ifCond .eq 30, 3) := by decide +kernel
theorem dX9_readOne_87 : decode cX9_readOne 87 = .ok (.aload_n 0, 1) := by decide +kernel
theorem dX9_readOne_88 : decode cX9_readOne 88 = .ok (.aload_n 1, 1) := by decide +kernel
theorem dX9_readOne_89 : decode cX9_readOne 89 = .ok (.aload_n 2, 1) := by decide +kernel
theorem dX9_readOne_90 : decode cX9_readOne 90 = .ok (.iload_n 3, 1) := by decide +kernel
theorem dX9_readOne_91 : decode cX9_readOne 91 = .ok (.iconst 1, 1) := by decide +kernel
theorem dX9_readOne_92 : decode cX9_readOne 92 = .ok (.iadd, 1) := by decide +kernel
theorem dX9_readOne_93 : decode cX9_readOne 93 = .ok (.invokevirtual 31, 3) := by decide +kernel
theorem dX9_readOne_96 : decode cX9_readOne 96 = .ok (.ifCond .eq 16, 3) := by decide +kernel
theorem dX9_readOne_112 : decode cX9_readOne 112 = .ok (.iconst 0, 1) := by decide +kernel
theorem dX9_readOne_113 : decode cX9_readOne 113 = .ok (.ireturn, 1) := by decide +kernel
theorem dX9_readOne_99 : decode cX9_readOne 99 = .ok (.aload_n 1, 1) := by decide +kernel
theorem dX9_readOne_100 : decode cX9_readOne 100 = .ok (.bipush 41, 2) := by decide +kernel
theorem dX9_readOne_102 : decode cX9_readOne 102 = .ok (.invokevirtual 60, 3) := by decide +kernel
theorem dX9_readOne_105 : decode cX9_readOne 105 = .ok (.ifCond .eq 7, 3) := by decide +kernel
theorem dX9_readOne_108 : decode cX9_readOne 108 = .ok (.iconst 1, 1) := by decide +kernel
theorem dX9_readOne_109 : decode cX9_readOne 109 = .ok (.goto 4, 3) := by decide +kernel
theorem dX9_readOne_114 : decode cX9_readOne 114 = .ok (.iload 4, 2) := by decide +kernel
theorem dX9_readOne_116 : decode cX9_readOne 116 = .ok (.bipush 22, 2) := by decide +kernel
theorem dX9_readOne_118 : decode cX9_readOne 118 = .ok (.if_icmp .ne 30, 3) := by decide +kernel
theorem dX9_readOne_148 : decode cX9_readOne 148 = .ok (.iload 4, 2) := by decide +kernel
theorem dX9_readOne_150 : decode cX9_readOne 150 = .ok (.bipush 26, 2) := by decide +kernel
theorem dX9_readOne_152 : decode cX9_readOne 152 = .ok (.if_icmp .ne 10, 3) := by decide +kernel
theorem dX9_readOne_162 : decode cX9_readOne 162 = .ok (.iload 4, 2) := by decide +kernel
theorem dX9_readOne_164 : decode cX9_readOne 164 = .ok (.bipush 27, 2) := by decide +kernel
theorem dX9_readOne_166 : decode cX9_readOne 166 = .ok (.if_icmp .lt 13, 3) := by decide +kernel
theorem dX9_readOne_179 : decode cX9_readOne 179 = .ok (.aload_n 0, 1) := by decide +kernel
theorem dX9_readOne_180 : decode cX9_readOne 180 = .ok (.iload 4, 2) := by decide +kernel
theorem dX9_readOne_182 : decode cX9_readOne 182 = .ok (.invokevirtual 54, 3) := by decide +kernel
theorem dX9_readOne_185 : decode cX9_readOne 185 = .ok (.ireturn, 1) := by decide +kernel
theorem dX9_readOne_169 : decode cX9_readOne 169 = .ok (.aload_n 0, 1) := by decide +kernel
theorem dX9_readOne_170 : decode cX9_readOne 170 = .ok (.aload_n 1, 1) := by decide +kernel
theorem dX9_readOne_171 : decode cX9_readOne 171 = .ok (.iload 4, 2) := by decide +kernel
theorem dX9_readOne_173 : decode cX9_readOne 173 = .ok (.invokevirtual 67, 3) := by decide +kernel
theorem dX9_readOne_176 : decode cX9_readOne 176 = .ok (.goto 9, 3) := by decide +kernel
theorem dX9_readOne_155 : decode cX9_readOne 155 = .ok (.aload_n 0, 1) := by decide +kernel
theorem dX9_readOne_156 : decode cX9_readOne 156 = .ok (.aload_n 1, 1) := by decide +kernel
theorem dX9_readOne_157 : decode cX9_readOne 157 = .ok (.aload_n 2, 1) := by decide +kernel
theorem dX9_readOne_158 : decode cX9_readOne 158 = .ok (.invokevirtual 63, 3) := by decide +kernel
theorem dX9_readOne_161 : decode cX9_readOne 161 = .ok (.ireturn, 1) := by decide +kernel
theorem dX9_readOne_121 : decode cX9_readOne 121 = .ok (.aload_n 0, 1) := by decide +kernel
theorem dX9_readOne_122 : decode cX9_readOne 122 = .ok (.aload_n 1, 1) := by decide +kernel
theorem dX9_readOne_123 : decode cX9_readOne 123 = .ok (.aload_n 2, 1) := by decide +kernel
theorem dX9_readOne_124 : decode cX9_readOne 124 = .ok (.iload_n 3, 1) := by decide +kernel
theorem dX9_readOne_125 : decode cX9_readOne 125 = .ok (.iconst 1, 1) := by decide +kernel
theorem dX9_readOne_126 : decode cX9_readOne 126 = .ok (.iadd, 1) := by decide +kernel
theorem dX9_readOne_127 : decode cX9_readOne 127 = .ok (.invokevirtual 57, 3) := by decide +kernel
theorem dX9_readOne_130 : decode cX9_readOne 130 = .ok (.ifCond .eq 16, 3) := by decide +kernel
theorem dX9_readOne_146 : decode cX9_readOne 146 = .ok (.iconst 0, 1) := by decide +kernel
theorem dX9_readOne_147 : decode cX9_readOne 147 = .ok (.ireturn, 1) := by decide +kernel
theorem dX9_readOne_133 : decode cX9_readOne 133 = .ok (.aload_n 0, 1) := by decide +kernel
theorem dX9_readOne_134 : decode cX9_readOne 134 = .ok (.bipush 22, 2) := by decide +kernel
theorem dX9_readOne_136 : decode cX9_readOne 136 = .ok (.invokevirtual 54, 3) := by decide +kernel
theorem dX9_readOne_139 : decode cX9_readOne 139 = .ok (.ifCond .eq 7, 3) := by decide +kernel
theorem dX9_readOne_142 : decode cX9_readOne 142 = .ok (.iconst 1, 1) := by decide +kernel
theorem dX9_readOne_143 : decode cX9_readOne 143 = .ok (.goto 4, 3) := by decide +kernel
set_option maxRecDepth 100000 in
theorem ggX9_readOne_X5_nextWord : GoodIn wsX9_readOne wsX5_nextWord := goodIn_r _ [7, 8, 142, 143, 144, 145, 146, 147, 148, 149, 150, 151, 152] rfl (by decide +kernel)
set_option maxRecDepth 100000 in
theorem ggX9_readOne_X5_refuse : GoodIn wsX9_readOne wsX5_refuse := goodIn_r _ [12, 13, 14, 15, 16, 6, 17, 18, 19, 142, 143, 144, 145, 146, 147, 148, 149, 150, 151, 152] rfl (by decide +kernel)
set_option maxRecDepth 100000 in
theorem ggX9_readAll_X9_readOne : GoodIn wsX9_readAll wsX9_readOne := goodIn_r _ [100, 101, 102, 5, 6, 7, 8, 9, 10, 103, 104, 105, 106, 18, 107, 108, 109, 110, 111, 112, 11, 12, 13, 14, 15, 16, 17, 19, 20, 21, 22, 23, 24, 25, 26, 27, 28, 29, 30, 31, 32, 33, 34, 35, 36, 37, 38, 39, 40, 41, 42, 43, 44, 45, 46, 47, 48, 49, 50, 51, 52, 53, 54, 55, 56, 57, 58, 59, 60, 61, 62, 63, 64, 65, 66, 67, 68, 69, 70, 71, 72, 73, 74, 75, 76, 77, 78, 79, 80, 81, 82, 83, 84, 85, 86, 87, 88, 89, 113, 114, 115, 4, 116, 117, 118, 119, 120, 121, 1, 2, 3, 90, 91, 92, 93, 94, 95, 122, 123, 124, 125, 126, 127, 128, 129, 130, 131, 132, 133, 134, 135, 136, 137, 138, 139, 140, 141, 0, 96, 97, 98, 99, 142, 143, 144, 145, 146, 147, 148, 149, 150, 151, 152, 153, 154, 155, 156, 157, 158, 159, 160, 161, 162, 163, 164, 165, 166, 167, 168, 169, 170, 171, 172, 173, 174] rfl (by decide +kernel)
set_option maxRecDepth 100000 in
theorem ggX9_readAll_X5_nextWord : GoodIn wsX9_readAll wsX5_nextWord := goodIn_r _ [9, 10, 142, 143, 144, 145, 146, 147, 148, 149, 150, 151, 152] rfl (by decide +kernel)
set_option maxRecDepth 100000 in
theorem ggX9_readAll_X5_advance : GoodIn wsX9_readAll wsX5_advance := goodIn_r _ [14, 15, 16, 17, 18, 10, 19, 20, 21, 22, 8, 23, 24, 25, 26, 27, 28, 29, 30, 31, 32, 33, 34, 35, 36, 37, 38, 39, 40, 41, 42, 43, 44, 45, 46, 47, 48, 49, 50, 51, 52, 53, 54, 55, 56, 57, 58, 59, 60, 61, 62, 63, 64, 65, 66, 67, 68, 69, 70, 71, 72, 73, 74, 75, 76, 77, 78, 79, 80, 81, 82, 83, 84, 85, 86, 87, 88, 89, 142, 143, 144, 145, 146, 147, 148, 149, 150, 151, 152] rfl (by decide +kernel)
set_option maxRecDepth 100000 in
theorem ggX9_readAll_X9_put : GoodIn wsX9_readAll wsX9_put := goodIn_r _ [93, 94, 95, 153, 154, 155] rfl (by decide +kernel)
set_option maxRecDepth 100000 in
theorem ggX9_readCond_X9_readAll : GoodIn wsX9_readCond wsX9_readAll := goodIn_r _ [96, 97, 98, 99, 4, 5, 6, 7, 8, 9, 10, 11, 12, 13, 14, 15, 16, 17, 18, 19, 20, 21, 22, 23, 24, 25, 26, 27, 28, 29, 30, 31, 32, 33, 34, 35, 36, 37, 38, 39, 40, 41, 42, 43, 44, 45, 46, 47, 48, 49, 50, 51, 52, 53, 54, 55, 56, 57, 58, 59, 60, 61, 62, 63, 64, 65, 66, 67, 68, 69, 70, 71, 72, 73, 74, 75, 76, 77, 78, 79, 80, 81, 82, 83, 84, 85, 86, 87, 88, 89, 90, 91, 92, 93, 94, 95, 0, 1, 2, 3, 100, 101, 102, 103, 104, 105, 106, 107, 108, 109, 110, 111, 112, 113, 114, 115, 116, 117, 118, 119, 120, 121, 122, 123, 124, 125, 126, 127, 128, 129, 130, 131, 132, 133, 134, 135, 136, 137, 138, 139, 140, 141, 142, 143, 144, 145, 146, 147, 148, 149, 150, 151, 152, 153, 154, 155, 156, 157, 158, 159, 160, 161, 162, 163, 164, 165, 166, 167, 168, 169, 170, 171, 172, 173, 174] rfl (by decide +kernel)
set_option maxRecDepth 100000 in
theorem ggX9_readCond_X5_nextWord : GoodIn wsX9_readCond wsX5_nextWord := goodIn_r _ [9, 10, 142, 143, 144, 145, 146, 147, 148, 149, 150, 151, 152] rfl (by decide +kernel)
set_option maxRecDepth 100000 in
theorem ggX9_readCond_X5_advance : GoodIn wsX9_readCond wsX5_advance := goodIn_r _ [14, 15, 16, 17, 18, 10, 19, 20, 21, 22, 8, 23, 24, 25, 26, 27, 28, 29, 30, 31, 32, 33, 34, 35, 36, 37, 38, 39, 40, 41, 42, 43, 44, 45, 46, 47, 48, 49, 50, 51, 52, 53, 54, 55, 56, 57, 58, 59, 60, 61, 62, 63, 64, 65, 66, 67, 68, 69, 70, 71, 72, 73, 74, 75, 76, 77, 78, 79, 80, 81, 82, 83, 84, 85, 86, 87, 88, 89, 142, 143, 144, 145, 146, 147, 148, 149, 150, 151, 152] rfl (by decide +kernel)
set_option maxRecDepth 100000 in
theorem ggX9_readCond_X9_put : GoodIn wsX9_readCond wsX9_put := goodIn_r _ [93, 94, 95, 153, 154, 155] rfl (by decide +kernel)
set_option maxRecDepth 100000 in
theorem ggX9_readOne_X5_advance : GoodIn wsX9_readOne wsX5_advance := goodIn_r _ [23, 24, 25, 26, 13, 8, 27, 28, 29, 30, 6, 31, 32, 33, 34, 35, 36, 37, 38, 39, 40, 41, 42, 43, 44, 45, 46, 47, 48, 49, 50, 51, 52, 53, 54, 55, 56, 57, 58, 59, 60, 61, 62, 63, 64, 65, 66, 67, 68, 69, 70, 71, 72, 73, 74, 75, 76, 77, 78, 79, 80, 81, 82, 83, 84, 85, 86, 87, 88, 89, 90, 91, 92, 93, 94, 95, 96, 97, 142, 143, 144, 145, 146, 147, 148, 149, 150, 151, 152] rfl (by decide +kernel)
set_option maxRecDepth 100000 in
theorem ggX9_readOne_X9_readCond : GoodIn wsX9_readOne wsX9_readCond := goodIn_r _ [138, 139, 140, 141, 101, 3, 4, 5, 6, 7, 8, 20, 21, 22, 23, 24, 25, 26, 13, 27, 28, 29, 30, 31, 32, 33, 34, 35, 36, 37, 38, 39, 40, 41, 42, 43, 44, 45, 46, 47, 48, 49, 50, 51, 52, 53, 54, 55, 56, 57, 58, 59, 60, 61, 62, 63, 64, 65, 66, 67, 68, 69, 70, 71, 72, 73, 74, 75, 76, 77, 78, 79, 80, 81, 82, 83, 84, 85, 86, 87, 88, 89, 90, 91, 92, 93, 94, 95, 96, 97, 111, 112, 113, 114, 115, 116, 137, 108, 109, 110, 0, 1, 2, 9, 10, 11, 12, 14, 15, 16, 17, 18, 19, 98, 99, 100, 102, 103, 104, 105, 106, 107, 117, 118, 119, 120, 121, 122, 123, 124, 125, 126, 127, 128, 129, 130, 131, 132, 133, 134, 135, 136, 142, 143, 144, 145, 146, 147, 148, 149, 150, 151, 152, 153, 154, 155, 156, 157, 158, 159, 160, 161, 162, 163, 164, 165, 166, 167, 168, 169, 170, 171, 172, 173, 174] rfl (by decide +kernel)
set_option maxRecDepth 100000 in
theorem ggX9_readOne_X5_takeSign : GoodIn wsX9_readOne wsX5_takeSign := goodIn_r _ [105, 28, 106, 10, 11, 6, 12, 13, 14, 15, 16, 17, 18, 19, 107, 21, 22, 23, 24, 25, 26, 8, 27, 29, 30, 31, 32, 33, 34, 35, 36, 37, 38, 39, 40, 41, 42, 43, 44, 45, 46, 47, 48, 49, 50, 51, 52, 53, 54, 55, 56, 57, 58, 59, 60, 61, 62, 63, 64, 65, 66, 67, 68, 69, 70, 71, 72, 73, 74, 75, 76, 77, 78, 79, 80, 81, 82, 83, 84, 85, 86, 87, 88, 89, 90, 91, 92, 93, 94, 95, 96, 97, 142, 143, 144, 145, 146, 147, 148, 149, 150, 151, 152] rfl (by decide +kernel)
set_option maxRecDepth 100000 in
theorem ggX9_readOne_X9_put : GoodIn wsX9_readOne wsX9_put := goodIn_r _ [114, 115, 116, 153, 154, 155] rfl (by decide +kernel)
set_option maxRecDepth 100000 in
theorem ggX9_readOne_X9_readComparison : GoodIn wsX9_readOne wsX9_readComparison := goodIn_r _ [132, 1, 9, 10, 11, 6, 12, 13, 14, 15, 16, 17, 18, 19, 20, 21, 22, 23, 24, 25, 26, 8, 27, 28, 29, 30, 31, 32, 33, 34, 35, 36, 37, 38, 39, 40, 41, 42, 43, 44, 45, 46, 47, 48, 49, 50, 51, 52, 53, 54, 55, 56, 57, 58, 59, 60, 61, 62, 63, 64, 65, 66, 67, 68, 69, 70, 71, 72, 73, 74, 75, 76, 77, 78, 79, 80, 81, 82, 83, 84, 85, 86, 87, 88, 89, 90, 91, 92, 93, 94, 95, 96, 97, 133, 134, 135, 136, 106, 107, 111, 112, 113, 101, 114, 115, 116, 142, 143, 144, 145, 146, 147, 148, 149, 150, 151, 152, 153, 154, 155] rfl (by decide +kernel)
set_option maxRecDepth 100000 in
theorem ggX9_readOne_X9_readLump : GoodIn wsX9_readOne wsX9_readLump := goodIn_r _ [120, 121, 3, 4, 5, 6, 7, 8, 9, 10, 11, 12, 13, 14, 15, 16, 17, 18, 19, 122, 123, 124, 125, 126, 127, 128, 20, 21, 22, 23, 24, 25, 26, 27, 28, 29, 30, 31, 32, 33, 34, 35, 36, 37, 38, 39, 40, 41, 42, 43, 44, 45, 46, 47, 48, 49, 50, 51, 52, 53, 54, 55, 56, 57, 58, 59, 60, 61, 62, 63, 64, 65, 66, 67, 68, 69, 70, 71, 72, 73, 74, 75, 76, 77, 78, 79, 80, 81, 82, 83, 84, 85, 86, 87, 88, 89, 90, 91, 92, 93, 94, 95, 96, 97, 111, 112, 113, 101, 114, 115, 116, 142, 143, 144, 145, 146, 147, 148, 149, 150, 151, 152, 156, 157, 158, 159, 160, 161, 162, 163, 164, 165, 166, 167, 168, 169, 170, 171, 172, 173, 174, 153, 154, 155] rfl (by decide +kernel)
set_option maxRecDepth 100000 in
theorem ggX9_readOne_X9_readOne : GoodIn wsX9_readOne wsX9_readOne := goodIn_r _ [0, 1, 2, 3, 4, 5, 6, 7, 8, 9, 10, 11, 12, 13, 14, 15, 16, 17, 18, 19, 20, 21, 22, 23, 24, 25, 26, 27, 28, 29, 30, 31, 32, 33, 34, 35, 36, 37, 38, 39, 40, 41, 42, 43, 44, 45, 46, 47, 48, 49, 50, 51, 52, 53, 54, 55, 56, 57, 58, 59, 60, 61, 62, 63, 64, 65, 66, 67, 68, 69, 70, 71, 72, 73, 74, 75, 76, 77, 78, 79, 80, 81, 82, 83, 84, 85, 86, 87, 88, 89, 90, 91, 92, 93, 94, 95, 96, 97, 98, 99, 100, 101, 102, 103, 104, 105, 106, 107, 108, 109, 110, 111, 112, 113, 114, 115, 116, 117, 118, 119, 120, 121, 122, 123, 124, 125, 126, 127, 128, 129, 130, 131, 132, 133, 134, 135, 136, 137, 138, 139, 140, 141, 142, 143, 144, 145, 146, 147, 148, 149, 150, 151, 152, 153, 154, 155, 156, 157, 158, 159, 160, 161, 162, 163, 164, 165, 166, 167, 168, 169, 170, 171, 172, 173, 174] rfl (by decide +kernel)
set_option maxRecDepth 100000 in
theorem gX9_readOne_X5_nextWord : GoodIn wsX9_readOne (wsV RX9 47 RX5 yX5_nextWord wsX5_nextWord) := goodIn_app (goodIn_of _ (by decide +kernel)) ggX9_readOne_X5_nextWord
set_option maxRecDepth 100000 in
theorem gX9_readOne_X5_refuse : GoodIn wsX9_readOne (wsV RX9 40 RX5 yX5_refuse wsX5_refuse) := goodIn_app (goodIn_of _ (by decide +kernel)) ggX9_readOne_X5_refuse
set_option maxRecDepth 100000 in
theorem gX9_readAll_X9_readOne : GoodIn wsX9_readAll (wsV RX9 57 RX9 yX9_readOne wsX9_readOne) := goodIn_app (goodIn_of _ (by decide +kernel)) ggX9_readAll_X9_readOne
set_option maxRecDepth 100000 in
theorem gX9_readAll_X5_nextWord : GoodIn wsX9_readAll (wsV RX9 47 RX5 yX5_nextWord wsX5_nextWord) := goodIn_app (goodIn_of _ (by decide +kernel)) ggX9_readAll_X5_nextWord
set_option maxRecDepth 100000 in
theorem gX9_readAll_X5_advance : GoodIn wsX9_readAll (wsV RX9 51 RX5 yX5_advance wsX5_advance) := goodIn_app (goodIn_of _ (by decide +kernel)) ggX9_readAll_X5_advance
set_option maxRecDepth 100000 in
theorem gX9_readAll_X9_put : GoodIn wsX9_readAll (wsV RX9 54 RX9 yX9_put wsX9_put) := goodIn_app (goodIn_of _ (by decide +kernel)) ggX9_readAll_X9_put
set_option maxRecDepth 100000 in
theorem gX9_readCond_X9_readAll : GoodIn wsX9_readCond (wsV RX9 44 RX9 yX9_readAll wsX9_readAll) := goodIn_app (goodIn_of _ (by decide +kernel)) ggX9_readCond_X9_readAll
set_option maxRecDepth 100000 in
theorem gX9_readCond_X5_nextWord : GoodIn wsX9_readCond (wsV RX9 47 RX5 yX5_nextWord wsX5_nextWord) := goodIn_app (goodIn_of _ (by decide +kernel)) ggX9_readCond_X5_nextWord
set_option maxRecDepth 100000 in
theorem gX9_readCond_X5_advance : GoodIn wsX9_readCond (wsV RX9 51 RX5 yX5_advance wsX5_advance) := goodIn_app (goodIn_of _ (by decide +kernel)) ggX9_readCond_X5_advance
set_option maxRecDepth 100000 in
theorem gX9_readCond_X9_put : GoodIn wsX9_readCond (wsV RX9 54 RX9 yX9_put wsX9_put) := goodIn_app (goodIn_of _ (by decide +kernel)) ggX9_readCond_X9_put
set_option maxRecDepth 100000 in
theorem gX9_readOne_X5_advance : GoodIn wsX9_readOne (wsV RX9 51 RX5 yX5_advance wsX5_advance) := goodIn_app (goodIn_of _ (by decide +kernel)) ggX9_readOne_X5_advance
set_option maxRecDepth 100000 in
theorem gX9_readOne_X9_readCond : GoodIn wsX9_readOne (wsV RX9 31 RX9 yX9_readCond wsX9_readCond) := goodIn_app (goodIn_of _ (by decide +kernel)) ggX9_readOne_X9_readCond
set_option maxRecDepth 100000 in
theorem gX9_readOne_X5_takeSign : GoodIn wsX9_readOne (wsV RX9 60 RX5 yX5_takeSign wsX5_takeSign) := goodIn_app (goodIn_of _ (by decide +kernel)) ggX9_readOne_X5_takeSign
set_option maxRecDepth 100000 in
theorem gX9_readOne_X9_put : GoodIn wsX9_readOne (wsV RX9 54 RX9 yX9_put wsX9_put) := goodIn_app (goodIn_of _ (by decide +kernel)) ggX9_readOne_X9_put
set_option maxRecDepth 100000 in
theorem gX9_readOne_X9_readComparison : GoodIn wsX9_readOne (wsV RX9 67 RX9 yX9_readComparison wsX9_readComparison) := goodIn_app (goodIn_of _ (by decide +kernel)) ggX9_readOne_X9_readComparison
set_option maxRecDepth 100000 in
theorem gX9_readOne_X9_readLump : GoodIn wsX9_readOne (wsV RX9 63 RX9 yX9_readLump wsX9_readLump) := goodIn_app (goodIn_of _ (by decide +kernel)) ggX9_readOne_X9_readLump
set_option maxRecDepth 100000 in
theorem gX9_readOne_X9_readOne : GoodIn wsX9_readOne (wsV RX9 57 RX9 yX9_readOne wsX9_readOne) := goodIn_app (goodIn_of _ (by decide +kernel)) ggX9_readOne_X9_readOne
set_option maxRecDepth 20000 in
theorem lf_n_readOne9_1  (p2 : True) : (nI 0) = nI 0 ∨ (nI 0) = nI 1 := by
  try have k_0 := ia_n 0 (by first | decide | omega)
  try have k_1 := ia_n 1 (by first | decide | omega)
  try simp only [ia_lt, ia_le, ia_eq, ia_m1, ia_0, ia_1, ne_eq, true_and, and_true, false_and, and_false, or_false, false_or, or_true, true_or, not_true_eq_false, not_false_eq_true] at *
  all_goals omega
set_option maxRecDepth 20000 in
theorem lf_n_readOne9_2  (p2 : True) : (nI 0) = nI 0 ∨ (nI 0) = nI 1 := by
  try have k_0 := ia_n 0 (by first | decide | omega)
  try have k_1 := ia_n 1 (by first | decide | omega)
  try simp only [ia_lt, ia_le, ia_eq, ia_m1, ia_0, ia_1, ne_eq, true_and, and_true, false_and, and_false, or_false, false_or, or_true, true_or, not_true_eq_false, not_false_eq_true] at *
  all_goals omega
set_option maxRecDepth 20000 in
theorem lf_n_readOne9_3  (p2 : True) : (nI 0) = nI 0 ∨ (nI 0) = nI 1 := by
  try have k_0 := ia_n 0 (by first | decide | omega)
  try have k_1 := ia_n 1 (by first | decide | omega)
  try simp only [ia_lt, ia_le, ia_eq, ia_m1, ia_0, ia_1, ne_eq, true_and, and_true, false_and, and_false, or_false, false_or, or_true, true_or, not_true_eq_false, not_false_eq_true] at *
  all_goals omega
set_option maxRecDepth 20000 in
theorem lf_n_readOne9_4  (p2 : True) : (nI 0) = nI 0 ∨ (nI 0) = nI 1 := by
  try have k_0 := ia_n 0 (by first | decide | omega)
  try have k_1 := ia_n 1 (by first | decide | omega)
  try simp only [ia_lt, ia_le, ia_eq, ia_m1, ia_0, ia_1, ne_eq, true_and, and_true, false_and, and_false, or_false, false_or, or_true, true_or, not_true_eq_false, not_false_eq_true] at *
  all_goals omega
set_option maxRecDepth 20000 in
theorem lf_n_readOne9_5  (p2 : True) : (nI 0) = nI 0 ∨ (nI 0) = nI 1 := by
  try have k_0 := ia_n 0 (by first | decide | omega)
  try have k_1 := ia_n 1 (by first | decide | omega)
  try simp only [ia_lt, ia_le, ia_eq, ia_m1, ia_0, ia_1, ne_eq, true_and, and_true, false_and, and_false, or_false, false_or, or_true, true_or, not_true_eq_false, not_false_eq_true] at *
  all_goals omega
set_option maxRecDepth 20000 in
theorem lf_n_readOne9_6  (p2 : True) : (nI 0) = nI 0 ∨ (nI 0) = nI 1 := by
  try have k_0 := ia_n 0 (by first | decide | omega)
  try have k_1 := ia_n 1 (by first | decide | omega)
  try simp only [ia_lt, ia_le, ia_eq, ia_m1, ia_0, ia_1, ne_eq, true_and, and_true, false_and, and_false, or_false, false_or, or_true, true_or, not_true_eq_false, not_false_eq_true] at *
  all_goals omega
set_option maxRecDepth 20000 in
theorem lf_n_readOne9_7  (p2 : True) : (nI 0) = nI 0 ∨ (nI 0) = nI 1 := by
  try have k_0 := ia_n 0 (by first | decide | omega)
  try have k_1 := ia_n 1 (by first | decide | omega)
  try simp only [ia_lt, ia_le, ia_eq, ia_m1, ia_0, ia_1, ne_eq, true_and, and_true, false_and, and_false, or_false, false_or, or_true, true_or, not_true_eq_false, not_false_eq_true] at *
  all_goals omega
set_option maxRecDepth 20000 in
theorem lf_n_readOne9_8  (p2 : True) : (nI 1) = nI 0 ∨ (nI 1) = nI 1 := by
  try have k_0 := ia_n 1 (by first | decide | omega)
  try have k_1 := ia_n 0 (by first | decide | omega)
  try simp only [ia_lt, ia_le, ia_eq, ia_m1, ia_0, ia_1, ne_eq, true_and, and_true, false_and, and_false, or_false, false_or, or_true, true_or, not_true_eq_false, not_false_eq_true] at *
  all_goals omega
set_option maxHeartbeats 4000000 in
set_option maxRecDepth 100000 in
theorem c_n_readOne9 (l : Launch) (dC : Nat → ClassId) (dI : Nat → Nat → Nat) (ky : Nat → ClassId) (sz : Nat) (adK : Nat → Nat) (adV : Nat → Nat) (se : Nat) (ccodes : Nat) (ccodeCount : Nat) (cones : Int32) (ccodesF : Nat → Int32) (reader : Nat) (rtape : Nat) (rlength : Nat) (rmostBytes : Nat) (rplace : Nat) (rkind : Int32) (rbegin : Nat) (rword : Int32) (rnumber : Int32) (rletters : Int64) (rfaultKind : Int32) (rfaultPlace : Int32) (rtapeF : Nat → Int32) (a : Nat) (wide : Nat) (high : Nat) (heat : Int32) (cools : Int32) (skinHeat : Int32) (today : Int32) (stirs : Int32) (steps : Int32) (lumps : Nat) (boats : Nat) (thickness : Nat) (lumpNames : Nat) (lumpCells : Nat) (boatNames : Nat) (boatCells : Nat) (loads : Nat) (spoons : Nat) (spoonsLeft : Nat) (depths : Nat) (lumpNamesF : Nat → Int64) (iv_cse_0 : ccodeCount ≤ 40) (iv_rreader_0 : rlength ≤ 940) (iv_rreader_1 : rplace ≤ rlength) (iv_rreader_2 : rmostBytes ≤ 900) (iv_rreader_3 : rbegin ≤ 940) (iv_a_0 : 2 ≤ wide) (iv_a_1 : wide ≤ 6) (iv_a_2 : 2 ≤ high) (iv_a_3 : high ≤ 6) (iv_a_4 : lumps ≤ 6) (iv_a_5 : boats ≤ 6) : Met l yX9_readOne wsX9_readOne ({ frames := 2, cells := 0, slots := 0, locals := 43 }) (PcUE dC dI ky adK adV [.ref se, .ref reader, .ref a, .int (nI 9)] [(se, .inr (9, [.ref ccodes, .int (nI ccodeCount), .int cones])), (ccodes, .inl (ky 0, 40, .inl ccodesF)), (reader, .inr (5, [.ref rtape, .int (nI rlength), .int (nI rmostBytes), .int (nI rplace), .int rkind, .int (nI rbegin), .int rword, .int rnumber, .long rletters, .int rfaultKind, .int rfaultPlace])), (rtape, .inl (ky 2, 940, .inl rtapeF)), (a, .inr (7, [.int (nI wide), .int (nI high), .int heat, .int cools, .int skinHeat, .int today, .int stirs, .int steps, .int (nI lumps), .int (nI boats), .ref thickness, .ref lumpNames, .ref lumpCells, .ref boatNames, .ref boatCells, .ref loads, .ref spoons, .ref spoonsLeft, .ref depths])), (lumpNames, .inl (ky 1, 6, .inr (.inl lumpNamesF)))] sz) (va_Qi (fun (r : Int32) (u : Int32 × Int32) => match u with | (rfaultKindG, rfaultPlaceG) => r = nI 0 ∨ r = nI 1) (BU dC dI ky (fun (u : Int32 × Int32) => match u with | (rfaultKindG, rfaultPlaceG) => [(se, .inr (9, [.ref ccodes, .int (nI ccodeCount), .int cones])), (ccodes, .inl (ky 0, 40, .inl ccodesF)), (reader, .inr (5, [.ref rtape, .int (nI rlength), .int (nI rmostBytes), .int (nI rplace), .int rkind, .int (nI rbegin), .int rword, .int rnumber, .long rletters, .int rfaultKindG, .int rfaultPlaceG])), (rtape, .inl (ky 2, 940, .inl rtapeF)), (a, .inr (7, [.int (nI wide), .int (nI high), .int heat, .int cools, .int skinHeat, .int today, .int stirs, .int steps, .int (nI lumps), .int (nI boats), .ref thickness, .ref lumpNames, .ref lumpCells, .ref boatNames, .ref boatCells, .ref loads, .ref spoons, .ref spoonsLeft, .ref depths])), (lumpNames, .inl (ky 1, 6, .inr (.inl lumpNamesF)))]) (va_A [(se, .inr (9, [.ref ccodes, .int (nI ccodeCount), .int cones])), (ccodes, .inl (ky 0, 40, .inl ccodesF)), (reader, .inr (5, [.ref rtape, .int (nI rlength), .int (nI rmostBytes), .int (nI rplace), .int rkind, .int (nI rbegin), .int rword, .int rnumber, .long rletters, .int rfaultKind, .int rfaultPlace])), (rtape, .inl (ky 2, 940, .inl rtapeF)), (a, .inr (7, [.int (nI wide), .int (nI high), .int heat, .int cools, .int skinHeat, .int today, .int stirs, .int steps, .int (nI lumps), .int (nI boats), .ref thickness, .ref lumpNames, .ref lumpCells, .ref boatNames, .ref boatCells, .ref loads, .ref spoons, .ref spoonsLeft, .ref depths])), (lumpNames, .inl (ky 1, 6, .inr (.inl lumpNamesF)))] sz)) (va_A [(se, .inr (9, [.ref ccodes, .int (nI ccodeCount), .int cones])), (ccodes, .inl (ky 0, 40, .inl ccodesF)), (reader, .inr (5, [.ref rtape, .int (nI rlength), .int (nI rmostBytes), .int (nI rplace), .int rkind, .int (nI rbegin), .int rword, .int rnumber, .long rletters, .int rfaultKind, .int rfaultPlace])), (rtape, .inl (ky 2, 940, .inl rtapeF)), (a, .inr (7, [.int (nI wide), .int (nI high), .int heat, .int cools, .int skinHeat, .int today, .int stirs, .int steps, .int (nI lumps), .int (nI boats), .ref thickness, .ref lumpNames, .ref lumpCells, .ref boatNames, .ref boatCells, .ref loads, .ref spoons, .ref spoonsLeft, .ref depths])), (lumpNames, .inl (ky 1, 6, .inr (.inl lumpNamesF)))] sz)) 0 0 (va_A [(se, .inr (9, [.ref ccodes, .int (nI ccodeCount), .int cones])), (ccodes, .inl (ky 0, 40, .inl ccodesF)), (reader, .inr (5, [.ref rtape, .int (nI rlength), .int (nI rmostBytes), .int (nI rplace), .int rkind, .int (nI rbegin), .int rword, .int rnumber, .long rletters, .int rfaultKind, .int rfaultPlace])), (rtape, .inl (ky 2, 940, .inl rtapeF)), (a, .inr (7, [.int (nI wide), .int (nI high), .int heat, .int cools, .int skinHeat, .int today, .int stirs, .int steps, .int (nI lumps), .int (nI boats), .ref thickness, .ref lumpNames, .ref lumpCells, .ref boatNames, .ref boatCells, .ref loads, .ref spoons, .ref spoonsLeft, .ref depths])), (lumpNames, .inl (ky 1, 6, .inr (.inl lumpNamesF)))] sz) := by
  refine Met.ofW (cc := cX9_readOne) (maxL := 6) (ret := (some .boolean)) (by decide) rfl ?_
  intro p e s m args below meth c s₁ B hml hv
  obtain ⟨rfl, hsz, hP, hK, hD0, hE⟩ := hv
  have hx := B.exec
  have hb := B.bytes
  have hr := B.returns
  have hts := atoms_spec (ws := wsX9_readOne) B.pre
  have hown : s.vm.findClass RX9 = some m.cls := findClass_of_methodNamed B.named
  have hlocks := B.notSynchronized
  have hin5 : ∀ w ∈ u_ws RX5 TX5 11, w ∈ wsX9_readOne := by decide +kernel
  have hin9 : ∀ w ∈ u_ws RX9 TX9 3, w ∈ wsX9_readOne := by decide +kernel
  subst hsz
  have hD := hD0.self (sz := s.heap.size)
  generalize hAe : va_A [(se, .inr (9, [.ref ccodes, .int (nI ccodeCount), .int cones])), (ccodes, .inl (ky 0, 40, .inl ccodesF)), (reader, .inr (5, [.ref rtape, .int (nI rlength), .int (nI rmostBytes), .int (nI rplace), .int rkind, .int (nI rbegin), .int rword, .int rnumber, .long rletters, .int rfaultKind, .int rfaultPlace])), (rtape, .inl (ky 2, 940, .inl rtapeF)), (a, .inr (7, [.int (nI wide), .int (nI high), .int heat, .int cools, .int skinHeat, .int today, .int stirs, .int steps, .int (nI lumps), .int (nI boats), .ref thickness, .ref lumpNames, .ref lumpCells, .ref boatNames, .ref boatCells, .ref loads, .ref spoons, .ref spoonsLeft, .ref depths])), (lumpNames, .inl (ky 1, 6, .inr (.inl lumpNamesF)))] s.heap.size = A at hD hE ⊢
  have hA : ∀ q : Nat, s.heap.size ≤ q → A q := fun q h => by rw [← hAe]; exact Or.inr h
  have hS : va_S A s.heap s.heap [] := va_S.rf
  have hl := lv_entry ([.ref se, .ref reader, .ref a, .int (nI 9)]) (n := 6) (Nat.le_of_ble_eq_true rfl)
  rw [lg_entry_eq]
  generalize (lg_sl ([.ref se, .ref reader, .ref a, .int (nI 9)]) ++ List.replicate (6 - (lg_sl ([.ref se, .ref reader, .ref a, .int (nI 9)])).length) Slot.unset).toArray = ls at hl ⊢
  have hl : lv_has ls 6 [(0, .ref se), (1, .ref reader), (2, .ref a), (3, .int (nI 9))] := hl
  refine q_name (fun Q hQ => ?_)
  generalize ([.ref se, .ref reader, .ref a, .int (nI 9)] : List Value).toArray = args at hts hQ ⊢
  refine lv_aload_n hx hb dX9_readOne_0 rfl (lv_at hl 1 rfl) ?_
  refine vp_callSi (W.runV (As := []) (rest := []) ⟨hx, hb, hml, hown, hts⟩ (c_r_nextWord l dC dI ky reader rtape rlength rmostBytes rplace rkind rbegin rword rnumber rletters rfaultKind rfaultPlace iv_rreader_0 iv_rreader_1 iv_rreader_2 iv_rreader_3) (cwV 0 hts gX9_readOne_X5_nextWord rfl rfl rfl (by decide +kernel) ⟨(Nat.le_of_ble_eq_true rfl), (Nat.le_of_ble_eq_true rfl)⟩) (pre_PV hK hP [2] rfl (ci := 5) (q0 := 2) rfl rfl) rfl rfl hl.1 rfl (lv_room (Nat.le_of_ble_eq_true rfl)) dX9_readOne_1 ⟨(Nat.le_of_ble_eq_true rfl), (Nat.le_of_ble_eq_true rfl)⟩) (fun r1 p2 => ?_)
  refine lv_istore (lv' := [(4, .int r1), (0, .ref se), (1, .ref reader), (2, .ref a), (3, .int (nI 9))]) hx hb dX9_readOne_4 hl (by decide) rfl (fun ls hl => ?_)
  refine lv_aload_n hx hb dX9_readOne_6 rfl (lv_at hl 2 rfl) ?_
  refine va_get (D := (dC, dI)) (ci := 5) (v := .int rkind) (C := RX5) (T := TX5) (N := 11) hx hb hts hin5 hown hK hP 2 rfl rfl 4 (by decide) (hts (.fieldLink RX9 35 "PorridgeSea$Reader" "kind" "I") (List.mem_of_getElem? (i := 1) rfl)) (fun _ h9 => h9) rfl dX9_readOne_7 ?_
  refine lv_bipush (v := nI 40) hx hb dX9_readOne_10 (by decide) ?_
  have hJ6 : ∀ (x4 : Int32), (x4 = nI 0 ∨ x4 = nI 1) → ∀ (H : Heap) (locs : List Loc) (ls : Array Slot), va_P (dC, dI) vwCl [(se, .inr (9, [.ref ccodes, .int (nI ccodeCount), .int cones])), (ccodes, .inl (ky 0, 40, .inl ccodesF)), (reader, .inr (5, [.ref rtape, .int (nI rlength), .int (nI rmostBytes), .int (nI rplace), .int rkind, .int (nI rbegin), .int rword, .int rnumber, .long rletters, .int rfaultKind, .int rfaultPlace])), (rtape, .inl (ky 2, 940, .inl rtapeF)), (a, .inr (7, [.int (nI wide), .int (nI high), .int heat, .int cools, .int skinHeat, .int today, .int stirs, .int steps, .int (nI lumps), .int (nI boats), .ref thickness, .ref lumpNames, .ref lumpCells, .ref boatNames, .ref boatCells, .ref loads, .ref spoons, .ref spoonsLeft, .ref depths])), (lumpNames, .inl (ky 1, 6, .inr (.inl lumpNamesF)))] H → va_D A [(se, .inr (9, [.ref ccodes, .int (nI ccodeCount), .int cones])), (ccodes, .inl (ky 0, 40, .inl ccodesF)), (reader, .inr (5, [.ref rtape, .int (nI rlength), .int (nI rmostBytes), .int (nI rplace), .int rkind, .int (nI rbegin), .int rword, .int rnumber, .long rletters, .int rfaultKind, .int rfaultPlace])), (rtape, .inl (ky 2, 940, .inl rtapeF)), (a, .inr (7, [.int (nI wide), .int (nI high), .int heat, .int cools, .int skinHeat, .int today, .int stirs, .int steps, .int (nI lumps), .int (nI boats), .ref thickness, .ref lumpNames, .ref lumpCells, .ref boatNames, .ref boatCells, .ref loads, .ref spoons, .ref spoonsLeft, .ref depths])), (lumpNames, .inl (ky 1, 6, .inr (.inl lumpNamesF)))] → va_S A s.heap H locs → lv_has ls 6 [(4, .int r1), (0, .ref se), (1, .ref reader), (2, .ref a), (3, .int (nI 9))] → W p l e (headSpec wsX9_readOne ({ frames := 2, cells := 0, slots := 0, locals := 43 })).room s m args below meth c H locs 0 0 Q (F0 m 20 ls [.int x4]) := by
    intro x4 j5 H locs ls hP hD hS hl
    refine lv_istore (lv' := [(5, .int x4), (4, .int r1), (0, .ref se), (1, .ref reader), (2, .ref a), (3, .int (nI 9))]) hx hb dX9_readOne_20 hl (by decide) rfl (fun ls hl => ?_)
    refine lv_iload hx hb dX9_readOne_22 (lv_at hl 0 rfl) ?_
    refine lv_if_ne (tgt := 47) hx hb dX9_readOne_24 (by decide) (fun c7 => ?_) (fun c7 => ?_)
    · refine lv_aload_n hx hb dX9_readOne_47 rfl (lv_at hl 2 rfl) ?_
      refine va_get (D := (dC, dI)) (ci := 9) (v := .int cones) (C := RX9) (T := TX9) (N := 3) hx hb hts hin9 hown hK hP 0 rfl rfl 2 (by decide) (hts (.fieldLink RX9 19 "PorridgeSea$Sentence" "ones" "I") (List.mem_of_getElem? (i := 2) rfl)) (fun _ h9 => h9) rfl dX9_readOne_48 ?_
      refine lv_bipush (v := nI 20) hx hb dX9_readOne_51 (by decide) ?_
      refine lv_icmp_ge (tgt := 62) hx hb dX9_readOne_53 (by decide) (fun c8 => ?_) (fun c8 => ?_)
      · refine lv_aload_n hx hb dX9_readOne_62 rfl (lv_at hl 3 rfl) ?_
        refine lv_iconst (v := nI 4) hx hb dX9_readOne_63 (by decide) ?_
        refine r_call_i (wr := [(se, .inr (9, [.ref ccodes, .int (nI ccodeCount), .int cones])), (ccodes, .inl (ky 0, 40, .inl ccodesF)), (rtape, .inl (ky 2, 940, .inl rtapeF)), (a, .inr (7, [.int (nI wide), .int (nI high), .int heat, .int cools, .int skinHeat, .int today, .int stirs, .int steps, .int (nI lumps), .int (nI boats), .ref thickness, .ref lumpNames, .ref lumpCells, .ref boatNames, .ref boatCells, .ref loads, .ref spoons, .ref spoonsLeft, .ref depths])), (lumpNames, .inl (ky 1, 6, .inr (.inl lumpNamesF)))]) (va_runV (As := [.int (nI 4)]) (rest := []) ⟨hx, hb, hml, hown, hts⟩ (c_r_refuse l dC dI ky H.size reader rtape rlength rmostBytes rplace rkind rbegin rword rnumber rletters rfaultKind rfaultPlace (nI 4) iv_rreader_0 iv_rreader_1 iv_rreader_2 iv_rreader_3) (cwV 1 hts gX9_readOne_X5_refuse rfl rfl rfl (by decide +kernel) ⟨(Nat.le_of_ble_eq_true rfl), (Nat.le_of_ble_eq_true rfl)⟩) (pre_UV hK hP hD [2] (by decide) rfl (ci := 5) (q0 := 2) rfl rfl) rfl rfl hl.1 rfl (lv_room (Nat.le_of_ble_eq_true rfl)) dX9_readOne_64 ⟨(Nat.le_of_ble_eq_true rfl), (Nat.le_of_ble_eq_true rfl)⟩) hP hD hS hA [2] [0, 1, 3, 4, 5] rfl rfl (by decide) (by decide) (fun r11 u9 H locs p10 hP hD hS => ?_)
        obtain ⟨rfaultKindG_12, rfaultPlaceG_13⟩ := u9
        try dsimp only at p10
        have p14 := p10
        refine W.widen (k := 0) (n := 0) (Nat.le_of_ble_eq_true rfl) (Nat.le_of_ble_eq_true rfl) ?_
        have hP : va_P (dC, dI) vwCl [(se, .inr (9, [.ref ccodes, .int (nI ccodeCount), .int cones])), (ccodes, .inl (ky 0, 40, .inl ccodesF)), (rtape, .inl (ky 2, 940, .inl rtapeF)), (a, .inr (7, [.int (nI wide), .int (nI high), .int heat, .int cools, .int skinHeat, .int today, .int stirs, .int steps, .int (nI lumps), .int (nI boats), .ref thickness, .ref lumpNames, .ref lumpCells, .ref boatNames, .ref boatCells, .ref loads, .ref spoons, .ref spoonsLeft, .ref depths])), (lumpNames, .inl (ky 1, 6, .inr (.inl lumpNamesF))), (reader, .inr (5, [.ref rtape, .int (nI rlength), .int (nI rmostBytes), .int (nI rplace), .int rkind, .int (nI rbegin), .int rword, .int rnumber, .long rletters, .int rfaultKindG_12, .int rfaultPlaceG_13]))] H := hP
        have hD : va_D A [(se, .inr (9, [.ref ccodes, .int (nI ccodeCount), .int cones])), (ccodes, .inl (ky 0, 40, .inl ccodesF)), (rtape, .inl (ky 2, 940, .inl rtapeF)), (a, .inr (7, [.int (nI wide), .int (nI high), .int heat, .int cools, .int skinHeat, .int today, .int stirs, .int steps, .int (nI lumps), .int (nI boats), .ref thickness, .ref lumpNames, .ref lumpCells, .ref boatNames, .ref boatCells, .ref loads, .ref spoons, .ref spoonsLeft, .ref depths])), (lumpNames, .inl (ky 1, 6, .inr (.inl lumpNamesF))), (reader, .inr (5, [.ref rtape, .int (nI rlength), .int (nI rmostBytes), .int (nI rplace), .int rkind, .int (nI rbegin), .int rword, .int rnumber, .long rletters, .int rfaultKindG_12, .int rfaultPlaceG_13]))] := hD
        subst p14
        rw [hQ]
        have hP9 := hP.sub (ws' := [(se, .inr (9, [.ref ccodes, .int (nI ccodeCount), .int cones])), (ccodes, .inl (ky 0, 40, .inl ccodesF)), (reader, .inr (5, [.ref rtape, .int (nI rlength), .int (nI rmostBytes), .int (nI rplace), .int rkind, .int (nI rbegin), .int rword, .int rnumber, .long rletters, .int rfaultKindG_12, .int rfaultPlaceG_13])), (rtape, .inl (ky 2, 940, .inl rtapeF)), (a, .inr (7, [.int (nI wide), .int (nI high), .int heat, .int cools, .int skinHeat, .int today, .int stirs, .int steps, .int (nI lumps), .int (nI boats), .ref thickness, .ref lumpNames, .ref lumpCells, .ref boatNames, .ref boatCells, .ref loads, .ref spoons, .ref spoonsLeft, .ref depths])), (lumpNames, .inl (ky 1, 6, .inr (.inl lumpNamesF)))]) [0, 1, 5, 2, 3, 4] rfl
        have hD9 := hD.sub (ws' := [(se, .inr (9, [.ref ccodes, .int (nI ccodeCount), .int cones])), (ccodes, .inl (ky 0, 40, .inl ccodesF)), (reader, .inr (5, [.ref rtape, .int (nI rlength), .int (nI rmostBytes), .int (nI rplace), .int rkind, .int (nI rbegin), .int rword, .int rnumber, .long rletters, .int rfaultKindG_12, .int rfaultPlaceG_13])), (rtape, .inl (ky 2, 940, .inl rtapeF)), (a, .inr (7, [.int (nI wide), .int (nI high), .int heat, .int cools, .int skinHeat, .int today, .int stirs, .int steps, .int (nI lumps), .int (nI boats), .ref thickness, .ref lumpNames, .ref lumpCells, .ref boatNames, .ref boatCells, .ref loads, .ref spoons, .ref spoonsLeft, .ref depths])), (lumpNames, .inl (ky 1, 6, .inr (.inl lumpNamesF)))]) [0, 1, 5, 2, 3, 4] (by decide) rfl
        exact W.zret (v := nI 0) hx hb hr (by decide) (fun t9 ht9 hW9 => ⟨⟨nI 0, (rfaultKindG_12, rfaultPlaceG_13), rfl, (lf_n_readOne9_1 p2), by rw [ht9]; exact hP9, va_K.moved hW9.alike hK, hD9⟩, hS.F ht9⟩) hS.2.2 dX9_readOne_67
      · refine lv_iload_n hx hb dX9_readOne_56 rfl (lv_at hl 5 rfl) ?_
        refine lv_bipush (v := nI 8) hx hb dX9_readOne_57 (by decide) ?_
        refine lv_icmp_le (tgt := 68) hx hb dX9_readOne_59 (by decide) (fun c15 => absurd c15 (by decide)) (fun c15 => ?_)
        refine lv_aload_n hx hb dX9_readOne_62 rfl (lv_at hl 3 rfl) ?_
        refine lv_iconst (v := nI 4) hx hb dX9_readOne_63 (by decide) ?_
        refine r_call_i (wr := [(se, .inr (9, [.ref ccodes, .int (nI ccodeCount), .int cones])), (ccodes, .inl (ky 0, 40, .inl ccodesF)), (rtape, .inl (ky 2, 940, .inl rtapeF)), (a, .inr (7, [.int (nI wide), .int (nI high), .int heat, .int cools, .int skinHeat, .int today, .int stirs, .int steps, .int (nI lumps), .int (nI boats), .ref thickness, .ref lumpNames, .ref lumpCells, .ref boatNames, .ref boatCells, .ref loads, .ref spoons, .ref spoonsLeft, .ref depths])), (lumpNames, .inl (ky 1, 6, .inr (.inl lumpNamesF)))]) (va_runV (As := [.int (nI 4)]) (rest := []) ⟨hx, hb, hml, hown, hts⟩ (c_r_refuse l dC dI ky H.size reader rtape rlength rmostBytes rplace rkind rbegin rword rnumber rletters rfaultKind rfaultPlace (nI 4) iv_rreader_0 iv_rreader_1 iv_rreader_2 iv_rreader_3) (cwV 1 hts gX9_readOne_X5_refuse rfl rfl rfl (by decide +kernel) ⟨(Nat.le_of_ble_eq_true rfl), (Nat.le_of_ble_eq_true rfl)⟩) (pre_UV hK hP hD [2] (by decide) rfl (ci := 5) (q0 := 2) rfl rfl) rfl rfl hl.1 rfl (lv_room (Nat.le_of_ble_eq_true rfl)) dX9_readOne_64 ⟨(Nat.le_of_ble_eq_true rfl), (Nat.le_of_ble_eq_true rfl)⟩) hP hD hS hA [2] [0, 1, 3, 4, 5] rfl rfl (by decide) (by decide) (fun r18 u16 H locs p17 hP hD hS => ?_)
        obtain ⟨rfaultKindG_19, rfaultPlaceG_20⟩ := u16
        try dsimp only at p17
        have p21 := p17
        refine W.widen (k := 0) (n := 0) (Nat.le_of_ble_eq_true rfl) (Nat.le_of_ble_eq_true rfl) ?_
        have hP : va_P (dC, dI) vwCl [(se, .inr (9, [.ref ccodes, .int (nI ccodeCount), .int cones])), (ccodes, .inl (ky 0, 40, .inl ccodesF)), (rtape, .inl (ky 2, 940, .inl rtapeF)), (a, .inr (7, [.int (nI wide), .int (nI high), .int heat, .int cools, .int skinHeat, .int today, .int stirs, .int steps, .int (nI lumps), .int (nI boats), .ref thickness, .ref lumpNames, .ref lumpCells, .ref boatNames, .ref boatCells, .ref loads, .ref spoons, .ref spoonsLeft, .ref depths])), (lumpNames, .inl (ky 1, 6, .inr (.inl lumpNamesF))), (reader, .inr (5, [.ref rtape, .int (nI rlength), .int (nI rmostBytes), .int (nI rplace), .int rkind, .int (nI rbegin), .int rword, .int rnumber, .long rletters, .int rfaultKindG_19, .int rfaultPlaceG_20]))] H := hP
        have hD : va_D A [(se, .inr (9, [.ref ccodes, .int (nI ccodeCount), .int cones])), (ccodes, .inl (ky 0, 40, .inl ccodesF)), (rtape, .inl (ky 2, 940, .inl rtapeF)), (a, .inr (7, [.int (nI wide), .int (nI high), .int heat, .int cools, .int skinHeat, .int today, .int stirs, .int steps, .int (nI lumps), .int (nI boats), .ref thickness, .ref lumpNames, .ref lumpCells, .ref boatNames, .ref boatCells, .ref loads, .ref spoons, .ref spoonsLeft, .ref depths])), (lumpNames, .inl (ky 1, 6, .inr (.inl lumpNamesF))), (reader, .inr (5, [.ref rtape, .int (nI rlength), .int (nI rmostBytes), .int (nI rplace), .int rkind, .int (nI rbegin), .int rword, .int rnumber, .long rletters, .int rfaultKindG_19, .int rfaultPlaceG_20]))] := hD
        subst p21
        rw [hQ]
        have hP9 := hP.sub (ws' := [(se, .inr (9, [.ref ccodes, .int (nI ccodeCount), .int cones])), (ccodes, .inl (ky 0, 40, .inl ccodesF)), (reader, .inr (5, [.ref rtape, .int (nI rlength), .int (nI rmostBytes), .int (nI rplace), .int rkind, .int (nI rbegin), .int rword, .int rnumber, .long rletters, .int rfaultKindG_19, .int rfaultPlaceG_20])), (rtape, .inl (ky 2, 940, .inl rtapeF)), (a, .inr (7, [.int (nI wide), .int (nI high), .int heat, .int cools, .int skinHeat, .int today, .int stirs, .int steps, .int (nI lumps), .int (nI boats), .ref thickness, .ref lumpNames, .ref lumpCells, .ref boatNames, .ref boatCells, .ref loads, .ref spoons, .ref spoonsLeft, .ref depths])), (lumpNames, .inl (ky 1, 6, .inr (.inl lumpNamesF)))]) [0, 1, 5, 2, 3, 4] rfl
        have hD9 := hD.sub (ws' := [(se, .inr (9, [.ref ccodes, .int (nI ccodeCount), .int cones])), (ccodes, .inl (ky 0, 40, .inl ccodesF)), (reader, .inr (5, [.ref rtape, .int (nI rlength), .int (nI rmostBytes), .int (nI rplace), .int rkind, .int (nI rbegin), .int rword, .int rnumber, .long rletters, .int rfaultKindG_19, .int rfaultPlaceG_20])), (rtape, .inl (ky 2, 940, .inl rtapeF)), (a, .inr (7, [.int (nI wide), .int (nI high), .int heat, .int cools, .int skinHeat, .int today, .int stirs, .int steps, .int (nI lumps), .int (nI boats), .ref thickness, .ref lumpNames, .ref lumpCells, .ref boatNames, .ref boatCells, .ref loads, .ref spoons, .ref spoonsLeft, .ref depths])), (lumpNames, .inl (ky 1, 6, .inr (.inl lumpNamesF)))]) [0, 1, 5, 2, 3, 4] (by decide) rfl
        exact W.zret (v := nI 0) hx hb hr (by decide) (fun t9 ht9 hW9 => ⟨⟨nI 0, (rfaultKindG_19, rfaultPlaceG_20), rfl, (lf_n_readOne9_2 p2), by rw [ht9]; exact hP9, va_K.moved hW9.alike hK, hD9⟩, hS.F ht9⟩) hS.2.2 dX9_readOne_67
    · refine lv_iload hx hb dX9_readOne_27 (lv_at hl 1 rfl) ?_
      refine lv_bipush (v := nI 22) hx hb dX9_readOne_29 (by decide) ?_
      refine lv_icmp_lt (tgt := 41) hx hb dX9_readOne_31 (by decide) (fun c22 => ?_) (fun c22 => ?_)
      · refine lv_aload_n hx hb dX9_readOne_41 rfl (lv_at hl 3 rfl) ?_
        refine lv_iconst (v := nI 1) hx hb dX9_readOne_42 (by decide) ?_
        refine r_call_i (wr := [(se, .inr (9, [.ref ccodes, .int (nI ccodeCount), .int cones])), (ccodes, .inl (ky 0, 40, .inl ccodesF)), (rtape, .inl (ky 2, 940, .inl rtapeF)), (a, .inr (7, [.int (nI wide), .int (nI high), .int heat, .int cools, .int skinHeat, .int today, .int stirs, .int steps, .int (nI lumps), .int (nI boats), .ref thickness, .ref lumpNames, .ref lumpCells, .ref boatNames, .ref boatCells, .ref loads, .ref spoons, .ref spoonsLeft, .ref depths])), (lumpNames, .inl (ky 1, 6, .inr (.inl lumpNamesF)))]) (va_runV (As := [.int (nI 1)]) (rest := []) ⟨hx, hb, hml, hown, hts⟩ (c_r_refuse l dC dI ky H.size reader rtape rlength rmostBytes rplace rkind rbegin rword rnumber rletters rfaultKind rfaultPlace (nI 1) iv_rreader_0 iv_rreader_1 iv_rreader_2 iv_rreader_3) (cwV 1 hts gX9_readOne_X5_refuse rfl rfl rfl (by decide +kernel) ⟨(Nat.le_of_ble_eq_true rfl), (Nat.le_of_ble_eq_true rfl)⟩) (pre_UV hK hP hD [2] (by decide) rfl (ci := 5) (q0 := 2) rfl rfl) rfl rfl hl.1 rfl (lv_room (Nat.le_of_ble_eq_true rfl)) dX9_readOne_43 ⟨(Nat.le_of_ble_eq_true rfl), (Nat.le_of_ble_eq_true rfl)⟩) hP hD hS hA [2] [0, 1, 3, 4, 5] rfl rfl (by decide) (by decide) (fun r25 u23 H locs p24 hP hD hS => ?_)
        obtain ⟨rfaultKindG_26, rfaultPlaceG_27⟩ := u23
        try dsimp only at p24
        have p28 := p24
        refine W.widen (k := 0) (n := 0) (Nat.le_of_ble_eq_true rfl) (Nat.le_of_ble_eq_true rfl) ?_
        have hP : va_P (dC, dI) vwCl [(se, .inr (9, [.ref ccodes, .int (nI ccodeCount), .int cones])), (ccodes, .inl (ky 0, 40, .inl ccodesF)), (rtape, .inl (ky 2, 940, .inl rtapeF)), (a, .inr (7, [.int (nI wide), .int (nI high), .int heat, .int cools, .int skinHeat, .int today, .int stirs, .int steps, .int (nI lumps), .int (nI boats), .ref thickness, .ref lumpNames, .ref lumpCells, .ref boatNames, .ref boatCells, .ref loads, .ref spoons, .ref spoonsLeft, .ref depths])), (lumpNames, .inl (ky 1, 6, .inr (.inl lumpNamesF))), (reader, .inr (5, [.ref rtape, .int (nI rlength), .int (nI rmostBytes), .int (nI rplace), .int rkind, .int (nI rbegin), .int rword, .int rnumber, .long rletters, .int rfaultKindG_26, .int rfaultPlaceG_27]))] H := hP
        have hD : va_D A [(se, .inr (9, [.ref ccodes, .int (nI ccodeCount), .int cones])), (ccodes, .inl (ky 0, 40, .inl ccodesF)), (rtape, .inl (ky 2, 940, .inl rtapeF)), (a, .inr (7, [.int (nI wide), .int (nI high), .int heat, .int cools, .int skinHeat, .int today, .int stirs, .int steps, .int (nI lumps), .int (nI boats), .ref thickness, .ref lumpNames, .ref lumpCells, .ref boatNames, .ref boatCells, .ref loads, .ref spoons, .ref spoonsLeft, .ref depths])), (lumpNames, .inl (ky 1, 6, .inr (.inl lumpNamesF))), (reader, .inr (5, [.ref rtape, .int (nI rlength), .int (nI rmostBytes), .int (nI rplace), .int rkind, .int (nI rbegin), .int rword, .int rnumber, .long rletters, .int rfaultKindG_26, .int rfaultPlaceG_27]))] := hD
        subst p28
        rw [hQ]
        have hP9 := hP.sub (ws' := [(se, .inr (9, [.ref ccodes, .int (nI ccodeCount), .int cones])), (ccodes, .inl (ky 0, 40, .inl ccodesF)), (reader, .inr (5, [.ref rtape, .int (nI rlength), .int (nI rmostBytes), .int (nI rplace), .int rkind, .int (nI rbegin), .int rword, .int rnumber, .long rletters, .int rfaultKindG_26, .int rfaultPlaceG_27])), (rtape, .inl (ky 2, 940, .inl rtapeF)), (a, .inr (7, [.int (nI wide), .int (nI high), .int heat, .int cools, .int skinHeat, .int today, .int stirs, .int steps, .int (nI lumps), .int (nI boats), .ref thickness, .ref lumpNames, .ref lumpCells, .ref boatNames, .ref boatCells, .ref loads, .ref spoons, .ref spoonsLeft, .ref depths])), (lumpNames, .inl (ky 1, 6, .inr (.inl lumpNamesF)))]) [0, 1, 5, 2, 3, 4] rfl
        have hD9 := hD.sub (ws' := [(se, .inr (9, [.ref ccodes, .int (nI ccodeCount), .int cones])), (ccodes, .inl (ky 0, 40, .inl ccodesF)), (reader, .inr (5, [.ref rtape, .int (nI rlength), .int (nI rmostBytes), .int (nI rplace), .int rkind, .int (nI rbegin), .int rword, .int rnumber, .long rletters, .int rfaultKindG_26, .int rfaultPlaceG_27])), (rtape, .inl (ky 2, 940, .inl rtapeF)), (a, .inr (7, [.int (nI wide), .int (nI high), .int heat, .int cools, .int skinHeat, .int today, .int stirs, .int steps, .int (nI lumps), .int (nI boats), .ref thickness, .ref lumpNames, .ref lumpCells, .ref boatNames, .ref boatCells, .ref loads, .ref spoons, .ref spoonsLeft, .ref depths])), (lumpNames, .inl (ky 1, 6, .inr (.inl lumpNamesF)))]) [0, 1, 5, 2, 3, 4] (by decide) rfl
        exact W.zret (v := nI 0) hx hb hr (by decide) (fun t9 ht9 hW9 => ⟨⟨nI 0, (rfaultKindG_26, rfaultPlaceG_27), rfl, (lf_n_readOne9_3 p2), by rw [ht9]; exact hP9, va_K.moved hW9.alike hK, hD9⟩, hS.F ht9⟩) hS.2.2 dX9_readOne_46
      · refine lv_iload hx hb dX9_readOne_34 (lv_at hl 1 rfl) ?_
        refine lv_bipush (v := nI 30) hx hb dX9_readOne_36 (by decide) ?_
        refine lv_icmp_le (tgt := 47) hx hb dX9_readOne_38 (by decide) (fun c29 => ?_) (fun c29 => ?_)
        · refine lv_aload_n hx hb dX9_readOne_47 rfl (lv_at hl 2 rfl) ?_
          refine va_get (D := (dC, dI)) (ci := 9) (v := .int cones) (C := RX9) (T := TX9) (N := 3) hx hb hts hin9 hown hK hP 0 rfl rfl 2 (by decide) (hts (.fieldLink RX9 19 "PorridgeSea$Sentence" "ones" "I") (List.mem_of_getElem? (i := 2) rfl)) (fun _ h9 => h9) rfl dX9_readOne_48 ?_
          refine lv_bipush (v := nI 20) hx hb dX9_readOne_51 (by decide) ?_
          refine lv_icmp_ge (tgt := 62) hx hb dX9_readOne_53 (by decide) (fun c30 => ?_) (fun c30 => ?_)
          · refine lv_aload_n hx hb dX9_readOne_62 rfl (lv_at hl 3 rfl) ?_
            refine lv_iconst (v := nI 4) hx hb dX9_readOne_63 (by decide) ?_
            refine r_call_i (wr := [(se, .inr (9, [.ref ccodes, .int (nI ccodeCount), .int cones])), (ccodes, .inl (ky 0, 40, .inl ccodesF)), (rtape, .inl (ky 2, 940, .inl rtapeF)), (a, .inr (7, [.int (nI wide), .int (nI high), .int heat, .int cools, .int skinHeat, .int today, .int stirs, .int steps, .int (nI lumps), .int (nI boats), .ref thickness, .ref lumpNames, .ref lumpCells, .ref boatNames, .ref boatCells, .ref loads, .ref spoons, .ref spoonsLeft, .ref depths])), (lumpNames, .inl (ky 1, 6, .inr (.inl lumpNamesF)))]) (va_runV (As := [.int (nI 4)]) (rest := []) ⟨hx, hb, hml, hown, hts⟩ (c_r_refuse l dC dI ky H.size reader rtape rlength rmostBytes rplace rkind rbegin rword rnumber rletters rfaultKind rfaultPlace (nI 4) iv_rreader_0 iv_rreader_1 iv_rreader_2 iv_rreader_3) (cwV 1 hts gX9_readOne_X5_refuse rfl rfl rfl (by decide +kernel) ⟨(Nat.le_of_ble_eq_true rfl), (Nat.le_of_ble_eq_true rfl)⟩) (pre_UV hK hP hD [2] (by decide) rfl (ci := 5) (q0 := 2) rfl rfl) rfl rfl hl.1 rfl (lv_room (Nat.le_of_ble_eq_true rfl)) dX9_readOne_64 ⟨(Nat.le_of_ble_eq_true rfl), (Nat.le_of_ble_eq_true rfl)⟩) hP hD hS hA [2] [0, 1, 3, 4, 5] rfl rfl (by decide) (by decide) (fun r33 u31 H locs p32 hP hD hS => ?_)
            obtain ⟨rfaultKindG_34, rfaultPlaceG_35⟩ := u31
            try dsimp only at p32
            have p36 := p32
            refine W.widen (k := 0) (n := 0) (Nat.le_of_ble_eq_true rfl) (Nat.le_of_ble_eq_true rfl) ?_
            have hP : va_P (dC, dI) vwCl [(se, .inr (9, [.ref ccodes, .int (nI ccodeCount), .int cones])), (ccodes, .inl (ky 0, 40, .inl ccodesF)), (rtape, .inl (ky 2, 940, .inl rtapeF)), (a, .inr (7, [.int (nI wide), .int (nI high), .int heat, .int cools, .int skinHeat, .int today, .int stirs, .int steps, .int (nI lumps), .int (nI boats), .ref thickness, .ref lumpNames, .ref lumpCells, .ref boatNames, .ref boatCells, .ref loads, .ref spoons, .ref spoonsLeft, .ref depths])), (lumpNames, .inl (ky 1, 6, .inr (.inl lumpNamesF))), (reader, .inr (5, [.ref rtape, .int (nI rlength), .int (nI rmostBytes), .int (nI rplace), .int rkind, .int (nI rbegin), .int rword, .int rnumber, .long rletters, .int rfaultKindG_34, .int rfaultPlaceG_35]))] H := hP
            have hD : va_D A [(se, .inr (9, [.ref ccodes, .int (nI ccodeCount), .int cones])), (ccodes, .inl (ky 0, 40, .inl ccodesF)), (rtape, .inl (ky 2, 940, .inl rtapeF)), (a, .inr (7, [.int (nI wide), .int (nI high), .int heat, .int cools, .int skinHeat, .int today, .int stirs, .int steps, .int (nI lumps), .int (nI boats), .ref thickness, .ref lumpNames, .ref lumpCells, .ref boatNames, .ref boatCells, .ref loads, .ref spoons, .ref spoonsLeft, .ref depths])), (lumpNames, .inl (ky 1, 6, .inr (.inl lumpNamesF))), (reader, .inr (5, [.ref rtape, .int (nI rlength), .int (nI rmostBytes), .int (nI rplace), .int rkind, .int (nI rbegin), .int rword, .int rnumber, .long rletters, .int rfaultKindG_34, .int rfaultPlaceG_35]))] := hD
            subst p36
            rw [hQ]
            have hP9 := hP.sub (ws' := [(se, .inr (9, [.ref ccodes, .int (nI ccodeCount), .int cones])), (ccodes, .inl (ky 0, 40, .inl ccodesF)), (reader, .inr (5, [.ref rtape, .int (nI rlength), .int (nI rmostBytes), .int (nI rplace), .int rkind, .int (nI rbegin), .int rword, .int rnumber, .long rletters, .int rfaultKindG_34, .int rfaultPlaceG_35])), (rtape, .inl (ky 2, 940, .inl rtapeF)), (a, .inr (7, [.int (nI wide), .int (nI high), .int heat, .int cools, .int skinHeat, .int today, .int stirs, .int steps, .int (nI lumps), .int (nI boats), .ref thickness, .ref lumpNames, .ref lumpCells, .ref boatNames, .ref boatCells, .ref loads, .ref spoons, .ref spoonsLeft, .ref depths])), (lumpNames, .inl (ky 1, 6, .inr (.inl lumpNamesF)))]) [0, 1, 5, 2, 3, 4] rfl
            have hD9 := hD.sub (ws' := [(se, .inr (9, [.ref ccodes, .int (nI ccodeCount), .int cones])), (ccodes, .inl (ky 0, 40, .inl ccodesF)), (reader, .inr (5, [.ref rtape, .int (nI rlength), .int (nI rmostBytes), .int (nI rplace), .int rkind, .int (nI rbegin), .int rword, .int rnumber, .long rletters, .int rfaultKindG_34, .int rfaultPlaceG_35])), (rtape, .inl (ky 2, 940, .inl rtapeF)), (a, .inr (7, [.int (nI wide), .int (nI high), .int heat, .int cools, .int skinHeat, .int today, .int stirs, .int steps, .int (nI lumps), .int (nI boats), .ref thickness, .ref lumpNames, .ref lumpCells, .ref boatNames, .ref boatCells, .ref loads, .ref spoons, .ref spoonsLeft, .ref depths])), (lumpNames, .inl (ky 1, 6, .inr (.inl lumpNamesF)))]) [0, 1, 5, 2, 3, 4] (by decide) rfl
            exact W.zret (v := nI 0) hx hb hr (by decide) (fun t9 ht9 hW9 => ⟨⟨nI 0, (rfaultKindG_34, rfaultPlaceG_35), rfl, (lf_n_readOne9_4 p2), by rw [ht9]; exact hP9, va_K.moved hW9.alike hK, hD9⟩, hS.F ht9⟩) hS.2.2 dX9_readOne_67
          · refine lv_iload_n hx hb dX9_readOne_56 rfl (lv_at hl 5 rfl) ?_
            refine lv_bipush (v := nI 8) hx hb dX9_readOne_57 (by decide) ?_
            refine lv_icmp_le (tgt := 68) hx hb dX9_readOne_59 (by decide) (fun c37 => absurd c37 (by decide)) (fun c37 => ?_)
            refine lv_aload_n hx hb dX9_readOne_62 rfl (lv_at hl 3 rfl) ?_
            refine lv_iconst (v := nI 4) hx hb dX9_readOne_63 (by decide) ?_
            refine r_call_i (wr := [(se, .inr (9, [.ref ccodes, .int (nI ccodeCount), .int cones])), (ccodes, .inl (ky 0, 40, .inl ccodesF)), (rtape, .inl (ky 2, 940, .inl rtapeF)), (a, .inr (7, [.int (nI wide), .int (nI high), .int heat, .int cools, .int skinHeat, .int today, .int stirs, .int steps, .int (nI lumps), .int (nI boats), .ref thickness, .ref lumpNames, .ref lumpCells, .ref boatNames, .ref boatCells, .ref loads, .ref spoons, .ref spoonsLeft, .ref depths])), (lumpNames, .inl (ky 1, 6, .inr (.inl lumpNamesF)))]) (va_runV (As := [.int (nI 4)]) (rest := []) ⟨hx, hb, hml, hown, hts⟩ (c_r_refuse l dC dI ky H.size reader rtape rlength rmostBytes rplace rkind rbegin rword rnumber rletters rfaultKind rfaultPlace (nI 4) iv_rreader_0 iv_rreader_1 iv_rreader_2 iv_rreader_3) (cwV 1 hts gX9_readOne_X5_refuse rfl rfl rfl (by decide +kernel) ⟨(Nat.le_of_ble_eq_true rfl), (Nat.le_of_ble_eq_true rfl)⟩) (pre_UV hK hP hD [2] (by decide) rfl (ci := 5) (q0 := 2) rfl rfl) rfl rfl hl.1 rfl (lv_room (Nat.le_of_ble_eq_true rfl)) dX9_readOne_64 ⟨(Nat.le_of_ble_eq_true rfl), (Nat.le_of_ble_eq_true rfl)⟩) hP hD hS hA [2] [0, 1, 3, 4, 5] rfl rfl (by decide) (by decide) (fun r40 u38 H locs p39 hP hD hS => ?_)
            obtain ⟨rfaultKindG_41, rfaultPlaceG_42⟩ := u38
            try dsimp only at p39
            have p43 := p39
            refine W.widen (k := 0) (n := 0) (Nat.le_of_ble_eq_true rfl) (Nat.le_of_ble_eq_true rfl) ?_
            have hP : va_P (dC, dI) vwCl [(se, .inr (9, [.ref ccodes, .int (nI ccodeCount), .int cones])), (ccodes, .inl (ky 0, 40, .inl ccodesF)), (rtape, .inl (ky 2, 940, .inl rtapeF)), (a, .inr (7, [.int (nI wide), .int (nI high), .int heat, .int cools, .int skinHeat, .int today, .int stirs, .int steps, .int (nI lumps), .int (nI boats), .ref thickness, .ref lumpNames, .ref lumpCells, .ref boatNames, .ref boatCells, .ref loads, .ref spoons, .ref spoonsLeft, .ref depths])), (lumpNames, .inl (ky 1, 6, .inr (.inl lumpNamesF))), (reader, .inr (5, [.ref rtape, .int (nI rlength), .int (nI rmostBytes), .int (nI rplace), .int rkind, .int (nI rbegin), .int rword, .int rnumber, .long rletters, .int rfaultKindG_41, .int rfaultPlaceG_42]))] H := hP
            have hD : va_D A [(se, .inr (9, [.ref ccodes, .int (nI ccodeCount), .int cones])), (ccodes, .inl (ky 0, 40, .inl ccodesF)), (rtape, .inl (ky 2, 940, .inl rtapeF)), (a, .inr (7, [.int (nI wide), .int (nI high), .int heat, .int cools, .int skinHeat, .int today, .int stirs, .int steps, .int (nI lumps), .int (nI boats), .ref thickness, .ref lumpNames, .ref lumpCells, .ref boatNames, .ref boatCells, .ref loads, .ref spoons, .ref spoonsLeft, .ref depths])), (lumpNames, .inl (ky 1, 6, .inr (.inl lumpNamesF))), (reader, .inr (5, [.ref rtape, .int (nI rlength), .int (nI rmostBytes), .int (nI rplace), .int rkind, .int (nI rbegin), .int rword, .int rnumber, .long rletters, .int rfaultKindG_41, .int rfaultPlaceG_42]))] := hD
            subst p43
            rw [hQ]
            have hP9 := hP.sub (ws' := [(se, .inr (9, [.ref ccodes, .int (nI ccodeCount), .int cones])), (ccodes, .inl (ky 0, 40, .inl ccodesF)), (reader, .inr (5, [.ref rtape, .int (nI rlength), .int (nI rmostBytes), .int (nI rplace), .int rkind, .int (nI rbegin), .int rword, .int rnumber, .long rletters, .int rfaultKindG_41, .int rfaultPlaceG_42])), (rtape, .inl (ky 2, 940, .inl rtapeF)), (a, .inr (7, [.int (nI wide), .int (nI high), .int heat, .int cools, .int skinHeat, .int today, .int stirs, .int steps, .int (nI lumps), .int (nI boats), .ref thickness, .ref lumpNames, .ref lumpCells, .ref boatNames, .ref boatCells, .ref loads, .ref spoons, .ref spoonsLeft, .ref depths])), (lumpNames, .inl (ky 1, 6, .inr (.inl lumpNamesF)))]) [0, 1, 5, 2, 3, 4] rfl
            have hD9 := hD.sub (ws' := [(se, .inr (9, [.ref ccodes, .int (nI ccodeCount), .int cones])), (ccodes, .inl (ky 0, 40, .inl ccodesF)), (reader, .inr (5, [.ref rtape, .int (nI rlength), .int (nI rmostBytes), .int (nI rplace), .int rkind, .int (nI rbegin), .int rword, .int rnumber, .long rletters, .int rfaultKindG_41, .int rfaultPlaceG_42])), (rtape, .inl (ky 2, 940, .inl rtapeF)), (a, .inr (7, [.int (nI wide), .int (nI high), .int heat, .int cools, .int skinHeat, .int today, .int stirs, .int steps, .int (nI lumps), .int (nI boats), .ref thickness, .ref lumpNames, .ref lumpCells, .ref boatNames, .ref boatCells, .ref loads, .ref spoons, .ref spoonsLeft, .ref depths])), (lumpNames, .inl (ky 1, 6, .inr (.inl lumpNamesF)))]) [0, 1, 5, 2, 3, 4] (by decide) rfl
            exact W.zret (v := nI 0) hx hb hr (by decide) (fun t9 ht9 hW9 => ⟨⟨nI 0, (rfaultKindG_41, rfaultPlaceG_42), rfl, (lf_n_readOne9_5 p2), by rw [ht9]; exact hP9, va_K.moved hW9.alike hK, hD9⟩, hS.F ht9⟩) hS.2.2 dX9_readOne_67
        · refine lv_aload_n hx hb dX9_readOne_41 rfl (lv_at hl 3 rfl) ?_
          refine lv_iconst (v := nI 1) hx hb dX9_readOne_42 (by decide) ?_
          refine r_call_i (wr := [(se, .inr (9, [.ref ccodes, .int (nI ccodeCount), .int cones])), (ccodes, .inl (ky 0, 40, .inl ccodesF)), (rtape, .inl (ky 2, 940, .inl rtapeF)), (a, .inr (7, [.int (nI wide), .int (nI high), .int heat, .int cools, .int skinHeat, .int today, .int stirs, .int steps, .int (nI lumps), .int (nI boats), .ref thickness, .ref lumpNames, .ref lumpCells, .ref boatNames, .ref boatCells, .ref loads, .ref spoons, .ref spoonsLeft, .ref depths])), (lumpNames, .inl (ky 1, 6, .inr (.inl lumpNamesF)))]) (va_runV (As := [.int (nI 1)]) (rest := []) ⟨hx, hb, hml, hown, hts⟩ (c_r_refuse l dC dI ky H.size reader rtape rlength rmostBytes rplace rkind rbegin rword rnumber rletters rfaultKind rfaultPlace (nI 1) iv_rreader_0 iv_rreader_1 iv_rreader_2 iv_rreader_3) (cwV 1 hts gX9_readOne_X5_refuse rfl rfl rfl (by decide +kernel) ⟨(Nat.le_of_ble_eq_true rfl), (Nat.le_of_ble_eq_true rfl)⟩) (pre_UV hK hP hD [2] (by decide) rfl (ci := 5) (q0 := 2) rfl rfl) rfl rfl hl.1 rfl (lv_room (Nat.le_of_ble_eq_true rfl)) dX9_readOne_43 ⟨(Nat.le_of_ble_eq_true rfl), (Nat.le_of_ble_eq_true rfl)⟩) hP hD hS hA [2] [0, 1, 3, 4, 5] rfl rfl (by decide) (by decide) (fun r46 u44 H locs p45 hP hD hS => ?_)
          obtain ⟨rfaultKindG_47, rfaultPlaceG_48⟩ := u44
          try dsimp only at p45
          have p49 := p45
          refine W.widen (k := 0) (n := 0) (Nat.le_of_ble_eq_true rfl) (Nat.le_of_ble_eq_true rfl) ?_
          have hP : va_P (dC, dI) vwCl [(se, .inr (9, [.ref ccodes, .int (nI ccodeCount), .int cones])), (ccodes, .inl (ky 0, 40, .inl ccodesF)), (rtape, .inl (ky 2, 940, .inl rtapeF)), (a, .inr (7, [.int (nI wide), .int (nI high), .int heat, .int cools, .int skinHeat, .int today, .int stirs, .int steps, .int (nI lumps), .int (nI boats), .ref thickness, .ref lumpNames, .ref lumpCells, .ref boatNames, .ref boatCells, .ref loads, .ref spoons, .ref spoonsLeft, .ref depths])), (lumpNames, .inl (ky 1, 6, .inr (.inl lumpNamesF))), (reader, .inr (5, [.ref rtape, .int (nI rlength), .int (nI rmostBytes), .int (nI rplace), .int rkind, .int (nI rbegin), .int rword, .int rnumber, .long rletters, .int rfaultKindG_47, .int rfaultPlaceG_48]))] H := hP
          have hD : va_D A [(se, .inr (9, [.ref ccodes, .int (nI ccodeCount), .int cones])), (ccodes, .inl (ky 0, 40, .inl ccodesF)), (rtape, .inl (ky 2, 940, .inl rtapeF)), (a, .inr (7, [.int (nI wide), .int (nI high), .int heat, .int cools, .int skinHeat, .int today, .int stirs, .int steps, .int (nI lumps), .int (nI boats), .ref thickness, .ref lumpNames, .ref lumpCells, .ref boatNames, .ref boatCells, .ref loads, .ref spoons, .ref spoonsLeft, .ref depths])), (lumpNames, .inl (ky 1, 6, .inr (.inl lumpNamesF))), (reader, .inr (5, [.ref rtape, .int (nI rlength), .int (nI rmostBytes), .int (nI rplace), .int rkind, .int (nI rbegin), .int rword, .int rnumber, .long rletters, .int rfaultKindG_47, .int rfaultPlaceG_48]))] := hD
          subst p49
          rw [hQ]
          have hP9 := hP.sub (ws' := [(se, .inr (9, [.ref ccodes, .int (nI ccodeCount), .int cones])), (ccodes, .inl (ky 0, 40, .inl ccodesF)), (reader, .inr (5, [.ref rtape, .int (nI rlength), .int (nI rmostBytes), .int (nI rplace), .int rkind, .int (nI rbegin), .int rword, .int rnumber, .long rletters, .int rfaultKindG_47, .int rfaultPlaceG_48])), (rtape, .inl (ky 2, 940, .inl rtapeF)), (a, .inr (7, [.int (nI wide), .int (nI high), .int heat, .int cools, .int skinHeat, .int today, .int stirs, .int steps, .int (nI lumps), .int (nI boats), .ref thickness, .ref lumpNames, .ref lumpCells, .ref boatNames, .ref boatCells, .ref loads, .ref spoons, .ref spoonsLeft, .ref depths])), (lumpNames, .inl (ky 1, 6, .inr (.inl lumpNamesF)))]) [0, 1, 5, 2, 3, 4] rfl
          have hD9 := hD.sub (ws' := [(se, .inr (9, [.ref ccodes, .int (nI ccodeCount), .int cones])), (ccodes, .inl (ky 0, 40, .inl ccodesF)), (reader, .inr (5, [.ref rtape, .int (nI rlength), .int (nI rmostBytes), .int (nI rplace), .int rkind, .int (nI rbegin), .int rword, .int rnumber, .long rletters, .int rfaultKindG_47, .int rfaultPlaceG_48])), (rtape, .inl (ky 2, 940, .inl rtapeF)), (a, .inr (7, [.int (nI wide), .int (nI high), .int heat, .int cools, .int skinHeat, .int today, .int stirs, .int steps, .int (nI lumps), .int (nI boats), .ref thickness, .ref lumpNames, .ref lumpCells, .ref boatNames, .ref boatCells, .ref loads, .ref spoons, .ref spoonsLeft, .ref depths])), (lumpNames, .inl (ky 1, 6, .inr (.inl lumpNamesF)))]) [0, 1, 5, 2, 3, 4] (by decide) rfl
          exact W.zret (v := nI 0) hx hb hr (by decide) (fun t9 ht9 hW9 => ⟨⟨nI 0, (rfaultKindG_47, rfaultPlaceG_48), rfl, (lf_n_readOne9_6 p2), by rw [ht9]; exact hP9, va_K.moved hW9.alike hK, hD9⟩, hS.F ht9⟩) hS.2.2 dX9_readOne_46
  refine lv_icmp_ne (tgt := 19) hx hb dX9_readOne_12 (by decide) (fun c3 => ?_) (fun c3 => ?_)
  · refine lv_iconst (v := nI 0) hx hb dX9_readOne_19 (by decide) ?_
    exact hJ6 (nI 0) (lf_n_readOne9_7 p2) _ _ _ hP hD hS (lv_sub hl [0, 1, 2, 3, 4] rfl)
  · refine lv_iconst (v := nI 1) hx hb dX9_readOne_15 (by decide) ?_
    refine lv_goto (tgt := 20) hx hb dX9_readOne_16 (by decide) ?_
    exact hJ6 (nI 1) (lf_n_readOne9_8 p2) _ _ _ hP hD hS (lv_sub hl [0, 1, 2, 3, 4] rfl)
set_option maxRecDepth 20000 in
theorem lf_n_readAll9_1 (x44 : Int32) (j56 : x44 = nI 0 ∨ x44 = nI 1) : narrow .boolean (.int x44) = .int x44 := by
  have h : x44 = 0 ∨ x44 = 1 := by
    have b_x44 := ia_b x44
    try have k_0 := ia_n 0 (by first | decide | omega)
    try have k_1 := ia_n 1 (by first | decide | omega)
    try simp only [ia_lt, ia_le, ia_eq, ia_m1, ia_0, ia_1, ne_eq, true_and, and_true, false_and, and_false, or_false, false_or, or_true, true_or, not_true_eq_false, not_false_eq_true] at *
    all_goals omega
  rcases h with h | h <;> rw [h] <;> rfl
set_option maxRecDepth 20000 in
theorem lf_n_readAll9_2 (x44 : Int32) (j56 : x44 = nI 0 ∨ x44 = nI 1) (c66 : x44 = 0) : narrow .boolean (.int x44) = .int x44 := by
  have h : x44 = 0 ∨ x44 = 1 := by
    have b_x44 := ia_b x44
    try have k_0 := ia_n 0 (by first | decide | omega)
    try have k_1 := ia_n 1 (by first | decide | omega)
    try simp only [ia_lt, ia_le, ia_eq, ia_m1, ia_0, ia_1, ne_eq, true_and, and_true, false_and, and_false, or_false, false_or, or_true, true_or, not_true_eq_false, not_false_eq_true] at *
    all_goals omega
  rcases h with h | h <;> rw [h] <;> rfl
set_option maxRecDepth 20000 in
theorem lf_n_readAll9_3 (x44 : Int32) (j56 : x44 = nI 0 ∨ x44 = nI 1) (c66 : ¬ x44 = 0) (p68 : True) : narrow .boolean (.int x44) = .int x44 := by
  have h : x44 = 0 ∨ x44 = 1 := by
    have b_x44 := ia_b x44
    try have k_0 := ia_n 0 (by first | decide | omega)
    try have k_1 := ia_n 1 (by first | decide | omega)
    try simp only [ia_lt, ia_le, ia_eq, ia_m1, ia_0, ia_1, ne_eq, true_and, and_true, false_and, and_false, or_false, false_or, or_true, true_or, not_true_eq_false, not_false_eq_true] at *
    all_goals omega
  rcases h with h | h <;> rw [h] <;> rfl
set_option maxRecDepth 20000 in
theorem lf_n_readAll9_4 (k43 : Nat) (n62 : Nat) (j55 : k43 ≤ 20) (hm64 : 20 - k43 < n62 + 1) (c65 : k43 < 20) (p68 : True) : (k43 + 1) ≤ 20 := by
  try simp only [ia_lt, ia_le, ia_eq, ia_m1, ia_0, ia_1, ne_eq, true_and, and_true, false_and, and_false, or_false, false_or, or_true, true_or, not_true_eq_false, not_false_eq_true] at *
  all_goals omega
set_option maxRecDepth 20000 in
theorem lf_n_readAll9_5  (p68 : True) : (nI 0) = nI 0 ∨ (nI 0) = nI 1 := by
  try have k_0 := ia_n 0 (by first | decide | omega)
  try have k_1 := ia_n 1 (by first | decide | omega)
  try simp only [ia_lt, ia_le, ia_eq, ia_m1, ia_0, ia_1, ne_eq, true_and, and_true, false_and, and_false, or_false, false_or, or_true, true_or, not_true_eq_false, not_false_eq_true] at *
  all_goals omega
set_option maxRecDepth 20000 in
theorem lf_n_readAll9_6 (rlength : Nat) (rplace : Nat) (k47 : Nat) (rplaceG_72 : Nat) (iv_rreader_0 : rlength ≤ 940) (iv_rreader_1 : rplace ≤ rlength) (j57 : k47 ≤ 940) (j60 : k47 ≤ rlength) (p68 : True) (p78 : rplaceG_72 ≤ rlength) : rplaceG_72 ≤ 940 := by
  try simp only [ia_lt, ia_le, ia_eq, ia_m1, ia_0, ia_1, ne_eq, true_and, and_true, false_and, and_false, or_false, false_or, or_true, true_or, not_true_eq_false, not_false_eq_true] at *
  all_goals omega
set_option maxRecDepth 20000 in
theorem lf_n_readAll9_7 (k43 : Nat) (n62 : Nat) (j55 : k43 ≤ 20) (hm64 : 20 - k43 < n62 + 1) (c65 : k43 < 20) (p68 : True) : 20 - (k43 + 1) < n62 := by
  try simp only [ia_lt, ia_le, ia_eq, ia_m1, ia_0, ia_1, ne_eq, true_and, and_true, false_and, and_false, or_false, false_or, or_true, true_or, not_true_eq_false, not_false_eq_true] at *
  all_goals omega
set_option maxRecDepth 20000 in
theorem lf_n_readAll9_8 (k43 : Nat) (n62 : Nat) (j55 : k43 ≤ 20) (hm64 : 20 - k43 < n62 + 1) (c65 : k43 < 20) (p68 : True) : (k43 + 1) ≤ 20 := by
  try simp only [ia_lt, ia_le, ia_eq, ia_m1, ia_0, ia_1, ne_eq, true_and, and_true, false_and, and_false, or_false, false_or, or_true, true_or, not_true_eq_false, not_false_eq_true] at *
  all_goals omega
set_option maxRecDepth 20000 in
theorem lf_n_readAll9_9  (p68 : True) : (nI 0) = nI 0 ∨ (nI 0) = nI 1 := by
  try have k_0 := ia_n 0 (by first | decide | omega)
  try have k_1 := ia_n 1 (by first | decide | omega)
  try simp only [ia_lt, ia_le, ia_eq, ia_m1, ia_0, ia_1, ne_eq, true_and, and_true, false_and, and_false, or_false, false_or, or_true, true_or, not_true_eq_false, not_false_eq_true] at *
  all_goals omega
set_option maxRecDepth 20000 in
theorem lf_n_readAll9_10 (rlength : Nat) (rplace : Nat) (k47 : Nat) (rplaceG_72 : Nat) (iv_rreader_0 : rlength ≤ 940) (iv_rreader_1 : rplace ≤ rlength) (j57 : k47 ≤ 940) (j60 : k47 ≤ rlength) (p68 : True) (p78 : rplaceG_72 ≤ rlength) : rplaceG_72 ≤ 940 := by
  try simp only [ia_lt, ia_le, ia_eq, ia_m1, ia_0, ia_1, ne_eq, true_and, and_true, false_and, and_false, or_false, false_or, or_true, true_or, not_true_eq_false, not_false_eq_true] at *
  all_goals omega
set_option maxRecDepth 20000 in
theorem lf_n_readAll9_11 (k43 : Nat) (n62 : Nat) (j55 : k43 ≤ 20) (hm64 : 20 - k43 < n62 + 1) (c65 : k43 < 20) (p68 : True) : 20 - (k43 + 1) < n62 := by
  try simp only [ia_lt, ia_le, ia_eq, ia_m1, ia_0, ia_1, ne_eq, true_and, and_true, false_and, and_false, or_false, false_or, or_true, true_or, not_true_eq_false, not_false_eq_true] at *
  all_goals omega
set_option maxRecDepth 20000 in
theorem lf_n_readAll9_12 (k43 : Nat) (n62 : Nat) (j55 : k43 ≤ 20) (hm64 : 20 - k43 < n62 + 1) (c65 : k43 < 20) (p68 : True) : (k43 + 1) ≤ 20 := by
  try simp only [ia_lt, ia_le, ia_eq, ia_m1, ia_0, ia_1, ne_eq, true_and, and_true, false_and, and_false, or_false, false_or, or_true, true_or, not_true_eq_false, not_false_eq_true] at *
  all_goals omega
set_option maxRecDepth 20000 in
theorem lf_n_readAll9_13  (p68 : True) : (nI 1) = nI 0 ∨ (nI 1) = nI 1 := by
  try have k_0 := ia_n 1 (by first | decide | omega)
  try have k_1 := ia_n 0 (by first | decide | omega)
  try simp only [ia_lt, ia_le, ia_eq, ia_m1, ia_0, ia_1, ne_eq, true_and, and_true, false_and, and_false, or_false, false_or, or_true, true_or, not_true_eq_false, not_false_eq_true] at *
  all_goals omega
set_option maxRecDepth 20000 in
theorem lf_n_readAll9_14 (rlength : Nat) (rplace : Nat) (k47 : Nat) (rplaceG_72 : Nat) (iv_rreader_0 : rlength ≤ 940) (iv_rreader_1 : rplace ≤ rlength) (j57 : k47 ≤ 940) (j60 : k47 ≤ rlength) (p68 : True) (p78 : rplaceG_72 ≤ rlength) : rplaceG_72 ≤ 940 := by
  try simp only [ia_lt, ia_le, ia_eq, ia_m1, ia_0, ia_1, ne_eq, true_and, and_true, false_and, and_false, or_false, false_or, or_true, true_or, not_true_eq_false, not_false_eq_true] at *
  all_goals omega
set_option maxRecDepth 20000 in
theorem lf_n_readAll9_15 (k43 : Nat) (n62 : Nat) (j55 : k43 ≤ 20) (hm64 : 20 - k43 < n62 + 1) (c65 : k43 < 20) (p68 : True) : 20 - (k43 + 1) < n62 := by
  try simp only [ia_lt, ia_le, ia_eq, ia_m1, ia_0, ia_1, ne_eq, true_and, and_true, false_and, and_false, or_false, false_or, or_true, true_or, not_true_eq_false, not_false_eq_true] at *
  all_goals omega
set_option maxRecDepth 20000 in
theorem lf_n_readAll9_16   : 0 ≤ 20 := by
  try simp only [ia_lt, ia_le, ia_eq, ia_m1, ia_0, ia_1, ne_eq, true_and, and_true, false_and, and_false, or_false, false_or, or_true, true_or, not_true_eq_false, not_false_eq_true] at *
  all_goals omega
set_option maxRecDepth 20000 in
theorem lf_n_readAll9_17 (rlength : Nat) (rplace : Nat) (iv_rreader_0 : rlength ≤ 940) (iv_rreader_1 : rplace ≤ rlength) : rplace ≤ 940 := by
  try simp only [ia_lt, ia_le, ia_eq, ia_m1, ia_0, ia_1, ne_eq, true_and, and_true, false_and, and_false, or_false, false_or, or_true, true_or, not_true_eq_false, not_false_eq_true] at *
  all_goals omega
set_option maxHeartbeats 4000000 in
set_option maxRecDepth 100000 in
theorem c_n_readAll9 (l : Launch) (dC : Nat → ClassId) (dI : Nat → Nat → Nat) (ky : Nat → ClassId) (sz : Nat) (adK : Nat → Nat) (adV : Nat → Nat) (se : Nat) (ccodes : Nat) (ccodeCount : Nat) (cones : Int32) (ccodesF : Nat → Int32) (reader : Nat) (rtape : Nat) (rlength : Nat) (rmostBytes : Nat) (rplace : Nat) (rkind : Int32) (rbegin : Nat) (rword : Int32) (rnumber : Int32) (rletters : Int64) (rfaultKind : Int32) (rfaultPlace : Int32) (rtapeF : Nat → Int32) (a : Nat) (wide : Nat) (high : Nat) (heat : Int32) (cools : Int32) (skinHeat : Int32) (today : Int32) (stirs : Int32) (steps : Int32) (lumps : Nat) (boats : Nat) (thickness : Nat) (lumpNames : Nat) (lumpCells : Nat) (boatNames : Nat) (boatCells : Nat) (loads : Nat) (spoons : Nat) (spoonsLeft : Nat) (depths : Nat) (lumpNamesF : Nat → Int64) (iv_cse_0 : ccodeCount ≤ 40) (iv_rreader_0 : rlength ≤ 940) (iv_rreader_1 : rplace ≤ rlength) (iv_rreader_2 : rmostBytes ≤ 900) (iv_rreader_3 : rbegin ≤ 940) (iv_a_0 : 2 ≤ wide) (iv_a_1 : wide ≤ 6) (iv_a_2 : 2 ≤ high) (iv_a_3 : high ≤ 6) (iv_a_4 : lumps ≤ 6) (iv_a_5 : boats ≤ 6) : Met l yX9_readAll wsX9_readAll ({ frames := 6, cells := 0, slots := 0, locals := 131 }) (PcUE dC dI ky adK adV [.ref se, .ref reader, .ref a, .int (nI 9)] [(se, .inr (9, [.ref ccodes, .int (nI ccodeCount), .int cones])), (ccodes, .inl (ky 0, 40, .inl ccodesF)), (reader, .inr (5, [.ref rtape, .int (nI rlength), .int (nI rmostBytes), .int (nI rplace), .int rkind, .int (nI rbegin), .int rword, .int rnumber, .long rletters, .int rfaultKind, .int rfaultPlace])), (rtape, .inl (ky 2, 940, .inl rtapeF)), (a, .inr (7, [.int (nI wide), .int (nI high), .int heat, .int cools, .int skinHeat, .int today, .int stirs, .int steps, .int (nI lumps), .int (nI boats), .ref thickness, .ref lumpNames, .ref lumpCells, .ref boatNames, .ref boatCells, .ref loads, .ref spoons, .ref spoonsLeft, .ref depths])), (lumpNames, .inl (ky 1, 6, .inr (.inl lumpNamesF)))] sz) (va_Qi (fun (r : Int32) (u : Nat × (Nat → Int32) × Nat × Int32 × Nat × Int32 × Int32 × Int64 × Int32 × Int32) => match u with | (ccodeCountG, ccodesG, rplaceG, rkindG, rbeginG, rwordG, rnumberG, rlettersG, rfaultKindG, rfaultPlaceG) => (r = nI 0 ∨ r = nI 1) ∧ (ccodeCountG ≤ 40) ∧ (rplaceG ≤ rlength) ∧ (rbeginG ≤ 940)) (BU dC dI ky (fun (u : Nat × (Nat → Int32) × Nat × Int32 × Nat × Int32 × Int32 × Int64 × Int32 × Int32) => match u with | (ccodeCountG, ccodesG, rplaceG, rkindG, rbeginG, rwordG, rnumberG, rlettersG, rfaultKindG, rfaultPlaceG) => [(se, .inr (9, [.ref ccodes, .int (nI ccodeCountG), .int cones])), (ccodes, .inl (ky 0, 40, .inl ccodesG)), (reader, .inr (5, [.ref rtape, .int (nI rlength), .int (nI rmostBytes), .int (nI rplaceG), .int rkindG, .int (nI rbeginG), .int rwordG, .int rnumberG, .long rlettersG, .int rfaultKindG, .int rfaultPlaceG])), (rtape, .inl (ky 2, 940, .inl rtapeF)), (a, .inr (7, [.int (nI wide), .int (nI high), .int heat, .int cools, .int skinHeat, .int today, .int stirs, .int steps, .int (nI lumps), .int (nI boats), .ref thickness, .ref lumpNames, .ref lumpCells, .ref boatNames, .ref boatCells, .ref loads, .ref spoons, .ref spoonsLeft, .ref depths])), (lumpNames, .inl (ky 1, 6, .inr (.inl lumpNamesF)))]) (va_A [(se, .inr (9, [.ref ccodes, .int (nI ccodeCount), .int cones])), (ccodes, .inl (ky 0, 40, .inl ccodesF)), (reader, .inr (5, [.ref rtape, .int (nI rlength), .int (nI rmostBytes), .int (nI rplace), .int rkind, .int (nI rbegin), .int rword, .int rnumber, .long rletters, .int rfaultKind, .int rfaultPlace])), (rtape, .inl (ky 2, 940, .inl rtapeF)), (a, .inr (7, [.int (nI wide), .int (nI high), .int heat, .int cools, .int skinHeat, .int today, .int stirs, .int steps, .int (nI lumps), .int (nI boats), .ref thickness, .ref lumpNames, .ref lumpCells, .ref boatNames, .ref boatCells, .ref loads, .ref spoons, .ref spoonsLeft, .ref depths])), (lumpNames, .inl (ky 1, 6, .inr (.inl lumpNamesF)))] sz)) (va_A [(se, .inr (9, [.ref ccodes, .int (nI ccodeCount), .int cones])), (ccodes, .inl (ky 0, 40, .inl ccodesF)), (reader, .inr (5, [.ref rtape, .int (nI rlength), .int (nI rmostBytes), .int (nI rplace), .int rkind, .int (nI rbegin), .int rword, .int rnumber, .long rletters, .int rfaultKind, .int rfaultPlace])), (rtape, .inl (ky 2, 940, .inl rtapeF)), (a, .inr (7, [.int (nI wide), .int (nI high), .int heat, .int cools, .int skinHeat, .int today, .int stirs, .int steps, .int (nI lumps), .int (nI boats), .ref thickness, .ref lumpNames, .ref lumpCells, .ref boatNames, .ref boatCells, .ref loads, .ref spoons, .ref spoonsLeft, .ref depths])), (lumpNames, .inl (ky 1, 6, .inr (.inl lumpNamesF)))] sz)) 0 0 (va_A [(se, .inr (9, [.ref ccodes, .int (nI ccodeCount), .int cones])), (ccodes, .inl (ky 0, 40, .inl ccodesF)), (reader, .inr (5, [.ref rtape, .int (nI rlength), .int (nI rmostBytes), .int (nI rplace), .int rkind, .int (nI rbegin), .int rword, .int rnumber, .long rletters, .int rfaultKind, .int rfaultPlace])), (rtape, .inl (ky 2, 940, .inl rtapeF)), (a, .inr (7, [.int (nI wide), .int (nI high), .int heat, .int cools, .int skinHeat, .int today, .int stirs, .int steps, .int (nI lumps), .int (nI boats), .ref thickness, .ref lumpNames, .ref lumpCells, .ref boatNames, .ref boatCells, .ref loads, .ref spoons, .ref spoonsLeft, .ref depths])), (lumpNames, .inl (ky 1, 6, .inr (.inl lumpNamesF)))] sz) := by
  refine Met.ofW (cc := cX9_readAll) (maxL := 6) (ret := (some .boolean)) (by decide) rfl ?_
  intro p e s m args below meth c s₁ B hml hv
  obtain ⟨rfl, hsz, hP, hK, hD0, hE⟩ := hv
  have hx := B.exec
  have hb := B.bytes
  have hr := B.returns
  have hts := atoms_spec (ws := wsX9_readAll) B.pre
  have hown : s.vm.findClass RX9 = some m.cls := findClass_of_methodNamed B.named
  have hlocks := B.notSynchronized
  subst hsz
  have hD := hD0.self (sz := s.heap.size)
  generalize hAe : va_A [(se, .inr (9, [.ref ccodes, .int (nI ccodeCount), .int cones])), (ccodes, .inl (ky 0, 40, .inl ccodesF)), (reader, .inr (5, [.ref rtape, .int (nI rlength), .int (nI rmostBytes), .int (nI rplace), .int rkind, .int (nI rbegin), .int rword, .int rnumber, .long rletters, .int rfaultKind, .int rfaultPlace])), (rtape, .inl (ky 2, 940, .inl rtapeF)), (a, .inr (7, [.int (nI wide), .int (nI high), .int heat, .int cools, .int skinHeat, .int today, .int stirs, .int steps, .int (nI lumps), .int (nI boats), .ref thickness, .ref lumpNames, .ref lumpCells, .ref boatNames, .ref boatCells, .ref loads, .ref spoons, .ref spoonsLeft, .ref depths])), (lumpNames, .inl (ky 1, 6, .inr (.inl lumpNamesF)))] s.heap.size = A at hD hE ⊢
  have hA : ∀ q : Nat, s.heap.size ≤ q → A q := fun q h => by rw [← hAe]; exact Or.inr h
  have hS : va_S A s.heap s.heap [] := va_S.rf
  have hl := lv_entry ([.ref se, .ref reader, .ref a, .int (nI 9)]) (n := 6) (Nat.le_of_ble_eq_true rfl)
  rw [lg_entry_eq]
  generalize (lg_sl ([.ref se, .ref reader, .ref a, .int (nI 9)]) ++ List.replicate (6 - (lg_sl ([.ref se, .ref reader, .ref a, .int (nI 9)])).length) Slot.unset).toArray = ls at hl ⊢
  have hl : lv_has ls 6 [(0, .ref se), (1, .ref reader), (2, .ref a), (3, .int (nI 9))] := hl
  refine q_name (fun Q hQ => ?_)
  generalize ([.ref se, .ref reader, .ref a, .int (nI 9)] : List Value).toArray = args at hts hQ ⊢
  refine lv_aload_n hx hb dX9_readAll_0 rfl (lv_at hl 0 rfl) ?_
  refine lv_aload_n hx hb dX9_readAll_1 rfl (lv_at hl 1 rfl) ?_
  refine lv_aload_n hx hb dX9_readAll_2 rfl (lv_at hl 2 rfl) ?_
  refine lv_iload_n hx hb dX9_readAll_3 rfl (lv_at hl 3 rfl) ?_
  refine r_call_i (wr := []) (va_runV (As := [.ref reader, .ref a, .int (nI 9)]) (rest := []) ⟨hx, hb, hml, hown, hts⟩ (c_n_readOne9 l dC dI ky s.heap.size adK adV se ccodes ccodeCount cones ccodesF reader rtape rlength rmostBytes rplace rkind rbegin rword rnumber rletters rfaultKind rfaultPlace rtapeF a wide high heat cools skinHeat today stirs steps lumps boats thickness lumpNames lumpCells boatNames boatCells loads spoons spoonsLeft depths lumpNamesF iv_cse_0 iv_rreader_0 iv_rreader_1 iv_rreader_2 iv_rreader_3 iv_a_0 iv_a_1 iv_a_2 iv_a_3 iv_a_4 iv_a_5) (cwV 3 hts gX9_readAll_X9_readOne rfl rfl rfl (by decide +kernel) ⟨(Nat.le_of_ble_eq_true rfl), (Nat.le_of_ble_eq_true rfl)⟩) (pre_UEV hE hS hA hK hP hD [0, 1, 2, 3, 4, 5] (by decide) rfl (va_recv hK hP (ci := 9) (q0 := 0) rfl rfl)) rfl rfl hl.1 rfl (lv_room (Nat.le_of_ble_eq_true rfl)) dX9_readAll_4 ⟨(Nat.le_of_ble_eq_true rfl), (Nat.le_of_ble_eq_true rfl)⟩) hP hD hS hA [0, 1, 2, 3, 4, 5] [] rfl rfl (by decide) (by decide) (fun r3 u1 H locs p2 hP hD hS => ?_)
  obtain ⟨rfaultKindG_4, rfaultPlaceG_5⟩ := u1
  try dsimp only at p2
  have p6 := p2
  refine W.widen (k := 0) (n := 0) (Nat.le_of_ble_eq_true rfl) (Nat.le_of_ble_eq_true rfl) ?_
  have hP : va_P (dC, dI) vwCl [(se, .inr (9, [.ref ccodes, .int (nI ccodeCount), .int cones])), (ccodes, .inl (ky 0, 40, .inl ccodesF)), (reader, .inr (5, [.ref rtape, .int (nI rlength), .int (nI rmostBytes), .int (nI rplace), .int rkind, .int (nI rbegin), .int rword, .int rnumber, .long rletters, .int rfaultKindG_4, .int rfaultPlaceG_5])), (rtape, .inl (ky 2, 940, .inl rtapeF)), (a, .inr (7, [.int (nI wide), .int (nI high), .int heat, .int cools, .int skinHeat, .int today, .int stirs, .int steps, .int (nI lumps), .int (nI boats), .ref thickness, .ref lumpNames, .ref lumpCells, .ref boatNames, .ref boatCells, .ref loads, .ref spoons, .ref spoonsLeft, .ref depths])), (lumpNames, .inl (ky 1, 6, .inr (.inl lumpNamesF)))] H := hP
  have hD : va_D A [(se, .inr (9, [.ref ccodes, .int (nI ccodeCount), .int cones])), (ccodes, .inl (ky 0, 40, .inl ccodesF)), (reader, .inr (5, [.ref rtape, .int (nI rlength), .int (nI rmostBytes), .int (nI rplace), .int rkind, .int (nI rbegin), .int rword, .int rnumber, .long rletters, .int rfaultKindG_4, .int rfaultPlaceG_5])), (rtape, .inl (ky 2, 940, .inl rtapeF)), (a, .inr (7, [.int (nI wide), .int (nI high), .int heat, .int cools, .int skinHeat, .int today, .int stirs, .int steps, .int (nI lumps), .int (nI boats), .ref thickness, .ref lumpNames, .ref lumpCells, .ref boatNames, .ref boatCells, .ref loads, .ref spoons, .ref spoonsLeft, .ref depths])), (lumpNames, .inl (ky 1, 6, .inr (.inl lumpNamesF)))] := hD
  refine lv_istore (lv' := [(4, .int r3), (0, .ref se), (1, .ref reader), (2, .ref a), (3, .int (nI 9))]) hx hb dX9_readAll_7 hl (by decide) rfl (fun ls hl => ?_)
  refine lv_iconst (v := nI 0) hx hb dX9_readAll_9 (by decide) ?_
  refine lv_istore (lv' := [(5, .int (nI 0)), (4, .int r3), (0, .ref se), (1, .ref reader), (2, .ref a), (3, .int (nI 9))]) hx hb dX9_readAll_10 hl (by decide) rfl (fun ls hl => ?_)
  have hL61 : ∀ (n62 : Nat) (k43 : Nat) (x44 : Int32) (k45 : Nat) (f46 : Nat → Int32) (k47 : Nat) (x48 : Int32) (k49 : Nat) (x50 : Int32) (x51 : Int32) (w52 : Int64) (x53 : Int32) (x54 : Int32), (k43 ≤ 20) → (x44 = nI 0 ∨ x44 = nI 1) → (k47 ≤ 940) → (k49 ≤ 940) → (k45 ≤ 40) → (k47 ≤ rlength) → 20 - k43 < n62 → ∀ (H : Heap) (locs : List Loc) (ls : Array Slot), va_P (dC, dI) vwCl [(se, .inr (9, [.ref ccodes, .int (nI k45), .int cones])), (ccodes, .inl (ky 0, 40, .inl f46)), (reader, .inr (5, [.ref rtape, .int (nI rlength), .int (nI rmostBytes), .int (nI k47), .int x48, .int (nI k49), .int x50, .int x51, .long w52, .int x53, .int x54])), (rtape, .inl (ky 2, 940, .inl rtapeF)), (a, .inr (7, [.int (nI wide), .int (nI high), .int heat, .int cools, .int skinHeat, .int today, .int stirs, .int steps, .int (nI lumps), .int (nI boats), .ref thickness, .ref lumpNames, .ref lumpCells, .ref boatNames, .ref boatCells, .ref loads, .ref spoons, .ref spoonsLeft, .ref depths])), (lumpNames, .inl (ky 1, 6, .inr (.inl lumpNamesF)))] H → va_D A [(se, .inr (9, [.ref ccodes, .int (nI k45), .int cones])), (ccodes, .inl (ky 0, 40, .inl f46)), (reader, .inr (5, [.ref rtape, .int (nI rlength), .int (nI rmostBytes), .int (nI k47), .int x48, .int (nI k49), .int x50, .int x51, .long w52, .int x53, .int x54])), (rtape, .inl (ky 2, 940, .inl rtapeF)), (a, .inr (7, [.int (nI wide), .int (nI high), .int heat, .int cools, .int skinHeat, .int today, .int stirs, .int steps, .int (nI lumps), .int (nI boats), .ref thickness, .ref lumpNames, .ref lumpCells, .ref boatNames, .ref boatCells, .ref loads, .ref spoons, .ref spoonsLeft, .ref depths])), (lumpNames, .inl (ky 1, 6, .inr (.inl lumpNamesF)))] → va_S A s.heap H locs → lv_has ls 6 [(5, .int (nI k43)), (4, .int x44), (0, .ref se), (1, .ref reader), (2, .ref a), (3, .int (nI 9))] → W p l e (headSpec wsX9_readAll ({ frames := 6, cells := 0, slots := 0, locals := 131 })).room s m args below meth c H locs 0 0 Q (F0 m 12 ls []) := by
    intro n62
    induction n62 with
    | zero => intro k43 x44 k45 f46 k47 x48 k49 x50 x51 w52 x53 x54 _ _ _ _ _ _ h9; exact absurd h9 (Nat.not_lt_zero _)
    | succ n62 ih63 =>
      intro k43 x44 k45 f46 k47 x48 k49 x50 x51 w52 x53 x54 j55 j56 j57 j58 j59 j60 hm64 H locs ls hP hD hS hl
      refine lv_iload hx hb dX9_readAll_12 (lv_at hl 0 rfl) ?_
      refine lv_bipush (v := nI 20) hx hb dX9_readAll_14 (by decide) ?_
      refine n_icmp_ge (x := k43) (y := 20) (tgt := 69) hx hb (by omega) (by omega) dX9_readAll_16 (by decide) (fun c65 => ?_) (fun c65 => ?_)
      · refine lv_iload hx hb dX9_readAll_69 (lv_at hl 1 rfl) ?_
        rw [hQ]
        exact W.zret (v := x44) hx hb hr ((lf_n_readAll9_1 x44 j56)) (fun t9 ht9 hW9 => ⟨⟨x44, (k45, f46, k47, x48, k49, x50, x51, w52, x53, x54), rfl, ⟨j56, j59, j60, j58⟩, by rw [ht9]; exact hP, va_K.moved hW9.alike hK, hD⟩, hS.F ht9⟩) hS.2.2 dX9_readAll_71
      · refine lv_iload hx hb dX9_readAll_19 (lv_at hl 1 rfl) ?_
        refine lv_if_eq (tgt := 69) hx hb dX9_readAll_21 (by decide) (fun c66 => ?_) (fun c66 => ?_)
        · refine lv_iload hx hb dX9_readAll_69 (lv_at hl 1 rfl) ?_
          rw [hQ]
          exact W.zret (v := x44) hx hb hr ((lf_n_readAll9_2 x44 j56 c66)) (fun t9 ht9 hW9 => ⟨⟨x44, (k45, f46, k47, x48, k49, x50, x51, w52, x53, x54), rfl, ⟨j56, j59, j60, j58⟩, by rw [ht9]; exact hP, va_K.moved hW9.alike hK, hD⟩, hS.F ht9⟩) hS.2.2 dX9_readAll_71
        · refine lv_aload_n hx hb dX9_readAll_24 rfl (lv_at hl 3 rfl) ?_
          refine vp_callSi (W.runV (As := []) (rest := []) ⟨hx, hb, hml, hown, hts⟩ (c_r_nextWord l dC dI ky reader rtape rlength rmostBytes k47 x48 k49 x50 x51 w52 x53 x54 iv_rreader_0 j60 iv_rreader_2 j58) (cwV 0 hts gX9_readAll_X5_nextWord rfl rfl rfl (by decide +kernel) ⟨(Nat.le_of_ble_eq_true rfl), (Nat.le_of_ble_eq_true rfl)⟩) (pre_PV hK hP [2] rfl (ci := 5) (q0 := 2) rfl rfl) rfl rfl hl.1 rfl (lv_room (Nat.le_of_ble_eq_true rfl)) dX9_readAll_25 ⟨(Nat.le_of_ble_eq_true rfl), (Nat.le_of_ble_eq_true rfl)⟩) (fun r67 p68 => ?_)
          refine lv_bipush (v := nI 21) hx hb dX9_readAll_28 (by decide) ?_
          refine lv_icmp_ne (tgt := 69) hx hb dX9_readAll_30 (by decide) (fun c69 => ?_) (fun c69 => ?_)
          · refine lv_iload hx hb dX9_readAll_69 (lv_at hl 1 rfl) ?_
            rw [hQ]
            exact W.zret (v := x44) hx hb hr ((lf_n_readAll9_3 x44 j56 c66 p68)) (fun t9 ht9 hW9 => ⟨⟨x44, (k45, f46, k47, x48, k49, x50, x51, w52, x53, x54), rfl, ⟨j56, j59, j60, j58⟩, by rw [ht9]; exact hP, va_K.moved hW9.alike hK, hD⟩, hS.F ht9⟩) hS.2.2 dX9_readAll_71
          · refine lv_aload_n hx hb dX9_readAll_33 rfl (lv_at hl 3 rfl) ?_
            refine r_call_v (wr := [(se, .inr (9, [.ref ccodes, .int (nI k45), .int cones])), (ccodes, .inl (ky 0, 40, .inl f46)), (a, .inr (7, [.int (nI wide), .int (nI high), .int heat, .int cools, .int skinHeat, .int today, .int stirs, .int steps, .int (nI lumps), .int (nI boats), .ref thickness, .ref lumpNames, .ref lumpCells, .ref boatNames, .ref boatCells, .ref loads, .ref spoons, .ref spoonsLeft, .ref depths])), (lumpNames, .inl (ky 1, 6, .inr (.inl lumpNamesF)))]) (va_runV (As := []) (rest := []) ⟨hx, hb, hml, hown, hts⟩ (c_r_advance l dC dI ky H.size adK adV reader rtape rlength rmostBytes k47 x48 k49 x50 x51 w52 x53 x54 rtapeF iv_rreader_0 j60 iv_rreader_2 j58) (cwV 0 hts gX9_readAll_X5_advance rfl rfl rfl (by decide +kernel) ⟨(Nat.le_of_ble_eq_true rfl), (Nat.le_of_ble_eq_true rfl)⟩) (pre_UEV hE hS hA hK hP hD [2, 3] (by decide) rfl (va_recv hK hP (ci := 5) (q0 := 2) rfl rfl)) rfl rfl hl.1 rfl (lv_room (Nat.le_of_ble_eq_true rfl)) dX9_readAll_34 ⟨(Nat.le_of_ble_eq_true rfl), (Nat.le_of_ble_eq_true rfl)⟩) hP hD hS hA [2, 3] [0, 1, 4, 5] rfl rfl (by decide) (by decide) (fun  u70 H locs p71 hP hD hS => ?_)
            obtain ⟨rplaceG_72, rkindG_73, rbeginG_74, rwordG_75, rnumberG_76, rlettersG_77⟩ := u70
            try dsimp only at p71
            obtain ⟨p78, p79⟩ := p71
            refine W.widen (k := 0) (n := 0) (Nat.le_of_ble_eq_true rfl) (Nat.le_of_ble_eq_true rfl) ?_
            have hP : va_P (dC, dI) vwCl [(se, .inr (9, [.ref ccodes, .int (nI k45), .int cones])), (ccodes, .inl (ky 0, 40, .inl f46)), (a, .inr (7, [.int (nI wide), .int (nI high), .int heat, .int cools, .int skinHeat, .int today, .int stirs, .int steps, .int (nI lumps), .int (nI boats), .ref thickness, .ref lumpNames, .ref lumpCells, .ref boatNames, .ref boatCells, .ref loads, .ref spoons, .ref spoonsLeft, .ref depths])), (lumpNames, .inl (ky 1, 6, .inr (.inl lumpNamesF))), (reader, .inr (5, [.ref rtape, .int (nI rlength), .int (nI rmostBytes), .int (nI rplaceG_72), .int rkindG_73, .int (nI rbeginG_74), .int rwordG_75, .int rnumberG_76, .long rlettersG_77, .int x53, .int x54])), (rtape, .inl (ky 2, 940, .inl rtapeF))] H := hP
            have hD : va_D A [(se, .inr (9, [.ref ccodes, .int (nI k45), .int cones])), (ccodes, .inl (ky 0, 40, .inl f46)), (a, .inr (7, [.int (nI wide), .int (nI high), .int heat, .int cools, .int skinHeat, .int today, .int stirs, .int steps, .int (nI lumps), .int (nI boats), .ref thickness, .ref lumpNames, .ref lumpCells, .ref boatNames, .ref boatCells, .ref loads, .ref spoons, .ref spoonsLeft, .ref depths])), (lumpNames, .inl (ky 1, 6, .inr (.inl lumpNamesF))), (reader, .inr (5, [.ref rtape, .int (nI rlength), .int (nI rmostBytes), .int (nI rplaceG_72), .int rkindG_73, .int (nI rbeginG_74), .int rwordG_75, .int rnumberG_76, .long rlettersG_77, .int x53, .int x54])), (rtape, .inl (ky 2, 940, .inl rtapeF))] := hD
            refine lv_aload_n hx hb dX9_readAll_37 rfl (lv_at hl 2 rfl) ?_
            refine lv_aload_n hx hb dX9_readAll_38 rfl (lv_at hl 3 rfl) ?_
            refine lv_aload_n hx hb dX9_readAll_39 rfl (lv_at hl 4 rfl) ?_
            refine lv_iload_n hx hb dX9_readAll_40 rfl (lv_at hl 5 rfl) ?_
            refine r_call_i (wr := []) (va_runV (As := [.ref reader, .ref a, .int (nI 9)]) (rest := []) ⟨hx, hb, hml, hown, hts⟩ (c_n_readOne9 l dC dI ky H.size adK adV se ccodes k45 cones f46 reader rtape rlength rmostBytes rplaceG_72 rkindG_73 rbeginG_74 rwordG_75 rnumberG_76 rlettersG_77 x53 x54 rtapeF a wide high heat cools skinHeat today stirs steps lumps boats thickness lumpNames lumpCells boatNames boatCells loads spoons spoonsLeft depths lumpNamesF j59 iv_rreader_0 p78 iv_rreader_2 p79 iv_a_0 iv_a_1 iv_a_2 iv_a_3 iv_a_4 iv_a_5) (cwV 3 hts gX9_readAll_X9_readOne rfl rfl rfl (by decide +kernel) ⟨(Nat.le_of_ble_eq_true rfl), (Nat.le_of_ble_eq_true rfl)⟩) (pre_UEV hE hS hA hK hP hD [0, 1, 4, 5, 2, 3] (by decide) rfl (va_recv hK hP (ci := 9) (q0 := 0) rfl rfl)) rfl rfl hl.1 rfl (lv_room (Nat.le_of_ble_eq_true rfl)) dX9_readAll_41 ⟨(Nat.le_of_ble_eq_true rfl), (Nat.le_of_ble_eq_true rfl)⟩) hP hD hS hA [0, 1, 4, 5, 2, 3] [] rfl rfl (by decide) (by decide) (fun r82 u80 H locs p81 hP hD hS => ?_)
            obtain ⟨rfaultKindG_83, rfaultPlaceG_84⟩ := u80
            try dsimp only at p81
            have p85 := p81
            refine W.widen (k := 0) (n := 0) (Nat.le_of_ble_eq_true rfl) (Nat.le_of_ble_eq_true rfl) ?_
            have hP : va_P (dC, dI) vwCl [(se, .inr (9, [.ref ccodes, .int (nI k45), .int cones])), (ccodes, .inl (ky 0, 40, .inl f46)), (reader, .inr (5, [.ref rtape, .int (nI rlength), .int (nI rmostBytes), .int (nI rplaceG_72), .int rkindG_73, .int (nI rbeginG_74), .int rwordG_75, .int rnumberG_76, .long rlettersG_77, .int rfaultKindG_83, .int rfaultPlaceG_84])), (rtape, .inl (ky 2, 940, .inl rtapeF)), (a, .inr (7, [.int (nI wide), .int (nI high), .int heat, .int cools, .int skinHeat, .int today, .int stirs, .int steps, .int (nI lumps), .int (nI boats), .ref thickness, .ref lumpNames, .ref lumpCells, .ref boatNames, .ref boatCells, .ref loads, .ref spoons, .ref spoonsLeft, .ref depths])), (lumpNames, .inl (ky 1, 6, .inr (.inl lumpNamesF)))] H := hP
            have hD : va_D A [(se, .inr (9, [.ref ccodes, .int (nI k45), .int cones])), (ccodes, .inl (ky 0, 40, .inl f46)), (reader, .inr (5, [.ref rtape, .int (nI rlength), .int (nI rmostBytes), .int (nI rplaceG_72), .int rkindG_73, .int (nI rbeginG_74), .int rwordG_75, .int rnumberG_76, .long rlettersG_77, .int rfaultKindG_83, .int rfaultPlaceG_84])), (rtape, .inl (ky 2, 940, .inl rtapeF)), (a, .inr (7, [.int (nI wide), .int (nI high), .int heat, .int cools, .int skinHeat, .int today, .int stirs, .int steps, .int (nI lumps), .int (nI boats), .ref thickness, .ref lumpNames, .ref lumpCells, .ref boatNames, .ref boatCells, .ref loads, .ref spoons, .ref spoonsLeft, .ref depths])), (lumpNames, .inl (ky 1, 6, .inr (.inl lumpNamesF)))] := hD
            refine lv_if_eq (tgt := 60) hx hb dX9_readAll_44 (by decide) (fun c86 => ?_) (fun c86 => ?_)
            · refine lv_iconst (v := nI 0) hx hb dX9_readAll_60 (by decide) ?_
              refine lv_istore (lv' := [(4, .int (nI 0)), (5, .int (nI k43)), (0, .ref se), (1, .ref reader), (2, .ref a), (3, .int (nI 9))]) hx hb dX9_readAll_61 hl (by decide) rfl (fun ls hl => ?_)
              refine lv_iinc (v := nI (k43 + 1)) (lv' := [(5, .int (nI (k43 + 1))), (4, .int (nI 0)), (0, .ref se), (1, .ref reader), (2, .ref a), (3, .int (nI 9))]) hx hb dX9_readAll_63 hl (k := 1) rfl (show nI k43 + nI 1 = nI (k43 + 1) from nI_add _ _) (by decide) rfl (fun ls hl => ?_)
              refine lv_goto (tgt := 12) hx hb dX9_readAll_66 (by decide) ?_
              exact ih63 (k43 + 1) (nI 0) k45 f46 rplaceG_72 rkindG_73 rbeginG_74 rwordG_75 rnumberG_76 rlettersG_77 rfaultKindG_83 rfaultPlaceG_84 (lf_n_readAll9_4 k43 n62 j55 hm64 c65 p68) (lf_n_readAll9_5 p68) (lf_n_readAll9_6 rlength rplace k47 rplaceG_72 iv_rreader_0 iv_rreader_1 j57 j60 p68 p78) p79 j59 p78 (lf_n_readAll9_7 k43 n62 j55 hm64 c65 p68) _ _ _ hP hD hS (lv_sub hl [0, 1, 2, 3, 4, 5] rfl)
            · refine lv_aload_n hx hb dX9_readAll_47 rfl (lv_at hl 2 rfl) ?_
              refine lv_bipush (v := nI 21) hx hb dX9_readAll_48 (by decide) ?_
              refine r_call_i (wr := [(reader, .inr (5, [.ref rtape, .int (nI rlength), .int (nI rmostBytes), .int (nI rplaceG_72), .int rkindG_73, .int (nI rbeginG_74), .int rwordG_75, .int rnumberG_76, .long rlettersG_77, .int rfaultKindG_83, .int rfaultPlaceG_84])), (rtape, .inl (ky 2, 940, .inl rtapeF)), (a, .inr (7, [.int (nI wide), .int (nI high), .int heat, .int cools, .int skinHeat, .int today, .int stirs, .int steps, .int (nI lumps), .int (nI boats), .ref thickness, .ref lumpNames, .ref lumpCells, .ref boatNames, .ref boatCells, .ref loads, .ref spoons, .ref spoonsLeft, .ref depths])), (lumpNames, .inl (ky 1, 6, .inr (.inl lumpNamesF)))]) (va_runV (As := [.int (nI 21)]) (rest := []) ⟨hx, hb, hml, hown, hts⟩ (c_n_put l dC dI ky H.size se ccodes k45 cones f46 (nI 21) j59) (cwV 1 hts gX9_readAll_X9_put rfl rfl rfl (by decide +kernel) ⟨(Nat.le_of_ble_eq_true rfl), (Nat.le_of_ble_eq_true rfl)⟩) (pre_UV hK hP hD [0, 1] (by decide) rfl (ci := 9) (q0 := 0) rfl rfl) rfl rfl hl.1 rfl (lv_room (Nat.le_of_ble_eq_true rfl)) dX9_readAll_50 ⟨(Nat.le_of_ble_eq_true rfl), (Nat.le_of_ble_eq_true rfl)⟩) hP hD hS hA [0, 1] [2, 3, 4, 5] rfl rfl (by decide) (by decide) (fun r89 u87 H locs p88 hP hD hS => ?_)
              obtain ⟨ccodeCountG_90, ccodesG_91⟩ := u87
              try dsimp only at p88
              obtain ⟨p92, p93⟩ := p88
              refine W.widen (k := 0) (n := 0) (Nat.le_of_ble_eq_true rfl) (Nat.le_of_ble_eq_true rfl) ?_
              have hP : va_P (dC, dI) vwCl [(reader, .inr (5, [.ref rtape, .int (nI rlength), .int (nI rmostBytes), .int (nI rplaceG_72), .int rkindG_73, .int (nI rbeginG_74), .int rwordG_75, .int rnumberG_76, .long rlettersG_77, .int rfaultKindG_83, .int rfaultPlaceG_84])), (rtape, .inl (ky 2, 940, .inl rtapeF)), (a, .inr (7, [.int (nI wide), .int (nI high), .int heat, .int cools, .int skinHeat, .int today, .int stirs, .int steps, .int (nI lumps), .int (nI boats), .ref thickness, .ref lumpNames, .ref lumpCells, .ref boatNames, .ref boatCells, .ref loads, .ref spoons, .ref spoonsLeft, .ref depths])), (lumpNames, .inl (ky 1, 6, .inr (.inl lumpNamesF))), (se, .inr (9, [.ref ccodes, .int (nI ccodeCountG_90), .int cones])), (ccodes, .inl (ky 0, 40, .inl ccodesG_91))] H := hP
              have hD : va_D A [(reader, .inr (5, [.ref rtape, .int (nI rlength), .int (nI rmostBytes), .int (nI rplaceG_72), .int rkindG_73, .int (nI rbeginG_74), .int rwordG_75, .int rnumberG_76, .long rlettersG_77, .int rfaultKindG_83, .int rfaultPlaceG_84])), (rtape, .inl (ky 2, 940, .inl rtapeF)), (a, .inr (7, [.int (nI wide), .int (nI high), .int heat, .int cools, .int skinHeat, .int today, .int stirs, .int steps, .int (nI lumps), .int (nI boats), .ref thickness, .ref lumpNames, .ref lumpCells, .ref boatNames, .ref boatCells, .ref loads, .ref spoons, .ref spoonsLeft, .ref depths])), (lumpNames, .inl (ky 1, 6, .inr (.inl lumpNamesF))), (se, .inr (9, [.ref ccodes, .int (nI ccodeCountG_90), .int cones])), (ccodes, .inl (ky 0, 40, .inl ccodesG_91))] := hD
              refine lv_if_eq (tgt := 60) hx hb dX9_readAll_53 (by decide) (fun c94 => ?_) (fun c94 => ?_)
              · refine lv_iconst (v := nI 0) hx hb dX9_readAll_60 (by decide) ?_
                refine lv_istore (lv' := [(4, .int (nI 0)), (5, .int (nI k43)), (0, .ref se), (1, .ref reader), (2, .ref a), (3, .int (nI 9))]) hx hb dX9_readAll_61 hl (by decide) rfl (fun ls hl => ?_)
                refine lv_iinc (v := nI (k43 + 1)) (lv' := [(5, .int (nI (k43 + 1))), (4, .int (nI 0)), (0, .ref se), (1, .ref reader), (2, .ref a), (3, .int (nI 9))]) hx hb dX9_readAll_63 hl (k := 1) rfl (show nI k43 + nI 1 = nI (k43 + 1) from nI_add _ _) (by decide) rfl (fun ls hl => ?_)
                refine lv_goto (tgt := 12) hx hb dX9_readAll_66 (by decide) ?_
                exact ih63 (k43 + 1) (nI 0) ccodeCountG_90 ccodesG_91 rplaceG_72 rkindG_73 rbeginG_74 rwordG_75 rnumberG_76 rlettersG_77 rfaultKindG_83 rfaultPlaceG_84 (lf_n_readAll9_8 k43 n62 j55 hm64 c65 p68) (lf_n_readAll9_9 p68) (lf_n_readAll9_10 rlength rplace k47 rplaceG_72 iv_rreader_0 iv_rreader_1 j57 j60 p68 p78) p79 p93 p78 (lf_n_readAll9_11 k43 n62 j55 hm64 c65 p68) _ _ _ (hP.sub [4, 5, 0, 1, 2, 3] rfl) (hD.sub [4, 5, 0, 1, 2, 3] (by decide) rfl) hS (lv_sub hl [0, 1, 2, 3, 4, 5] rfl)
              · refine lv_iconst (v := nI 1) hx hb dX9_readAll_56 (by decide) ?_
                refine lv_goto (tgt := 61) hx hb dX9_readAll_57 (by decide) ?_
                refine lv_istore (lv' := [(4, .int (nI 1)), (5, .int (nI k43)), (0, .ref se), (1, .ref reader), (2, .ref a), (3, .int (nI 9))]) hx hb dX9_readAll_61 hl (by decide) rfl (fun ls hl => ?_)
                refine lv_iinc (v := nI (k43 + 1)) (lv' := [(5, .int (nI (k43 + 1))), (4, .int (nI 1)), (0, .ref se), (1, .ref reader), (2, .ref a), (3, .int (nI 9))]) hx hb dX9_readAll_63 hl (k := 1) rfl (show nI k43 + nI 1 = nI (k43 + 1) from nI_add _ _) (by decide) rfl (fun ls hl => ?_)
                refine lv_goto (tgt := 12) hx hb dX9_readAll_66 (by decide) ?_
                exact ih63 (k43 + 1) (nI 1) ccodeCountG_90 ccodesG_91 rplaceG_72 rkindG_73 rbeginG_74 rwordG_75 rnumberG_76 rlettersG_77 rfaultKindG_83 rfaultPlaceG_84 (lf_n_readAll9_12 k43 n62 j55 hm64 c65 p68) (lf_n_readAll9_13 p68) (lf_n_readAll9_14 rlength rplace k47 rplaceG_72 iv_rreader_0 iv_rreader_1 j57 j60 p68 p78) p79 p93 p78 (lf_n_readAll9_15 k43 n62 j55 hm64 c65 p68) _ _ _ (hP.sub [4, 5, 0, 1, 2, 3] rfl) (hD.sub [4, 5, 0, 1, 2, 3] (by decide) rfl) hS (lv_sub hl [0, 1, 2, 3, 4, 5] rfl)
  exact hL61 ((20 - 0) + 1) 0 r3 ccodeCount ccodesF rplace rkind rbegin rword rnumber rletters rfaultKindG_4 rfaultPlaceG_5 (lf_n_readAll9_16) p6 (lf_n_readAll9_17 rlength rplace iv_rreader_0 iv_rreader_1) iv_rreader_3 iv_cse_0 iv_rreader_1 (Nat.lt_succ_self _) _ _ _ hP hD hS (lv_sub hl [0, 1, 2, 3, 4, 5] rfl)
set_option maxRecDepth 20000 in
theorem lf_n_readCond9_1 (x55 : Int32) (j67 : x55 = nI 0 ∨ x55 = nI 1) : narrow .boolean (.int x55) = .int x55 := by
  have h : x55 = 0 ∨ x55 = 1 := by
    have b_x55 := ia_b x55
    try have k_0 := ia_n 0 (by first | decide | omega)
    try have k_1 := ia_n 1 (by first | decide | omega)
    try simp only [ia_lt, ia_le, ia_eq, ia_m1, ia_0, ia_1, ne_eq, true_and, and_true, false_and, and_false, or_false, false_or, or_true, true_or, not_true_eq_false, not_false_eq_true] at *
    all_goals omega
  rcases h with h | h <;> rw [h] <;> rfl
set_option maxRecDepth 20000 in
theorem lf_n_readCond9_2 (x55 : Int32) (j67 : x55 = nI 0 ∨ x55 = nI 1) (c77 : x55 = 0) : narrow .boolean (.int x55) = .int x55 := by
  have h : x55 = 0 ∨ x55 = 1 := by
    have b_x55 := ia_b x55
    try have k_0 := ia_n 0 (by first | decide | omega)
    try have k_1 := ia_n 1 (by first | decide | omega)
    try simp only [ia_lt, ia_le, ia_eq, ia_m1, ia_0, ia_1, ne_eq, true_and, and_true, false_and, and_false, or_false, false_or, or_true, true_or, not_true_eq_false, not_false_eq_true] at *
    all_goals omega
  rcases h with h | h <;> rw [h] <;> rfl
set_option maxRecDepth 20000 in
theorem lf_n_readCond9_3 (x55 : Int32) (j67 : x55 = nI 0 ∨ x55 = nI 1) (c77 : ¬ x55 = 0) (p79 : True) : narrow .boolean (.int x55) = .int x55 := by
  have h : x55 = 0 ∨ x55 = 1 := by
    have b_x55 := ia_b x55
    try have k_0 := ia_n 0 (by first | decide | omega)
    try have k_1 := ia_n 1 (by first | decide | omega)
    try simp only [ia_lt, ia_le, ia_eq, ia_m1, ia_0, ia_1, ne_eq, true_and, and_true, false_and, and_false, or_false, false_or, or_true, true_or, not_true_eq_false, not_false_eq_true] at *
    all_goals omega
  rcases h with h | h <;> rw [h] <;> rfl
set_option maxRecDepth 20000 in
theorem lf_n_readCond9_4 (k54 : Nat) (n73 : Nat) (j66 : k54 ≤ 20) (hm75 : 20 - k54 < n73 + 1) (c76 : k54 < 20) (p79 : True) : (k54 + 1) ≤ 20 := by
  try simp only [ia_lt, ia_le, ia_eq, ia_m1, ia_0, ia_1, ne_eq, true_and, and_true, false_and, and_false, or_false, false_or, or_true, true_or, not_true_eq_false, not_false_eq_true] at *
  all_goals omega
set_option maxRecDepth 20000 in
theorem lf_n_readCond9_5  (p79 : True) : (nI 0) = nI 0 ∨ (nI 0) = nI 1 := by
  try have k_0 := ia_n 0 (by first | decide | omega)
  try have k_1 := ia_n 1 (by first | decide | omega)
  try simp only [ia_lt, ia_le, ia_eq, ia_m1, ia_0, ia_1, ne_eq, true_and, and_true, false_and, and_false, or_false, false_or, or_true, true_or, not_true_eq_false, not_false_eq_true] at *
  all_goals omega
set_option maxRecDepth 20000 in
theorem lf_n_readCond9_6 (rlength : Nat) (rplace : Nat) (rplaceG_6 : Nat) (k58 : Nat) (rplaceG_83 : Nat) (rplaceG_96 : Nat) (iv_rreader_0 : rlength ≤ 940) (iv_rreader_1 : rplace ≤ rlength) (p16 : rplaceG_6 ≤ rlength) (j69 : k58 ≤ 940) (j71 : k58 ≤ rlength) (p79 : True) (p89 : rplaceG_83 ≤ rlength) (p106 : rplaceG_96 ≤ rlength) : rplaceG_96 ≤ 940 := by
  try simp only [ia_lt, ia_le, ia_eq, ia_m1, ia_0, ia_1, ne_eq, true_and, and_true, false_and, and_false, or_false, false_or, or_true, true_or, not_true_eq_false, not_false_eq_true] at *
  all_goals omega
set_option maxRecDepth 20000 in
theorem lf_n_readCond9_7 (k54 : Nat) (n73 : Nat) (j66 : k54 ≤ 20) (hm75 : 20 - k54 < n73 + 1) (c76 : k54 < 20) (p79 : True) : 20 - (k54 + 1) < n73 := by
  try simp only [ia_lt, ia_le, ia_eq, ia_m1, ia_0, ia_1, ne_eq, true_and, and_true, false_and, and_false, or_false, false_or, or_true, true_or, not_true_eq_false, not_false_eq_true] at *
  all_goals omega
set_option maxRecDepth 20000 in
theorem lf_n_readCond9_8 (k54 : Nat) (n73 : Nat) (j66 : k54 ≤ 20) (hm75 : 20 - k54 < n73 + 1) (c76 : k54 < 20) (p79 : True) : (k54 + 1) ≤ 20 := by
  try simp only [ia_lt, ia_le, ia_eq, ia_m1, ia_0, ia_1, ne_eq, true_and, and_true, false_and, and_false, or_false, false_or, or_true, true_or, not_true_eq_false, not_false_eq_true] at *
  all_goals omega
set_option maxRecDepth 20000 in
theorem lf_n_readCond9_9  (p79 : True) : (nI 0) = nI 0 ∨ (nI 0) = nI 1 := by
  try have k_0 := ia_n 0 (by first | decide | omega)
  try have k_1 := ia_n 1 (by first | decide | omega)
  try simp only [ia_lt, ia_le, ia_eq, ia_m1, ia_0, ia_1, ne_eq, true_and, and_true, false_and, and_false, or_false, false_or, or_true, true_or, not_true_eq_false, not_false_eq_true] at *
  all_goals omega
set_option maxRecDepth 20000 in
theorem lf_n_readCond9_10 (rlength : Nat) (rplace : Nat) (rplaceG_6 : Nat) (k58 : Nat) (rplaceG_83 : Nat) (rplaceG_96 : Nat) (iv_rreader_0 : rlength ≤ 940) (iv_rreader_1 : rplace ≤ rlength) (p16 : rplaceG_6 ≤ rlength) (j69 : k58 ≤ 940) (j71 : k58 ≤ rlength) (p79 : True) (p89 : rplaceG_83 ≤ rlength) (p106 : rplaceG_96 ≤ rlength) : rplaceG_96 ≤ 940 := by
  try simp only [ia_lt, ia_le, ia_eq, ia_m1, ia_0, ia_1, ne_eq, true_and, and_true, false_and, and_false, or_false, false_or, or_true, true_or, not_true_eq_false, not_false_eq_true] at *
  all_goals omega
set_option maxRecDepth 20000 in
theorem lf_n_readCond9_11 (k54 : Nat) (n73 : Nat) (j66 : k54 ≤ 20) (hm75 : 20 - k54 < n73 + 1) (c76 : k54 < 20) (p79 : True) : 20 - (k54 + 1) < n73 := by
  try simp only [ia_lt, ia_le, ia_eq, ia_m1, ia_0, ia_1, ne_eq, true_and, and_true, false_and, and_false, or_false, false_or, or_true, true_or, not_true_eq_false, not_false_eq_true] at *
  all_goals omega
set_option maxRecDepth 20000 in
theorem lf_n_readCond9_12 (k54 : Nat) (n73 : Nat) (j66 : k54 ≤ 20) (hm75 : 20 - k54 < n73 + 1) (c76 : k54 < 20) (p79 : True) : (k54 + 1) ≤ 20 := by
  try simp only [ia_lt, ia_le, ia_eq, ia_m1, ia_0, ia_1, ne_eq, true_and, and_true, false_and, and_false, or_false, false_or, or_true, true_or, not_true_eq_false, not_false_eq_true] at *
  all_goals omega
set_option maxRecDepth 20000 in
theorem lf_n_readCond9_13  (p79 : True) : (nI 1) = nI 0 ∨ (nI 1) = nI 1 := by
  try have k_0 := ia_n 1 (by first | decide | omega)
  try have k_1 := ia_n 0 (by first | decide | omega)
  try simp only [ia_lt, ia_le, ia_eq, ia_m1, ia_0, ia_1, ne_eq, true_and, and_true, false_and, and_false, or_false, false_or, or_true, true_or, not_true_eq_false, not_false_eq_true] at *
  all_goals omega
set_option maxRecDepth 20000 in
theorem lf_n_readCond9_14 (rlength : Nat) (rplace : Nat) (rplaceG_6 : Nat) (k58 : Nat) (rplaceG_83 : Nat) (rplaceG_96 : Nat) (iv_rreader_0 : rlength ≤ 940) (iv_rreader_1 : rplace ≤ rlength) (p16 : rplaceG_6 ≤ rlength) (j69 : k58 ≤ 940) (j71 : k58 ≤ rlength) (p79 : True) (p89 : rplaceG_83 ≤ rlength) (p106 : rplaceG_96 ≤ rlength) : rplaceG_96 ≤ 940 := by
  try simp only [ia_lt, ia_le, ia_eq, ia_m1, ia_0, ia_1, ne_eq, true_and, and_true, false_and, and_false, or_false, false_or, or_true, true_or, not_true_eq_false, not_false_eq_true] at *
  all_goals omega
set_option maxRecDepth 20000 in
theorem lf_n_readCond9_15 (k54 : Nat) (n73 : Nat) (j66 : k54 ≤ 20) (hm75 : 20 - k54 < n73 + 1) (c76 : k54 < 20) (p79 : True) : 20 - (k54 + 1) < n73 := by
  try simp only [ia_lt, ia_le, ia_eq, ia_m1, ia_0, ia_1, ne_eq, true_and, and_true, false_and, and_false, or_false, false_or, or_true, true_or, not_true_eq_false, not_false_eq_true] at *
  all_goals omega
set_option maxRecDepth 20000 in
theorem lf_n_readCond9_16   : 0 ≤ 20 := by
  try simp only [ia_lt, ia_le, ia_eq, ia_m1, ia_0, ia_1, ne_eq, true_and, and_true, false_and, and_false, or_false, false_or, or_true, true_or, not_true_eq_false, not_false_eq_true] at *
  all_goals omega
set_option maxRecDepth 20000 in
theorem lf_n_readCond9_17 (rlength : Nat) (rplace : Nat) (rplaceG_6 : Nat) (iv_rreader_0 : rlength ≤ 940) (iv_rreader_1 : rplace ≤ rlength) (p16 : rplaceG_6 ≤ rlength) : rplaceG_6 ≤ 940 := by
  try simp only [ia_lt, ia_le, ia_eq, ia_m1, ia_0, ia_1, ne_eq, true_and, and_true, false_and, and_false, or_false, false_or, or_true, true_or, not_true_eq_false, not_false_eq_true] at *
  all_goals omega
set_option maxHeartbeats 4000000 in
set_option maxRecDepth 100000 in
theorem c_n_readCond9 (l : Launch) (dC : Nat → ClassId) (dI : Nat → Nat → Nat) (ky : Nat → ClassId) (sz : Nat) (adK : Nat → Nat) (adV : Nat → Nat) (se : Nat) (ccodes : Nat) (ccodeCount : Nat) (cones : Int32) (ccodesF : Nat → Int32) (reader : Nat) (rtape : Nat) (rlength : Nat) (rmostBytes : Nat) (rplace : Nat) (rkind : Int32) (rbegin : Nat) (rword : Int32) (rnumber : Int32) (rletters : Int64) (rfaultKind : Int32) (rfaultPlace : Int32) (rtapeF : Nat → Int32) (a : Nat) (wide : Nat) (high : Nat) (heat : Int32) (cools : Int32) (skinHeat : Int32) (today : Int32) (stirs : Int32) (steps : Int32) (lumps : Nat) (boats : Nat) (thickness : Nat) (lumpNames : Nat) (lumpCells : Nat) (boatNames : Nat) (boatCells : Nat) (loads : Nat) (spoons : Nat) (spoonsLeft : Nat) (depths : Nat) (lumpNamesF : Nat → Int64) (iv_cse_0 : ccodeCount ≤ 40) (iv_rreader_0 : rlength ≤ 940) (iv_rreader_1 : rplace ≤ rlength) (iv_rreader_2 : rmostBytes ≤ 900) (iv_rreader_3 : rbegin ≤ 940) (iv_a_0 : 2 ≤ wide) (iv_a_1 : wide ≤ 6) (iv_a_2 : 2 ≤ high) (iv_a_3 : high ≤ 6) (iv_a_4 : lumps ≤ 6) (iv_a_5 : boats ≤ 6) : Met l yX9_readCond wsX9_readCond ({ frames := 7, cells := 0, slots := 0, locals := 156 }) (PcUE dC dI ky adK adV [.ref se, .ref reader, .ref a, .int (nI 9)] [(se, .inr (9, [.ref ccodes, .int (nI ccodeCount), .int cones])), (ccodes, .inl (ky 0, 40, .inl ccodesF)), (reader, .inr (5, [.ref rtape, .int (nI rlength), .int (nI rmostBytes), .int (nI rplace), .int rkind, .int (nI rbegin), .int rword, .int rnumber, .long rletters, .int rfaultKind, .int rfaultPlace])), (rtape, .inl (ky 2, 940, .inl rtapeF)), (a, .inr (7, [.int (nI wide), .int (nI high), .int heat, .int cools, .int skinHeat, .int today, .int stirs, .int steps, .int (nI lumps), .int (nI boats), .ref thickness, .ref lumpNames, .ref lumpCells, .ref boatNames, .ref boatCells, .ref loads, .ref spoons, .ref spoonsLeft, .ref depths])), (lumpNames, .inl (ky 1, 6, .inr (.inl lumpNamesF)))] sz) (va_Qi (fun (r : Int32) (u : Nat × (Nat → Int32) × Nat × Int32 × Nat × Int32 × Int32 × Int64 × Int32 × Int32) => match u with | (ccodeCountG, ccodesG, rplaceG, rkindG, rbeginG, rwordG, rnumberG, rlettersG, rfaultKindG, rfaultPlaceG) => (r = nI 0 ∨ r = nI 1) ∧ (ccodeCountG ≤ 40) ∧ (rplaceG ≤ rlength) ∧ (rbeginG ≤ 940)) (BU dC dI ky (fun (u : Nat × (Nat → Int32) × Nat × Int32 × Nat × Int32 × Int32 × Int64 × Int32 × Int32) => match u with | (ccodeCountG, ccodesG, rplaceG, rkindG, rbeginG, rwordG, rnumberG, rlettersG, rfaultKindG, rfaultPlaceG) => [(se, .inr (9, [.ref ccodes, .int (nI ccodeCountG), .int cones])), (ccodes, .inl (ky 0, 40, .inl ccodesG)), (reader, .inr (5, [.ref rtape, .int (nI rlength), .int (nI rmostBytes), .int (nI rplaceG), .int rkindG, .int (nI rbeginG), .int rwordG, .int rnumberG, .long rlettersG, .int rfaultKindG, .int rfaultPlaceG])), (rtape, .inl (ky 2, 940, .inl rtapeF)), (a, .inr (7, [.int (nI wide), .int (nI high), .int heat, .int cools, .int skinHeat, .int today, .int stirs, .int steps, .int (nI lumps), .int (nI boats), .ref thickness, .ref lumpNames, .ref lumpCells, .ref boatNames, .ref boatCells, .ref loads, .ref spoons, .ref spoonsLeft, .ref depths])), (lumpNames, .inl (ky 1, 6, .inr (.inl lumpNamesF)))]) (va_A [(se, .inr (9, [.ref ccodes, .int (nI ccodeCount), .int cones])), (ccodes, .inl (ky 0, 40, .inl ccodesF)), (reader, .inr (5, [.ref rtape, .int (nI rlength), .int (nI rmostBytes), .int (nI rplace), .int rkind, .int (nI rbegin), .int rword, .int rnumber, .long rletters, .int rfaultKind, .int rfaultPlace])), (rtape, .inl (ky 2, 940, .inl rtapeF)), (a, .inr (7, [.int (nI wide), .int (nI high), .int heat, .int cools, .int skinHeat, .int today, .int stirs, .int steps, .int (nI lumps), .int (nI boats), .ref thickness, .ref lumpNames, .ref lumpCells, .ref boatNames, .ref boatCells, .ref loads, .ref spoons, .ref spoonsLeft, .ref depths])), (lumpNames, .inl (ky 1, 6, .inr (.inl lumpNamesF)))] sz)) (va_A [(se, .inr (9, [.ref ccodes, .int (nI ccodeCount), .int cones])), (ccodes, .inl (ky 0, 40, .inl ccodesF)), (reader, .inr (5, [.ref rtape, .int (nI rlength), .int (nI rmostBytes), .int (nI rplace), .int rkind, .int (nI rbegin), .int rword, .int rnumber, .long rletters, .int rfaultKind, .int rfaultPlace])), (rtape, .inl (ky 2, 940, .inl rtapeF)), (a, .inr (7, [.int (nI wide), .int (nI high), .int heat, .int cools, .int skinHeat, .int today, .int stirs, .int steps, .int (nI lumps), .int (nI boats), .ref thickness, .ref lumpNames, .ref lumpCells, .ref boatNames, .ref boatCells, .ref loads, .ref spoons, .ref spoonsLeft, .ref depths])), (lumpNames, .inl (ky 1, 6, .inr (.inl lumpNamesF)))] sz)) 0 0 (va_A [(se, .inr (9, [.ref ccodes, .int (nI ccodeCount), .int cones])), (ccodes, .inl (ky 0, 40, .inl ccodesF)), (reader, .inr (5, [.ref rtape, .int (nI rlength), .int (nI rmostBytes), .int (nI rplace), .int rkind, .int (nI rbegin), .int rword, .int rnumber, .long rletters, .int rfaultKind, .int rfaultPlace])), (rtape, .inl (ky 2, 940, .inl rtapeF)), (a, .inr (7, [.int (nI wide), .int (nI high), .int heat, .int cools, .int skinHeat, .int today, .int stirs, .int steps, .int (nI lumps), .int (nI boats), .ref thickness, .ref lumpNames, .ref lumpCells, .ref boatNames, .ref boatCells, .ref loads, .ref spoons, .ref spoonsLeft, .ref depths])), (lumpNames, .inl (ky 1, 6, .inr (.inl lumpNamesF)))] sz) := by
  refine Met.ofW (cc := cX9_readCond) (maxL := 6) (ret := (some .boolean)) (by decide) rfl ?_
  intro p e s m args below meth c s₁ B hml hv
  obtain ⟨rfl, hsz, hP, hK, hD0, hE⟩ := hv
  have hx := B.exec
  have hb := B.bytes
  have hr := B.returns
  have hts := atoms_spec (ws := wsX9_readCond) B.pre
  have hown : s.vm.findClass RX9 = some m.cls := findClass_of_methodNamed B.named
  have hlocks := B.notSynchronized
  subst hsz
  have hD := hD0.self (sz := s.heap.size)
  generalize hAe : va_A [(se, .inr (9, [.ref ccodes, .int (nI ccodeCount), .int cones])), (ccodes, .inl (ky 0, 40, .inl ccodesF)), (reader, .inr (5, [.ref rtape, .int (nI rlength), .int (nI rmostBytes), .int (nI rplace), .int rkind, .int (nI rbegin), .int rword, .int rnumber, .long rletters, .int rfaultKind, .int rfaultPlace])), (rtape, .inl (ky 2, 940, .inl rtapeF)), (a, .inr (7, [.int (nI wide), .int (nI high), .int heat, .int cools, .int skinHeat, .int today, .int stirs, .int steps, .int (nI lumps), .int (nI boats), .ref thickness, .ref lumpNames, .ref lumpCells, .ref boatNames, .ref boatCells, .ref loads, .ref spoons, .ref spoonsLeft, .ref depths])), (lumpNames, .inl (ky 1, 6, .inr (.inl lumpNamesF)))] s.heap.size = A at hD hE ⊢
  have hA : ∀ q : Nat, s.heap.size ≤ q → A q := fun q h => by rw [← hAe]; exact Or.inr h
  have hS : va_S A s.heap s.heap [] := va_S.rf
  have hl := lv_entry ([.ref se, .ref reader, .ref a, .int (nI 9)]) (n := 6) (Nat.le_of_ble_eq_true rfl)
  rw [lg_entry_eq]
  generalize (lg_sl ([.ref se, .ref reader, .ref a, .int (nI 9)]) ++ List.replicate (6 - (lg_sl ([.ref se, .ref reader, .ref a, .int (nI 9)])).length) Slot.unset).toArray = ls at hl ⊢
  have hl : lv_has ls 6 [(0, .ref se), (1, .ref reader), (2, .ref a), (3, .int (nI 9))] := hl
  refine q_name (fun Q hQ => ?_)
  generalize ([.ref se, .ref reader, .ref a, .int (nI 9)] : List Value).toArray = args at hts hQ ⊢
  refine lv_aload_n hx hb dX9_readCond_0 rfl (lv_at hl 0 rfl) ?_
  refine lv_aload_n hx hb dX9_readCond_1 rfl (lv_at hl 1 rfl) ?_
  refine lv_aload_n hx hb dX9_readCond_2 rfl (lv_at hl 2 rfl) ?_
  refine lv_iload_n hx hb dX9_readCond_3 rfl (lv_at hl 3 rfl) ?_
  refine r_call_i (wr := []) (va_runV (As := [.ref reader, .ref a, .int (nI 9)]) (rest := []) ⟨hx, hb, hml, hown, hts⟩ (c_n_readAll9 l dC dI ky s.heap.size adK adV se ccodes ccodeCount cones ccodesF reader rtape rlength rmostBytes rplace rkind rbegin rword rnumber rletters rfaultKind rfaultPlace rtapeF a wide high heat cools skinHeat today stirs steps lumps boats thickness lumpNames lumpCells boatNames boatCells loads spoons spoonsLeft depths lumpNamesF iv_cse_0 iv_rreader_0 iv_rreader_1 iv_rreader_2 iv_rreader_3 iv_a_0 iv_a_1 iv_a_2 iv_a_3 iv_a_4 iv_a_5) (cwV 3 hts gX9_readCond_X9_readAll rfl rfl rfl (by decide +kernel) ⟨(Nat.le_of_ble_eq_true rfl), (Nat.le_of_ble_eq_true rfl)⟩) (pre_UEV hE hS hA hK hP hD [0, 1, 2, 3, 4, 5] (by decide) rfl (va_recv hK hP (ci := 9) (q0 := 0) rfl rfl)) rfl rfl hl.1 rfl (lv_room (Nat.le_of_ble_eq_true rfl)) dX9_readCond_4 ⟨(Nat.le_of_ble_eq_true rfl), (Nat.le_of_ble_eq_true rfl)⟩) hP hD hS hA [0, 1, 2, 3, 4, 5] [] rfl rfl (by decide) (by decide) (fun r3 u1 H locs p2 hP hD hS => ?_)
  obtain ⟨ccodeCountG_4, ccodesG_5, rplaceG_6, rkindG_7, rbeginG_8, rwordG_9, rnumberG_10, rlettersG_11, rfaultKindG_12, rfaultPlaceG_13⟩ := u1
  try dsimp only at p2
  obtain ⟨p14, p15, p16, p17⟩ := p2
  refine W.widen (k := 0) (n := 0) (Nat.le_of_ble_eq_true rfl) (Nat.le_of_ble_eq_true rfl) ?_
  have hP : va_P (dC, dI) vwCl [(se, .inr (9, [.ref ccodes, .int (nI ccodeCountG_4), .int cones])), (ccodes, .inl (ky 0, 40, .inl ccodesG_5)), (reader, .inr (5, [.ref rtape, .int (nI rlength), .int (nI rmostBytes), .int (nI rplaceG_6), .int rkindG_7, .int (nI rbeginG_8), .int rwordG_9, .int rnumberG_10, .long rlettersG_11, .int rfaultKindG_12, .int rfaultPlaceG_13])), (rtape, .inl (ky 2, 940, .inl rtapeF)), (a, .inr (7, [.int (nI wide), .int (nI high), .int heat, .int cools, .int skinHeat, .int today, .int stirs, .int steps, .int (nI lumps), .int (nI boats), .ref thickness, .ref lumpNames, .ref lumpCells, .ref boatNames, .ref boatCells, .ref loads, .ref spoons, .ref spoonsLeft, .ref depths])), (lumpNames, .inl (ky 1, 6, .inr (.inl lumpNamesF)))] H := hP
  have hD : va_D A [(se, .inr (9, [.ref ccodes, .int (nI ccodeCountG_4), .int cones])), (ccodes, .inl (ky 0, 40, .inl ccodesG_5)), (reader, .inr (5, [.ref rtape, .int (nI rlength), .int (nI rmostBytes), .int (nI rplaceG_6), .int rkindG_7, .int (nI rbeginG_8), .int rwordG_9, .int rnumberG_10, .long rlettersG_11, .int rfaultKindG_12, .int rfaultPlaceG_13])), (rtape, .inl (ky 2, 940, .inl rtapeF)), (a, .inr (7, [.int (nI wide), .int (nI high), .int heat, .int cools, .int skinHeat, .int today, .int stirs, .int steps, .int (nI lumps), .int (nI boats), .ref thickness, .ref lumpNames, .ref lumpCells, .ref boatNames, .ref boatCells, .ref loads, .ref spoons, .ref spoonsLeft, .ref depths])), (lumpNames, .inl (ky 1, 6, .inr (.inl lumpNamesF)))] := hD
  refine lv_istore (lv' := [(4, .int r3), (0, .ref se), (1, .ref reader), (2, .ref a), (3, .int (nI 9))]) hx hb dX9_readCond_7 hl (by decide) rfl (fun ls hl => ?_)
  refine lv_iconst (v := nI 0) hx hb dX9_readCond_9 (by decide) ?_
  refine lv_istore (lv' := [(5, .int (nI 0)), (4, .int r3), (0, .ref se), (1, .ref reader), (2, .ref a), (3, .int (nI 9))]) hx hb dX9_readCond_10 hl (by decide) rfl (fun ls hl => ?_)
  have hL72 : ∀ (n73 : Nat) (k54 : Nat) (x55 : Int32) (k56 : Nat) (f57 : Nat → Int32) (k58 : Nat) (x59 : Int32) (k60 : Nat) (x61 : Int32) (x62 : Int32) (w63 : Int64) (x64 : Int32) (x65 : Int32), (k54 ≤ 20) → (x55 = nI 0 ∨ x55 = nI 1) → (k56 ≤ 40) → (k58 ≤ 940) → (k60 ≤ 940) → (k58 ≤ rlength) → 20 - k54 < n73 → ∀ (H : Heap) (locs : List Loc) (ls : Array Slot), va_P (dC, dI) vwCl [(se, .inr (9, [.ref ccodes, .int (nI k56), .int cones])), (ccodes, .inl (ky 0, 40, .inl f57)), (reader, .inr (5, [.ref rtape, .int (nI rlength), .int (nI rmostBytes), .int (nI k58), .int x59, .int (nI k60), .int x61, .int x62, .long w63, .int x64, .int x65])), (rtape, .inl (ky 2, 940, .inl rtapeF)), (a, .inr (7, [.int (nI wide), .int (nI high), .int heat, .int cools, .int skinHeat, .int today, .int stirs, .int steps, .int (nI lumps), .int (nI boats), .ref thickness, .ref lumpNames, .ref lumpCells, .ref boatNames, .ref boatCells, .ref loads, .ref spoons, .ref spoonsLeft, .ref depths])), (lumpNames, .inl (ky 1, 6, .inr (.inl lumpNamesF)))] H → va_D A [(se, .inr (9, [.ref ccodes, .int (nI k56), .int cones])), (ccodes, .inl (ky 0, 40, .inl f57)), (reader, .inr (5, [.ref rtape, .int (nI rlength), .int (nI rmostBytes), .int (nI k58), .int x59, .int (nI k60), .int x61, .int x62, .long w63, .int x64, .int x65])), (rtape, .inl (ky 2, 940, .inl rtapeF)), (a, .inr (7, [.int (nI wide), .int (nI high), .int heat, .int cools, .int skinHeat, .int today, .int stirs, .int steps, .int (nI lumps), .int (nI boats), .ref thickness, .ref lumpNames, .ref lumpCells, .ref boatNames, .ref boatCells, .ref loads, .ref spoons, .ref spoonsLeft, .ref depths])), (lumpNames, .inl (ky 1, 6, .inr (.inl lumpNamesF)))] → va_S A s.heap H locs → lv_has ls 6 [(5, .int (nI k54)), (4, .int x55), (0, .ref se), (1, .ref reader), (2, .ref a), (3, .int (nI 9))] → W p l e (headSpec wsX9_readCond ({ frames := 7, cells := 0, slots := 0, locals := 156 })).room s m args below meth c H locs 0 0 Q (F0 m 12 ls []) := by
    intro n73
    induction n73 with
    | zero => intro k54 x55 k56 f57 k58 x59 k60 x61 x62 w63 x64 x65 _ _ _ _ _ _ h9; exact absurd h9 (Nat.not_lt_zero _)
    | succ n73 ih74 =>
      intro k54 x55 k56 f57 k58 x59 k60 x61 x62 w63 x64 x65 j66 j67 j68 j69 j70 j71 hm75 H locs ls hP hD hS hl
      refine lv_iload hx hb dX9_readCond_12 (lv_at hl 0 rfl) ?_
      refine lv_bipush (v := nI 20) hx hb dX9_readCond_14 (by decide) ?_
      refine n_icmp_ge (x := k54) (y := 20) (tgt := 69) hx hb (by omega) (by omega) dX9_readCond_16 (by decide) (fun c76 => ?_) (fun c76 => ?_)
      · refine lv_iload hx hb dX9_readCond_69 (lv_at hl 1 rfl) ?_
        rw [hQ]
        exact W.zret (v := x55) hx hb hr ((lf_n_readCond9_1 x55 j67)) (fun t9 ht9 hW9 => ⟨⟨x55, (k56, f57, k58, x59, k60, x61, x62, w63, x64, x65), rfl, ⟨j67, j68, j71, j70⟩, by rw [ht9]; exact hP, va_K.moved hW9.alike hK, hD⟩, hS.F ht9⟩) hS.2.2 dX9_readCond_71
      · refine lv_iload hx hb dX9_readCond_19 (lv_at hl 1 rfl) ?_
        refine lv_if_eq (tgt := 69) hx hb dX9_readCond_21 (by decide) (fun c77 => ?_) (fun c77 => ?_)
        · refine lv_iload hx hb dX9_readCond_69 (lv_at hl 1 rfl) ?_
          rw [hQ]
          exact W.zret (v := x55) hx hb hr ((lf_n_readCond9_2 x55 j67 c77)) (fun t9 ht9 hW9 => ⟨⟨x55, (k56, f57, k58, x59, k60, x61, x62, w63, x64, x65), rfl, ⟨j67, j68, j71, j70⟩, by rw [ht9]; exact hP, va_K.moved hW9.alike hK, hD⟩, hS.F ht9⟩) hS.2.2 dX9_readCond_71
        · refine lv_aload_n hx hb dX9_readCond_24 rfl (lv_at hl 3 rfl) ?_
          refine vp_callSi (W.runV (As := []) (rest := []) ⟨hx, hb, hml, hown, hts⟩ (c_r_nextWord l dC dI ky reader rtape rlength rmostBytes k58 x59 k60 x61 x62 w63 x64 x65 iv_rreader_0 j71 iv_rreader_2 j70) (cwV 0 hts gX9_readCond_X5_nextWord rfl rfl rfl (by decide +kernel) ⟨(Nat.le_of_ble_eq_true rfl), (Nat.le_of_ble_eq_true rfl)⟩) (pre_PV hK hP [2] rfl (ci := 5) (q0 := 2) rfl rfl) rfl rfl hl.1 rfl (lv_room (Nat.le_of_ble_eq_true rfl)) dX9_readCond_25 ⟨(Nat.le_of_ble_eq_true rfl), (Nat.le_of_ble_eq_true rfl)⟩) (fun r78 p79 => ?_)
          refine lv_bipush (v := nI 20) hx hb dX9_readCond_28 (by decide) ?_
          refine lv_icmp_ne (tgt := 69) hx hb dX9_readCond_30 (by decide) (fun c80 => ?_) (fun c80 => ?_)
          · refine lv_iload hx hb dX9_readCond_69 (lv_at hl 1 rfl) ?_
            rw [hQ]
            exact W.zret (v := x55) hx hb hr ((lf_n_readCond9_3 x55 j67 c77 p79)) (fun t9 ht9 hW9 => ⟨⟨x55, (k56, f57, k58, x59, k60, x61, x62, w63, x64, x65), rfl, ⟨j67, j68, j71, j70⟩, by rw [ht9]; exact hP, va_K.moved hW9.alike hK, hD⟩, hS.F ht9⟩) hS.2.2 dX9_readCond_71
          · refine lv_aload_n hx hb dX9_readCond_33 rfl (lv_at hl 3 rfl) ?_
            refine r_call_v (wr := [(se, .inr (9, [.ref ccodes, .int (nI k56), .int cones])), (ccodes, .inl (ky 0, 40, .inl f57)), (a, .inr (7, [.int (nI wide), .int (nI high), .int heat, .int cools, .int skinHeat, .int today, .int stirs, .int steps, .int (nI lumps), .int (nI boats), .ref thickness, .ref lumpNames, .ref lumpCells, .ref boatNames, .ref boatCells, .ref loads, .ref spoons, .ref spoonsLeft, .ref depths])), (lumpNames, .inl (ky 1, 6, .inr (.inl lumpNamesF)))]) (va_runV (As := []) (rest := []) ⟨hx, hb, hml, hown, hts⟩ (c_r_advance l dC dI ky H.size adK adV reader rtape rlength rmostBytes k58 x59 k60 x61 x62 w63 x64 x65 rtapeF iv_rreader_0 j71 iv_rreader_2 j70) (cwV 0 hts gX9_readCond_X5_advance rfl rfl rfl (by decide +kernel) ⟨(Nat.le_of_ble_eq_true rfl), (Nat.le_of_ble_eq_true rfl)⟩) (pre_UEV hE hS hA hK hP hD [2, 3] (by decide) rfl (va_recv hK hP (ci := 5) (q0 := 2) rfl rfl)) rfl rfl hl.1 rfl (lv_room (Nat.le_of_ble_eq_true rfl)) dX9_readCond_34 ⟨(Nat.le_of_ble_eq_true rfl), (Nat.le_of_ble_eq_true rfl)⟩) hP hD hS hA [2, 3] [0, 1, 4, 5] rfl rfl (by decide) (by decide) (fun  u81 H locs p82 hP hD hS => ?_)
            obtain ⟨rplaceG_83, rkindG_84, rbeginG_85, rwordG_86, rnumberG_87, rlettersG_88⟩ := u81
            try dsimp only at p82
            obtain ⟨p89, p90⟩ := p82
            refine W.widen (k := 0) (n := 0) (Nat.le_of_ble_eq_true rfl) (Nat.le_of_ble_eq_true rfl) ?_
            have hP : va_P (dC, dI) vwCl [(se, .inr (9, [.ref ccodes, .int (nI k56), .int cones])), (ccodes, .inl (ky 0, 40, .inl f57)), (a, .inr (7, [.int (nI wide), .int (nI high), .int heat, .int cools, .int skinHeat, .int today, .int stirs, .int steps, .int (nI lumps), .int (nI boats), .ref thickness, .ref lumpNames, .ref lumpCells, .ref boatNames, .ref boatCells, .ref loads, .ref spoons, .ref spoonsLeft, .ref depths])), (lumpNames, .inl (ky 1, 6, .inr (.inl lumpNamesF))), (reader, .inr (5, [.ref rtape, .int (nI rlength), .int (nI rmostBytes), .int (nI rplaceG_83), .int rkindG_84, .int (nI rbeginG_85), .int rwordG_86, .int rnumberG_87, .long rlettersG_88, .int x64, .int x65])), (rtape, .inl (ky 2, 940, .inl rtapeF))] H := hP
            have hD : va_D A [(se, .inr (9, [.ref ccodes, .int (nI k56), .int cones])), (ccodes, .inl (ky 0, 40, .inl f57)), (a, .inr (7, [.int (nI wide), .int (nI high), .int heat, .int cools, .int skinHeat, .int today, .int stirs, .int steps, .int (nI lumps), .int (nI boats), .ref thickness, .ref lumpNames, .ref lumpCells, .ref boatNames, .ref boatCells, .ref loads, .ref spoons, .ref spoonsLeft, .ref depths])), (lumpNames, .inl (ky 1, 6, .inr (.inl lumpNamesF))), (reader, .inr (5, [.ref rtape, .int (nI rlength), .int (nI rmostBytes), .int (nI rplaceG_83), .int rkindG_84, .int (nI rbeginG_85), .int rwordG_86, .int rnumberG_87, .long rlettersG_88, .int x64, .int x65])), (rtape, .inl (ky 2, 940, .inl rtapeF))] := hD
            refine lv_aload_n hx hb dX9_readCond_37 rfl (lv_at hl 2 rfl) ?_
            refine lv_aload_n hx hb dX9_readCond_38 rfl (lv_at hl 3 rfl) ?_
            refine lv_aload_n hx hb dX9_readCond_39 rfl (lv_at hl 4 rfl) ?_
            refine lv_iload_n hx hb dX9_readCond_40 rfl (lv_at hl 5 rfl) ?_
            refine r_call_i (wr := []) (va_runV (As := [.ref reader, .ref a, .int (nI 9)]) (rest := []) ⟨hx, hb, hml, hown, hts⟩ (c_n_readAll9 l dC dI ky H.size adK adV se ccodes k56 cones f57 reader rtape rlength rmostBytes rplaceG_83 rkindG_84 rbeginG_85 rwordG_86 rnumberG_87 rlettersG_88 x64 x65 rtapeF a wide high heat cools skinHeat today stirs steps lumps boats thickness lumpNames lumpCells boatNames boatCells loads spoons spoonsLeft depths lumpNamesF j68 iv_rreader_0 p89 iv_rreader_2 p90 iv_a_0 iv_a_1 iv_a_2 iv_a_3 iv_a_4 iv_a_5) (cwV 3 hts gX9_readCond_X9_readAll rfl rfl rfl (by decide +kernel) ⟨(Nat.le_of_ble_eq_true rfl), (Nat.le_of_ble_eq_true rfl)⟩) (pre_UEV hE hS hA hK hP hD [0, 1, 4, 5, 2, 3] (by decide) rfl (va_recv hK hP (ci := 9) (q0 := 0) rfl rfl)) rfl rfl hl.1 rfl (lv_room (Nat.le_of_ble_eq_true rfl)) dX9_readCond_41 ⟨(Nat.le_of_ble_eq_true rfl), (Nat.le_of_ble_eq_true rfl)⟩) hP hD hS hA [0, 1, 4, 5, 2, 3] [] rfl rfl (by decide) (by decide) (fun r93 u91 H locs p92 hP hD hS => ?_)
            obtain ⟨ccodeCountG_94, ccodesG_95, rplaceG_96, rkindG_97, rbeginG_98, rwordG_99, rnumberG_100, rlettersG_101, rfaultKindG_102, rfaultPlaceG_103⟩ := u91
            try dsimp only at p92
            obtain ⟨p104, p105, p106, p107⟩ := p92
            refine W.widen (k := 0) (n := 0) (Nat.le_of_ble_eq_true rfl) (Nat.le_of_ble_eq_true rfl) ?_
            have hP : va_P (dC, dI) vwCl [(se, .inr (9, [.ref ccodes, .int (nI ccodeCountG_94), .int cones])), (ccodes, .inl (ky 0, 40, .inl ccodesG_95)), (reader, .inr (5, [.ref rtape, .int (nI rlength), .int (nI rmostBytes), .int (nI rplaceG_96), .int rkindG_97, .int (nI rbeginG_98), .int rwordG_99, .int rnumberG_100, .long rlettersG_101, .int rfaultKindG_102, .int rfaultPlaceG_103])), (rtape, .inl (ky 2, 940, .inl rtapeF)), (a, .inr (7, [.int (nI wide), .int (nI high), .int heat, .int cools, .int skinHeat, .int today, .int stirs, .int steps, .int (nI lumps), .int (nI boats), .ref thickness, .ref lumpNames, .ref lumpCells, .ref boatNames, .ref boatCells, .ref loads, .ref spoons, .ref spoonsLeft, .ref depths])), (lumpNames, .inl (ky 1, 6, .inr (.inl lumpNamesF)))] H := hP
            have hD : va_D A [(se, .inr (9, [.ref ccodes, .int (nI ccodeCountG_94), .int cones])), (ccodes, .inl (ky 0, 40, .inl ccodesG_95)), (reader, .inr (5, [.ref rtape, .int (nI rlength), .int (nI rmostBytes), .int (nI rplaceG_96), .int rkindG_97, .int (nI rbeginG_98), .int rwordG_99, .int rnumberG_100, .long rlettersG_101, .int rfaultKindG_102, .int rfaultPlaceG_103])), (rtape, .inl (ky 2, 940, .inl rtapeF)), (a, .inr (7, [.int (nI wide), .int (nI high), .int heat, .int cools, .int skinHeat, .int today, .int stirs, .int steps, .int (nI lumps), .int (nI boats), .ref thickness, .ref lumpNames, .ref lumpCells, .ref boatNames, .ref boatCells, .ref loads, .ref spoons, .ref spoonsLeft, .ref depths])), (lumpNames, .inl (ky 1, 6, .inr (.inl lumpNamesF)))] := hD
            refine lv_if_eq (tgt := 60) hx hb dX9_readCond_44 (by decide) (fun c108 => ?_) (fun c108 => ?_)
            · refine lv_iconst (v := nI 0) hx hb dX9_readCond_60 (by decide) ?_
              refine lv_istore (lv' := [(4, .int (nI 0)), (5, .int (nI k54)), (0, .ref se), (1, .ref reader), (2, .ref a), (3, .int (nI 9))]) hx hb dX9_readCond_61 hl (by decide) rfl (fun ls hl => ?_)
              refine lv_iinc (v := nI (k54 + 1)) (lv' := [(5, .int (nI (k54 + 1))), (4, .int (nI 0)), (0, .ref se), (1, .ref reader), (2, .ref a), (3, .int (nI 9))]) hx hb dX9_readCond_63 hl (k := 1) rfl (show nI k54 + nI 1 = nI (k54 + 1) from nI_add _ _) (by decide) rfl (fun ls hl => ?_)
              refine lv_goto (tgt := 12) hx hb dX9_readCond_66 (by decide) ?_
              exact ih74 (k54 + 1) (nI 0) ccodeCountG_94 ccodesG_95 rplaceG_96 rkindG_97 rbeginG_98 rwordG_99 rnumberG_100 rlettersG_101 rfaultKindG_102 rfaultPlaceG_103 (lf_n_readCond9_4 k54 n73 j66 hm75 c76 p79) (lf_n_readCond9_5 p79) p105 (lf_n_readCond9_6 rlength rplace rplaceG_6 k58 rplaceG_83 rplaceG_96 iv_rreader_0 iv_rreader_1 p16 j69 j71 p79 p89 p106) p107 p106 (lf_n_readCond9_7 k54 n73 j66 hm75 c76 p79) _ _ _ hP hD hS (lv_sub hl [0, 1, 2, 3, 4, 5] rfl)
            · refine lv_aload_n hx hb dX9_readCond_47 rfl (lv_at hl 2 rfl) ?_
              refine lv_bipush (v := nI 20) hx hb dX9_readCond_48 (by decide) ?_
              refine r_call_i (wr := [(reader, .inr (5, [.ref rtape, .int (nI rlength), .int (nI rmostBytes), .int (nI rplaceG_96), .int rkindG_97, .int (nI rbeginG_98), .int rwordG_99, .int rnumberG_100, .long rlettersG_101, .int rfaultKindG_102, .int rfaultPlaceG_103])), (rtape, .inl (ky 2, 940, .inl rtapeF)), (a, .inr (7, [.int (nI wide), .int (nI high), .int heat, .int cools, .int skinHeat, .int today, .int stirs, .int steps, .int (nI lumps), .int (nI boats), .ref thickness, .ref lumpNames, .ref lumpCells, .ref boatNames, .ref boatCells, .ref loads, .ref spoons, .ref spoonsLeft, .ref depths])), (lumpNames, .inl (ky 1, 6, .inr (.inl lumpNamesF)))]) (va_runV (As := [.int (nI 20)]) (rest := []) ⟨hx, hb, hml, hown, hts⟩ (c_n_put l dC dI ky H.size se ccodes ccodeCountG_94 cones ccodesG_95 (nI 20) p105) (cwV 1 hts gX9_readCond_X9_put rfl rfl rfl (by decide +kernel) ⟨(Nat.le_of_ble_eq_true rfl), (Nat.le_of_ble_eq_true rfl)⟩) (pre_UV hK hP hD [0, 1] (by decide) rfl (ci := 9) (q0 := 0) rfl rfl) rfl rfl hl.1 rfl (lv_room (Nat.le_of_ble_eq_true rfl)) dX9_readCond_50 ⟨(Nat.le_of_ble_eq_true rfl), (Nat.le_of_ble_eq_true rfl)⟩) hP hD hS hA [0, 1] [2, 3, 4, 5] rfl rfl (by decide) (by decide) (fun r111 u109 H locs p110 hP hD hS => ?_)
              obtain ⟨ccodeCountG_112, ccodesG_113⟩ := u109
              try dsimp only at p110
              obtain ⟨p114, p115⟩ := p110
              refine W.widen (k := 0) (n := 0) (Nat.le_of_ble_eq_true rfl) (Nat.le_of_ble_eq_true rfl) ?_
              have hP : va_P (dC, dI) vwCl [(reader, .inr (5, [.ref rtape, .int (nI rlength), .int (nI rmostBytes), .int (nI rplaceG_96), .int rkindG_97, .int (nI rbeginG_98), .int rwordG_99, .int rnumberG_100, .long rlettersG_101, .int rfaultKindG_102, .int rfaultPlaceG_103])), (rtape, .inl (ky 2, 940, .inl rtapeF)), (a, .inr (7, [.int (nI wide), .int (nI high), .int heat, .int cools, .int skinHeat, .int today, .int stirs, .int steps, .int (nI lumps), .int (nI boats), .ref thickness, .ref lumpNames, .ref lumpCells, .ref boatNames, .ref boatCells, .ref loads, .ref spoons, .ref spoonsLeft, .ref depths])), (lumpNames, .inl (ky 1, 6, .inr (.inl lumpNamesF))), (se, .inr (9, [.ref ccodes, .int (nI ccodeCountG_112), .int cones])), (ccodes, .inl (ky 0, 40, .inl ccodesG_113))] H := hP
              have hD : va_D A [(reader, .inr (5, [.ref rtape, .int (nI rlength), .int (nI rmostBytes), .int (nI rplaceG_96), .int rkindG_97, .int (nI rbeginG_98), .int rwordG_99, .int rnumberG_100, .long rlettersG_101, .int rfaultKindG_102, .int rfaultPlaceG_103])), (rtape, .inl (ky 2, 940, .inl rtapeF)), (a, .inr (7, [.int (nI wide), .int (nI high), .int heat, .int cools, .int skinHeat, .int today, .int stirs, .int steps, .int (nI lumps), .int (nI boats), .ref thickness, .ref lumpNames, .ref lumpCells, .ref boatNames, .ref boatCells, .ref loads, .ref spoons, .ref spoonsLeft, .ref depths])), (lumpNames, .inl (ky 1, 6, .inr (.inl lumpNamesF))), (se, .inr (9, [.ref ccodes, .int (nI ccodeCountG_112), .int cones])), (ccodes, .inl (ky 0, 40, .inl ccodesG_113))] := hD
              refine lv_if_eq (tgt := 60) hx hb dX9_readCond_53 (by decide) (fun c116 => ?_) (fun c116 => ?_)
              · refine lv_iconst (v := nI 0) hx hb dX9_readCond_60 (by decide) ?_
                refine lv_istore (lv' := [(4, .int (nI 0)), (5, .int (nI k54)), (0, .ref se), (1, .ref reader), (2, .ref a), (3, .int (nI 9))]) hx hb dX9_readCond_61 hl (by decide) rfl (fun ls hl => ?_)
                refine lv_iinc (v := nI (k54 + 1)) (lv' := [(5, .int (nI (k54 + 1))), (4, .int (nI 0)), (0, .ref se), (1, .ref reader), (2, .ref a), (3, .int (nI 9))]) hx hb dX9_readCond_63 hl (k := 1) rfl (show nI k54 + nI 1 = nI (k54 + 1) from nI_add _ _) (by decide) rfl (fun ls hl => ?_)
                refine lv_goto (tgt := 12) hx hb dX9_readCond_66 (by decide) ?_
                exact ih74 (k54 + 1) (nI 0) ccodeCountG_112 ccodesG_113 rplaceG_96 rkindG_97 rbeginG_98 rwordG_99 rnumberG_100 rlettersG_101 rfaultKindG_102 rfaultPlaceG_103 (lf_n_readCond9_8 k54 n73 j66 hm75 c76 p79) (lf_n_readCond9_9 p79) p115 (lf_n_readCond9_10 rlength rplace rplaceG_6 k58 rplaceG_83 rplaceG_96 iv_rreader_0 iv_rreader_1 p16 j69 j71 p79 p89 p106) p107 p106 (lf_n_readCond9_11 k54 n73 j66 hm75 c76 p79) _ _ _ (hP.sub [4, 5, 0, 1, 2, 3] rfl) (hD.sub [4, 5, 0, 1, 2, 3] (by decide) rfl) hS (lv_sub hl [0, 1, 2, 3, 4, 5] rfl)
              · refine lv_iconst (v := nI 1) hx hb dX9_readCond_56 (by decide) ?_
                refine lv_goto (tgt := 61) hx hb dX9_readCond_57 (by decide) ?_
                refine lv_istore (lv' := [(4, .int (nI 1)), (5, .int (nI k54)), (0, .ref se), (1, .ref reader), (2, .ref a), (3, .int (nI 9))]) hx hb dX9_readCond_61 hl (by decide) rfl (fun ls hl => ?_)
                refine lv_iinc (v := nI (k54 + 1)) (lv' := [(5, .int (nI (k54 + 1))), (4, .int (nI 1)), (0, .ref se), (1, .ref reader), (2, .ref a), (3, .int (nI 9))]) hx hb dX9_readCond_63 hl (k := 1) rfl (show nI k54 + nI 1 = nI (k54 + 1) from nI_add _ _) (by decide) rfl (fun ls hl => ?_)
                refine lv_goto (tgt := 12) hx hb dX9_readCond_66 (by decide) ?_
                exact ih74 (k54 + 1) (nI 1) ccodeCountG_112 ccodesG_113 rplaceG_96 rkindG_97 rbeginG_98 rwordG_99 rnumberG_100 rlettersG_101 rfaultKindG_102 rfaultPlaceG_103 (lf_n_readCond9_12 k54 n73 j66 hm75 c76 p79) (lf_n_readCond9_13 p79) p115 (lf_n_readCond9_14 rlength rplace rplaceG_6 k58 rplaceG_83 rplaceG_96 iv_rreader_0 iv_rreader_1 p16 j69 j71 p79 p89 p106) p107 p106 (lf_n_readCond9_15 k54 n73 j66 hm75 c76 p79) _ _ _ (hP.sub [4, 5, 0, 1, 2, 3] rfl) (hD.sub [4, 5, 0, 1, 2, 3] (by decide) rfl) hS (lv_sub hl [0, 1, 2, 3, 4, 5] rfl)
  exact hL72 ((20 - 0) + 1) 0 r3 ccodeCountG_4 ccodesG_5 rplaceG_6 rkindG_7 rbeginG_8 rwordG_9 rnumberG_10 rlettersG_11 rfaultKindG_12 rfaultPlaceG_13 (lf_n_readCond9_16) p14 p15 (lf_n_readCond9_17 rlength rplace rplaceG_6 iv_rreader_0 iv_rreader_1 p16) p17 p16 (Nat.lt_succ_self _) _ _ _ hP hD hS (lv_sub hl [0, 1, 2, 3, 4, 5] rfl)
set_option maxRecDepth 20000 in
theorem lf_n_readOne8_1  (p2 : True) : (nI 0) = nI 0 ∨ (nI 0) = nI 1 := by
  try have k_0 := ia_n 0 (by first | decide | omega)
  try have k_1 := ia_n 1 (by first | decide | omega)
  try simp only [ia_lt, ia_le, ia_eq, ia_m1, ia_0, ia_1, ne_eq, true_and, and_true, false_and, and_false, or_false, false_or, or_true, true_or, not_true_eq_false, not_false_eq_true] at *
  all_goals omega
set_option maxRecDepth 20000 in
theorem lf_n_readOne8_2  (p2 : True) : (nI 0) = nI 0 ∨ (nI 0) = nI 1 := by
  try have k_0 := ia_n 0 (by first | decide | omega)
  try have k_1 := ia_n 1 (by first | decide | omega)
  try simp only [ia_lt, ia_le, ia_eq, ia_m1, ia_0, ia_1, ne_eq, true_and, and_true, false_and, and_false, or_false, false_or, or_true, true_or, not_true_eq_false, not_false_eq_true] at *
  all_goals omega
set_option maxRecDepth 20000 in
theorem lf_n_readOne8_3  (p2 : True) : (nI 0) = nI 0 ∨ (nI 0) = nI 1 := by
  try have k_0 := ia_n 0 (by first | decide | omega)
  try have k_1 := ia_n 1 (by first | decide | omega)
  try simp only [ia_lt, ia_le, ia_eq, ia_m1, ia_0, ia_1, ne_eq, true_and, and_true, false_and, and_false, or_false, false_or, or_true, true_or, not_true_eq_false, not_false_eq_true] at *
  all_goals omega
set_option maxRecDepth 20000 in
theorem lf_n_readOne8_4  (p2 : True) : (nI 1) = nI 0 ∨ (nI 1) = nI 1 := by
  try have k_0 := ia_n 1 (by first | decide | omega)
  try have k_1 := ia_n 0 (by first | decide | omega)
  try simp only [ia_lt, ia_le, ia_eq, ia_m1, ia_0, ia_1, ne_eq, true_and, and_true, false_and, and_false, or_false, false_or, or_true, true_or, not_true_eq_false, not_false_eq_true] at *
  all_goals omega
set_option maxRecDepth 20000 in
theorem lf_n_readOne8_5  (p2 : True) : (nI 0) = nI 0 ∨ (nI 0) = nI 1 := by
  try have k_0 := ia_n 0 (by first | decide | omega)
  try have k_1 := ia_n 1 (by first | decide | omega)
  try simp only [ia_lt, ia_le, ia_eq, ia_m1, ia_0, ia_1, ne_eq, true_and, and_true, false_and, and_false, or_false, false_or, or_true, true_or, not_true_eq_false, not_false_eq_true] at *
  all_goals omega
set_option maxRecDepth 20000 in
theorem lf_n_readOne8_6  (p2 : True) : (nI 0) = nI 0 ∨ (nI 0) = nI 1 := by
  try have k_0 := ia_n 0 (by first | decide | omega)
  try have k_1 := ia_n 1 (by first | decide | omega)
  try simp only [ia_lt, ia_le, ia_eq, ia_m1, ia_0, ia_1, ne_eq, true_and, and_true, false_and, and_false, or_false, false_or, or_true, true_or, not_true_eq_false, not_false_eq_true] at *
  all_goals omega
set_option maxRecDepth 20000 in
theorem lf_n_readOne8_7 (r96 : Int32) (p2 : True) (p99 : r96 = nI 0 ∨ r96 = nI 1) : narrow .boolean (.int r96) = .int r96 := by
  have h : r96 = 0 ∨ r96 = 1 := by
    have b_r96 := ia_b r96
    try have k_0 := ia_n 0 (by first | decide | omega)
    try have k_1 := ia_n 1 (by first | decide | omega)
    try simp only [ia_lt, ia_le, ia_eq, ia_m1, ia_0, ia_1, ne_eq, true_and, and_true, false_and, and_false, or_false, false_or, or_true, true_or, not_true_eq_false, not_false_eq_true] at *
    all_goals omega
  rcases h with h | h <;> rw [h] <;> rfl
set_option maxRecDepth 20000 in
theorem lf_n_readOne8_8 (r103 : Int32) (p2 : True) (p114 : r103 = nI 0 ∨ r103 = nI 1) : narrow .boolean (.int r103) = .int r103 := by
  have h : r103 = 0 ∨ r103 = 1 := by
    have b_r103 := ia_b r103
    try have k_0 := ia_n 0 (by first | decide | omega)
    try have k_1 := ia_n 1 (by first | decide | omega)
    try simp only [ia_lt, ia_le, ia_eq, ia_m1, ia_0, ia_1, ne_eq, true_and, and_true, false_and, and_false, or_false, false_or, or_true, true_or, not_true_eq_false, not_false_eq_true] at *
    all_goals omega
  rcases h with h | h <;> rw [h] <;> rfl
set_option maxRecDepth 20000 in
theorem lf_n_readOne8_9 (r120 : Int32) (p2 : True) (p131 : r120 = nI 0 ∨ r120 = nI 1) : narrow .boolean (.int r120) = .int r120 := by
  have h : r120 = 0 ∨ r120 = 1 := by
    have b_r120 := ia_b r120
    try have k_0 := ia_n 0 (by first | decide | omega)
    try have k_1 := ia_n 1 (by first | decide | omega)
    try simp only [ia_lt, ia_le, ia_eq, ia_m1, ia_0, ia_1, ne_eq, true_and, and_true, false_and, and_false, or_false, false_or, or_true, true_or, not_true_eq_false, not_false_eq_true] at *
    all_goals omega
  rcases h with h | h <;> rw [h] <;> rfl
set_option maxRecDepth 20000 in
theorem lf_n_readOne8_10  (p2 : True) : (nI 0) = nI 0 ∨ (nI 0) = nI 1 := by
  try have k_0 := ia_n 0 (by first | decide | omega)
  try have k_1 := ia_n 1 (by first | decide | omega)
  try simp only [ia_lt, ia_le, ia_eq, ia_m1, ia_0, ia_1, ne_eq, true_and, and_true, false_and, and_false, or_false, false_or, or_true, true_or, not_true_eq_false, not_false_eq_true] at *
  all_goals omega
set_option maxRecDepth 20000 in
theorem lf_n_readOne8_11  (p2 : True) : (nI 0) = nI 0 ∨ (nI 0) = nI 1 := by
  try have k_0 := ia_n 0 (by first | decide | omega)
  try have k_1 := ia_n 1 (by first | decide | omega)
  try simp only [ia_lt, ia_le, ia_eq, ia_m1, ia_0, ia_1, ne_eq, true_and, and_true, false_and, and_false, or_false, false_or, or_true, true_or, not_true_eq_false, not_false_eq_true] at *
  all_goals omega
set_option maxRecDepth 20000 in
theorem lf_n_readOne8_12  (p2 : True) : (nI 1) = nI 0 ∨ (nI 1) = nI 1 := by
  try have k_0 := ia_n 1 (by first | decide | omega)
  try have k_1 := ia_n 0 (by first | decide | omega)
  try simp only [ia_lt, ia_le, ia_eq, ia_m1, ia_0, ia_1, ne_eq, true_and, and_true, false_and, and_false, or_false, false_or, or_true, true_or, not_true_eq_false, not_false_eq_true] at *
  all_goals omega
set_option maxRecDepth 20000 in
theorem lf_n_readOne8_13  (p2 : True) : (nI 0) = nI 0 ∨ (nI 0) = nI 1 := by
  try have k_0 := ia_n 0 (by first | decide | omega)
  try have k_1 := ia_n 1 (by first | decide | omega)
  try simp only [ia_lt, ia_le, ia_eq, ia_m1, ia_0, ia_1, ne_eq, true_and, and_true, false_and, and_false, or_false, false_or, or_true, true_or, not_true_eq_false, not_false_eq_true] at *
  all_goals omega
set_option maxRecDepth 20000 in
theorem lf_n_readOne8_14  (p2 : True) : (nI 0) = nI 0 ∨ (nI 0) = nI 1 := by
  try have k_0 := ia_n 0 (by first | decide | omega)
  try have k_1 := ia_n 1 (by first | decide | omega)
  try simp only [ia_lt, ia_le, ia_eq, ia_m1, ia_0, ia_1, ne_eq, true_and, and_true, false_and, and_false, or_false, false_or, or_true, true_or, not_true_eq_false, not_false_eq_true] at *
  all_goals omega
set_option maxRecDepth 20000 in
theorem lf_n_readOne8_15  (p2 : True) : (nI 1) = nI 0 ∨ (nI 1) = nI 1 := by
  try have k_0 := ia_n 1 (by first | decide | omega)
  try have k_1 := ia_n 0 (by first | decide | omega)
  try simp only [ia_lt, ia_le, ia_eq, ia_m1, ia_0, ia_1, ne_eq, true_and, and_true, false_and, and_false, or_false, false_or, or_true, true_or, not_true_eq_false, not_false_eq_true] at *
  all_goals omega
set_option maxHeartbeats 4000000 in
set_option maxRecDepth 100000 in
theorem c_n_readOne8 (l : Launch) (dC : Nat → ClassId) (dI : Nat → Nat → Nat) (ky : Nat → ClassId) (sz : Nat) (adK : Nat → Nat) (adV : Nat → Nat) (se : Nat) (ccodes : Nat) (ccodeCount : Nat) (cones : Int32) (ccodesF : Nat → Int32) (reader : Nat) (rtape : Nat) (rlength : Nat) (rmostBytes : Nat) (rplace : Nat) (rkind : Int32) (rbegin : Nat) (rword : Int32) (rnumber : Int32) (rletters : Int64) (rfaultKind : Int32) (rfaultPlace : Int32) (rtapeF : Nat → Int32) (a : Nat) (wide : Nat) (high : Nat) (heat : Int32) (cools : Int32) (skinHeat : Int32) (today : Int32) (stirs : Int32) (steps : Int32) (lumps : Nat) (boats : Nat) (thickness : Nat) (lumpNames : Nat) (lumpCells : Nat) (boatNames : Nat) (boatCells : Nat) (loads : Nat) (spoons : Nat) (spoonsLeft : Nat) (depths : Nat) (lumpNamesF : Nat → Int64) (iv_cse_0 : ccodeCount ≤ 40) (iv_rreader_0 : rlength ≤ 940) (iv_rreader_1 : rplace ≤ rlength) (iv_rreader_2 : rmostBytes ≤ 900) (iv_rreader_3 : rbegin ≤ 940) (iv_a_0 : 2 ≤ wide) (iv_a_1 : wide ≤ 6) (iv_a_2 : 2 ≤ high) (iv_a_3 : high ≤ 6) (iv_a_4 : lumps ≤ 6) (iv_a_5 : boats ≤ 6) : Met l yX9_readOne wsX9_readOne ({ frames := 8, cells := 0, slots := 0, locals := 181 }) (PcUE dC dI ky adK adV [.ref se, .ref reader, .ref a, .int (nI 8)] [(se, .inr (9, [.ref ccodes, .int (nI ccodeCount), .int cones])), (ccodes, .inl (ky 0, 40, .inl ccodesF)), (reader, .inr (5, [.ref rtape, .int (nI rlength), .int (nI rmostBytes), .int (nI rplace), .int rkind, .int (nI rbegin), .int rword, .int rnumber, .long rletters, .int rfaultKind, .int rfaultPlace])), (rtape, .inl (ky 2, 940, .inl rtapeF)), (a, .inr (7, [.int (nI wide), .int (nI high), .int heat, .int cools, .int skinHeat, .int today, .int stirs, .int steps, .int (nI lumps), .int (nI boats), .ref thickness, .ref lumpNames, .ref lumpCells, .ref boatNames, .ref boatCells, .ref loads, .ref spoons, .ref spoonsLeft, .ref depths])), (lumpNames, .inl (ky 1, 6, .inr (.inl lumpNamesF)))] sz) (va_Qi (fun (r : Int32) (u : Nat × Int32 × (Nat → Int32) × Nat × Int32 × Nat × Int32 × Int32 × Int64 × Int32 × Int32) => match u with | (ccodeCountG, conesG, ccodesG, rplaceG, rkindG, rbeginG, rwordG, rnumberG, rlettersG, rfaultKindG, rfaultPlaceG) => (r = nI 0 ∨ r = nI 1) ∧ (ccodeCountG ≤ 40) ∧ (rplaceG ≤ rlength) ∧ (rbeginG ≤ 940)) (BU dC dI ky (fun (u : Nat × Int32 × (Nat → Int32) × Nat × Int32 × Nat × Int32 × Int32 × Int64 × Int32 × Int32) => match u with | (ccodeCountG, conesG, ccodesG, rplaceG, rkindG, rbeginG, rwordG, rnumberG, rlettersG, rfaultKindG, rfaultPlaceG) => [(se, .inr (9, [.ref ccodes, .int (nI ccodeCountG), .int conesG])), (ccodes, .inl (ky 0, 40, .inl ccodesG)), (reader, .inr (5, [.ref rtape, .int (nI rlength), .int (nI rmostBytes), .int (nI rplaceG), .int rkindG, .int (nI rbeginG), .int rwordG, .int rnumberG, .long rlettersG, .int rfaultKindG, .int rfaultPlaceG])), (rtape, .inl (ky 2, 940, .inl rtapeF)), (a, .inr (7, [.int (nI wide), .int (nI high), .int heat, .int cools, .int skinHeat, .int today, .int stirs, .int steps, .int (nI lumps), .int (nI boats), .ref thickness, .ref lumpNames, .ref lumpCells, .ref boatNames, .ref boatCells, .ref loads, .ref spoons, .ref spoonsLeft, .ref depths])), (lumpNames, .inl (ky 1, 6, .inr (.inl lumpNamesF)))]) (va_A [(se, .inr (9, [.ref ccodes, .int (nI ccodeCount), .int cones])), (ccodes, .inl (ky 0, 40, .inl ccodesF)), (reader, .inr (5, [.ref rtape, .int (nI rlength), .int (nI rmostBytes), .int (nI rplace), .int rkind, .int (nI rbegin), .int rword, .int rnumber, .long rletters, .int rfaultKind, .int rfaultPlace])), (rtape, .inl (ky 2, 940, .inl rtapeF)), (a, .inr (7, [.int (nI wide), .int (nI high), .int heat, .int cools, .int skinHeat, .int today, .int stirs, .int steps, .int (nI lumps), .int (nI boats), .ref thickness, .ref lumpNames, .ref lumpCells, .ref boatNames, .ref boatCells, .ref loads, .ref spoons, .ref spoonsLeft, .ref depths])), (lumpNames, .inl (ky 1, 6, .inr (.inl lumpNamesF)))] sz)) (va_A [(se, .inr (9, [.ref ccodes, .int (nI ccodeCount), .int cones])), (ccodes, .inl (ky 0, 40, .inl ccodesF)), (reader, .inr (5, [.ref rtape, .int (nI rlength), .int (nI rmostBytes), .int (nI rplace), .int rkind, .int (nI rbegin), .int rword, .int rnumber, .long rletters, .int rfaultKind, .int rfaultPlace])), (rtape, .inl (ky 2, 940, .inl rtapeF)), (a, .inr (7, [.int (nI wide), .int (nI high), .int heat, .int cools, .int skinHeat, .int today, .int stirs, .int steps, .int (nI lumps), .int (nI boats), .ref thickness, .ref lumpNames, .ref lumpCells, .ref boatNames, .ref boatCells, .ref loads, .ref spoons, .ref spoonsLeft, .ref depths])), (lumpNames, .inl (ky 1, 6, .inr (.inl lumpNamesF)))] sz)) 0 0 (va_A [(se, .inr (9, [.ref ccodes, .int (nI ccodeCount), .int cones])), (ccodes, .inl (ky 0, 40, .inl ccodesF)), (reader, .inr (5, [.ref rtape, .int (nI rlength), .int (nI rmostBytes), .int (nI rplace), .int rkind, .int (nI rbegin), .int rword, .int rnumber, .long rletters, .int rfaultKind, .int rfaultPlace])), (rtape, .inl (ky 2, 940, .inl rtapeF)), (a, .inr (7, [.int (nI wide), .int (nI high), .int heat, .int cools, .int skinHeat, .int today, .int stirs, .int steps, .int (nI lumps), .int (nI boats), .ref thickness, .ref lumpNames, .ref lumpCells, .ref boatNames, .ref boatCells, .ref loads, .ref spoons, .ref spoonsLeft, .ref depths])), (lumpNames, .inl (ky 1, 6, .inr (.inl lumpNamesF)))] sz) := by
  refine Met.ofW (cc := cX9_readOne) (maxL := 6) (ret := (some .boolean)) (by decide) rfl ?_
  intro p e s m args below meth c s₁ B hml hv
  obtain ⟨rfl, hsz, hP, hK, hD0, hE⟩ := hv
  have hx := B.exec
  have hb := B.bytes
  have hr := B.returns
  have hts := atoms_spec (ws := wsX9_readOne) B.pre
  have hown : s.vm.findClass RX9 = some m.cls := findClass_of_methodNamed B.named
  have hlocks := B.notSynchronized
  have hin5 : ∀ w ∈ u_ws RX5 TX5 11, w ∈ wsX9_readOne := by decide +kernel
  have hin9 : ∀ w ∈ u_ws RX9 TX9 3, w ∈ wsX9_readOne := by decide +kernel
  subst hsz
  have hD := hD0.self (sz := s.heap.size)
  generalize hAe : va_A [(se, .inr (9, [.ref ccodes, .int (nI ccodeCount), .int cones])), (ccodes, .inl (ky 0, 40, .inl ccodesF)), (reader, .inr (5, [.ref rtape, .int (nI rlength), .int (nI rmostBytes), .int (nI rplace), .int rkind, .int (nI rbegin), .int rword, .int rnumber, .long rletters, .int rfaultKind, .int rfaultPlace])), (rtape, .inl (ky 2, 940, .inl rtapeF)), (a, .inr (7, [.int (nI wide), .int (nI high), .int heat, .int cools, .int skinHeat, .int today, .int stirs, .int steps, .int (nI lumps), .int (nI boats), .ref thickness, .ref lumpNames, .ref lumpCells, .ref boatNames, .ref boatCells, .ref loads, .ref spoons, .ref spoonsLeft, .ref depths])), (lumpNames, .inl (ky 1, 6, .inr (.inl lumpNamesF)))] s.heap.size = A at hD hE ⊢
  have hA : ∀ q : Nat, s.heap.size ≤ q → A q := fun q h => by rw [← hAe]; exact Or.inr h
  have hS : va_S A s.heap s.heap [] := va_S.rf
  have hl := lv_entry ([.ref se, .ref reader, .ref a, .int (nI 8)]) (n := 6) (Nat.le_of_ble_eq_true rfl)
  rw [lg_entry_eq]
  generalize (lg_sl ([.ref se, .ref reader, .ref a, .int (nI 8)]) ++ List.replicate (6 - (lg_sl ([.ref se, .ref reader, .ref a, .int (nI 8)])).length) Slot.unset).toArray = ls at hl ⊢
  have hl : lv_has ls 6 [(0, .ref se), (1, .ref reader), (2, .ref a), (3, .int (nI 8))] := hl
  refine q_name (fun Q hQ => ?_)
  generalize ([.ref se, .ref reader, .ref a, .int (nI 8)] : List Value).toArray = args at hts hQ ⊢
  refine lv_aload_n hx hb dX9_readOne_0 rfl (lv_at hl 1 rfl) ?_
  refine vp_callSi (W.runV (As := []) (rest := []) ⟨hx, hb, hml, hown, hts⟩ (c_r_nextWord l dC dI ky reader rtape rlength rmostBytes rplace rkind rbegin rword rnumber rletters rfaultKind rfaultPlace iv_rreader_0 iv_rreader_1 iv_rreader_2 iv_rreader_3) (cwV 0 hts gX9_readOne_X5_nextWord rfl rfl rfl (by decide +kernel) ⟨(Nat.le_of_ble_eq_true rfl), (Nat.le_of_ble_eq_true rfl)⟩) (pre_PV hK hP [2] rfl (ci := 5) (q0 := 2) rfl rfl) rfl rfl hl.1 rfl (lv_room (Nat.le_of_ble_eq_true rfl)) dX9_readOne_1 ⟨(Nat.le_of_ble_eq_true rfl), (Nat.le_of_ble_eq_true rfl)⟩) (fun r1 p2 => ?_)
  refine lv_istore (lv' := [(4, .int r1), (0, .ref se), (1, .ref reader), (2, .ref a), (3, .int (nI 8))]) hx hb dX9_readOne_4 hl (by decide) rfl (fun ls hl => ?_)
  refine lv_aload_n hx hb dX9_readOne_6 rfl (lv_at hl 2 rfl) ?_
  refine va_get (D := (dC, dI)) (ci := 5) (v := .int rkind) (C := RX5) (T := TX5) (N := 11) hx hb hts hin5 hown hK hP 2 rfl rfl 4 (by decide) (hts (.fieldLink RX9 35 "PorridgeSea$Reader" "kind" "I") (List.mem_of_getElem? (i := 1) rfl)) (fun _ h9 => h9) rfl dX9_readOne_7 ?_
  refine lv_bipush (v := nI 40) hx hb dX9_readOne_10 (by decide) ?_
  have hJ6 : ∀ (x4 : Int32), (x4 = nI 0 ∨ x4 = nI 1) → ∀ (H : Heap) (locs : List Loc) (ls : Array Slot), va_P (dC, dI) vwCl [(se, .inr (9, [.ref ccodes, .int (nI ccodeCount), .int cones])), (ccodes, .inl (ky 0, 40, .inl ccodesF)), (reader, .inr (5, [.ref rtape, .int (nI rlength), .int (nI rmostBytes), .int (nI rplace), .int rkind, .int (nI rbegin), .int rword, .int rnumber, .long rletters, .int rfaultKind, .int rfaultPlace])), (rtape, .inl (ky 2, 940, .inl rtapeF)), (a, .inr (7, [.int (nI wide), .int (nI high), .int heat, .int cools, .int skinHeat, .int today, .int stirs, .int steps, .int (nI lumps), .int (nI boats), .ref thickness, .ref lumpNames, .ref lumpCells, .ref boatNames, .ref boatCells, .ref loads, .ref spoons, .ref spoonsLeft, .ref depths])), (lumpNames, .inl (ky 1, 6, .inr (.inl lumpNamesF)))] H → va_D A [(se, .inr (9, [.ref ccodes, .int (nI ccodeCount), .int cones])), (ccodes, .inl (ky 0, 40, .inl ccodesF)), (reader, .inr (5, [.ref rtape, .int (nI rlength), .int (nI rmostBytes), .int (nI rplace), .int rkind, .int (nI rbegin), .int rword, .int rnumber, .long rletters, .int rfaultKind, .int rfaultPlace])), (rtape, .inl (ky 2, 940, .inl rtapeF)), (a, .inr (7, [.int (nI wide), .int (nI high), .int heat, .int cools, .int skinHeat, .int today, .int stirs, .int steps, .int (nI lumps), .int (nI boats), .ref thickness, .ref lumpNames, .ref lumpCells, .ref boatNames, .ref boatCells, .ref loads, .ref spoons, .ref spoonsLeft, .ref depths])), (lumpNames, .inl (ky 1, 6, .inr (.inl lumpNamesF)))] → va_S A s.heap H locs → lv_has ls 6 [(4, .int r1), (0, .ref se), (1, .ref reader), (2, .ref a), (3, .int (nI 8))] → W p l e (headSpec wsX9_readOne ({ frames := 8, cells := 0, slots := 0, locals := 181 })).room s m args below meth c H locs 0 0 Q (F0 m 20 ls [.int x4]) := by
    intro x4 j5 H locs ls hP hD hS hl
    refine lv_istore (lv' := [(5, .int x4), (4, .int r1), (0, .ref se), (1, .ref reader), (2, .ref a), (3, .int (nI 8))]) hx hb dX9_readOne_20 hl (by decide) rfl (fun ls hl => ?_)
    refine lv_iload hx hb dX9_readOne_22 (lv_at hl 0 rfl) ?_
    refine lv_if_ne (tgt := 47) hx hb dX9_readOne_24 (by decide) (fun c7 => ?_) (fun c7 => ?_)
    · refine lv_aload_n hx hb dX9_readOne_47 rfl (lv_at hl 2 rfl) ?_
      refine va_get (D := (dC, dI)) (ci := 9) (v := .int cones) (C := RX9) (T := TX9) (N := 3) hx hb hts hin9 hown hK hP 0 rfl rfl 2 (by decide) (hts (.fieldLink RX9 19 "PorridgeSea$Sentence" "ones" "I") (List.mem_of_getElem? (i := 2) rfl)) (fun _ h9 => h9) rfl dX9_readOne_48 ?_
      refine lv_bipush (v := nI 20) hx hb dX9_readOne_51 (by decide) ?_
      refine lv_icmp_ge (tgt := 62) hx hb dX9_readOne_53 (by decide) (fun c8 => ?_) (fun c8 => ?_)
      · refine lv_aload_n hx hb dX9_readOne_62 rfl (lv_at hl 3 rfl) ?_
        refine lv_iconst (v := nI 4) hx hb dX9_readOne_63 (by decide) ?_
        refine r_call_i (wr := [(se, .inr (9, [.ref ccodes, .int (nI ccodeCount), .int cones])), (ccodes, .inl (ky 0, 40, .inl ccodesF)), (rtape, .inl (ky 2, 940, .inl rtapeF)), (a, .inr (7, [.int (nI wide), .int (nI high), .int heat, .int cools, .int skinHeat, .int today, .int stirs, .int steps, .int (nI lumps), .int (nI boats), .ref thickness, .ref lumpNames, .ref lumpCells, .ref boatNames, .ref boatCells, .ref loads, .ref spoons, .ref spoonsLeft, .ref depths])), (lumpNames, .inl (ky 1, 6, .inr (.inl lumpNamesF)))]) (va_runV (As := [.int (nI 4)]) (rest := []) ⟨hx, hb, hml, hown, hts⟩ (c_r_refuse l dC dI ky H.size reader rtape rlength rmostBytes rplace rkind rbegin rword rnumber rletters rfaultKind rfaultPlace (nI 4) iv_rreader_0 iv_rreader_1 iv_rreader_2 iv_rreader_3) (cwV 1 hts gX9_readOne_X5_refuse rfl rfl rfl (by decide +kernel) ⟨(Nat.le_of_ble_eq_true rfl), (Nat.le_of_ble_eq_true rfl)⟩) (pre_UV hK hP hD [2] (by decide) rfl (ci := 5) (q0 := 2) rfl rfl) rfl rfl hl.1 rfl (lv_room (Nat.le_of_ble_eq_true rfl)) dX9_readOne_64 ⟨(Nat.le_of_ble_eq_true rfl), (Nat.le_of_ble_eq_true rfl)⟩) hP hD hS hA [2] [0, 1, 3, 4, 5] rfl rfl (by decide) (by decide) (fun r11 u9 H locs p10 hP hD hS => ?_)
        obtain ⟨rfaultKindG_12, rfaultPlaceG_13⟩ := u9
        try dsimp only at p10
        have p14 := p10
        refine W.widen (k := 0) (n := 0) (Nat.le_of_ble_eq_true rfl) (Nat.le_of_ble_eq_true rfl) ?_
        have hP : va_P (dC, dI) vwCl [(se, .inr (9, [.ref ccodes, .int (nI ccodeCount), .int cones])), (ccodes, .inl (ky 0, 40, .inl ccodesF)), (rtape, .inl (ky 2, 940, .inl rtapeF)), (a, .inr (7, [.int (nI wide), .int (nI high), .int heat, .int cools, .int skinHeat, .int today, .int stirs, .int steps, .int (nI lumps), .int (nI boats), .ref thickness, .ref lumpNames, .ref lumpCells, .ref boatNames, .ref boatCells, .ref loads, .ref spoons, .ref spoonsLeft, .ref depths])), (lumpNames, .inl (ky 1, 6, .inr (.inl lumpNamesF))), (reader, .inr (5, [.ref rtape, .int (nI rlength), .int (nI rmostBytes), .int (nI rplace), .int rkind, .int (nI rbegin), .int rword, .int rnumber, .long rletters, .int rfaultKindG_12, .int rfaultPlaceG_13]))] H := hP
        have hD : va_D A [(se, .inr (9, [.ref ccodes, .int (nI ccodeCount), .int cones])), (ccodes, .inl (ky 0, 40, .inl ccodesF)), (rtape, .inl (ky 2, 940, .inl rtapeF)), (a, .inr (7, [.int (nI wide), .int (nI high), .int heat, .int cools, .int skinHeat, .int today, .int stirs, .int steps, .int (nI lumps), .int (nI boats), .ref thickness, .ref lumpNames, .ref lumpCells, .ref boatNames, .ref boatCells, .ref loads, .ref spoons, .ref spoonsLeft, .ref depths])), (lumpNames, .inl (ky 1, 6, .inr (.inl lumpNamesF))), (reader, .inr (5, [.ref rtape, .int (nI rlength), .int (nI rmostBytes), .int (nI rplace), .int rkind, .int (nI rbegin), .int rword, .int rnumber, .long rletters, .int rfaultKindG_12, .int rfaultPlaceG_13]))] := hD
        subst p14
        rw [hQ]
        have hP9 := hP.sub (ws' := [(se, .inr (9, [.ref ccodes, .int (nI ccodeCount), .int cones])), (ccodes, .inl (ky 0, 40, .inl ccodesF)), (reader, .inr (5, [.ref rtape, .int (nI rlength), .int (nI rmostBytes), .int (nI rplace), .int rkind, .int (nI rbegin), .int rword, .int rnumber, .long rletters, .int rfaultKindG_12, .int rfaultPlaceG_13])), (rtape, .inl (ky 2, 940, .inl rtapeF)), (a, .inr (7, [.int (nI wide), .int (nI high), .int heat, .int cools, .int skinHeat, .int today, .int stirs, .int steps, .int (nI lumps), .int (nI boats), .ref thickness, .ref lumpNames, .ref lumpCells, .ref boatNames, .ref boatCells, .ref loads, .ref spoons, .ref spoonsLeft, .ref depths])), (lumpNames, .inl (ky 1, 6, .inr (.inl lumpNamesF)))]) [0, 1, 5, 2, 3, 4] rfl
        have hD9 := hD.sub (ws' := [(se, .inr (9, [.ref ccodes, .int (nI ccodeCount), .int cones])), (ccodes, .inl (ky 0, 40, .inl ccodesF)), (reader, .inr (5, [.ref rtape, .int (nI rlength), .int (nI rmostBytes), .int (nI rplace), .int rkind, .int (nI rbegin), .int rword, .int rnumber, .long rletters, .int rfaultKindG_12, .int rfaultPlaceG_13])), (rtape, .inl (ky 2, 940, .inl rtapeF)), (a, .inr (7, [.int (nI wide), .int (nI high), .int heat, .int cools, .int skinHeat, .int today, .int stirs, .int steps, .int (nI lumps), .int (nI boats), .ref thickness, .ref lumpNames, .ref lumpCells, .ref boatNames, .ref boatCells, .ref loads, .ref spoons, .ref spoonsLeft, .ref depths])), (lumpNames, .inl (ky 1, 6, .inr (.inl lumpNamesF)))]) [0, 1, 5, 2, 3, 4] (by decide) rfl
        exact W.zret (v := nI 0) hx hb hr (by decide) (fun t9 ht9 hW9 => ⟨⟨nI 0, (ccodeCount, cones, ccodesF, rplace, rkind, rbegin, rword, rnumber, rletters, rfaultKindG_12, rfaultPlaceG_13), rfl, ⟨(lf_n_readOne8_1 p2), iv_cse_0, iv_rreader_1, iv_rreader_3⟩, by rw [ht9]; exact hP9, va_K.moved hW9.alike hK, hD9⟩, hS.F ht9⟩) hS.2.2 dX9_readOne_67
      · refine lv_iload_n hx hb dX9_readOne_56 rfl (lv_at hl 5 rfl) ?_
        refine lv_bipush (v := nI 8) hx hb dX9_readOne_57 (by decide) ?_
        refine lv_icmp_le (tgt := 68) hx hb dX9_readOne_59 (by decide) (fun c15 => ?_) (fun c15 => absurd (by decide) c15)
        refine lv_aload_n hx hb dX9_readOne_68 rfl (lv_at hl 2 rfl) ?_
        refine lv_dup hx hb dX9_readOne_69 rfl ?_
        refine va_get (D := (dC, dI)) (ci := 9) (v := .int cones) (C := RX9) (T := TX9) (N := 3) hx hb hts hin9 hown hK hP 0 rfl rfl 2 (by decide) (hts (.fieldLink RX9 19 "PorridgeSea$Sentence" "ones" "I") (List.mem_of_getElem? (i := 2) rfl)) (fun _ h9 => h9) rfl dX9_readOne_70 ?_
        refine lv_iconst (v := nI 1) hx hb dX9_readOne_73 (by decide) ?_
        refine lv_iadd hx hb dX9_readOne_74 ?_
        refine lv_topi (fun y16 e17 => ?_)
        refine va_put (D := (dC, dI)) (ci := 9) (v := .int y16) (ty := .int) (C := RX9) (T := TX9) (N := 3) hx hb hts hin9 tyX9 tyX9_ok nmX9 hown hK hP hD hS 0 rfl rfl 2 (by decide) (hts (.fieldLink RX9 19 "PorridgeSea$Sentence" "ones" "I") (List.mem_of_getElem? (i := 2) rfl)) (fun _ h9 => h9) rfl (by decide +kernel) rfl rfl (Nat.le_of_ble_eq_true rfl) dX9_readOne_75 (fun H locs hP hD hS => ?_)
        have hP : va_P (dC, dI) vwCl [(se, .inr (9, [.ref ccodes, .int (nI ccodeCount), .int y16])), (ccodes, .inl (ky 0, 40, .inl ccodesF)), (reader, .inr (5, [.ref rtape, .int (nI rlength), .int (nI rmostBytes), .int (nI rplace), .int rkind, .int (nI rbegin), .int rword, .int rnumber, .long rletters, .int rfaultKind, .int rfaultPlace])), (rtape, .inl (ky 2, 940, .inl rtapeF)), (a, .inr (7, [.int (nI wide), .int (nI high), .int heat, .int cools, .int skinHeat, .int today, .int stirs, .int steps, .int (nI lumps), .int (nI boats), .ref thickness, .ref lumpNames, .ref lumpCells, .ref boatNames, .ref boatCells, .ref loads, .ref spoons, .ref spoonsLeft, .ref depths])), (lumpNames, .inl (ky 1, 6, .inr (.inl lumpNamesF)))] H := hP
        have hD : va_D A [(se, .inr (9, [.ref ccodes, .int (nI ccodeCount), .int y16])), (ccodes, .inl (ky 0, 40, .inl ccodesF)), (reader, .inr (5, [.ref rtape, .int (nI rlength), .int (nI rmostBytes), .int (nI rplace), .int rkind, .int (nI rbegin), .int rword, .int rnumber, .long rletters, .int rfaultKind, .int rfaultPlace])), (rtape, .inl (ky 2, 940, .inl rtapeF)), (a, .inr (7, [.int (nI wide), .int (nI high), .int heat, .int cools, .int skinHeat, .int today, .int stirs, .int steps, .int (nI lumps), .int (nI boats), .ref thickness, .ref lumpNames, .ref lumpCells, .ref boatNames, .ref boatCells, .ref loads, .ref spoons, .ref spoonsLeft, .ref depths])), (lumpNames, .inl (ky 1, 6, .inr (.inl lumpNamesF)))] := hD
        refine lv_aload_n hx hb dX9_readOne_78 rfl (lv_at hl 3 rfl) ?_
        refine r_call_v (wr := [(se, .inr (9, [.ref ccodes, .int (nI ccodeCount), .int y16])), (ccodes, .inl (ky 0, 40, .inl ccodesF)), (a, .inr (7, [.int (nI wide), .int (nI high), .int heat, .int cools, .int skinHeat, .int today, .int stirs, .int steps, .int (nI lumps), .int (nI boats), .ref thickness, .ref lumpNames, .ref lumpCells, .ref boatNames, .ref boatCells, .ref loads, .ref spoons, .ref spoonsLeft, .ref depths])), (lumpNames, .inl (ky 1, 6, .inr (.inl lumpNamesF)))]) (va_runV (As := []) (rest := []) ⟨hx, hb, hml, hown, hts⟩ (c_r_advance l dC dI ky H.size adK adV reader rtape rlength rmostBytes rplace rkind rbegin rword rnumber rletters rfaultKind rfaultPlace rtapeF iv_rreader_0 iv_rreader_1 iv_rreader_2 iv_rreader_3) (cwV 0 hts gX9_readOne_X5_advance rfl rfl rfl (by decide +kernel) ⟨(Nat.le_of_ble_eq_true rfl), (Nat.le_of_ble_eq_true rfl)⟩) (pre_UEV hE hS hA hK hP hD [2, 3] (by decide) rfl (va_recv hK hP (ci := 5) (q0 := 2) rfl rfl)) rfl rfl hl.1 rfl (lv_room (Nat.le_of_ble_eq_true rfl)) dX9_readOne_79 ⟨(Nat.le_of_ble_eq_true rfl), (Nat.le_of_ble_eq_true rfl)⟩) hP hD hS hA [2, 3] [0, 1, 4, 5] rfl rfl (by decide) (by decide) (fun  u18 H locs p19 hP hD hS => ?_)
        obtain ⟨rplaceG_20, rkindG_21, rbeginG_22, rwordG_23, rnumberG_24, rlettersG_25⟩ := u18
        try dsimp only at p19
        obtain ⟨p26, p27⟩ := p19
        refine W.widen (k := 0) (n := 0) (Nat.le_of_ble_eq_true rfl) (Nat.le_of_ble_eq_true rfl) ?_
        have hP : va_P (dC, dI) vwCl [(se, .inr (9, [.ref ccodes, .int (nI ccodeCount), .int y16])), (ccodes, .inl (ky 0, 40, .inl ccodesF)), (a, .inr (7, [.int (nI wide), .int (nI high), .int heat, .int cools, .int skinHeat, .int today, .int stirs, .int steps, .int (nI lumps), .int (nI boats), .ref thickness, .ref lumpNames, .ref lumpCells, .ref boatNames, .ref boatCells, .ref loads, .ref spoons, .ref spoonsLeft, .ref depths])), (lumpNames, .inl (ky 1, 6, .inr (.inl lumpNamesF))), (reader, .inr (5, [.ref rtape, .int (nI rlength), .int (nI rmostBytes), .int (nI rplaceG_20), .int rkindG_21, .int (nI rbeginG_22), .int rwordG_23, .int rnumberG_24, .long rlettersG_25, .int rfaultKind, .int rfaultPlace])), (rtape, .inl (ky 2, 940, .inl rtapeF))] H := hP
        have hD : va_D A [(se, .inr (9, [.ref ccodes, .int (nI ccodeCount), .int y16])), (ccodes, .inl (ky 0, 40, .inl ccodesF)), (a, .inr (7, [.int (nI wide), .int (nI high), .int heat, .int cools, .int skinHeat, .int today, .int stirs, .int steps, .int (nI lumps), .int (nI boats), .ref thickness, .ref lumpNames, .ref lumpCells, .ref boatNames, .ref boatCells, .ref loads, .ref spoons, .ref spoonsLeft, .ref depths])), (lumpNames, .inl (ky 1, 6, .inr (.inl lumpNamesF))), (reader, .inr (5, [.ref rtape, .int (nI rlength), .int (nI rmostBytes), .int (nI rplaceG_20), .int rkindG_21, .int (nI rbeginG_22), .int rwordG_23, .int rnumberG_24, .long rlettersG_25, .int rfaultKind, .int rfaultPlace])), (rtape, .inl (ky 2, 940, .inl rtapeF))] := hD
        refine lv_iload hx hb dX9_readOne_82 (lv_at hl 0 rfl) ?_
        refine lv_if_eq (tgt := 114) hx hb dX9_readOne_84 (by decide) (fun c28 => absurd c28 c7) (fun c28 => ?_)
        refine lv_aload_n hx hb dX9_readOne_87 rfl (lv_at hl 2 rfl) ?_
        refine lv_aload_n hx hb dX9_readOne_88 rfl (lv_at hl 3 rfl) ?_
        refine lv_aload_n hx hb dX9_readOne_89 rfl (lv_at hl 4 rfl) ?_
        refine lv_iload_n hx hb dX9_readOne_90 rfl (lv_at hl 5 rfl) ?_
        refine lv_iconst (v := nI 1) hx hb dX9_readOne_91 (by decide) ?_
        refine lv_iadd hx hb dX9_readOne_92 ?_
        refine r_ti (nI 9) (by decide) ?_
        refine r_call_i (wr := []) (va_runV (As := [.ref reader, .ref a, .int (nI 9)]) (rest := []) ⟨hx, hb, hml, hown, hts⟩ (c_n_readCond9 l dC dI ky H.size adK adV se ccodes ccodeCount y16 ccodesF reader rtape rlength rmostBytes rplaceG_20 rkindG_21 rbeginG_22 rwordG_23 rnumberG_24 rlettersG_25 rfaultKind rfaultPlace rtapeF a wide high heat cools skinHeat today stirs steps lumps boats thickness lumpNames lumpCells boatNames boatCells loads spoons spoonsLeft depths lumpNamesF iv_cse_0 iv_rreader_0 p26 iv_rreader_2 p27 iv_a_0 iv_a_1 iv_a_2 iv_a_3 iv_a_4 iv_a_5) (cwV 3 hts gX9_readOne_X9_readCond rfl rfl rfl (by decide +kernel) ⟨(Nat.le_of_ble_eq_true rfl), (Nat.le_of_ble_eq_true rfl)⟩) (pre_UEV hE hS hA hK hP hD [0, 1, 4, 5, 2, 3] (by decide) rfl (va_recv hK hP (ci := 9) (q0 := 0) rfl rfl)) rfl rfl hl.1 rfl (lv_room (Nat.le_of_ble_eq_true rfl)) dX9_readOne_93 ⟨(Nat.le_of_ble_eq_true rfl), (Nat.le_of_ble_eq_true rfl)⟩) hP hD hS hA [0, 1, 4, 5, 2, 3] [] rfl rfl (by decide) (by decide) (fun r31 u29 H locs p30 hP hD hS => ?_)
        obtain ⟨ccodeCountG_32, ccodesG_33, rplaceG_34, rkindG_35, rbeginG_36, rwordG_37, rnumberG_38, rlettersG_39, rfaultKindG_40, rfaultPlaceG_41⟩ := u29
        try dsimp only at p30
        obtain ⟨p42, p43, p44, p45⟩ := p30
        refine W.widen (k := 0) (n := 0) (Nat.le_of_ble_eq_true rfl) (Nat.le_of_ble_eq_true rfl) ?_
        have hP : va_P (dC, dI) vwCl [(se, .inr (9, [.ref ccodes, .int (nI ccodeCountG_32), .int y16])), (ccodes, .inl (ky 0, 40, .inl ccodesG_33)), (reader, .inr (5, [.ref rtape, .int (nI rlength), .int (nI rmostBytes), .int (nI rplaceG_34), .int rkindG_35, .int (nI rbeginG_36), .int rwordG_37, .int rnumberG_38, .long rlettersG_39, .int rfaultKindG_40, .int rfaultPlaceG_41])), (rtape, .inl (ky 2, 940, .inl rtapeF)), (a, .inr (7, [.int (nI wide), .int (nI high), .int heat, .int cools, .int skinHeat, .int today, .int stirs, .int steps, .int (nI lumps), .int (nI boats), .ref thickness, .ref lumpNames, .ref lumpCells, .ref boatNames, .ref boatCells, .ref loads, .ref spoons, .ref spoonsLeft, .ref depths])), (lumpNames, .inl (ky 1, 6, .inr (.inl lumpNamesF)))] H := hP
        have hD : va_D A [(se, .inr (9, [.ref ccodes, .int (nI ccodeCountG_32), .int y16])), (ccodes, .inl (ky 0, 40, .inl ccodesG_33)), (reader, .inr (5, [.ref rtape, .int (nI rlength), .int (nI rmostBytes), .int (nI rplaceG_34), .int rkindG_35, .int (nI rbeginG_36), .int rwordG_37, .int rnumberG_38, .long rlettersG_39, .int rfaultKindG_40, .int rfaultPlaceG_41])), (rtape, .inl (ky 2, 940, .inl rtapeF)), (a, .inr (7, [.int (nI wide), .int (nI high), .int heat, .int cools, .int skinHeat, .int today, .int stirs, .int steps, .int (nI lumps), .int (nI boats), .ref thickness, .ref lumpNames, .ref lumpCells, .ref boatNames, .ref boatCells, .ref loads, .ref spoons, .ref spoonsLeft, .ref depths])), (lumpNames, .inl (ky 1, 6, .inr (.inl lumpNamesF)))] := hD
        refine lv_if_eq (tgt := 112) hx hb dX9_readOne_96 (by decide) (fun c46 => ?_) (fun c46 => ?_)
        · refine lv_iconst (v := nI 0) hx hb dX9_readOne_112 (by decide) ?_
          rw [hQ]
          exact W.zret (v := nI 0) hx hb hr (by decide) (fun t9 ht9 hW9 => ⟨⟨nI 0, (ccodeCountG_32, y16, ccodesG_33, rplaceG_34, rkindG_35, rbeginG_36, rwordG_37, rnumberG_38, rlettersG_39, rfaultKindG_40, rfaultPlaceG_41), rfl, ⟨(lf_n_readOne8_2 p2), p43, p44, p45⟩, by rw [ht9]; exact hP, va_K.moved hW9.alike hK, hD⟩, hS.F ht9⟩) hS.2.2 dX9_readOne_113
        · refine lv_aload_n hx hb dX9_readOne_99 rfl (lv_at hl 3 rfl) ?_
          refine lv_bipush (v := nI 41) hx hb dX9_readOne_100 (by decide) ?_
          refine r_call_i (wr := [(se, .inr (9, [.ref ccodes, .int (nI ccodeCountG_32), .int y16])), (ccodes, .inl (ky 0, 40, .inl ccodesG_33)), (a, .inr (7, [.int (nI wide), .int (nI high), .int heat, .int cools, .int skinHeat, .int today, .int stirs, .int steps, .int (nI lumps), .int (nI boats), .ref thickness, .ref lumpNames, .ref lumpCells, .ref boatNames, .ref boatCells, .ref loads, .ref spoons, .ref spoonsLeft, .ref depths])), (lumpNames, .inl (ky 1, 6, .inr (.inl lumpNamesF)))]) (va_runV (As := [.int (nI 41)]) (rest := []) ⟨hx, hb, hml, hown, hts⟩ (c_r_takeSign l dC dI ky H.size adK adV reader rtape rlength rmostBytes rplaceG_34 rkindG_35 rbeginG_36 rwordG_37 rnumberG_38 rlettersG_39 rfaultKindG_40 rfaultPlaceG_41 rtapeF (nI 41) iv_rreader_0 p44 iv_rreader_2 p45) (cwV 1 hts gX9_readOne_X5_takeSign rfl rfl rfl (by decide +kernel) ⟨(Nat.le_of_ble_eq_true rfl), (Nat.le_of_ble_eq_true rfl)⟩) (pre_UEV hE hS hA hK hP hD [2, 3] (by decide) rfl (va_recv hK hP (ci := 5) (q0 := 2) rfl rfl)) rfl rfl hl.1 rfl (lv_room (Nat.le_of_ble_eq_true rfl)) dX9_readOne_102 ⟨(Nat.le_of_ble_eq_true rfl), (Nat.le_of_ble_eq_true rfl)⟩) hP hD hS hA [2, 3] [0, 1, 4, 5] rfl rfl (by decide) (by decide) (fun r49 u47 H locs p48 hP hD hS => ?_)
          obtain ⟨rplaceG_50, rkindG_51, rbeginG_52, rwordG_53, rnumberG_54, rlettersG_55, rfaultKindG_56, rfaultPlaceG_57⟩ := u47
          try dsimp only at p48
          obtain ⟨p58, p59, p60⟩ := p48
          refine W.widen (k := 0) (n := 0) (Nat.le_of_ble_eq_true rfl) (Nat.le_of_ble_eq_true rfl) ?_
          have hP : va_P (dC, dI) vwCl [(se, .inr (9, [.ref ccodes, .int (nI ccodeCountG_32), .int y16])), (ccodes, .inl (ky 0, 40, .inl ccodesG_33)), (a, .inr (7, [.int (nI wide), .int (nI high), .int heat, .int cools, .int skinHeat, .int today, .int stirs, .int steps, .int (nI lumps), .int (nI boats), .ref thickness, .ref lumpNames, .ref lumpCells, .ref boatNames, .ref boatCells, .ref loads, .ref spoons, .ref spoonsLeft, .ref depths])), (lumpNames, .inl (ky 1, 6, .inr (.inl lumpNamesF))), (reader, .inr (5, [.ref rtape, .int (nI rlength), .int (nI rmostBytes), .int (nI rplaceG_50), .int rkindG_51, .int (nI rbeginG_52), .int rwordG_53, .int rnumberG_54, .long rlettersG_55, .int rfaultKindG_56, .int rfaultPlaceG_57])), (rtape, .inl (ky 2, 940, .inl rtapeF))] H := hP
          have hD : va_D A [(se, .inr (9, [.ref ccodes, .int (nI ccodeCountG_32), .int y16])), (ccodes, .inl (ky 0, 40, .inl ccodesG_33)), (a, .inr (7, [.int (nI wide), .int (nI high), .int heat, .int cools, .int skinHeat, .int today, .int stirs, .int steps, .int (nI lumps), .int (nI boats), .ref thickness, .ref lumpNames, .ref lumpCells, .ref boatNames, .ref boatCells, .ref loads, .ref spoons, .ref spoonsLeft, .ref depths])), (lumpNames, .inl (ky 1, 6, .inr (.inl lumpNamesF))), (reader, .inr (5, [.ref rtape, .int (nI rlength), .int (nI rmostBytes), .int (nI rplaceG_50), .int rkindG_51, .int (nI rbeginG_52), .int rwordG_53, .int rnumberG_54, .long rlettersG_55, .int rfaultKindG_56, .int rfaultPlaceG_57])), (rtape, .inl (ky 2, 940, .inl rtapeF))] := hD
          refine lv_if_eq (tgt := 112) hx hb dX9_readOne_105 (by decide) (fun c61 => ?_) (fun c61 => ?_)
          · refine lv_iconst (v := nI 0) hx hb dX9_readOne_112 (by decide) ?_
            rw [hQ]
            have hP9 := hP.sub (ws' := [(se, .inr (9, [.ref ccodes, .int (nI ccodeCountG_32), .int y16])), (ccodes, .inl (ky 0, 40, .inl ccodesG_33)), (reader, .inr (5, [.ref rtape, .int (nI rlength), .int (nI rmostBytes), .int (nI rplaceG_50), .int rkindG_51, .int (nI rbeginG_52), .int rwordG_53, .int rnumberG_54, .long rlettersG_55, .int rfaultKindG_56, .int rfaultPlaceG_57])), (rtape, .inl (ky 2, 940, .inl rtapeF)), (a, .inr (7, [.int (nI wide), .int (nI high), .int heat, .int cools, .int skinHeat, .int today, .int stirs, .int steps, .int (nI lumps), .int (nI boats), .ref thickness, .ref lumpNames, .ref lumpCells, .ref boatNames, .ref boatCells, .ref loads, .ref spoons, .ref spoonsLeft, .ref depths])), (lumpNames, .inl (ky 1, 6, .inr (.inl lumpNamesF)))]) [0, 1, 4, 5, 2, 3] rfl
            have hD9 := hD.sub (ws' := [(se, .inr (9, [.ref ccodes, .int (nI ccodeCountG_32), .int y16])), (ccodes, .inl (ky 0, 40, .inl ccodesG_33)), (reader, .inr (5, [.ref rtape, .int (nI rlength), .int (nI rmostBytes), .int (nI rplaceG_50), .int rkindG_51, .int (nI rbeginG_52), .int rwordG_53, .int rnumberG_54, .long rlettersG_55, .int rfaultKindG_56, .int rfaultPlaceG_57])), (rtape, .inl (ky 2, 940, .inl rtapeF)), (a, .inr (7, [.int (nI wide), .int (nI high), .int heat, .int cools, .int skinHeat, .int today, .int stirs, .int steps, .int (nI lumps), .int (nI boats), .ref thickness, .ref lumpNames, .ref lumpCells, .ref boatNames, .ref boatCells, .ref loads, .ref spoons, .ref spoonsLeft, .ref depths])), (lumpNames, .inl (ky 1, 6, .inr (.inl lumpNamesF)))]) [0, 1, 4, 5, 2, 3] (by decide) rfl
            exact W.zret (v := nI 0) hx hb hr (by decide) (fun t9 ht9 hW9 => ⟨⟨nI 0, (ccodeCountG_32, y16, ccodesG_33, rplaceG_50, rkindG_51, rbeginG_52, rwordG_53, rnumberG_54, rlettersG_55, rfaultKindG_56, rfaultPlaceG_57), rfl, ⟨(lf_n_readOne8_3 p2), p43, p59, p60⟩, by rw [ht9]; exact hP9, va_K.moved hW9.alike hK, hD9⟩, hS.F ht9⟩) hS.2.2 dX9_readOne_113
          · refine lv_iconst (v := nI 1) hx hb dX9_readOne_108 (by decide) ?_
            refine lv_goto (tgt := 113) hx hb dX9_readOne_109 (by decide) ?_
            rw [hQ]
            have hP9 := hP.sub (ws' := [(se, .inr (9, [.ref ccodes, .int (nI ccodeCountG_32), .int y16])), (ccodes, .inl (ky 0, 40, .inl ccodesG_33)), (reader, .inr (5, [.ref rtape, .int (nI rlength), .int (nI rmostBytes), .int (nI rplaceG_50), .int rkindG_51, .int (nI rbeginG_52), .int rwordG_53, .int rnumberG_54, .long rlettersG_55, .int rfaultKindG_56, .int rfaultPlaceG_57])), (rtape, .inl (ky 2, 940, .inl rtapeF)), (a, .inr (7, [.int (nI wide), .int (nI high), .int heat, .int cools, .int skinHeat, .int today, .int stirs, .int steps, .int (nI lumps), .int (nI boats), .ref thickness, .ref lumpNames, .ref lumpCells, .ref boatNames, .ref boatCells, .ref loads, .ref spoons, .ref spoonsLeft, .ref depths])), (lumpNames, .inl (ky 1, 6, .inr (.inl lumpNamesF)))]) [0, 1, 4, 5, 2, 3] rfl
            have hD9 := hD.sub (ws' := [(se, .inr (9, [.ref ccodes, .int (nI ccodeCountG_32), .int y16])), (ccodes, .inl (ky 0, 40, .inl ccodesG_33)), (reader, .inr (5, [.ref rtape, .int (nI rlength), .int (nI rmostBytes), .int (nI rplaceG_50), .int rkindG_51, .int (nI rbeginG_52), .int rwordG_53, .int rnumberG_54, .long rlettersG_55, .int rfaultKindG_56, .int rfaultPlaceG_57])), (rtape, .inl (ky 2, 940, .inl rtapeF)), (a, .inr (7, [.int (nI wide), .int (nI high), .int heat, .int cools, .int skinHeat, .int today, .int stirs, .int steps, .int (nI lumps), .int (nI boats), .ref thickness, .ref lumpNames, .ref lumpCells, .ref boatNames, .ref boatCells, .ref loads, .ref spoons, .ref spoonsLeft, .ref depths])), (lumpNames, .inl (ky 1, 6, .inr (.inl lumpNamesF)))]) [0, 1, 4, 5, 2, 3] (by decide) rfl
            exact W.zret (v := nI 1) hx hb hr (by decide) (fun t9 ht9 hW9 => ⟨⟨nI 1, (ccodeCountG_32, y16, ccodesG_33, rplaceG_50, rkindG_51, rbeginG_52, rwordG_53, rnumberG_54, rlettersG_55, rfaultKindG_56, rfaultPlaceG_57), rfl, ⟨(lf_n_readOne8_4 p2), p43, p59, p60⟩, by rw [ht9]; exact hP9, va_K.moved hW9.alike hK, hD9⟩, hS.F ht9⟩) hS.2.2 dX9_readOne_113
    · refine lv_iload hx hb dX9_readOne_27 (lv_at hl 1 rfl) ?_
      refine lv_bipush (v := nI 22) hx hb dX9_readOne_29 (by decide) ?_
      refine lv_icmp_lt (tgt := 41) hx hb dX9_readOne_31 (by decide) (fun c62 => ?_) (fun c62 => ?_)
      · refine lv_aload_n hx hb dX9_readOne_41 rfl (lv_at hl 3 rfl) ?_
        refine lv_iconst (v := nI 1) hx hb dX9_readOne_42 (by decide) ?_
        refine r_call_i (wr := [(se, .inr (9, [.ref ccodes, .int (nI ccodeCount), .int cones])), (ccodes, .inl (ky 0, 40, .inl ccodesF)), (rtape, .inl (ky 2, 940, .inl rtapeF)), (a, .inr (7, [.int (nI wide), .int (nI high), .int heat, .int cools, .int skinHeat, .int today, .int stirs, .int steps, .int (nI lumps), .int (nI boats), .ref thickness, .ref lumpNames, .ref lumpCells, .ref boatNames, .ref boatCells, .ref loads, .ref spoons, .ref spoonsLeft, .ref depths])), (lumpNames, .inl (ky 1, 6, .inr (.inl lumpNamesF)))]) (va_runV (As := [.int (nI 1)]) (rest := []) ⟨hx, hb, hml, hown, hts⟩ (c_r_refuse l dC dI ky H.size reader rtape rlength rmostBytes rplace rkind rbegin rword rnumber rletters rfaultKind rfaultPlace (nI 1) iv_rreader_0 iv_rreader_1 iv_rreader_2 iv_rreader_3) (cwV 1 hts gX9_readOne_X5_refuse rfl rfl rfl (by decide +kernel) ⟨(Nat.le_of_ble_eq_true rfl), (Nat.le_of_ble_eq_true rfl)⟩) (pre_UV hK hP hD [2] (by decide) rfl (ci := 5) (q0 := 2) rfl rfl) rfl rfl hl.1 rfl (lv_room (Nat.le_of_ble_eq_true rfl)) dX9_readOne_43 ⟨(Nat.le_of_ble_eq_true rfl), (Nat.le_of_ble_eq_true rfl)⟩) hP hD hS hA [2] [0, 1, 3, 4, 5] rfl rfl (by decide) (by decide) (fun r65 u63 H locs p64 hP hD hS => ?_)
        obtain ⟨rfaultKindG_66, rfaultPlaceG_67⟩ := u63
        try dsimp only at p64
        have p68 := p64
        refine W.widen (k := 0) (n := 0) (Nat.le_of_ble_eq_true rfl) (Nat.le_of_ble_eq_true rfl) ?_
        have hP : va_P (dC, dI) vwCl [(se, .inr (9, [.ref ccodes, .int (nI ccodeCount), .int cones])), (ccodes, .inl (ky 0, 40, .inl ccodesF)), (rtape, .inl (ky 2, 940, .inl rtapeF)), (a, .inr (7, [.int (nI wide), .int (nI high), .int heat, .int cools, .int skinHeat, .int today, .int stirs, .int steps, .int (nI lumps), .int (nI boats), .ref thickness, .ref lumpNames, .ref lumpCells, .ref boatNames, .ref boatCells, .ref loads, .ref spoons, .ref spoonsLeft, .ref depths])), (lumpNames, .inl (ky 1, 6, .inr (.inl lumpNamesF))), (reader, .inr (5, [.ref rtape, .int (nI rlength), .int (nI rmostBytes), .int (nI rplace), .int rkind, .int (nI rbegin), .int rword, .int rnumber, .long rletters, .int rfaultKindG_66, .int rfaultPlaceG_67]))] H := hP
        have hD : va_D A [(se, .inr (9, [.ref ccodes, .int (nI ccodeCount), .int cones])), (ccodes, .inl (ky 0, 40, .inl ccodesF)), (rtape, .inl (ky 2, 940, .inl rtapeF)), (a, .inr (7, [.int (nI wide), .int (nI high), .int heat, .int cools, .int skinHeat, .int today, .int stirs, .int steps, .int (nI lumps), .int (nI boats), .ref thickness, .ref lumpNames, .ref lumpCells, .ref boatNames, .ref boatCells, .ref loads, .ref spoons, .ref spoonsLeft, .ref depths])), (lumpNames, .inl (ky 1, 6, .inr (.inl lumpNamesF))), (reader, .inr (5, [.ref rtape, .int (nI rlength), .int (nI rmostBytes), .int (nI rplace), .int rkind, .int (nI rbegin), .int rword, .int rnumber, .long rletters, .int rfaultKindG_66, .int rfaultPlaceG_67]))] := hD
        subst p68
        rw [hQ]
        have hP9 := hP.sub (ws' := [(se, .inr (9, [.ref ccodes, .int (nI ccodeCount), .int cones])), (ccodes, .inl (ky 0, 40, .inl ccodesF)), (reader, .inr (5, [.ref rtape, .int (nI rlength), .int (nI rmostBytes), .int (nI rplace), .int rkind, .int (nI rbegin), .int rword, .int rnumber, .long rletters, .int rfaultKindG_66, .int rfaultPlaceG_67])), (rtape, .inl (ky 2, 940, .inl rtapeF)), (a, .inr (7, [.int (nI wide), .int (nI high), .int heat, .int cools, .int skinHeat, .int today, .int stirs, .int steps, .int (nI lumps), .int (nI boats), .ref thickness, .ref lumpNames, .ref lumpCells, .ref boatNames, .ref boatCells, .ref loads, .ref spoons, .ref spoonsLeft, .ref depths])), (lumpNames, .inl (ky 1, 6, .inr (.inl lumpNamesF)))]) [0, 1, 5, 2, 3, 4] rfl
        have hD9 := hD.sub (ws' := [(se, .inr (9, [.ref ccodes, .int (nI ccodeCount), .int cones])), (ccodes, .inl (ky 0, 40, .inl ccodesF)), (reader, .inr (5, [.ref rtape, .int (nI rlength), .int (nI rmostBytes), .int (nI rplace), .int rkind, .int (nI rbegin), .int rword, .int rnumber, .long rletters, .int rfaultKindG_66, .int rfaultPlaceG_67])), (rtape, .inl (ky 2, 940, .inl rtapeF)), (a, .inr (7, [.int (nI wide), .int (nI high), .int heat, .int cools, .int skinHeat, .int today, .int stirs, .int steps, .int (nI lumps), .int (nI boats), .ref thickness, .ref lumpNames, .ref lumpCells, .ref boatNames, .ref boatCells, .ref loads, .ref spoons, .ref spoonsLeft, .ref depths])), (lumpNames, .inl (ky 1, 6, .inr (.inl lumpNamesF)))]) [0, 1, 5, 2, 3, 4] (by decide) rfl
        exact W.zret (v := nI 0) hx hb hr (by decide) (fun t9 ht9 hW9 => ⟨⟨nI 0, (ccodeCount, cones, ccodesF, rplace, rkind, rbegin, rword, rnumber, rletters, rfaultKindG_66, rfaultPlaceG_67), rfl, ⟨(lf_n_readOne8_5 p2), iv_cse_0, iv_rreader_1, iv_rreader_3⟩, by rw [ht9]; exact hP9, va_K.moved hW9.alike hK, hD9⟩, hS.F ht9⟩) hS.2.2 dX9_readOne_46
      · refine lv_iload hx hb dX9_readOne_34 (lv_at hl 1 rfl) ?_
        refine lv_bipush (v := nI 30) hx hb dX9_readOne_36 (by decide) ?_
        refine lv_icmp_le (tgt := 47) hx hb dX9_readOne_38 (by decide) (fun c69 => ?_) (fun c69 => ?_)
        · refine lv_aload_n hx hb dX9_readOne_47 rfl (lv_at hl 2 rfl) ?_
          refine va_get (D := (dC, dI)) (ci := 9) (v := .int cones) (C := RX9) (T := TX9) (N := 3) hx hb hts hin9 hown hK hP 0 rfl rfl 2 (by decide) (hts (.fieldLink RX9 19 "PorridgeSea$Sentence" "ones" "I") (List.mem_of_getElem? (i := 2) rfl)) (fun _ h9 => h9) rfl dX9_readOne_48 ?_
          refine lv_bipush (v := nI 20) hx hb dX9_readOne_51 (by decide) ?_
          refine lv_icmp_ge (tgt := 62) hx hb dX9_readOne_53 (by decide) (fun c70 => ?_) (fun c70 => ?_)
          · refine lv_aload_n hx hb dX9_readOne_62 rfl (lv_at hl 3 rfl) ?_
            refine lv_iconst (v := nI 4) hx hb dX9_readOne_63 (by decide) ?_
            refine r_call_i (wr := [(se, .inr (9, [.ref ccodes, .int (nI ccodeCount), .int cones])), (ccodes, .inl (ky 0, 40, .inl ccodesF)), (rtape, .inl (ky 2, 940, .inl rtapeF)), (a, .inr (7, [.int (nI wide), .int (nI high), .int heat, .int cools, .int skinHeat, .int today, .int stirs, .int steps, .int (nI lumps), .int (nI boats), .ref thickness, .ref lumpNames, .ref lumpCells, .ref boatNames, .ref boatCells, .ref loads, .ref spoons, .ref spoonsLeft, .ref depths])), (lumpNames, .inl (ky 1, 6, .inr (.inl lumpNamesF)))]) (va_runV (As := [.int (nI 4)]) (rest := []) ⟨hx, hb, hml, hown, hts⟩ (c_r_refuse l dC dI ky H.size reader rtape rlength rmostBytes rplace rkind rbegin rword rnumber rletters rfaultKind rfaultPlace (nI 4) iv_rreader_0 iv_rreader_1 iv_rreader_2 iv_rreader_3) (cwV 1 hts gX9_readOne_X5_refuse rfl rfl rfl (by decide +kernel) ⟨(Nat.le_of_ble_eq_true rfl), (Nat.le_of_ble_eq_true rfl)⟩) (pre_UV hK hP hD [2] (by decide) rfl (ci := 5) (q0 := 2) rfl rfl) rfl rfl hl.1 rfl (lv_room (Nat.le_of_ble_eq_true rfl)) dX9_readOne_64 ⟨(Nat.le_of_ble_eq_true rfl), (Nat.le_of_ble_eq_true rfl)⟩) hP hD hS hA [2] [0, 1, 3, 4, 5] rfl rfl (by decide) (by decide) (fun r73 u71 H locs p72 hP hD hS => ?_)
            obtain ⟨rfaultKindG_74, rfaultPlaceG_75⟩ := u71
            try dsimp only at p72
            have p76 := p72
            refine W.widen (k := 0) (n := 0) (Nat.le_of_ble_eq_true rfl) (Nat.le_of_ble_eq_true rfl) ?_
            have hP : va_P (dC, dI) vwCl [(se, .inr (9, [.ref ccodes, .int (nI ccodeCount), .int cones])), (ccodes, .inl (ky 0, 40, .inl ccodesF)), (rtape, .inl (ky 2, 940, .inl rtapeF)), (a, .inr (7, [.int (nI wide), .int (nI high), .int heat, .int cools, .int skinHeat, .int today, .int stirs, .int steps, .int (nI lumps), .int (nI boats), .ref thickness, .ref lumpNames, .ref lumpCells, .ref boatNames, .ref boatCells, .ref loads, .ref spoons, .ref spoonsLeft, .ref depths])), (lumpNames, .inl (ky 1, 6, .inr (.inl lumpNamesF))), (reader, .inr (5, [.ref rtape, .int (nI rlength), .int (nI rmostBytes), .int (nI rplace), .int rkind, .int (nI rbegin), .int rword, .int rnumber, .long rletters, .int rfaultKindG_74, .int rfaultPlaceG_75]))] H := hP
            have hD : va_D A [(se, .inr (9, [.ref ccodes, .int (nI ccodeCount), .int cones])), (ccodes, .inl (ky 0, 40, .inl ccodesF)), (rtape, .inl (ky 2, 940, .inl rtapeF)), (a, .inr (7, [.int (nI wide), .int (nI high), .int heat, .int cools, .int skinHeat, .int today, .int stirs, .int steps, .int (nI lumps), .int (nI boats), .ref thickness, .ref lumpNames, .ref lumpCells, .ref boatNames, .ref boatCells, .ref loads, .ref spoons, .ref spoonsLeft, .ref depths])), (lumpNames, .inl (ky 1, 6, .inr (.inl lumpNamesF))), (reader, .inr (5, [.ref rtape, .int (nI rlength), .int (nI rmostBytes), .int (nI rplace), .int rkind, .int (nI rbegin), .int rword, .int rnumber, .long rletters, .int rfaultKindG_74, .int rfaultPlaceG_75]))] := hD
            subst p76
            rw [hQ]
            have hP9 := hP.sub (ws' := [(se, .inr (9, [.ref ccodes, .int (nI ccodeCount), .int cones])), (ccodes, .inl (ky 0, 40, .inl ccodesF)), (reader, .inr (5, [.ref rtape, .int (nI rlength), .int (nI rmostBytes), .int (nI rplace), .int rkind, .int (nI rbegin), .int rword, .int rnumber, .long rletters, .int rfaultKindG_74, .int rfaultPlaceG_75])), (rtape, .inl (ky 2, 940, .inl rtapeF)), (a, .inr (7, [.int (nI wide), .int (nI high), .int heat, .int cools, .int skinHeat, .int today, .int stirs, .int steps, .int (nI lumps), .int (nI boats), .ref thickness, .ref lumpNames, .ref lumpCells, .ref boatNames, .ref boatCells, .ref loads, .ref spoons, .ref spoonsLeft, .ref depths])), (lumpNames, .inl (ky 1, 6, .inr (.inl lumpNamesF)))]) [0, 1, 5, 2, 3, 4] rfl
            have hD9 := hD.sub (ws' := [(se, .inr (9, [.ref ccodes, .int (nI ccodeCount), .int cones])), (ccodes, .inl (ky 0, 40, .inl ccodesF)), (reader, .inr (5, [.ref rtape, .int (nI rlength), .int (nI rmostBytes), .int (nI rplace), .int rkind, .int (nI rbegin), .int rword, .int rnumber, .long rletters, .int rfaultKindG_74, .int rfaultPlaceG_75])), (rtape, .inl (ky 2, 940, .inl rtapeF)), (a, .inr (7, [.int (nI wide), .int (nI high), .int heat, .int cools, .int skinHeat, .int today, .int stirs, .int steps, .int (nI lumps), .int (nI boats), .ref thickness, .ref lumpNames, .ref lumpCells, .ref boatNames, .ref boatCells, .ref loads, .ref spoons, .ref spoonsLeft, .ref depths])), (lumpNames, .inl (ky 1, 6, .inr (.inl lumpNamesF)))]) [0, 1, 5, 2, 3, 4] (by decide) rfl
            exact W.zret (v := nI 0) hx hb hr (by decide) (fun t9 ht9 hW9 => ⟨⟨nI 0, (ccodeCount, cones, ccodesF, rplace, rkind, rbegin, rword, rnumber, rletters, rfaultKindG_74, rfaultPlaceG_75), rfl, ⟨(lf_n_readOne8_6 p2), iv_cse_0, iv_rreader_1, iv_rreader_3⟩, by rw [ht9]; exact hP9, va_K.moved hW9.alike hK, hD9⟩, hS.F ht9⟩) hS.2.2 dX9_readOne_67
          · refine lv_iload_n hx hb dX9_readOne_56 rfl (lv_at hl 5 rfl) ?_
            refine lv_bipush (v := nI 8) hx hb dX9_readOne_57 (by decide) ?_
            refine lv_icmp_le (tgt := 68) hx hb dX9_readOne_59 (by decide) (fun c77 => ?_) (fun c77 => absurd (by decide) c77)
            refine lv_aload_n hx hb dX9_readOne_68 rfl (lv_at hl 2 rfl) ?_
            refine lv_dup hx hb dX9_readOne_69 rfl ?_
            refine va_get (D := (dC, dI)) (ci := 9) (v := .int cones) (C := RX9) (T := TX9) (N := 3) hx hb hts hin9 hown hK hP 0 rfl rfl 2 (by decide) (hts (.fieldLink RX9 19 "PorridgeSea$Sentence" "ones" "I") (List.mem_of_getElem? (i := 2) rfl)) (fun _ h9 => h9) rfl dX9_readOne_70 ?_
            refine lv_iconst (v := nI 1) hx hb dX9_readOne_73 (by decide) ?_
            refine lv_iadd hx hb dX9_readOne_74 ?_
            refine lv_topi (fun y78 e79 => ?_)
            refine va_put (D := (dC, dI)) (ci := 9) (v := .int y78) (ty := .int) (C := RX9) (T := TX9) (N := 3) hx hb hts hin9 tyX9 tyX9_ok nmX9 hown hK hP hD hS 0 rfl rfl 2 (by decide) (hts (.fieldLink RX9 19 "PorridgeSea$Sentence" "ones" "I") (List.mem_of_getElem? (i := 2) rfl)) (fun _ h9 => h9) rfl (by decide +kernel) rfl rfl (Nat.le_of_ble_eq_true rfl) dX9_readOne_75 (fun H locs hP hD hS => ?_)
            have hP : va_P (dC, dI) vwCl [(se, .inr (9, [.ref ccodes, .int (nI ccodeCount), .int y78])), (ccodes, .inl (ky 0, 40, .inl ccodesF)), (reader, .inr (5, [.ref rtape, .int (nI rlength), .int (nI rmostBytes), .int (nI rplace), .int rkind, .int (nI rbegin), .int rword, .int rnumber, .long rletters, .int rfaultKind, .int rfaultPlace])), (rtape, .inl (ky 2, 940, .inl rtapeF)), (a, .inr (7, [.int (nI wide), .int (nI high), .int heat, .int cools, .int skinHeat, .int today, .int stirs, .int steps, .int (nI lumps), .int (nI boats), .ref thickness, .ref lumpNames, .ref lumpCells, .ref boatNames, .ref boatCells, .ref loads, .ref spoons, .ref spoonsLeft, .ref depths])), (lumpNames, .inl (ky 1, 6, .inr (.inl lumpNamesF)))] H := hP
            have hD : va_D A [(se, .inr (9, [.ref ccodes, .int (nI ccodeCount), .int y78])), (ccodes, .inl (ky 0, 40, .inl ccodesF)), (reader, .inr (5, [.ref rtape, .int (nI rlength), .int (nI rmostBytes), .int (nI rplace), .int rkind, .int (nI rbegin), .int rword, .int rnumber, .long rletters, .int rfaultKind, .int rfaultPlace])), (rtape, .inl (ky 2, 940, .inl rtapeF)), (a, .inr (7, [.int (nI wide), .int (nI high), .int heat, .int cools, .int skinHeat, .int today, .int stirs, .int steps, .int (nI lumps), .int (nI boats), .ref thickness, .ref lumpNames, .ref lumpCells, .ref boatNames, .ref boatCells, .ref loads, .ref spoons, .ref spoonsLeft, .ref depths])), (lumpNames, .inl (ky 1, 6, .inr (.inl lumpNamesF)))] := hD
            refine lv_aload_n hx hb dX9_readOne_78 rfl (lv_at hl 3 rfl) ?_
            refine r_call_v (wr := [(se, .inr (9, [.ref ccodes, .int (nI ccodeCount), .int y78])), (ccodes, .inl (ky 0, 40, .inl ccodesF)), (a, .inr (7, [.int (nI wide), .int (nI high), .int heat, .int cools, .int skinHeat, .int today, .int stirs, .int steps, .int (nI lumps), .int (nI boats), .ref thickness, .ref lumpNames, .ref lumpCells, .ref boatNames, .ref boatCells, .ref loads, .ref spoons, .ref spoonsLeft, .ref depths])), (lumpNames, .inl (ky 1, 6, .inr (.inl lumpNamesF)))]) (va_runV (As := []) (rest := []) ⟨hx, hb, hml, hown, hts⟩ (c_r_advance l dC dI ky H.size adK adV reader rtape rlength rmostBytes rplace rkind rbegin rword rnumber rletters rfaultKind rfaultPlace rtapeF iv_rreader_0 iv_rreader_1 iv_rreader_2 iv_rreader_3) (cwV 0 hts gX9_readOne_X5_advance rfl rfl rfl (by decide +kernel) ⟨(Nat.le_of_ble_eq_true rfl), (Nat.le_of_ble_eq_true rfl)⟩) (pre_UEV hE hS hA hK hP hD [2, 3] (by decide) rfl (va_recv hK hP (ci := 5) (q0 := 2) rfl rfl)) rfl rfl hl.1 rfl (lv_room (Nat.le_of_ble_eq_true rfl)) dX9_readOne_79 ⟨(Nat.le_of_ble_eq_true rfl), (Nat.le_of_ble_eq_true rfl)⟩) hP hD hS hA [2, 3] [0, 1, 4, 5] rfl rfl (by decide) (by decide) (fun  u80 H locs p81 hP hD hS => ?_)
            obtain ⟨rplaceG_82, rkindG_83, rbeginG_84, rwordG_85, rnumberG_86, rlettersG_87⟩ := u80
            try dsimp only at p81
            obtain ⟨p88, p89⟩ := p81
            refine W.widen (k := 0) (n := 0) (Nat.le_of_ble_eq_true rfl) (Nat.le_of_ble_eq_true rfl) ?_
            have hP : va_P (dC, dI) vwCl [(se, .inr (9, [.ref ccodes, .int (nI ccodeCount), .int y78])), (ccodes, .inl (ky 0, 40, .inl ccodesF)), (a, .inr (7, [.int (nI wide), .int (nI high), .int heat, .int cools, .int skinHeat, .int today, .int stirs, .int steps, .int (nI lumps), .int (nI boats), .ref thickness, .ref lumpNames, .ref lumpCells, .ref boatNames, .ref boatCells, .ref loads, .ref spoons, .ref spoonsLeft, .ref depths])), (lumpNames, .inl (ky 1, 6, .inr (.inl lumpNamesF))), (reader, .inr (5, [.ref rtape, .int (nI rlength), .int (nI rmostBytes), .int (nI rplaceG_82), .int rkindG_83, .int (nI rbeginG_84), .int rwordG_85, .int rnumberG_86, .long rlettersG_87, .int rfaultKind, .int rfaultPlace])), (rtape, .inl (ky 2, 940, .inl rtapeF))] H := hP
            have hD : va_D A [(se, .inr (9, [.ref ccodes, .int (nI ccodeCount), .int y78])), (ccodes, .inl (ky 0, 40, .inl ccodesF)), (a, .inr (7, [.int (nI wide), .int (nI high), .int heat, .int cools, .int skinHeat, .int today, .int stirs, .int steps, .int (nI lumps), .int (nI boats), .ref thickness, .ref lumpNames, .ref lumpCells, .ref boatNames, .ref boatCells, .ref loads, .ref spoons, .ref spoonsLeft, .ref depths])), (lumpNames, .inl (ky 1, 6, .inr (.inl lumpNamesF))), (reader, .inr (5, [.ref rtape, .int (nI rlength), .int (nI rmostBytes), .int (nI rplaceG_82), .int rkindG_83, .int (nI rbeginG_84), .int rwordG_85, .int rnumberG_86, .long rlettersG_87, .int rfaultKind, .int rfaultPlace])), (rtape, .inl (ky 2, 940, .inl rtapeF))] := hD
            refine lv_iload hx hb dX9_readOne_82 (lv_at hl 0 rfl) ?_
            refine lv_if_eq (tgt := 114) hx hb dX9_readOne_84 (by decide) (fun c90 => ?_) (fun c90 => absurd c7 c90)
            refine lv_iload hx hb dX9_readOne_114 (lv_at hl 1 rfl) ?_
            refine lv_bipush (v := nI 22) hx hb dX9_readOne_116 (by decide) ?_
            refine lv_icmp_ne (tgt := 148) hx hb dX9_readOne_118 (by decide) (fun c91 => ?_) (fun c91 => ?_)
            · refine lv_iload hx hb dX9_readOne_148 (lv_at hl 1 rfl) ?_
              refine lv_bipush (v := nI 26) hx hb dX9_readOne_150 (by decide) ?_
              refine lv_icmp_ne (tgt := 162) hx hb dX9_readOne_152 (by decide) (fun c92 => ?_) (fun c92 => ?_)
              · refine lv_iload hx hb dX9_readOne_162 (lv_at hl 1 rfl) ?_
                refine lv_bipush (v := nI 27) hx hb dX9_readOne_164 (by decide) ?_
                refine lv_icmp_lt (tgt := 179) hx hb dX9_readOne_166 (by decide) (fun c93 => ?_) (fun c93 => ?_)
                · refine lv_aload_n hx hb dX9_readOne_179 rfl (lv_at hl 2 rfl) ?_
                  refine lv_iload hx hb dX9_readOne_180 (lv_at hl 1 rfl) ?_
                  refine r_call_i (wr := [(a, .inr (7, [.int (nI wide), .int (nI high), .int heat, .int cools, .int skinHeat, .int today, .int stirs, .int steps, .int (nI lumps), .int (nI boats), .ref thickness, .ref lumpNames, .ref lumpCells, .ref boatNames, .ref boatCells, .ref loads, .ref spoons, .ref spoonsLeft, .ref depths])), (lumpNames, .inl (ky 1, 6, .inr (.inl lumpNamesF))), (reader, .inr (5, [.ref rtape, .int (nI rlength), .int (nI rmostBytes), .int (nI rplaceG_82), .int rkindG_83, .int (nI rbeginG_84), .int rwordG_85, .int rnumberG_86, .long rlettersG_87, .int rfaultKind, .int rfaultPlace])), (rtape, .inl (ky 2, 940, .inl rtapeF))]) (va_runV (As := [.int r1]) (rest := []) ⟨hx, hb, hml, hown, hts⟩ (c_n_put l dC dI ky H.size se ccodes ccodeCount y78 ccodesF r1 iv_cse_0) (cwV 1 hts gX9_readOne_X9_put rfl rfl rfl (by decide +kernel) ⟨(Nat.le_of_ble_eq_true rfl), (Nat.le_of_ble_eq_true rfl)⟩) (pre_UV hK hP hD [0, 1] (by decide) rfl (ci := 9) (q0 := 0) rfl rfl) rfl rfl hl.1 rfl (lv_room (Nat.le_of_ble_eq_true rfl)) dX9_readOne_182 ⟨(Nat.le_of_ble_eq_true rfl), (Nat.le_of_ble_eq_true rfl)⟩) hP hD hS hA [0, 1] [2, 3, 4, 5] rfl rfl (by decide) (by decide) (fun r96 u94 H locs p95 hP hD hS => ?_)
                  obtain ⟨ccodeCountG_97, ccodesG_98⟩ := u94
                  try dsimp only at p95
                  obtain ⟨p99, p100⟩ := p95
                  refine W.widen (k := 0) (n := 0) (Nat.le_of_ble_eq_true rfl) (Nat.le_of_ble_eq_true rfl) ?_
                  have hP : va_P (dC, dI) vwCl [(a, .inr (7, [.int (nI wide), .int (nI high), .int heat, .int cools, .int skinHeat, .int today, .int stirs, .int steps, .int (nI lumps), .int (nI boats), .ref thickness, .ref lumpNames, .ref lumpCells, .ref boatNames, .ref boatCells, .ref loads, .ref spoons, .ref spoonsLeft, .ref depths])), (lumpNames, .inl (ky 1, 6, .inr (.inl lumpNamesF))), (reader, .inr (5, [.ref rtape, .int (nI rlength), .int (nI rmostBytes), .int (nI rplaceG_82), .int rkindG_83, .int (nI rbeginG_84), .int rwordG_85, .int rnumberG_86, .long rlettersG_87, .int rfaultKind, .int rfaultPlace])), (rtape, .inl (ky 2, 940, .inl rtapeF)), (se, .inr (9, [.ref ccodes, .int (nI ccodeCountG_97), .int y78])), (ccodes, .inl (ky 0, 40, .inl ccodesG_98))] H := hP
                  have hD : va_D A [(a, .inr (7, [.int (nI wide), .int (nI high), .int heat, .int cools, .int skinHeat, .int today, .int stirs, .int steps, .int (nI lumps), .int (nI boats), .ref thickness, .ref lumpNames, .ref lumpCells, .ref boatNames, .ref boatCells, .ref loads, .ref spoons, .ref spoonsLeft, .ref depths])), (lumpNames, .inl (ky 1, 6, .inr (.inl lumpNamesF))), (reader, .inr (5, [.ref rtape, .int (nI rlength), .int (nI rmostBytes), .int (nI rplaceG_82), .int rkindG_83, .int (nI rbeginG_84), .int rwordG_85, .int rnumberG_86, .long rlettersG_87, .int rfaultKind, .int rfaultPlace])), (rtape, .inl (ky 2, 940, .inl rtapeF)), (se, .inr (9, [.ref ccodes, .int (nI ccodeCountG_97), .int y78])), (ccodes, .inl (ky 0, 40, .inl ccodesG_98))] := hD
                  rw [hQ]
                  have hP9 := hP.sub (ws' := [(se, .inr (9, [.ref ccodes, .int (nI ccodeCountG_97), .int y78])), (ccodes, .inl (ky 0, 40, .inl ccodesG_98)), (reader, .inr (5, [.ref rtape, .int (nI rlength), .int (nI rmostBytes), .int (nI rplaceG_82), .int rkindG_83, .int (nI rbeginG_84), .int rwordG_85, .int rnumberG_86, .long rlettersG_87, .int rfaultKind, .int rfaultPlace])), (rtape, .inl (ky 2, 940, .inl rtapeF)), (a, .inr (7, [.int (nI wide), .int (nI high), .int heat, .int cools, .int skinHeat, .int today, .int stirs, .int steps, .int (nI lumps), .int (nI boats), .ref thickness, .ref lumpNames, .ref lumpCells, .ref boatNames, .ref boatCells, .ref loads, .ref spoons, .ref spoonsLeft, .ref depths])), (lumpNames, .inl (ky 1, 6, .inr (.inl lumpNamesF)))]) [4, 5, 2, 3, 0, 1] rfl
                  have hD9 := hD.sub (ws' := [(se, .inr (9, [.ref ccodes, .int (nI ccodeCountG_97), .int y78])), (ccodes, .inl (ky 0, 40, .inl ccodesG_98)), (reader, .inr (5, [.ref rtape, .int (nI rlength), .int (nI rmostBytes), .int (nI rplaceG_82), .int rkindG_83, .int (nI rbeginG_84), .int rwordG_85, .int rnumberG_86, .long rlettersG_87, .int rfaultKind, .int rfaultPlace])), (rtape, .inl (ky 2, 940, .inl rtapeF)), (a, .inr (7, [.int (nI wide), .int (nI high), .int heat, .int cools, .int skinHeat, .int today, .int stirs, .int steps, .int (nI lumps), .int (nI boats), .ref thickness, .ref lumpNames, .ref lumpCells, .ref boatNames, .ref boatCells, .ref loads, .ref spoons, .ref spoonsLeft, .ref depths])), (lumpNames, .inl (ky 1, 6, .inr (.inl lumpNamesF)))]) [4, 5, 2, 3, 0, 1] (by decide) rfl
                  exact W.zret (v := r96) hx hb hr ((lf_n_readOne8_7 r96 p2 p99)) (fun t9 ht9 hW9 => ⟨⟨r96, (ccodeCountG_97, y78, ccodesG_98, rplaceG_82, rkindG_83, rbeginG_84, rwordG_85, rnumberG_86, rlettersG_87, rfaultKind, rfaultPlace), rfl, ⟨p99, p100, p88, p89⟩, by rw [ht9]; exact hP9, va_K.moved hW9.alike hK, hD9⟩, hS.F ht9⟩) hS.2.2 dX9_readOne_185
                · refine lv_aload_n hx hb dX9_readOne_169 rfl (lv_at hl 2 rfl) ?_
                  refine lv_aload_n hx hb dX9_readOne_170 rfl (lv_at hl 3 rfl) ?_
                  refine lv_iload hx hb dX9_readOne_171 (lv_at hl 1 rfl) ?_
                  refine r_call_i (wr := [(a, .inr (7, [.int (nI wide), .int (nI high), .int heat, .int cools, .int skinHeat, .int today, .int stirs, .int steps, .int (nI lumps), .int (nI boats), .ref thickness, .ref lumpNames, .ref lumpCells, .ref boatNames, .ref boatCells, .ref loads, .ref spoons, .ref spoonsLeft, .ref depths])), (lumpNames, .inl (ky 1, 6, .inr (.inl lumpNamesF)))]) (va_runV (As := [.ref reader, .int r1]) (rest := []) ⟨hx, hb, hml, hown, hts⟩ (c_n_readComparison l dC dI ky H.size adK adV se ccodes ccodeCount y78 ccodesF reader rtape rlength rmostBytes rplaceG_82 rkindG_83 rbeginG_84 rwordG_85 rnumberG_86 rlettersG_87 rfaultKind rfaultPlace rtapeF r1 iv_cse_0 iv_rreader_0 p88 iv_rreader_2 p89) (cwV 2 hts gX9_readOne_X9_readComparison rfl rfl rfl (by decide +kernel) ⟨(Nat.le_of_ble_eq_true rfl), (Nat.le_of_ble_eq_true rfl)⟩) (pre_UEV hE hS hA hK hP hD [0, 1, 4, 5] (by decide) rfl (va_recv hK hP (ci := 9) (q0 := 0) rfl rfl)) rfl rfl hl.1 rfl (lv_room (Nat.le_of_ble_eq_true rfl)) dX9_readOne_173 ⟨(Nat.le_of_ble_eq_true rfl), (Nat.le_of_ble_eq_true rfl)⟩) hP hD hS hA [0, 1, 4, 5] [2, 3] rfl rfl (by decide) (by decide) (fun r103 u101 H locs p102 hP hD hS => ?_)
                  obtain ⟨ccodeCountG_104, ccodesG_105, rplaceG_106, rkindG_107, rbeginG_108, rwordG_109, rnumberG_110, rlettersG_111, rfaultKindG_112, rfaultPlaceG_113⟩ := u101
                  try dsimp only at p102
                  obtain ⟨p114, p115, p116, p117⟩ := p102
                  refine W.widen (k := 0) (n := 0) (Nat.le_of_ble_eq_true rfl) (Nat.le_of_ble_eq_true rfl) ?_
                  have hP : va_P (dC, dI) vwCl [(a, .inr (7, [.int (nI wide), .int (nI high), .int heat, .int cools, .int skinHeat, .int today, .int stirs, .int steps, .int (nI lumps), .int (nI boats), .ref thickness, .ref lumpNames, .ref lumpCells, .ref boatNames, .ref boatCells, .ref loads, .ref spoons, .ref spoonsLeft, .ref depths])), (lumpNames, .inl (ky 1, 6, .inr (.inl lumpNamesF))), (se, .inr (9, [.ref ccodes, .int (nI ccodeCountG_104), .int y78])), (ccodes, .inl (ky 0, 40, .inl ccodesG_105)), (reader, .inr (5, [.ref rtape, .int (nI rlength), .int (nI rmostBytes), .int (nI rplaceG_106), .int rkindG_107, .int (nI rbeginG_108), .int rwordG_109, .int rnumberG_110, .long rlettersG_111, .int rfaultKindG_112, .int rfaultPlaceG_113])), (rtape, .inl (ky 2, 940, .inl rtapeF))] H := hP
                  have hD : va_D A [(a, .inr (7, [.int (nI wide), .int (nI high), .int heat, .int cools, .int skinHeat, .int today, .int stirs, .int steps, .int (nI lumps), .int (nI boats), .ref thickness, .ref lumpNames, .ref lumpCells, .ref boatNames, .ref boatCells, .ref loads, .ref spoons, .ref spoonsLeft, .ref depths])), (lumpNames, .inl (ky 1, 6, .inr (.inl lumpNamesF))), (se, .inr (9, [.ref ccodes, .int (nI ccodeCountG_104), .int y78])), (ccodes, .inl (ky 0, 40, .inl ccodesG_105)), (reader, .inr (5, [.ref rtape, .int (nI rlength), .int (nI rmostBytes), .int (nI rplaceG_106), .int rkindG_107, .int (nI rbeginG_108), .int rwordG_109, .int rnumberG_110, .long rlettersG_111, .int rfaultKindG_112, .int rfaultPlaceG_113])), (rtape, .inl (ky 2, 940, .inl rtapeF))] := hD
                  refine lv_goto (tgt := 185) hx hb dX9_readOne_176 (by decide) ?_
                  rw [hQ]
                  have hP9 := hP.sub (ws' := [(se, .inr (9, [.ref ccodes, .int (nI ccodeCountG_104), .int y78])), (ccodes, .inl (ky 0, 40, .inl ccodesG_105)), (reader, .inr (5, [.ref rtape, .int (nI rlength), .int (nI rmostBytes), .int (nI rplaceG_106), .int rkindG_107, .int (nI rbeginG_108), .int rwordG_109, .int rnumberG_110, .long rlettersG_111, .int rfaultKindG_112, .int rfaultPlaceG_113])), (rtape, .inl (ky 2, 940, .inl rtapeF)), (a, .inr (7, [.int (nI wide), .int (nI high), .int heat, .int cools, .int skinHeat, .int today, .int stirs, .int steps, .int (nI lumps), .int (nI boats), .ref thickness, .ref lumpNames, .ref lumpCells, .ref boatNames, .ref boatCells, .ref loads, .ref spoons, .ref spoonsLeft, .ref depths])), (lumpNames, .inl (ky 1, 6, .inr (.inl lumpNamesF)))]) [2, 3, 4, 5, 0, 1] rfl
                  have hD9 := hD.sub (ws' := [(se, .inr (9, [.ref ccodes, .int (nI ccodeCountG_104), .int y78])), (ccodes, .inl (ky 0, 40, .inl ccodesG_105)), (reader, .inr (5, [.ref rtape, .int (nI rlength), .int (nI rmostBytes), .int (nI rplaceG_106), .int rkindG_107, .int (nI rbeginG_108), .int rwordG_109, .int rnumberG_110, .long rlettersG_111, .int rfaultKindG_112, .int rfaultPlaceG_113])), (rtape, .inl (ky 2, 940, .inl rtapeF)), (a, .inr (7, [.int (nI wide), .int (nI high), .int heat, .int cools, .int skinHeat, .int today, .int stirs, .int steps, .int (nI lumps), .int (nI boats), .ref thickness, .ref lumpNames, .ref lumpCells, .ref boatNames, .ref boatCells, .ref loads, .ref spoons, .ref spoonsLeft, .ref depths])), (lumpNames, .inl (ky 1, 6, .inr (.inl lumpNamesF)))]) [2, 3, 4, 5, 0, 1] (by decide) rfl
                  exact W.zret (v := r103) hx hb hr ((lf_n_readOne8_8 r103 p2 p114)) (fun t9 ht9 hW9 => ⟨⟨r103, (ccodeCountG_104, y78, ccodesG_105, rplaceG_106, rkindG_107, rbeginG_108, rwordG_109, rnumberG_110, rlettersG_111, rfaultKindG_112, rfaultPlaceG_113), rfl, ⟨p114, p115, p116, p117⟩, by rw [ht9]; exact hP9, va_K.moved hW9.alike hK, hD9⟩, hS.F ht9⟩) hS.2.2 dX9_readOne_185
              · refine lv_aload_n hx hb dX9_readOne_155 rfl (lv_at hl 2 rfl) ?_
                refine lv_aload_n hx hb dX9_readOne_156 rfl (lv_at hl 3 rfl) ?_
                refine lv_aload_n hx hb dX9_readOne_157 rfl (lv_at hl 4 rfl) ?_
                refine r_call_i (wr := []) (va_runV (As := [.ref reader, .ref a]) (rest := []) ⟨hx, hb, hml, hown, hts⟩ (c_n_readLump l dC dI ky H.size adK adV se ccodes ccodeCount y78 ccodesF reader rtape rlength rmostBytes rplaceG_82 rkindG_83 rbeginG_84 rwordG_85 rnumberG_86 rlettersG_87 rfaultKind rfaultPlace rtapeF a wide high heat cools skinHeat today stirs steps lumps boats thickness lumpNames lumpCells boatNames boatCells loads spoons spoonsLeft depths lumpNamesF iv_cse_0 iv_rreader_0 p88 iv_rreader_2 p89 iv_a_0 iv_a_1 iv_a_2 iv_a_3 iv_a_4 iv_a_5) (cwV 2 hts gX9_readOne_X9_readLump rfl rfl rfl (by decide +kernel) ⟨(Nat.le_of_ble_eq_true rfl), (Nat.le_of_ble_eq_true rfl)⟩) (pre_UEV hE hS hA hK hP hD [0, 1, 4, 5, 2, 3] (by decide) rfl (va_recv hK hP (ci := 9) (q0 := 0) rfl rfl)) rfl rfl hl.1 rfl (lv_room (Nat.le_of_ble_eq_true rfl)) dX9_readOne_158 ⟨(Nat.le_of_ble_eq_true rfl), (Nat.le_of_ble_eq_true rfl)⟩) hP hD hS hA [0, 1, 4, 5, 2, 3] [] rfl rfl (by decide) (by decide) (fun r120 u118 H locs p119 hP hD hS => ?_)
                obtain ⟨ccodeCountG_121, ccodesG_122, rplaceG_123, rkindG_124, rbeginG_125, rwordG_126, rnumberG_127, rlettersG_128, rfaultKindG_129, rfaultPlaceG_130⟩ := u118
                try dsimp only at p119
                obtain ⟨p131, p132, p133, p134⟩ := p119
                refine W.widen (k := 0) (n := 0) (Nat.le_of_ble_eq_true rfl) (Nat.le_of_ble_eq_true rfl) ?_
                have hP : va_P (dC, dI) vwCl [(se, .inr (9, [.ref ccodes, .int (nI ccodeCountG_121), .int y78])), (ccodes, .inl (ky 0, 40, .inl ccodesG_122)), (reader, .inr (5, [.ref rtape, .int (nI rlength), .int (nI rmostBytes), .int (nI rplaceG_123), .int rkindG_124, .int (nI rbeginG_125), .int rwordG_126, .int rnumberG_127, .long rlettersG_128, .int rfaultKindG_129, .int rfaultPlaceG_130])), (rtape, .inl (ky 2, 940, .inl rtapeF)), (a, .inr (7, [.int (nI wide), .int (nI high), .int heat, .int cools, .int skinHeat, .int today, .int stirs, .int steps, .int (nI lumps), .int (nI boats), .ref thickness, .ref lumpNames, .ref lumpCells, .ref boatNames, .ref boatCells, .ref loads, .ref spoons, .ref spoonsLeft, .ref depths])), (lumpNames, .inl (ky 1, 6, .inr (.inl lumpNamesF)))] H := hP
                have hD : va_D A [(se, .inr (9, [.ref ccodes, .int (nI ccodeCountG_121), .int y78])), (ccodes, .inl (ky 0, 40, .inl ccodesG_122)), (reader, .inr (5, [.ref rtape, .int (nI rlength), .int (nI rmostBytes), .int (nI rplaceG_123), .int rkindG_124, .int (nI rbeginG_125), .int rwordG_126, .int rnumberG_127, .long rlettersG_128, .int rfaultKindG_129, .int rfaultPlaceG_130])), (rtape, .inl (ky 2, 940, .inl rtapeF)), (a, .inr (7, [.int (nI wide), .int (nI high), .int heat, .int cools, .int skinHeat, .int today, .int stirs, .int steps, .int (nI lumps), .int (nI boats), .ref thickness, .ref lumpNames, .ref lumpCells, .ref boatNames, .ref boatCells, .ref loads, .ref spoons, .ref spoonsLeft, .ref depths])), (lumpNames, .inl (ky 1, 6, .inr (.inl lumpNamesF)))] := hD
                rw [hQ]
                exact W.zret (v := r120) hx hb hr ((lf_n_readOne8_9 r120 p2 p131)) (fun t9 ht9 hW9 => ⟨⟨r120, (ccodeCountG_121, y78, ccodesG_122, rplaceG_123, rkindG_124, rbeginG_125, rwordG_126, rnumberG_127, rlettersG_128, rfaultKindG_129, rfaultPlaceG_130), rfl, ⟨p131, p132, p133, p134⟩, by rw [ht9]; exact hP, va_K.moved hW9.alike hK, hD⟩, hS.F ht9⟩) hS.2.2 dX9_readOne_161
            · refine lv_aload_n hx hb dX9_readOne_121 rfl (lv_at hl 2 rfl) ?_
              refine lv_aload_n hx hb dX9_readOne_122 rfl (lv_at hl 3 rfl) ?_
              refine lv_aload_n hx hb dX9_readOne_123 rfl (lv_at hl 4 rfl) ?_
              refine lv_iload_n hx hb dX9_readOne_124 rfl (lv_at hl 5 rfl) ?_
              refine lv_iconst (v := nI 1) hx hb dX9_readOne_125 (by decide) ?_
              refine lv_iadd hx hb dX9_readOne_126 ?_
              refine r_ti (nI 9) (by decide) ?_
              refine r_call_i (wr := []) (va_runV (As := [.ref reader, .ref a, .int (nI 9)]) (rest := []) ⟨hx, hb, hml, hown, hts⟩ (c_n_readOne9 l dC dI ky H.size adK adV se ccodes ccodeCount y78 ccodesF reader rtape rlength rmostBytes rplaceG_82 rkindG_83 rbeginG_84 rwordG_85 rnumberG_86 rlettersG_87 rfaultKind rfaultPlace rtapeF a wide high heat cools skinHeat today stirs steps lumps boats thickness lumpNames lumpCells boatNames boatCells loads spoons spoonsLeft depths lumpNamesF iv_cse_0 iv_rreader_0 p88 iv_rreader_2 p89 iv_a_0 iv_a_1 iv_a_2 iv_a_3 iv_a_4 iv_a_5) (cwV 3 hts gX9_readOne_X9_readOne rfl rfl rfl (by decide +kernel) ⟨(Nat.le_of_ble_eq_true rfl), (Nat.le_of_ble_eq_true rfl)⟩) (pre_UEV hE hS hA hK hP hD [0, 1, 4, 5, 2, 3] (by decide) rfl (va_recv hK hP (ci := 9) (q0 := 0) rfl rfl)) rfl rfl hl.1 rfl (lv_room (Nat.le_of_ble_eq_true rfl)) dX9_readOne_127 ⟨(Nat.le_of_ble_eq_true rfl), (Nat.le_of_ble_eq_true rfl)⟩) hP hD hS hA [0, 1, 4, 5, 2, 3] [] rfl rfl (by decide) (by decide) (fun r137 u135 H locs p136 hP hD hS => ?_)
              obtain ⟨rfaultKindG_138, rfaultPlaceG_139⟩ := u135
              try dsimp only at p136
              have p140 := p136
              refine W.widen (k := 0) (n := 0) (Nat.le_of_ble_eq_true rfl) (Nat.le_of_ble_eq_true rfl) ?_
              have hP : va_P (dC, dI) vwCl [(se, .inr (9, [.ref ccodes, .int (nI ccodeCount), .int y78])), (ccodes, .inl (ky 0, 40, .inl ccodesF)), (reader, .inr (5, [.ref rtape, .int (nI rlength), .int (nI rmostBytes), .int (nI rplaceG_82), .int rkindG_83, .int (nI rbeginG_84), .int rwordG_85, .int rnumberG_86, .long rlettersG_87, .int rfaultKindG_138, .int rfaultPlaceG_139])), (rtape, .inl (ky 2, 940, .inl rtapeF)), (a, .inr (7, [.int (nI wide), .int (nI high), .int heat, .int cools, .int skinHeat, .int today, .int stirs, .int steps, .int (nI lumps), .int (nI boats), .ref thickness, .ref lumpNames, .ref lumpCells, .ref boatNames, .ref boatCells, .ref loads, .ref spoons, .ref spoonsLeft, .ref depths])), (lumpNames, .inl (ky 1, 6, .inr (.inl lumpNamesF)))] H := hP
              have hD : va_D A [(se, .inr (9, [.ref ccodes, .int (nI ccodeCount), .int y78])), (ccodes, .inl (ky 0, 40, .inl ccodesF)), (reader, .inr (5, [.ref rtape, .int (nI rlength), .int (nI rmostBytes), .int (nI rplaceG_82), .int rkindG_83, .int (nI rbeginG_84), .int rwordG_85, .int rnumberG_86, .long rlettersG_87, .int rfaultKindG_138, .int rfaultPlaceG_139])), (rtape, .inl (ky 2, 940, .inl rtapeF)), (a, .inr (7, [.int (nI wide), .int (nI high), .int heat, .int cools, .int skinHeat, .int today, .int stirs, .int steps, .int (nI lumps), .int (nI boats), .ref thickness, .ref lumpNames, .ref lumpCells, .ref boatNames, .ref boatCells, .ref loads, .ref spoons, .ref spoonsLeft, .ref depths])), (lumpNames, .inl (ky 1, 6, .inr (.inl lumpNamesF)))] := hD
              refine lv_if_eq (tgt := 146) hx hb dX9_readOne_130 (by decide) (fun c141 => ?_) (fun c141 => ?_)
              · refine lv_iconst (v := nI 0) hx hb dX9_readOne_146 (by decide) ?_
                rw [hQ]
                exact W.zret (v := nI 0) hx hb hr (by decide) (fun t9 ht9 hW9 => ⟨⟨nI 0, (ccodeCount, y78, ccodesF, rplaceG_82, rkindG_83, rbeginG_84, rwordG_85, rnumberG_86, rlettersG_87, rfaultKindG_138, rfaultPlaceG_139), rfl, ⟨(lf_n_readOne8_10 p2), iv_cse_0, p88, p89⟩, by rw [ht9]; exact hP, va_K.moved hW9.alike hK, hD⟩, hS.F ht9⟩) hS.2.2 dX9_readOne_147
              · refine lv_aload_n hx hb dX9_readOne_133 rfl (lv_at hl 2 rfl) ?_
                refine lv_bipush (v := nI 22) hx hb dX9_readOne_134 (by decide) ?_
                refine r_call_i (wr := [(reader, .inr (5, [.ref rtape, .int (nI rlength), .int (nI rmostBytes), .int (nI rplaceG_82), .int rkindG_83, .int (nI rbeginG_84), .int rwordG_85, .int rnumberG_86, .long rlettersG_87, .int rfaultKindG_138, .int rfaultPlaceG_139])), (rtape, .inl (ky 2, 940, .inl rtapeF)), (a, .inr (7, [.int (nI wide), .int (nI high), .int heat, .int cools, .int skinHeat, .int today, .int stirs, .int steps, .int (nI lumps), .int (nI boats), .ref thickness, .ref lumpNames, .ref lumpCells, .ref boatNames, .ref boatCells, .ref loads, .ref spoons, .ref spoonsLeft, .ref depths])), (lumpNames, .inl (ky 1, 6, .inr (.inl lumpNamesF)))]) (va_runV (As := [.int (nI 22)]) (rest := []) ⟨hx, hb, hml, hown, hts⟩ (c_n_put l dC dI ky H.size se ccodes ccodeCount y78 ccodesF (nI 22) iv_cse_0) (cwV 1 hts gX9_readOne_X9_put rfl rfl rfl (by decide +kernel) ⟨(Nat.le_of_ble_eq_true rfl), (Nat.le_of_ble_eq_true rfl)⟩) (pre_UV hK hP hD [0, 1] (by decide) rfl (ci := 9) (q0 := 0) rfl rfl) rfl rfl hl.1 rfl (lv_room (Nat.le_of_ble_eq_true rfl)) dX9_readOne_136 ⟨(Nat.le_of_ble_eq_true rfl), (Nat.le_of_ble_eq_true rfl)⟩) hP hD hS hA [0, 1] [2, 3, 4, 5] rfl rfl (by decide) (by decide) (fun r144 u142 H locs p143 hP hD hS => ?_)
                obtain ⟨ccodeCountG_145, ccodesG_146⟩ := u142
                try dsimp only at p143
                obtain ⟨p147, p148⟩ := p143
                refine W.widen (k := 0) (n := 0) (Nat.le_of_ble_eq_true rfl) (Nat.le_of_ble_eq_true rfl) ?_
                have hP : va_P (dC, dI) vwCl [(reader, .inr (5, [.ref rtape, .int (nI rlength), .int (nI rmostBytes), .int (nI rplaceG_82), .int rkindG_83, .int (nI rbeginG_84), .int rwordG_85, .int rnumberG_86, .long rlettersG_87, .int rfaultKindG_138, .int rfaultPlaceG_139])), (rtape, .inl (ky 2, 940, .inl rtapeF)), (a, .inr (7, [.int (nI wide), .int (nI high), .int heat, .int cools, .int skinHeat, .int today, .int stirs, .int steps, .int (nI lumps), .int (nI boats), .ref thickness, .ref lumpNames, .ref lumpCells, .ref boatNames, .ref boatCells, .ref loads, .ref spoons, .ref spoonsLeft, .ref depths])), (lumpNames, .inl (ky 1, 6, .inr (.inl lumpNamesF))), (se, .inr (9, [.ref ccodes, .int (nI ccodeCountG_145), .int y78])), (ccodes, .inl (ky 0, 40, .inl ccodesG_146))] H := hP
                have hD : va_D A [(reader, .inr (5, [.ref rtape, .int (nI rlength), .int (nI rmostBytes), .int (nI rplaceG_82), .int rkindG_83, .int (nI rbeginG_84), .int rwordG_85, .int rnumberG_86, .long rlettersG_87, .int rfaultKindG_138, .int rfaultPlaceG_139])), (rtape, .inl (ky 2, 940, .inl rtapeF)), (a, .inr (7, [.int (nI wide), .int (nI high), .int heat, .int cools, .int skinHeat, .int today, .int stirs, .int steps, .int (nI lumps), .int (nI boats), .ref thickness, .ref lumpNames, .ref lumpCells, .ref boatNames, .ref boatCells, .ref loads, .ref spoons, .ref spoonsLeft, .ref depths])), (lumpNames, .inl (ky 1, 6, .inr (.inl lumpNamesF))), (se, .inr (9, [.ref ccodes, .int (nI ccodeCountG_145), .int y78])), (ccodes, .inl (ky 0, 40, .inl ccodesG_146))] := hD
                refine lv_if_eq (tgt := 146) hx hb dX9_readOne_139 (by decide) (fun c149 => ?_) (fun c149 => ?_)
                · refine lv_iconst (v := nI 0) hx hb dX9_readOne_146 (by decide) ?_
                  rw [hQ]
                  have hP9 := hP.sub (ws' := [(se, .inr (9, [.ref ccodes, .int (nI ccodeCountG_145), .int y78])), (ccodes, .inl (ky 0, 40, .inl ccodesG_146)), (reader, .inr (5, [.ref rtape, .int (nI rlength), .int (nI rmostBytes), .int (nI rplaceG_82), .int rkindG_83, .int (nI rbeginG_84), .int rwordG_85, .int rnumberG_86, .long rlettersG_87, .int rfaultKindG_138, .int rfaultPlaceG_139])), (rtape, .inl (ky 2, 940, .inl rtapeF)), (a, .inr (7, [.int (nI wide), .int (nI high), .int heat, .int cools, .int skinHeat, .int today, .int stirs, .int steps, .int (nI lumps), .int (nI boats), .ref thickness, .ref lumpNames, .ref lumpCells, .ref boatNames, .ref boatCells, .ref loads, .ref spoons, .ref spoonsLeft, .ref depths])), (lumpNames, .inl (ky 1, 6, .inr (.inl lumpNamesF)))]) [4, 5, 0, 1, 2, 3] rfl
                  have hD9 := hD.sub (ws' := [(se, .inr (9, [.ref ccodes, .int (nI ccodeCountG_145), .int y78])), (ccodes, .inl (ky 0, 40, .inl ccodesG_146)), (reader, .inr (5, [.ref rtape, .int (nI rlength), .int (nI rmostBytes), .int (nI rplaceG_82), .int rkindG_83, .int (nI rbeginG_84), .int rwordG_85, .int rnumberG_86, .long rlettersG_87, .int rfaultKindG_138, .int rfaultPlaceG_139])), (rtape, .inl (ky 2, 940, .inl rtapeF)), (a, .inr (7, [.int (nI wide), .int (nI high), .int heat, .int cools, .int skinHeat, .int today, .int stirs, .int steps, .int (nI lumps), .int (nI boats), .ref thickness, .ref lumpNames, .ref lumpCells, .ref boatNames, .ref boatCells, .ref loads, .ref spoons, .ref spoonsLeft, .ref depths])), (lumpNames, .inl (ky 1, 6, .inr (.inl lumpNamesF)))]) [4, 5, 0, 1, 2, 3] (by decide) rfl
                  exact W.zret (v := nI 0) hx hb hr (by decide) (fun t9 ht9 hW9 => ⟨⟨nI 0, (ccodeCountG_145, y78, ccodesG_146, rplaceG_82, rkindG_83, rbeginG_84, rwordG_85, rnumberG_86, rlettersG_87, rfaultKindG_138, rfaultPlaceG_139), rfl, ⟨(lf_n_readOne8_11 p2), p148, p88, p89⟩, by rw [ht9]; exact hP9, va_K.moved hW9.alike hK, hD9⟩, hS.F ht9⟩) hS.2.2 dX9_readOne_147
                · refine lv_iconst (v := nI 1) hx hb dX9_readOne_142 (by decide) ?_
                  refine lv_goto (tgt := 147) hx hb dX9_readOne_143 (by decide) ?_
                  rw [hQ]
                  have hP9 := hP.sub (ws' := [(se, .inr (9, [.ref ccodes, .int (nI ccodeCountG_145), .int y78])), (ccodes, .inl (ky 0, 40, .inl ccodesG_146)), (reader, .inr (5, [.ref rtape, .int (nI rlength), .int (nI rmostBytes), .int (nI rplaceG_82), .int rkindG_83, .int (nI rbeginG_84), .int rwordG_85, .int rnumberG_86, .long rlettersG_87, .int rfaultKindG_138, .int rfaultPlaceG_139])), (rtape, .inl (ky 2, 940, .inl rtapeF)), (a, .inr (7, [.int (nI wide), .int (nI high), .int heat, .int cools, .int skinHeat, .int today, .int stirs, .int steps, .int (nI lumps), .int (nI boats), .ref thickness, .ref lumpNames, .ref lumpCells, .ref boatNames, .ref boatCells, .ref loads, .ref spoons, .ref spoonsLeft, .ref depths])), (lumpNames, .inl (ky 1, 6, .inr (.inl lumpNamesF)))]) [4, 5, 0, 1, 2, 3] rfl
                  have hD9 := hD.sub (ws' := [(se, .inr (9, [.ref ccodes, .int (nI ccodeCountG_145), .int y78])), (ccodes, .inl (ky 0, 40, .inl ccodesG_146)), (reader, .inr (5, [.ref rtape, .int (nI rlength), .int (nI rmostBytes), .int (nI rplaceG_82), .int rkindG_83, .int (nI rbeginG_84), .int rwordG_85, .int rnumberG_86, .long rlettersG_87, .int rfaultKindG_138, .int rfaultPlaceG_139])), (rtape, .inl (ky 2, 940, .inl rtapeF)), (a, .inr (7, [.int (nI wide), .int (nI high), .int heat, .int cools, .int skinHeat, .int today, .int stirs, .int steps, .int (nI lumps), .int (nI boats), .ref thickness, .ref lumpNames, .ref lumpCells, .ref boatNames, .ref boatCells, .ref loads, .ref spoons, .ref spoonsLeft, .ref depths])), (lumpNames, .inl (ky 1, 6, .inr (.inl lumpNamesF)))]) [4, 5, 0, 1, 2, 3] (by decide) rfl
                  exact W.zret (v := nI 1) hx hb hr (by decide) (fun t9 ht9 hW9 => ⟨⟨nI 1, (ccodeCountG_145, y78, ccodesG_146, rplaceG_82, rkindG_83, rbeginG_84, rwordG_85, rnumberG_86, rlettersG_87, rfaultKindG_138, rfaultPlaceG_139), rfl, ⟨(lf_n_readOne8_12 p2), p148, p88, p89⟩, by rw [ht9]; exact hP9, va_K.moved hW9.alike hK, hD9⟩, hS.F ht9⟩) hS.2.2 dX9_readOne_147
        · refine lv_aload_n hx hb dX9_readOne_41 rfl (lv_at hl 3 rfl) ?_
          refine lv_iconst (v := nI 1) hx hb dX9_readOne_42 (by decide) ?_
          refine r_call_i (wr := [(se, .inr (9, [.ref ccodes, .int (nI ccodeCount), .int cones])), (ccodes, .inl (ky 0, 40, .inl ccodesF)), (rtape, .inl (ky 2, 940, .inl rtapeF)), (a, .inr (7, [.int (nI wide), .int (nI high), .int heat, .int cools, .int skinHeat, .int today, .int stirs, .int steps, .int (nI lumps), .int (nI boats), .ref thickness, .ref lumpNames, .ref lumpCells, .ref boatNames, .ref boatCells, .ref loads, .ref spoons, .ref spoonsLeft, .ref depths])), (lumpNames, .inl (ky 1, 6, .inr (.inl lumpNamesF)))]) (va_runV (As := [.int (nI 1)]) (rest := []) ⟨hx, hb, hml, hown, hts⟩ (c_r_refuse l dC dI ky H.size reader rtape rlength rmostBytes rplace rkind rbegin rword rnumber rletters rfaultKind rfaultPlace (nI 1) iv_rreader_0 iv_rreader_1 iv_rreader_2 iv_rreader_3) (cwV 1 hts gX9_readOne_X5_refuse rfl rfl rfl (by decide +kernel) ⟨(Nat.le_of_ble_eq_true rfl), (Nat.le_of_ble_eq_true rfl)⟩) (pre_UV hK hP hD [2] (by decide) rfl (ci := 5) (q0 := 2) rfl rfl) rfl rfl hl.1 rfl (lv_room (Nat.le_of_ble_eq_true rfl)) dX9_readOne_43 ⟨(Nat.le_of_ble_eq_true rfl), (Nat.le_of_ble_eq_true rfl)⟩) hP hD hS hA [2] [0, 1, 3, 4, 5] rfl rfl (by decide) (by decide) (fun r152 u150 H locs p151 hP hD hS => ?_)
          obtain ⟨rfaultKindG_153, rfaultPlaceG_154⟩ := u150
          try dsimp only at p151
          have p155 := p151
          refine W.widen (k := 0) (n := 0) (Nat.le_of_ble_eq_true rfl) (Nat.le_of_ble_eq_true rfl) ?_
          have hP : va_P (dC, dI) vwCl [(se, .inr (9, [.ref ccodes, .int (nI ccodeCount), .int cones])), (ccodes, .inl (ky 0, 40, .inl ccodesF)), (rtape, .inl (ky 2, 940, .inl rtapeF)), (a, .inr (7, [.int (nI wide), .int (nI high), .int heat, .int cools, .int skinHeat, .int today, .int stirs, .int steps, .int (nI lumps), .int (nI boats), .ref thickness, .ref lumpNames, .ref lumpCells, .ref boatNames, .ref boatCells, .ref loads, .ref spoons, .ref spoonsLeft, .ref depths])), (lumpNames, .inl (ky 1, 6, .inr (.inl lumpNamesF))), (reader, .inr (5, [.ref rtape, .int (nI rlength), .int (nI rmostBytes), .int (nI rplace), .int rkind, .int (nI rbegin), .int rword, .int rnumber, .long rletters, .int rfaultKindG_153, .int rfaultPlaceG_154]))] H := hP
          have hD : va_D A [(se, .inr (9, [.ref ccodes, .int (nI ccodeCount), .int cones])), (ccodes, .inl (ky 0, 40, .inl ccodesF)), (rtape, .inl (ky 2, 940, .inl rtapeF)), (a, .inr (7, [.int (nI wide), .int (nI high), .int heat, .int cools, .int skinHeat, .int today, .int stirs, .int steps, .int (nI lumps), .int (nI boats), .ref thickness, .ref lumpNames, .ref lumpCells, .ref boatNames, .ref boatCells, .ref loads, .ref spoons, .ref spoonsLeft, .ref depths])), (lumpNames, .inl (ky 1, 6, .inr (.inl lumpNamesF))), (reader, .inr (5, [.ref rtape, .int (nI rlength), .int (nI rmostBytes), .int (nI rplace), .int rkind, .int (nI rbegin), .int rword, .int rnumber, .long rletters, .int rfaultKindG_153, .int rfaultPlaceG_154]))] := hD
          subst p155
          rw [hQ]
          have hP9 := hP.sub (ws' := [(se, .inr (9, [.ref ccodes, .int (nI ccodeCount), .int cones])), (ccodes, .inl (ky 0, 40, .inl ccodesF)), (reader, .inr (5, [.ref rtape, .int (nI rlength), .int (nI rmostBytes), .int (nI rplace), .int rkind, .int (nI rbegin), .int rword, .int rnumber, .long rletters, .int rfaultKindG_153, .int rfaultPlaceG_154])), (rtape, .inl (ky 2, 940, .inl rtapeF)), (a, .inr (7, [.int (nI wide), .int (nI high), .int heat, .int cools, .int skinHeat, .int today, .int stirs, .int steps, .int (nI lumps), .int (nI boats), .ref thickness, .ref lumpNames, .ref lumpCells, .ref boatNames, .ref boatCells, .ref loads, .ref spoons, .ref spoonsLeft, .ref depths])), (lumpNames, .inl (ky 1, 6, .inr (.inl lumpNamesF)))]) [0, 1, 5, 2, 3, 4] rfl
          have hD9 := hD.sub (ws' := [(se, .inr (9, [.ref ccodes, .int (nI ccodeCount), .int cones])), (ccodes, .inl (ky 0, 40, .inl ccodesF)), (reader, .inr (5, [.ref rtape, .int (nI rlength), .int (nI rmostBytes), .int (nI rplace), .int rkind, .int (nI rbegin), .int rword, .int rnumber, .long rletters, .int rfaultKindG_153, .int rfaultPlaceG_154])), (rtape, .inl (ky 2, 940, .inl rtapeF)), (a, .inr (7, [.int (nI wide), .int (nI high), .int heat, .int cools, .int skinHeat, .int today, .int stirs, .int steps, .int (nI lumps), .int (nI boats), .ref thickness, .ref lumpNames, .ref lumpCells, .ref boatNames, .ref boatCells, .ref loads, .ref spoons, .ref spoonsLeft, .ref depths])), (lumpNames, .inl (ky 1, 6, .inr (.inl lumpNamesF)))]) [0, 1, 5, 2, 3, 4] (by decide) rfl
          exact W.zret (v := nI 0) hx hb hr (by decide) (fun t9 ht9 hW9 => ⟨⟨nI 0, (ccodeCount, cones, ccodesF, rplace, rkind, rbegin, rword, rnumber, rletters, rfaultKindG_153, rfaultPlaceG_154), rfl, ⟨(lf_n_readOne8_13 p2), iv_cse_0, iv_rreader_1, iv_rreader_3⟩, by rw [ht9]; exact hP9, va_K.moved hW9.alike hK, hD9⟩, hS.F ht9⟩) hS.2.2 dX9_readOne_46
  refine lv_icmp_ne (tgt := 19) hx hb dX9_readOne_12 (by decide) (fun c3 => ?_) (fun c3 => ?_)
  · refine lv_iconst (v := nI 0) hx hb dX9_readOne_19 (by decide) ?_
    exact hJ6 (nI 0) (lf_n_readOne8_14 p2) _ _ _ hP hD hS (lv_sub hl [0, 1, 2, 3, 4] rfl)
  · refine lv_iconst (v := nI 1) hx hb dX9_readOne_15 (by decide) ?_
    refine lv_goto (tgt := 20) hx hb dX9_readOne_16 (by decide) ?_
    exact hJ6 (nI 1) (lf_n_readOne8_15 p2) _ _ _ hP hD hS (lv_sub hl [0, 1, 2, 3, 4] rfl)
set_option maxRecDepth 20000 in
theorem lf_n_readAll8_1 (x58 : Int32) (j71 : x58 = nI 0 ∨ x58 = nI 1) : narrow .boolean (.int x58) = .int x58 := by
  have h : x58 = 0 ∨ x58 = 1 := by
    have b_x58 := ia_b x58
    try have k_0 := ia_n 0 (by first | decide | omega)
    try have k_1 := ia_n 1 (by first | decide | omega)
    try simp only [ia_lt, ia_le, ia_eq, ia_m1, ia_0, ia_1, ne_eq, true_and, and_true, false_and, and_false, or_false, false_or, or_true, true_or, not_true_eq_false, not_false_eq_true] at *
    all_goals omega
  rcases h with h | h <;> rw [h] <;> rfl
set_option maxRecDepth 20000 in
theorem lf_n_readAll8_2 (x58 : Int32) (j71 : x58 = nI 0 ∨ x58 = nI 1) (c81 : x58 = 0) : narrow .boolean (.int x58) = .int x58 := by
  have h : x58 = 0 ∨ x58 = 1 := by
    have b_x58 := ia_b x58
    try have k_0 := ia_n 0 (by first | decide | omega)
    try have k_1 := ia_n 1 (by first | decide | omega)
    try simp only [ia_lt, ia_le, ia_eq, ia_m1, ia_0, ia_1, ne_eq, true_and, and_true, false_and, and_false, or_false, false_or, or_true, true_or, not_true_eq_false, not_false_eq_true] at *
    all_goals omega
  rcases h with h | h <;> rw [h] <;> rfl
set_option maxRecDepth 20000 in
theorem lf_n_readAll8_3 (x58 : Int32) (j71 : x58 = nI 0 ∨ x58 = nI 1) (c81 : ¬ x58 = 0) (p83 : True) : narrow .boolean (.int x58) = .int x58 := by
  have h : x58 = 0 ∨ x58 = 1 := by
    have b_x58 := ia_b x58
    try have k_0 := ia_n 0 (by first | decide | omega)
    try have k_1 := ia_n 1 (by first | decide | omega)
    try simp only [ia_lt, ia_le, ia_eq, ia_m1, ia_0, ia_1, ne_eq, true_and, and_true, false_and, and_false, or_false, false_or, or_true, true_or, not_true_eq_false, not_false_eq_true] at *
    all_goals omega
  rcases h with h | h <;> rw [h] <;> rfl
set_option maxRecDepth 20000 in
theorem lf_n_readAll8_4 (k57 : Nat) (n77 : Nat) (j70 : k57 ≤ 20) (hm79 : 20 - k57 < n77 + 1) (c80 : k57 < 20) (p83 : True) : (k57 + 1) ≤ 20 := by
  try simp only [ia_lt, ia_le, ia_eq, ia_m1, ia_0, ia_1, ne_eq, true_and, and_true, false_and, and_false, or_false, false_or, or_true, true_or, not_true_eq_false, not_false_eq_true] at *
  all_goals omega
set_option maxRecDepth 20000 in
theorem lf_n_readAll8_5  (p83 : True) : (nI 0) = nI 0 ∨ (nI 0) = nI 1 := by
  try have k_0 := ia_n 0 (by first | decide | omega)
  try have k_1 := ia_n 1 (by first | decide | omega)
  try simp only [ia_lt, ia_le, ia_eq, ia_m1, ia_0, ia_1, ne_eq, true_and, and_true, false_and, and_false, or_false, false_or, or_true, true_or, not_true_eq_false, not_false_eq_true] at *
  all_goals omega
set_option maxRecDepth 20000 in
theorem lf_n_readAll8_6 (rlength : Nat) (rplace : Nat) (rplaceG_7 : Nat) (k62 : Nat) (rplaceG_87 : Nat) (rplaceG_101 : Nat) (iv_rreader_0 : rlength ≤ 940) (iv_rreader_1 : rplace ≤ rlength) (p17 : rplaceG_7 ≤ rlength) (j73 : k62 ≤ 940) (j75 : k62 ≤ rlength) (p83 : True) (p93 : rplaceG_87 ≤ rlength) (p111 : rplaceG_101 ≤ rlength) : rplaceG_101 ≤ 940 := by
  try simp only [ia_lt, ia_le, ia_eq, ia_m1, ia_0, ia_1, ne_eq, true_and, and_true, false_and, and_false, or_false, false_or, or_true, true_or, not_true_eq_false, not_false_eq_true] at *
  all_goals omega
set_option maxRecDepth 20000 in
theorem lf_n_readAll8_7 (k57 : Nat) (n77 : Nat) (j70 : k57 ≤ 20) (hm79 : 20 - k57 < n77 + 1) (c80 : k57 < 20) (p83 : True) : 20 - (k57 + 1) < n77 := by
  try simp only [ia_lt, ia_le, ia_eq, ia_m1, ia_0, ia_1, ne_eq, true_and, and_true, false_and, and_false, or_false, false_or, or_true, true_or, not_true_eq_false, not_false_eq_true] at *
  all_goals omega
set_option maxRecDepth 20000 in
theorem lf_n_readAll8_8 (k57 : Nat) (n77 : Nat) (j70 : k57 ≤ 20) (hm79 : 20 - k57 < n77 + 1) (c80 : k57 < 20) (p83 : True) : (k57 + 1) ≤ 20 := by
  try simp only [ia_lt, ia_le, ia_eq, ia_m1, ia_0, ia_1, ne_eq, true_and, and_true, false_and, and_false, or_false, false_or, or_true, true_or, not_true_eq_false, not_false_eq_true] at *
  all_goals omega
set_option maxRecDepth 20000 in
theorem lf_n_readAll8_9  (p83 : True) : (nI 0) = nI 0 ∨ (nI 0) = nI 1 := by
  try have k_0 := ia_n 0 (by first | decide | omega)
  try have k_1 := ia_n 1 (by first | decide | omega)
  try simp only [ia_lt, ia_le, ia_eq, ia_m1, ia_0, ia_1, ne_eq, true_and, and_true, false_and, and_false, or_false, false_or, or_true, true_or, not_true_eq_false, not_false_eq_true] at *
  all_goals omega
set_option maxRecDepth 20000 in
theorem lf_n_readAll8_10 (rlength : Nat) (rplace : Nat) (rplaceG_7 : Nat) (k62 : Nat) (rplaceG_87 : Nat) (rplaceG_101 : Nat) (iv_rreader_0 : rlength ≤ 940) (iv_rreader_1 : rplace ≤ rlength) (p17 : rplaceG_7 ≤ rlength) (j73 : k62 ≤ 940) (j75 : k62 ≤ rlength) (p83 : True) (p93 : rplaceG_87 ≤ rlength) (p111 : rplaceG_101 ≤ rlength) : rplaceG_101 ≤ 940 := by
  try simp only [ia_lt, ia_le, ia_eq, ia_m1, ia_0, ia_1, ne_eq, true_and, and_true, false_and, and_false, or_false, false_or, or_true, true_or, not_true_eq_false, not_false_eq_true] at *
  all_goals omega
set_option maxRecDepth 20000 in
theorem lf_n_readAll8_11 (k57 : Nat) (n77 : Nat) (j70 : k57 ≤ 20) (hm79 : 20 - k57 < n77 + 1) (c80 : k57 < 20) (p83 : True) : 20 - (k57 + 1) < n77 := by
  try simp only [ia_lt, ia_le, ia_eq, ia_m1, ia_0, ia_1, ne_eq, true_and, and_true, false_and, and_false, or_false, false_or, or_true, true_or, not_true_eq_false, not_false_eq_true] at *
  all_goals omega
set_option maxRecDepth 20000 in
theorem lf_n_readAll8_12 (k57 : Nat) (n77 : Nat) (j70 : k57 ≤ 20) (hm79 : 20 - k57 < n77 + 1) (c80 : k57 < 20) (p83 : True) : (k57 + 1) ≤ 20 := by
  try simp only [ia_lt, ia_le, ia_eq, ia_m1, ia_0, ia_1, ne_eq, true_and, and_true, false_and, and_false, or_false, false_or, or_true, true_or, not_true_eq_false, not_false_eq_true] at *
  all_goals omega
set_option maxRecDepth 20000 in
theorem lf_n_readAll8_13  (p83 : True) : (nI 1) = nI 0 ∨ (nI 1) = nI 1 := by
  try have k_0 := ia_n 1 (by first | decide | omega)
  try have k_1 := ia_n 0 (by first | decide | omega)
  try simp only [ia_lt, ia_le, ia_eq, ia_m1, ia_0, ia_1, ne_eq, true_and, and_true, false_and, and_false, or_false, false_or, or_true, true_or, not_true_eq_false, not_false_eq_true] at *
  all_goals omega
set_option maxRecDepth 20000 in
theorem lf_n_readAll8_14 (rlength : Nat) (rplace : Nat) (rplaceG_7 : Nat) (k62 : Nat) (rplaceG_87 : Nat) (rplaceG_101 : Nat) (iv_rreader_0 : rlength ≤ 940) (iv_rreader_1 : rplace ≤ rlength) (p17 : rplaceG_7 ≤ rlength) (j73 : k62 ≤ 940) (j75 : k62 ≤ rlength) (p83 : True) (p93 : rplaceG_87 ≤ rlength) (p111 : rplaceG_101 ≤ rlength) : rplaceG_101 ≤ 940 := by
  try simp only [ia_lt, ia_le, ia_eq, ia_m1, ia_0, ia_1, ne_eq, true_and, and_true, false_and, and_false, or_false, false_or, or_true, true_or, not_true_eq_false, not_false_eq_true] at *
  all_goals omega
set_option maxRecDepth 20000 in
theorem lf_n_readAll8_15 (k57 : Nat) (n77 : Nat) (j70 : k57 ≤ 20) (hm79 : 20 - k57 < n77 + 1) (c80 : k57 < 20) (p83 : True) : 20 - (k57 + 1) < n77 := by
  try simp only [ia_lt, ia_le, ia_eq, ia_m1, ia_0, ia_1, ne_eq, true_and, and_true, false_and, and_false, or_false, false_or, or_true, true_or, not_true_eq_false, not_false_eq_true] at *
  all_goals omega
set_option maxRecDepth 20000 in
theorem lf_n_readAll8_16   : 0 ≤ 20 := by
  try simp only [ia_lt, ia_le, ia_eq, ia_m1, ia_0, ia_1, ne_eq, true_and, and_true, false_and, and_false, or_false, false_or, or_true, true_or, not_true_eq_false, not_false_eq_true] at *
  all_goals omega
set_option maxRecDepth 20000 in
theorem lf_n_readAll8_17 (rlength : Nat) (rplace : Nat) (rplaceG_7 : Nat) (iv_rreader_0 : rlength ≤ 940) (iv_rreader_1 : rplace ≤ rlength) (p17 : rplaceG_7 ≤ rlength) : rplaceG_7 ≤ 940 := by
  try simp only [ia_lt, ia_le, ia_eq, ia_m1, ia_0, ia_1, ne_eq, true_and, and_true, false_and, and_false, or_false, false_or, or_true, true_or, not_true_eq_false, not_false_eq_true] at *
  all_goals omega
set_option maxHeartbeats 4000000 in
set_option maxRecDepth 100000 in
theorem c_n_readAll8 (l : Launch) (dC : Nat → ClassId) (dI : Nat → Nat → Nat) (ky : Nat → ClassId) (sz : Nat) (adK : Nat → Nat) (adV : Nat → Nat) (se : Nat) (ccodes : Nat) (ccodeCount : Nat) (cones : Int32) (ccodesF : Nat → Int32) (reader : Nat) (rtape : Nat) (rlength : Nat) (rmostBytes : Nat) (rplace : Nat) (rkind : Int32) (rbegin : Nat) (rword : Int32) (rnumber : Int32) (rletters : Int64) (rfaultKind : Int32) (rfaultPlace : Int32) (rtapeF : Nat → Int32) (a : Nat) (wide : Nat) (high : Nat) (heat : Int32) (cools : Int32) (skinHeat : Int32) (today : Int32) (stirs : Int32) (steps : Int32) (lumps : Nat) (boats : Nat) (thickness : Nat) (lumpNames : Nat) (lumpCells : Nat) (boatNames : Nat) (boatCells : Nat) (loads : Nat) (spoons : Nat) (spoonsLeft : Nat) (depths : Nat) (lumpNamesF : Nat → Int64) (iv_cse_0 : ccodeCount ≤ 40) (iv_rreader_0 : rlength ≤ 940) (iv_rreader_1 : rplace ≤ rlength) (iv_rreader_2 : rmostBytes ≤ 900) (iv_rreader_3 : rbegin ≤ 940) (iv_a_0 : 2 ≤ wide) (iv_a_1 : wide ≤ 6) (iv_a_2 : 2 ≤ high) (iv_a_3 : high ≤ 6) (iv_a_4 : lumps ≤ 6) (iv_a_5 : boats ≤ 6) : Met l yX9_readAll wsX9_readAll ({ frames := 9, cells := 0, slots := 0, locals := 206 }) (PcUE dC dI ky adK adV [.ref se, .ref reader, .ref a, .int (nI 8)] [(se, .inr (9, [.ref ccodes, .int (nI ccodeCount), .int cones])), (ccodes, .inl (ky 0, 40, .inl ccodesF)), (reader, .inr (5, [.ref rtape, .int (nI rlength), .int (nI rmostBytes), .int (nI rplace), .int rkind, .int (nI rbegin), .int rword, .int rnumber, .long rletters, .int rfaultKind, .int rfaultPlace])), (rtape, .inl (ky 2, 940, .inl rtapeF)), (a, .inr (7, [.int (nI wide), .int (nI high), .int heat, .int cools, .int skinHeat, .int today, .int stirs, .int steps, .int (nI lumps), .int (nI boats), .ref thickness, .ref lumpNames, .ref lumpCells, .ref boatNames, .ref boatCells, .ref loads, .ref spoons, .ref spoonsLeft, .ref depths])), (lumpNames, .inl (ky 1, 6, .inr (.inl lumpNamesF)))] sz) (va_Qi (fun (r : Int32) (u : Nat × Int32 × (Nat → Int32) × Nat × Int32 × Nat × Int32 × Int32 × Int64 × Int32 × Int32) => match u with | (ccodeCountG, conesG, ccodesG, rplaceG, rkindG, rbeginG, rwordG, rnumberG, rlettersG, rfaultKindG, rfaultPlaceG) => (r = nI 0 ∨ r = nI 1) ∧ (ccodeCountG ≤ 40) ∧ (rplaceG ≤ rlength) ∧ (rbeginG ≤ 940)) (BU dC dI ky (fun (u : Nat × Int32 × (Nat → Int32) × Nat × Int32 × Nat × Int32 × Int32 × Int64 × Int32 × Int32) => match u with | (ccodeCountG, conesG, ccodesG, rplaceG, rkindG, rbeginG, rwordG, rnumberG, rlettersG, rfaultKindG, rfaultPlaceG) => [(se, .inr (9, [.ref ccodes, .int (nI ccodeCountG), .int conesG])), (ccodes, .inl (ky 0, 40, .inl ccodesG)), (reader, .inr (5, [.ref rtape, .int (nI rlength), .int (nI rmostBytes), .int (nI rplaceG), .int rkindG, .int (nI rbeginG), .int rwordG, .int rnumberG, .long rlettersG, .int rfaultKindG, .int rfaultPlaceG])), (rtape, .inl (ky 2, 940, .inl rtapeF)), (a, .inr (7, [.int (nI wide), .int (nI high), .int heat, .int cools, .int skinHeat, .int today, .int stirs, .int steps, .int (nI lumps), .int (nI boats), .ref thickness, .ref lumpNames, .ref lumpCells, .ref boatNames, .ref boatCells, .ref loads, .ref spoons, .ref spoonsLeft, .ref depths])), (lumpNames, .inl (ky 1, 6, .inr (.inl lumpNamesF)))]) (va_A [(se, .inr (9, [.ref ccodes, .int (nI ccodeCount), .int cones])), (ccodes, .inl (ky 0, 40, .inl ccodesF)), (reader, .inr (5, [.ref rtape, .int (nI rlength), .int (nI rmostBytes), .int (nI rplace), .int rkind, .int (nI rbegin), .int rword, .int rnumber, .long rletters, .int rfaultKind, .int rfaultPlace])), (rtape, .inl (ky 2, 940, .inl rtapeF)), (a, .inr (7, [.int (nI wide), .int (nI high), .int heat, .int cools, .int skinHeat, .int today, .int stirs, .int steps, .int (nI lumps), .int (nI boats), .ref thickness, .ref lumpNames, .ref lumpCells, .ref boatNames, .ref boatCells, .ref loads, .ref spoons, .ref spoonsLeft, .ref depths])), (lumpNames, .inl (ky 1, 6, .inr (.inl lumpNamesF)))] sz)) (va_A [(se, .inr (9, [.ref ccodes, .int (nI ccodeCount), .int cones])), (ccodes, .inl (ky 0, 40, .inl ccodesF)), (reader, .inr (5, [.ref rtape, .int (nI rlength), .int (nI rmostBytes), .int (nI rplace), .int rkind, .int (nI rbegin), .int rword, .int rnumber, .long rletters, .int rfaultKind, .int rfaultPlace])), (rtape, .inl (ky 2, 940, .inl rtapeF)), (a, .inr (7, [.int (nI wide), .int (nI high), .int heat, .int cools, .int skinHeat, .int today, .int stirs, .int steps, .int (nI lumps), .int (nI boats), .ref thickness, .ref lumpNames, .ref lumpCells, .ref boatNames, .ref boatCells, .ref loads, .ref spoons, .ref spoonsLeft, .ref depths])), (lumpNames, .inl (ky 1, 6, .inr (.inl lumpNamesF)))] sz)) 0 0 (va_A [(se, .inr (9, [.ref ccodes, .int (nI ccodeCount), .int cones])), (ccodes, .inl (ky 0, 40, .inl ccodesF)), (reader, .inr (5, [.ref rtape, .int (nI rlength), .int (nI rmostBytes), .int (nI rplace), .int rkind, .int (nI rbegin), .int rword, .int rnumber, .long rletters, .int rfaultKind, .int rfaultPlace])), (rtape, .inl (ky 2, 940, .inl rtapeF)), (a, .inr (7, [.int (nI wide), .int (nI high), .int heat, .int cools, .int skinHeat, .int today, .int stirs, .int steps, .int (nI lumps), .int (nI boats), .ref thickness, .ref lumpNames, .ref lumpCells, .ref boatNames, .ref boatCells, .ref loads, .ref spoons, .ref spoonsLeft, .ref depths])), (lumpNames, .inl (ky 1, 6, .inr (.inl lumpNamesF)))] sz) := by
  refine Met.ofW (cc := cX9_readAll) (maxL := 6) (ret := (some .boolean)) (by decide) rfl ?_
  intro p e s m args below meth c s₁ B hml hv
  obtain ⟨rfl, hsz, hP, hK, hD0, hE⟩ := hv
  have hx := B.exec
  have hb := B.bytes
  have hr := B.returns
  have hts := atoms_spec (ws := wsX9_readAll) B.pre
  have hown : s.vm.findClass RX9 = some m.cls := findClass_of_methodNamed B.named
  have hlocks := B.notSynchronized
  subst hsz
  have hD := hD0.self (sz := s.heap.size)
  generalize hAe : va_A [(se, .inr (9, [.ref ccodes, .int (nI ccodeCount), .int cones])), (ccodes, .inl (ky 0, 40, .inl ccodesF)), (reader, .inr (5, [.ref rtape, .int (nI rlength), .int (nI rmostBytes), .int (nI rplace), .int rkind, .int (nI rbegin), .int rword, .int rnumber, .long rletters, .int rfaultKind, .int rfaultPlace])), (rtape, .inl (ky 2, 940, .inl rtapeF)), (a, .inr (7, [.int (nI wide), .int (nI high), .int heat, .int cools, .int skinHeat, .int today, .int stirs, .int steps, .int (nI lumps), .int (nI boats), .ref thickness, .ref lumpNames, .ref lumpCells, .ref boatNames, .ref boatCells, .ref loads, .ref spoons, .ref spoonsLeft, .ref depths])), (lumpNames, .inl (ky 1, 6, .inr (.inl lumpNamesF)))] s.heap.size = A at hD hE ⊢
  have hA : ∀ q : Nat, s.heap.size ≤ q → A q := fun q h => by rw [← hAe]; exact Or.inr h
  have hS : va_S A s.heap s.heap [] := va_S.rf
  have hl := lv_entry ([.ref se, .ref reader, .ref a, .int (nI 8)]) (n := 6) (Nat.le_of_ble_eq_true rfl)
  rw [lg_entry_eq]
  generalize (lg_sl ([.ref se, .ref reader, .ref a, .int (nI 8)]) ++ List.replicate (6 - (lg_sl ([.ref se, .ref reader, .ref a, .int (nI 8)])).length) Slot.unset).toArray = ls at hl ⊢
  have hl : lv_has ls 6 [(0, .ref se), (1, .ref reader), (2, .ref a), (3, .int (nI 8))] := hl
  refine q_name (fun Q hQ => ?_)
  generalize ([.ref se, .ref reader, .ref a, .int (nI 8)] : List Value).toArray = args at hts hQ ⊢
  refine lv_aload_n hx hb dX9_readAll_0 rfl (lv_at hl 0 rfl) ?_
  refine lv_aload_n hx hb dX9_readAll_1 rfl (lv_at hl 1 rfl) ?_
  refine lv_aload_n hx hb dX9_readAll_2 rfl (lv_at hl 2 rfl) ?_
  refine lv_iload_n hx hb dX9_readAll_3 rfl (lv_at hl 3 rfl) ?_
  refine r_call_i (wr := []) (va_runV (As := [.ref reader, .ref a, .int (nI 8)]) (rest := []) ⟨hx, hb, hml, hown, hts⟩ (c_n_readOne8 l dC dI ky s.heap.size adK adV se ccodes ccodeCount cones ccodesF reader rtape rlength rmostBytes rplace rkind rbegin rword rnumber rletters rfaultKind rfaultPlace rtapeF a wide high heat cools skinHeat today stirs steps lumps boats thickness lumpNames lumpCells boatNames boatCells loads spoons spoonsLeft depths lumpNamesF iv_cse_0 iv_rreader_0 iv_rreader_1 iv_rreader_2 iv_rreader_3 iv_a_0 iv_a_1 iv_a_2 iv_a_3 iv_a_4 iv_a_5) (cwV 3 hts gX9_readAll_X9_readOne rfl rfl rfl (by decide +kernel) ⟨(Nat.le_of_ble_eq_true rfl), (Nat.le_of_ble_eq_true rfl)⟩) (pre_UEV hE hS hA hK hP hD [0, 1, 2, 3, 4, 5] (by decide) rfl (va_recv hK hP (ci := 9) (q0 := 0) rfl rfl)) rfl rfl hl.1 rfl (lv_room (Nat.le_of_ble_eq_true rfl)) dX9_readAll_4 ⟨(Nat.le_of_ble_eq_true rfl), (Nat.le_of_ble_eq_true rfl)⟩) hP hD hS hA [0, 1, 2, 3, 4, 5] [] rfl rfl (by decide) (by decide) (fun r3 u1 H locs p2 hP hD hS => ?_)
  obtain ⟨ccodeCountG_4, conesG_5, ccodesG_6, rplaceG_7, rkindG_8, rbeginG_9, rwordG_10, rnumberG_11, rlettersG_12, rfaultKindG_13, rfaultPlaceG_14⟩ := u1
  try dsimp only at p2
  obtain ⟨p15, p16, p17, p18⟩ := p2
  refine W.widen (k := 0) (n := 0) (Nat.le_of_ble_eq_true rfl) (Nat.le_of_ble_eq_true rfl) ?_
  have hP : va_P (dC, dI) vwCl [(se, .inr (9, [.ref ccodes, .int (nI ccodeCountG_4), .int conesG_5])), (ccodes, .inl (ky 0, 40, .inl ccodesG_6)), (reader, .inr (5, [.ref rtape, .int (nI rlength), .int (nI rmostBytes), .int (nI rplaceG_7), .int rkindG_8, .int (nI rbeginG_9), .int rwordG_10, .int rnumberG_11, .long rlettersG_12, .int rfaultKindG_13, .int rfaultPlaceG_14])), (rtape, .inl (ky 2, 940, .inl rtapeF)), (a, .inr (7, [.int (nI wide), .int (nI high), .int heat, .int cools, .int skinHeat, .int today, .int stirs, .int steps, .int (nI lumps), .int (nI boats), .ref thickness, .ref lumpNames, .ref lumpCells, .ref boatNames, .ref boatCells, .ref loads, .ref spoons, .ref spoonsLeft, .ref depths])), (lumpNames, .inl (ky 1, 6, .inr (.inl lumpNamesF)))] H := hP
  have hD : va_D A [(se, .inr (9, [.ref ccodes, .int (nI ccodeCountG_4), .int conesG_5])), (ccodes, .inl (ky 0, 40, .inl ccodesG_6)), (reader, .inr (5, [.ref rtape, .int (nI rlength), .int (nI rmostBytes), .int (nI rplaceG_7), .int rkindG_8, .int (nI rbeginG_9), .int rwordG_10, .int rnumberG_11, .long rlettersG_12, .int rfaultKindG_13, .int rfaultPlaceG_14])), (rtape, .inl (ky 2, 940, .inl rtapeF)), (a, .inr (7, [.int (nI wide), .int (nI high), .int heat, .int cools, .int skinHeat, .int today, .int stirs, .int steps, .int (nI lumps), .int (nI boats), .ref thickness, .ref lumpNames, .ref lumpCells, .ref boatNames, .ref boatCells, .ref loads, .ref spoons, .ref spoonsLeft, .ref depths])), (lumpNames, .inl (ky 1, 6, .inr (.inl lumpNamesF)))] := hD
  refine lv_istore (lv' := [(4, .int r3), (0, .ref se), (1, .ref reader), (2, .ref a), (3, .int (nI 8))]) hx hb dX9_readAll_7 hl (by decide) rfl (fun ls hl => ?_)
  refine lv_iconst (v := nI 0) hx hb dX9_readAll_9 (by decide) ?_
  refine lv_istore (lv' := [(5, .int (nI 0)), (4, .int r3), (0, .ref se), (1, .ref reader), (2, .ref a), (3, .int (nI 8))]) hx hb dX9_readAll_10 hl (by decide) rfl (fun ls hl => ?_)
  have hL76 : ∀ (n77 : Nat) (k57 : Nat) (x58 : Int32) (k59 : Nat) (x60 : Int32) (f61 : Nat → Int32) (k62 : Nat) (x63 : Int32) (k64 : Nat) (x65 : Int32) (x66 : Int32) (w67 : Int64) (x68 : Int32) (x69 : Int32), (k57 ≤ 20) → (x58 = nI 0 ∨ x58 = nI 1) → (k59 ≤ 40) → (k62 ≤ 940) → (k64 ≤ 940) → (k62 ≤ rlength) → 20 - k57 < n77 → ∀ (H : Heap) (locs : List Loc) (ls : Array Slot), va_P (dC, dI) vwCl [(se, .inr (9, [.ref ccodes, .int (nI k59), .int x60])), (ccodes, .inl (ky 0, 40, .inl f61)), (reader, .inr (5, [.ref rtape, .int (nI rlength), .int (nI rmostBytes), .int (nI k62), .int x63, .int (nI k64), .int x65, .int x66, .long w67, .int x68, .int x69])), (rtape, .inl (ky 2, 940, .inl rtapeF)), (a, .inr (7, [.int (nI wide), .int (nI high), .int heat, .int cools, .int skinHeat, .int today, .int stirs, .int steps, .int (nI lumps), .int (nI boats), .ref thickness, .ref lumpNames, .ref lumpCells, .ref boatNames, .ref boatCells, .ref loads, .ref spoons, .ref spoonsLeft, .ref depths])), (lumpNames, .inl (ky 1, 6, .inr (.inl lumpNamesF)))] H → va_D A [(se, .inr (9, [.ref ccodes, .int (nI k59), .int x60])), (ccodes, .inl (ky 0, 40, .inl f61)), (reader, .inr (5, [.ref rtape, .int (nI rlength), .int (nI rmostBytes), .int (nI k62), .int x63, .int (nI k64), .int x65, .int x66, .long w67, .int x68, .int x69])), (rtape, .inl (ky 2, 940, .inl rtapeF)), (a, .inr (7, [.int (nI wide), .int (nI high), .int heat, .int cools, .int skinHeat, .int today, .int stirs, .int steps, .int (nI lumps), .int (nI boats), .ref thickness, .ref lumpNames, .ref lumpCells, .ref boatNames, .ref boatCells, .ref loads, .ref spoons, .ref spoonsLeft, .ref depths])), (lumpNames, .inl (ky 1, 6, .inr (.inl lumpNamesF)))] → va_S A s.heap H locs → lv_has ls 6 [(5, .int (nI k57)), (4, .int x58), (0, .ref se), (1, .ref reader), (2, .ref a), (3, .int (nI 8))] → W p l e (headSpec wsX9_readAll ({ frames := 9, cells := 0, slots := 0, locals := 206 })).room s m args below meth c H locs 0 0 Q (F0 m 12 ls []) := by
    intro n77
    induction n77 with
    | zero => intro k57 x58 k59 x60 f61 k62 x63 k64 x65 x66 w67 x68 x69 _ _ _ _ _ _ h9; exact absurd h9 (Nat.not_lt_zero _)
    | succ n77 ih78 =>
      intro k57 x58 k59 x60 f61 k62 x63 k64 x65 x66 w67 x68 x69 j70 j71 j72 j73 j74 j75 hm79 H locs ls hP hD hS hl
      refine lv_iload hx hb dX9_readAll_12 (lv_at hl 0 rfl) ?_
      refine lv_bipush (v := nI 20) hx hb dX9_readAll_14 (by decide) ?_
      refine n_icmp_ge (x := k57) (y := 20) (tgt := 69) hx hb (by omega) (by omega) dX9_readAll_16 (by decide) (fun c80 => ?_) (fun c80 => ?_)
      · refine lv_iload hx hb dX9_readAll_69 (lv_at hl 1 rfl) ?_
        rw [hQ]
        exact W.zret (v := x58) hx hb hr ((lf_n_readAll8_1 x58 j71)) (fun t9 ht9 hW9 => ⟨⟨x58, (k59, x60, f61, k62, x63, k64, x65, x66, w67, x68, x69), rfl, ⟨j71, j72, j75, j74⟩, by rw [ht9]; exact hP, va_K.moved hW9.alike hK, hD⟩, hS.F ht9⟩) hS.2.2 dX9_readAll_71
      · refine lv_iload hx hb dX9_readAll_19 (lv_at hl 1 rfl) ?_
        refine lv_if_eq (tgt := 69) hx hb dX9_readAll_21 (by decide) (fun c81 => ?_) (fun c81 => ?_)
        · refine lv_iload hx hb dX9_readAll_69 (lv_at hl 1 rfl) ?_
          rw [hQ]
          exact W.zret (v := x58) hx hb hr ((lf_n_readAll8_2 x58 j71 c81)) (fun t9 ht9 hW9 => ⟨⟨x58, (k59, x60, f61, k62, x63, k64, x65, x66, w67, x68, x69), rfl, ⟨j71, j72, j75, j74⟩, by rw [ht9]; exact hP, va_K.moved hW9.alike hK, hD⟩, hS.F ht9⟩) hS.2.2 dX9_readAll_71
        · refine lv_aload_n hx hb dX9_readAll_24 rfl (lv_at hl 3 rfl) ?_
          refine vp_callSi (W.runV (As := []) (rest := []) ⟨hx, hb, hml, hown, hts⟩ (c_r_nextWord l dC dI ky reader rtape rlength rmostBytes k62 x63 k64 x65 x66 w67 x68 x69 iv_rreader_0 j75 iv_rreader_2 j74) (cwV 0 hts gX9_readAll_X5_nextWord rfl rfl rfl (by decide +kernel) ⟨(Nat.le_of_ble_eq_true rfl), (Nat.le_of_ble_eq_true rfl)⟩) (pre_PV hK hP [2] rfl (ci := 5) (q0 := 2) rfl rfl) rfl rfl hl.1 rfl (lv_room (Nat.le_of_ble_eq_true rfl)) dX9_readAll_25 ⟨(Nat.le_of_ble_eq_true rfl), (Nat.le_of_ble_eq_true rfl)⟩) (fun r82 p83 => ?_)
          refine lv_bipush (v := nI 21) hx hb dX9_readAll_28 (by decide) ?_
          refine lv_icmp_ne (tgt := 69) hx hb dX9_readAll_30 (by decide) (fun c84 => ?_) (fun c84 => ?_)
          · refine lv_iload hx hb dX9_readAll_69 (lv_at hl 1 rfl) ?_
            rw [hQ]
            exact W.zret (v := x58) hx hb hr ((lf_n_readAll8_3 x58 j71 c81 p83)) (fun t9 ht9 hW9 => ⟨⟨x58, (k59, x60, f61, k62, x63, k64, x65, x66, w67, x68, x69), rfl, ⟨j71, j72, j75, j74⟩, by rw [ht9]; exact hP, va_K.moved hW9.alike hK, hD⟩, hS.F ht9⟩) hS.2.2 dX9_readAll_71
          · refine lv_aload_n hx hb dX9_readAll_33 rfl (lv_at hl 3 rfl) ?_
            refine r_call_v (wr := [(se, .inr (9, [.ref ccodes, .int (nI k59), .int x60])), (ccodes, .inl (ky 0, 40, .inl f61)), (a, .inr (7, [.int (nI wide), .int (nI high), .int heat, .int cools, .int skinHeat, .int today, .int stirs, .int steps, .int (nI lumps), .int (nI boats), .ref thickness, .ref lumpNames, .ref lumpCells, .ref boatNames, .ref boatCells, .ref loads, .ref spoons, .ref spoonsLeft, .ref depths])), (lumpNames, .inl (ky 1, 6, .inr (.inl lumpNamesF)))]) (va_runV (As := []) (rest := []) ⟨hx, hb, hml, hown, hts⟩ (c_r_advance l dC dI ky H.size adK adV reader rtape rlength rmostBytes k62 x63 k64 x65 x66 w67 x68 x69 rtapeF iv_rreader_0 j75 iv_rreader_2 j74) (cwV 0 hts gX9_readAll_X5_advance rfl rfl rfl (by decide +kernel) ⟨(Nat.le_of_ble_eq_true rfl), (Nat.le_of_ble_eq_true rfl)⟩) (pre_UEV hE hS hA hK hP hD [2, 3] (by decide) rfl (va_recv hK hP (ci := 5) (q0 := 2) rfl rfl)) rfl rfl hl.1 rfl (lv_room (Nat.le_of_ble_eq_true rfl)) dX9_readAll_34 ⟨(Nat.le_of_ble_eq_true rfl), (Nat.le_of_ble_eq_true rfl)⟩) hP hD hS hA [2, 3] [0, 1, 4, 5] rfl rfl (by decide) (by decide) (fun  u85 H locs p86 hP hD hS => ?_)
            obtain ⟨rplaceG_87, rkindG_88, rbeginG_89, rwordG_90, rnumberG_91, rlettersG_92⟩ := u85
            try dsimp only at p86
            obtain ⟨p93, p94⟩ := p86
            refine W.widen (k := 0) (n := 0) (Nat.le_of_ble_eq_true rfl) (Nat.le_of_ble_eq_true rfl) ?_
            have hP : va_P (dC, dI) vwCl [(se, .inr (9, [.ref ccodes, .int (nI k59), .int x60])), (ccodes, .inl (ky 0, 40, .inl f61)), (a, .inr (7, [.int (nI wide), .int (nI high), .int heat, .int cools, .int skinHeat, .int today, .int stirs, .int steps, .int (nI lumps), .int (nI boats), .ref thickness, .ref lumpNames, .ref lumpCells, .ref boatNames, .ref boatCells, .ref loads, .ref spoons, .ref spoonsLeft, .ref depths])), (lumpNames, .inl (ky 1, 6, .inr (.inl lumpNamesF))), (reader, .inr (5, [.ref rtape, .int (nI rlength), .int (nI rmostBytes), .int (nI rplaceG_87), .int rkindG_88, .int (nI rbeginG_89), .int rwordG_90, .int rnumberG_91, .long rlettersG_92, .int x68, .int x69])), (rtape, .inl (ky 2, 940, .inl rtapeF))] H := hP
            have hD : va_D A [(se, .inr (9, [.ref ccodes, .int (nI k59), .int x60])), (ccodes, .inl (ky 0, 40, .inl f61)), (a, .inr (7, [.int (nI wide), .int (nI high), .int heat, .int cools, .int skinHeat, .int today, .int stirs, .int steps, .int (nI lumps), .int (nI boats), .ref thickness, .ref lumpNames, .ref lumpCells, .ref boatNames, .ref boatCells, .ref loads, .ref spoons, .ref spoonsLeft, .ref depths])), (lumpNames, .inl (ky 1, 6, .inr (.inl lumpNamesF))), (reader, .inr (5, [.ref rtape, .int (nI rlength), .int (nI rmostBytes), .int (nI rplaceG_87), .int rkindG_88, .int (nI rbeginG_89), .int rwordG_90, .int rnumberG_91, .long rlettersG_92, .int x68, .int x69])), (rtape, .inl (ky 2, 940, .inl rtapeF))] := hD
            refine lv_aload_n hx hb dX9_readAll_37 rfl (lv_at hl 2 rfl) ?_
            refine lv_aload_n hx hb dX9_readAll_38 rfl (lv_at hl 3 rfl) ?_
            refine lv_aload_n hx hb dX9_readAll_39 rfl (lv_at hl 4 rfl) ?_
            refine lv_iload_n hx hb dX9_readAll_40 rfl (lv_at hl 5 rfl) ?_
            refine r_call_i (wr := []) (va_runV (As := [.ref reader, .ref a, .int (nI 8)]) (rest := []) ⟨hx, hb, hml, hown, hts⟩ (c_n_readOne8 l dC dI ky H.size adK adV se ccodes k59 x60 f61 reader rtape rlength rmostBytes rplaceG_87 rkindG_88 rbeginG_89 rwordG_90 rnumberG_91 rlettersG_92 x68 x69 rtapeF a wide high heat cools skinHeat today stirs steps lumps boats thickness lumpNames lumpCells boatNames boatCells loads spoons spoonsLeft depths lumpNamesF j72 iv_rreader_0 p93 iv_rreader_2 p94 iv_a_0 iv_a_1 iv_a_2 iv_a_3 iv_a_4 iv_a_5) (cwV 3 hts gX9_readAll_X9_readOne rfl rfl rfl (by decide +kernel) ⟨(Nat.le_of_ble_eq_true rfl), (Nat.le_of_ble_eq_true rfl)⟩) (pre_UEV hE hS hA hK hP hD [0, 1, 4, 5, 2, 3] (by decide) rfl (va_recv hK hP (ci := 9) (q0 := 0) rfl rfl)) rfl rfl hl.1 rfl (lv_room (Nat.le_of_ble_eq_true rfl)) dX9_readAll_41 ⟨(Nat.le_of_ble_eq_true rfl), (Nat.le_of_ble_eq_true rfl)⟩) hP hD hS hA [0, 1, 4, 5, 2, 3] [] rfl rfl (by decide) (by decide) (fun r97 u95 H locs p96 hP hD hS => ?_)
            obtain ⟨ccodeCountG_98, conesG_99, ccodesG_100, rplaceG_101, rkindG_102, rbeginG_103, rwordG_104, rnumberG_105, rlettersG_106, rfaultKindG_107, rfaultPlaceG_108⟩ := u95
            try dsimp only at p96
            obtain ⟨p109, p110, p111, p112⟩ := p96
            refine W.widen (k := 0) (n := 0) (Nat.le_of_ble_eq_true rfl) (Nat.le_of_ble_eq_true rfl) ?_
            have hP : va_P (dC, dI) vwCl [(se, .inr (9, [.ref ccodes, .int (nI ccodeCountG_98), .int conesG_99])), (ccodes, .inl (ky 0, 40, .inl ccodesG_100)), (reader, .inr (5, [.ref rtape, .int (nI rlength), .int (nI rmostBytes), .int (nI rplaceG_101), .int rkindG_102, .int (nI rbeginG_103), .int rwordG_104, .int rnumberG_105, .long rlettersG_106, .int rfaultKindG_107, .int rfaultPlaceG_108])), (rtape, .inl (ky 2, 940, .inl rtapeF)), (a, .inr (7, [.int (nI wide), .int (nI high), .int heat, .int cools, .int skinHeat, .int today, .int stirs, .int steps, .int (nI lumps), .int (nI boats), .ref thickness, .ref lumpNames, .ref lumpCells, .ref boatNames, .ref boatCells, .ref loads, .ref spoons, .ref spoonsLeft, .ref depths])), (lumpNames, .inl (ky 1, 6, .inr (.inl lumpNamesF)))] H := hP
            have hD : va_D A [(se, .inr (9, [.ref ccodes, .int (nI ccodeCountG_98), .int conesG_99])), (ccodes, .inl (ky 0, 40, .inl ccodesG_100)), (reader, .inr (5, [.ref rtape, .int (nI rlength), .int (nI rmostBytes), .int (nI rplaceG_101), .int rkindG_102, .int (nI rbeginG_103), .int rwordG_104, .int rnumberG_105, .long rlettersG_106, .int rfaultKindG_107, .int rfaultPlaceG_108])), (rtape, .inl (ky 2, 940, .inl rtapeF)), (a, .inr (7, [.int (nI wide), .int (nI high), .int heat, .int cools, .int skinHeat, .int today, .int stirs, .int steps, .int (nI lumps), .int (nI boats), .ref thickness, .ref lumpNames, .ref lumpCells, .ref boatNames, .ref boatCells, .ref loads, .ref spoons, .ref spoonsLeft, .ref depths])), (lumpNames, .inl (ky 1, 6, .inr (.inl lumpNamesF)))] := hD
            refine lv_if_eq (tgt := 60) hx hb dX9_readAll_44 (by decide) (fun c113 => ?_) (fun c113 => ?_)
            · refine lv_iconst (v := nI 0) hx hb dX9_readAll_60 (by decide) ?_
              refine lv_istore (lv' := [(4, .int (nI 0)), (5, .int (nI k57)), (0, .ref se), (1, .ref reader), (2, .ref a), (3, .int (nI 8))]) hx hb dX9_readAll_61 hl (by decide) rfl (fun ls hl => ?_)
              refine lv_iinc (v := nI (k57 + 1)) (lv' := [(5, .int (nI (k57 + 1))), (4, .int (nI 0)), (0, .ref se), (1, .ref reader), (2, .ref a), (3, .int (nI 8))]) hx hb dX9_readAll_63 hl (k := 1) rfl (show nI k57 + nI 1 = nI (k57 + 1) from nI_add _ _) (by decide) rfl (fun ls hl => ?_)
              refine lv_goto (tgt := 12) hx hb dX9_readAll_66 (by decide) ?_
              exact ih78 (k57 + 1) (nI 0) ccodeCountG_98 conesG_99 ccodesG_100 rplaceG_101 rkindG_102 rbeginG_103 rwordG_104 rnumberG_105 rlettersG_106 rfaultKindG_107 rfaultPlaceG_108 (lf_n_readAll8_4 k57 n77 j70 hm79 c80 p83) (lf_n_readAll8_5 p83) p110 (lf_n_readAll8_6 rlength rplace rplaceG_7 k62 rplaceG_87 rplaceG_101 iv_rreader_0 iv_rreader_1 p17 j73 j75 p83 p93 p111) p112 p111 (lf_n_readAll8_7 k57 n77 j70 hm79 c80 p83) _ _ _ hP hD hS (lv_sub hl [0, 1, 2, 3, 4, 5] rfl)
            · refine lv_aload_n hx hb dX9_readAll_47 rfl (lv_at hl 2 rfl) ?_
              refine lv_bipush (v := nI 21) hx hb dX9_readAll_48 (by decide) ?_
              refine r_call_i (wr := [(reader, .inr (5, [.ref rtape, .int (nI rlength), .int (nI rmostBytes), .int (nI rplaceG_101), .int rkindG_102, .int (nI rbeginG_103), .int rwordG_104, .int rnumberG_105, .long rlettersG_106, .int rfaultKindG_107, .int rfaultPlaceG_108])), (rtape, .inl (ky 2, 940, .inl rtapeF)), (a, .inr (7, [.int (nI wide), .int (nI high), .int heat, .int cools, .int skinHeat, .int today, .int stirs, .int steps, .int (nI lumps), .int (nI boats), .ref thickness, .ref lumpNames, .ref lumpCells, .ref boatNames, .ref boatCells, .ref loads, .ref spoons, .ref spoonsLeft, .ref depths])), (lumpNames, .inl (ky 1, 6, .inr (.inl lumpNamesF)))]) (va_runV (As := [.int (nI 21)]) (rest := []) ⟨hx, hb, hml, hown, hts⟩ (c_n_put l dC dI ky H.size se ccodes ccodeCountG_98 conesG_99 ccodesG_100 (nI 21) p110) (cwV 1 hts gX9_readAll_X9_put rfl rfl rfl (by decide +kernel) ⟨(Nat.le_of_ble_eq_true rfl), (Nat.le_of_ble_eq_true rfl)⟩) (pre_UV hK hP hD [0, 1] (by decide) rfl (ci := 9) (q0 := 0) rfl rfl) rfl rfl hl.1 rfl (lv_room (Nat.le_of_ble_eq_true rfl)) dX9_readAll_50 ⟨(Nat.le_of_ble_eq_true rfl), (Nat.le_of_ble_eq_true rfl)⟩) hP hD hS hA [0, 1] [2, 3, 4, 5] rfl rfl (by decide) (by decide) (fun r116 u114 H locs p115 hP hD hS => ?_)
              obtain ⟨ccodeCountG_117, ccodesG_118⟩ := u114
              try dsimp only at p115
              obtain ⟨p119, p120⟩ := p115
              refine W.widen (k := 0) (n := 0) (Nat.le_of_ble_eq_true rfl) (Nat.le_of_ble_eq_true rfl) ?_
              have hP : va_P (dC, dI) vwCl [(reader, .inr (5, [.ref rtape, .int (nI rlength), .int (nI rmostBytes), .int (nI rplaceG_101), .int rkindG_102, .int (nI rbeginG_103), .int rwordG_104, .int rnumberG_105, .long rlettersG_106, .int rfaultKindG_107, .int rfaultPlaceG_108])), (rtape, .inl (ky 2, 940, .inl rtapeF)), (a, .inr (7, [.int (nI wide), .int (nI high), .int heat, .int cools, .int skinHeat, .int today, .int stirs, .int steps, .int (nI lumps), .int (nI boats), .ref thickness, .ref lumpNames, .ref lumpCells, .ref boatNames, .ref boatCells, .ref loads, .ref spoons, .ref spoonsLeft, .ref depths])), (lumpNames, .inl (ky 1, 6, .inr (.inl lumpNamesF))), (se, .inr (9, [.ref ccodes, .int (nI ccodeCountG_117), .int conesG_99])), (ccodes, .inl (ky 0, 40, .inl ccodesG_118))] H := hP
              have hD : va_D A [(reader, .inr (5, [.ref rtape, .int (nI rlength), .int (nI rmostBytes), .int (nI rplaceG_101), .int rkindG_102, .int (nI rbeginG_103), .int rwordG_104, .int rnumberG_105, .long rlettersG_106, .int rfaultKindG_107, .int rfaultPlaceG_108])), (rtape, .inl (ky 2, 940, .inl rtapeF)), (a, .inr (7, [.int (nI wide), .int (nI high), .int heat, .int cools, .int skinHeat, .int today, .int stirs, .int steps, .int (nI lumps), .int (nI boats), .ref thickness, .ref lumpNames, .ref lumpCells, .ref boatNames, .ref boatCells, .ref loads, .ref spoons, .ref spoonsLeft, .ref depths])), (lumpNames, .inl (ky 1, 6, .inr (.inl lumpNamesF))), (se, .inr (9, [.ref ccodes, .int (nI ccodeCountG_117), .int conesG_99])), (ccodes, .inl (ky 0, 40, .inl ccodesG_118))] := hD
              refine lv_if_eq (tgt := 60) hx hb dX9_readAll_53 (by decide) (fun c121 => ?_) (fun c121 => ?_)
              · refine lv_iconst (v := nI 0) hx hb dX9_readAll_60 (by decide) ?_
                refine lv_istore (lv' := [(4, .int (nI 0)), (5, .int (nI k57)), (0, .ref se), (1, .ref reader), (2, .ref a), (3, .int (nI 8))]) hx hb dX9_readAll_61 hl (by decide) rfl (fun ls hl => ?_)
                refine lv_iinc (v := nI (k57 + 1)) (lv' := [(5, .int (nI (k57 + 1))), (4, .int (nI 0)), (0, .ref se), (1, .ref reader), (2, .ref a), (3, .int (nI 8))]) hx hb dX9_readAll_63 hl (k := 1) rfl (show nI k57 + nI 1 = nI (k57 + 1) from nI_add _ _) (by decide) rfl (fun ls hl => ?_)
                refine lv_goto (tgt := 12) hx hb dX9_readAll_66 (by decide) ?_
                exact ih78 (k57 + 1) (nI 0) ccodeCountG_117 conesG_99 ccodesG_118 rplaceG_101 rkindG_102 rbeginG_103 rwordG_104 rnumberG_105 rlettersG_106 rfaultKindG_107 rfaultPlaceG_108 (lf_n_readAll8_8 k57 n77 j70 hm79 c80 p83) (lf_n_readAll8_9 p83) p120 (lf_n_readAll8_10 rlength rplace rplaceG_7 k62 rplaceG_87 rplaceG_101 iv_rreader_0 iv_rreader_1 p17 j73 j75 p83 p93 p111) p112 p111 (lf_n_readAll8_11 k57 n77 j70 hm79 c80 p83) _ _ _ (hP.sub [4, 5, 0, 1, 2, 3] rfl) (hD.sub [4, 5, 0, 1, 2, 3] (by decide) rfl) hS (lv_sub hl [0, 1, 2, 3, 4, 5] rfl)
              · refine lv_iconst (v := nI 1) hx hb dX9_readAll_56 (by decide) ?_
                refine lv_goto (tgt := 61) hx hb dX9_readAll_57 (by decide) ?_
                refine lv_istore (lv' := [(4, .int (nI 1)), (5, .int (nI k57)), (0, .ref se), (1, .ref reader), (2, .ref a), (3, .int (nI 8))]) hx hb dX9_readAll_61 hl (by decide) rfl (fun ls hl => ?_)
                refine lv_iinc (v := nI (k57 + 1)) (lv' := [(5, .int (nI (k57 + 1))), (4, .int (nI 1)), (0, .ref se), (1, .ref reader), (2, .ref a), (3, .int (nI 8))]) hx hb dX9_readAll_63 hl (k := 1) rfl (show nI k57 + nI 1 = nI (k57 + 1) from nI_add _ _) (by decide) rfl (fun ls hl => ?_)
                refine lv_goto (tgt := 12) hx hb dX9_readAll_66 (by decide) ?_
                exact ih78 (k57 + 1) (nI 1) ccodeCountG_117 conesG_99 ccodesG_118 rplaceG_101 rkindG_102 rbeginG_103 rwordG_104 rnumberG_105 rlettersG_106 rfaultKindG_107 rfaultPlaceG_108 (lf_n_readAll8_12 k57 n77 j70 hm79 c80 p83) (lf_n_readAll8_13 p83) p120 (lf_n_readAll8_14 rlength rplace rplaceG_7 k62 rplaceG_87 rplaceG_101 iv_rreader_0 iv_rreader_1 p17 j73 j75 p83 p93 p111) p112 p111 (lf_n_readAll8_15 k57 n77 j70 hm79 c80 p83) _ _ _ (hP.sub [4, 5, 0, 1, 2, 3] rfl) (hD.sub [4, 5, 0, 1, 2, 3] (by decide) rfl) hS (lv_sub hl [0, 1, 2, 3, 4, 5] rfl)
  exact hL76 ((20 - 0) + 1) 0 r3 ccodeCountG_4 conesG_5 ccodesG_6 rplaceG_7 rkindG_8 rbeginG_9 rwordG_10 rnumberG_11 rlettersG_12 rfaultKindG_13 rfaultPlaceG_14 (lf_n_readAll8_16) p15 p16 (lf_n_readAll8_17 rlength rplace rplaceG_7 iv_rreader_0 iv_rreader_1 p17) p18 p17 (Nat.lt_succ_self _) _ _ _ hP hD hS (lv_sub hl [0, 1, 2, 3, 4, 5] rfl)
set_option maxRecDepth 20000 in
theorem lf_n_readCond8_1 (x58 : Int32) (j71 : x58 = nI 0 ∨ x58 = nI 1) : narrow .boolean (.int x58) = .int x58 := by
  have h : x58 = 0 ∨ x58 = 1 := by
    have b_x58 := ia_b x58
    try have k_0 := ia_n 0 (by first | decide | omega)
    try have k_1 := ia_n 1 (by first | decide | omega)
    try simp only [ia_lt, ia_le, ia_eq, ia_m1, ia_0, ia_1, ne_eq, true_and, and_true, false_and, and_false, or_false, false_or, or_true, true_or, not_true_eq_false, not_false_eq_true] at *
    all_goals omega
  rcases h with h | h <;> rw [h] <;> rfl
set_option maxRecDepth 20000 in
theorem lf_n_readCond8_2 (x58 : Int32) (j71 : x58 = nI 0 ∨ x58 = nI 1) (c81 : x58 = 0) : narrow .boolean (.int x58) = .int x58 := by
  have h : x58 = 0 ∨ x58 = 1 := by
    have b_x58 := ia_b x58
    try have k_0 := ia_n 0 (by first | decide | omega)
    try have k_1 := ia_n 1 (by first | decide | omega)
    try simp only [ia_lt, ia_le, ia_eq, ia_m1, ia_0, ia_1, ne_eq, true_and, and_true, false_and, and_false, or_false, false_or, or_true, true_or, not_true_eq_false, not_false_eq_true] at *
    all_goals omega
  rcases h with h | h <;> rw [h] <;> rfl
set_option maxRecDepth 20000 in
theorem lf_n_readCond8_3 (x58 : Int32) (j71 : x58 = nI 0 ∨ x58 = nI 1) (c81 : ¬ x58 = 0) (p83 : True) : narrow .boolean (.int x58) = .int x58 := by
  have h : x58 = 0 ∨ x58 = 1 := by
    have b_x58 := ia_b x58
    try have k_0 := ia_n 0 (by first | decide | omega)
    try have k_1 := ia_n 1 (by first | decide | omega)
    try simp only [ia_lt, ia_le, ia_eq, ia_m1, ia_0, ia_1, ne_eq, true_and, and_true, false_and, and_false, or_false, false_or, or_true, true_or, not_true_eq_false, not_false_eq_true] at *
    all_goals omega
  rcases h with h | h <;> rw [h] <;> rfl
set_option maxRecDepth 20000 in
theorem lf_n_readCond8_4 (k57 : Nat) (n77 : Nat) (j70 : k57 ≤ 20) (hm79 : 20 - k57 < n77 + 1) (c80 : k57 < 20) (p83 : True) : (k57 + 1) ≤ 20 := by
  try simp only [ia_lt, ia_le, ia_eq, ia_m1, ia_0, ia_1, ne_eq, true_and, and_true, false_and, and_false, or_false, false_or, or_true, true_or, not_true_eq_false, not_false_eq_true] at *
  all_goals omega
set_option maxRecDepth 20000 in
theorem lf_n_readCond8_5  (p83 : True) : (nI 0) = nI 0 ∨ (nI 0) = nI 1 := by
  try have k_0 := ia_n 0 (by first | decide | omega)
  try have k_1 := ia_n 1 (by first | decide | omega)
  try simp only [ia_lt, ia_le, ia_eq, ia_m1, ia_0, ia_1, ne_eq, true_and, and_true, false_and, and_false, or_false, false_or, or_true, true_or, not_true_eq_false, not_false_eq_true] at *
  all_goals omega
set_option maxRecDepth 20000 in
theorem lf_n_readCond8_6 (rlength : Nat) (rplace : Nat) (rplaceG_7 : Nat) (k62 : Nat) (rplaceG_87 : Nat) (rplaceG_101 : Nat) (iv_rreader_0 : rlength ≤ 940) (iv_rreader_1 : rplace ≤ rlength) (p17 : rplaceG_7 ≤ rlength) (j73 : k62 ≤ 940) (j75 : k62 ≤ rlength) (p83 : True) (p93 : rplaceG_87 ≤ rlength) (p111 : rplaceG_101 ≤ rlength) : rplaceG_101 ≤ 940 := by
  try simp only [ia_lt, ia_le, ia_eq, ia_m1, ia_0, ia_1, ne_eq, true_and, and_true, false_and, and_false, or_false, false_or, or_true, true_or, not_true_eq_false, not_false_eq_true] at *
  all_goals omega
set_option maxRecDepth 20000 in
theorem lf_n_readCond8_7 (k57 : Nat) (n77 : Nat) (j70 : k57 ≤ 20) (hm79 : 20 - k57 < n77 + 1) (c80 : k57 < 20) (p83 : True) : 20 - (k57 + 1) < n77 := by
  try simp only [ia_lt, ia_le, ia_eq, ia_m1, ia_0, ia_1, ne_eq, true_and, and_true, false_and, and_false, or_false, false_or, or_true, true_or, not_true_eq_false, not_false_eq_true] at *
  all_goals omega
set_option maxRecDepth 20000 in
theorem lf_n_readCond8_8 (k57 : Nat) (n77 : Nat) (j70 : k57 ≤ 20) (hm79 : 20 - k57 < n77 + 1) (c80 : k57 < 20) (p83 : True) : (k57 + 1) ≤ 20 := by
  try simp only [ia_lt, ia_le, ia_eq, ia_m1, ia_0, ia_1, ne_eq, true_and, and_true, false_and, and_false, or_false, false_or, or_true, true_or, not_true_eq_false, not_false_eq_true] at *
  all_goals omega
set_option maxRecDepth 20000 in
theorem lf_n_readCond8_9  (p83 : True) : (nI 0) = nI 0 ∨ (nI 0) = nI 1 := by
  try have k_0 := ia_n 0 (by first | decide | omega)
  try have k_1 := ia_n 1 (by first | decide | omega)
  try simp only [ia_lt, ia_le, ia_eq, ia_m1, ia_0, ia_1, ne_eq, true_and, and_true, false_and, and_false, or_false, false_or, or_true, true_or, not_true_eq_false, not_false_eq_true] at *
  all_goals omega
set_option maxRecDepth 20000 in
theorem lf_n_readCond8_10 (rlength : Nat) (rplace : Nat) (rplaceG_7 : Nat) (k62 : Nat) (rplaceG_87 : Nat) (rplaceG_101 : Nat) (iv_rreader_0 : rlength ≤ 940) (iv_rreader_1 : rplace ≤ rlength) (p17 : rplaceG_7 ≤ rlength) (j73 : k62 ≤ 940) (j75 : k62 ≤ rlength) (p83 : True) (p93 : rplaceG_87 ≤ rlength) (p111 : rplaceG_101 ≤ rlength) : rplaceG_101 ≤ 940 := by
  try simp only [ia_lt, ia_le, ia_eq, ia_m1, ia_0, ia_1, ne_eq, true_and, and_true, false_and, and_false, or_false, false_or, or_true, true_or, not_true_eq_false, not_false_eq_true] at *
  all_goals omega
set_option maxRecDepth 20000 in
theorem lf_n_readCond8_11 (k57 : Nat) (n77 : Nat) (j70 : k57 ≤ 20) (hm79 : 20 - k57 < n77 + 1) (c80 : k57 < 20) (p83 : True) : 20 - (k57 + 1) < n77 := by
  try simp only [ia_lt, ia_le, ia_eq, ia_m1, ia_0, ia_1, ne_eq, true_and, and_true, false_and, and_false, or_false, false_or, or_true, true_or, not_true_eq_false, not_false_eq_true] at *
  all_goals omega
set_option maxRecDepth 20000 in
theorem lf_n_readCond8_12 (k57 : Nat) (n77 : Nat) (j70 : k57 ≤ 20) (hm79 : 20 - k57 < n77 + 1) (c80 : k57 < 20) (p83 : True) : (k57 + 1) ≤ 20 := by
  try simp only [ia_lt, ia_le, ia_eq, ia_m1, ia_0, ia_1, ne_eq, true_and, and_true, false_and, and_false, or_false, false_or, or_true, true_or, not_true_eq_false, not_false_eq_true] at *
  all_goals omega
set_option maxRecDepth 20000 in
theorem lf_n_readCond8_13  (p83 : True) : (nI 1) = nI 0 ∨ (nI 1) = nI 1 := by
  try have k_0 := ia_n 1 (by first | decide | omega)
  try have k_1 := ia_n 0 (by first | decide | omega)
  try simp only [ia_lt, ia_le, ia_eq, ia_m1, ia_0, ia_1, ne_eq, true_and, and_true, false_and, and_false, or_false, false_or, or_true, true_or, not_true_eq_false, not_false_eq_true] at *
  all_goals omega
set_option maxRecDepth 20000 in
theorem lf_n_readCond8_14 (rlength : Nat) (rplace : Nat) (rplaceG_7 : Nat) (k62 : Nat) (rplaceG_87 : Nat) (rplaceG_101 : Nat) (iv_rreader_0 : rlength ≤ 940) (iv_rreader_1 : rplace ≤ rlength) (p17 : rplaceG_7 ≤ rlength) (j73 : k62 ≤ 940) (j75 : k62 ≤ rlength) (p83 : True) (p93 : rplaceG_87 ≤ rlength) (p111 : rplaceG_101 ≤ rlength) : rplaceG_101 ≤ 940 := by
  try simp only [ia_lt, ia_le, ia_eq, ia_m1, ia_0, ia_1, ne_eq, true_and, and_true, false_and, and_false, or_false, false_or, or_true, true_or, not_true_eq_false, not_false_eq_true] at *
  all_goals omega
set_option maxRecDepth 20000 in
theorem lf_n_readCond8_15 (k57 : Nat) (n77 : Nat) (j70 : k57 ≤ 20) (hm79 : 20 - k57 < n77 + 1) (c80 : k57 < 20) (p83 : True) : 20 - (k57 + 1) < n77 := by
  try simp only [ia_lt, ia_le, ia_eq, ia_m1, ia_0, ia_1, ne_eq, true_and, and_true, false_and, and_false, or_false, false_or, or_true, true_or, not_true_eq_false, not_false_eq_true] at *
  all_goals omega
set_option maxRecDepth 20000 in
theorem lf_n_readCond8_16   : 0 ≤ 20 := by
  try simp only [ia_lt, ia_le, ia_eq, ia_m1, ia_0, ia_1, ne_eq, true_and, and_true, false_and, and_false, or_false, false_or, or_true, true_or, not_true_eq_false, not_false_eq_true] at *
  all_goals omega
set_option maxRecDepth 20000 in
theorem lf_n_readCond8_17 (rlength : Nat) (rplace : Nat) (rplaceG_7 : Nat) (iv_rreader_0 : rlength ≤ 940) (iv_rreader_1 : rplace ≤ rlength) (p17 : rplaceG_7 ≤ rlength) : rplaceG_7 ≤ 940 := by
  try simp only [ia_lt, ia_le, ia_eq, ia_m1, ia_0, ia_1, ne_eq, true_and, and_true, false_and, and_false, or_false, false_or, or_true, true_or, not_true_eq_false, not_false_eq_true] at *
  all_goals omega
set_option maxHeartbeats 4000000 in
set_option maxRecDepth 100000 in
theorem c_n_readCond8 (l : Launch) (dC : Nat → ClassId) (dI : Nat → Nat → Nat) (ky : Nat → ClassId) (sz : Nat) (adK : Nat → Nat) (adV : Nat → Nat) (se : Nat) (ccodes : Nat) (ccodeCount : Nat) (cones : Int32) (ccodesF : Nat → Int32) (reader : Nat) (rtape : Nat) (rlength : Nat) (rmostBytes : Nat) (rplace : Nat) (rkind : Int32) (rbegin : Nat) (rword : Int32) (rnumber : Int32) (rletters : Int64) (rfaultKind : Int32) (rfaultPlace : Int32) (rtapeF : Nat → Int32) (a : Nat) (wide : Nat) (high : Nat) (heat : Int32) (cools : Int32) (skinHeat : Int32) (today : Int32) (stirs : Int32) (steps : Int32) (lumps : Nat) (boats : Nat) (thickness : Nat) (lumpNames : Nat) (lumpCells : Nat) (boatNames : Nat) (boatCells : Nat) (loads : Nat) (spoons : Nat) (spoonsLeft : Nat) (depths : Nat) (lumpNamesF : Nat → Int64) (iv_cse_0 : ccodeCount ≤ 40) (iv_rreader_0 : rlength ≤ 940) (iv_rreader_1 : rplace ≤ rlength) (iv_rreader_2 : rmostBytes ≤ 900) (iv_rreader_3 : rbegin ≤ 940) (iv_a_0 : 2 ≤ wide) (iv_a_1 : wide ≤ 6) (iv_a_2 : 2 ≤ high) (iv_a_3 : high ≤ 6) (iv_a_4 : lumps ≤ 6) (iv_a_5 : boats ≤ 6) : Met l yX9_readCond wsX9_readCond ({ frames := 10, cells := 0, slots := 0, locals := 231 }) (PcUE dC dI ky adK adV [.ref se, .ref reader, .ref a, .int (nI 8)] [(se, .inr (9, [.ref ccodes, .int (nI ccodeCount), .int cones])), (ccodes, .inl (ky 0, 40, .inl ccodesF)), (reader, .inr (5, [.ref rtape, .int (nI rlength), .int (nI rmostBytes), .int (nI rplace), .int rkind, .int (nI rbegin), .int rword, .int rnumber, .long rletters, .int rfaultKind, .int rfaultPlace])), (rtape, .inl (ky 2, 940, .inl rtapeF)), (a, .inr (7, [.int (nI wide), .int (nI high), .int heat, .int cools, .int skinHeat, .int today, .int stirs, .int steps, .int (nI lumps), .int (nI boats), .ref thickness, .ref lumpNames, .ref lumpCells, .ref boatNames, .ref boatCells, .ref loads, .ref spoons, .ref spoonsLeft, .ref depths])), (lumpNames, .inl (ky 1, 6, .inr (.inl lumpNamesF)))] sz) (va_Qi (fun (r : Int32) (u : Nat × Int32 × (Nat → Int32) × Nat × Int32 × Nat × Int32 × Int32 × Int64 × Int32 × Int32) => match u with | (ccodeCountG, conesG, ccodesG, rplaceG, rkindG, rbeginG, rwordG, rnumberG, rlettersG, rfaultKindG, rfaultPlaceG) => (r = nI 0 ∨ r = nI 1) ∧ (ccodeCountG ≤ 40) ∧ (rplaceG ≤ rlength) ∧ (rbeginG ≤ 940)) (BU dC dI ky (fun (u : Nat × Int32 × (Nat → Int32) × Nat × Int32 × Nat × Int32 × Int32 × Int64 × Int32 × Int32) => match u with | (ccodeCountG, conesG, ccodesG, rplaceG, rkindG, rbeginG, rwordG, rnumberG, rlettersG, rfaultKindG, rfaultPlaceG) => [(se, .inr (9, [.ref ccodes, .int (nI ccodeCountG), .int conesG])), (ccodes, .inl (ky 0, 40, .inl ccodesG)), (reader, .inr (5, [.ref rtape, .int (nI rlength), .int (nI rmostBytes), .int (nI rplaceG), .int rkindG, .int (nI rbeginG), .int rwordG, .int rnumberG, .long rlettersG, .int rfaultKindG, .int rfaultPlaceG])), (rtape, .inl (ky 2, 940, .inl rtapeF)), (a, .inr (7, [.int (nI wide), .int (nI high), .int heat, .int cools, .int skinHeat, .int today, .int stirs, .int steps, .int (nI lumps), .int (nI boats), .ref thickness, .ref lumpNames, .ref lumpCells, .ref boatNames, .ref boatCells, .ref loads, .ref spoons, .ref spoonsLeft, .ref depths])), (lumpNames, .inl (ky 1, 6, .inr (.inl lumpNamesF)))]) (va_A [(se, .inr (9, [.ref ccodes, .int (nI ccodeCount), .int cones])), (ccodes, .inl (ky 0, 40, .inl ccodesF)), (reader, .inr (5, [.ref rtape, .int (nI rlength), .int (nI rmostBytes), .int (nI rplace), .int rkind, .int (nI rbegin), .int rword, .int rnumber, .long rletters, .int rfaultKind, .int rfaultPlace])), (rtape, .inl (ky 2, 940, .inl rtapeF)), (a, .inr (7, [.int (nI wide), .int (nI high), .int heat, .int cools, .int skinHeat, .int today, .int stirs, .int steps, .int (nI lumps), .int (nI boats), .ref thickness, .ref lumpNames, .ref lumpCells, .ref boatNames, .ref boatCells, .ref loads, .ref spoons, .ref spoonsLeft, .ref depths])), (lumpNames, .inl (ky 1, 6, .inr (.inl lumpNamesF)))] sz)) (va_A [(se, .inr (9, [.ref ccodes, .int (nI ccodeCount), .int cones])), (ccodes, .inl (ky 0, 40, .inl ccodesF)), (reader, .inr (5, [.ref rtape, .int (nI rlength), .int (nI rmostBytes), .int (nI rplace), .int rkind, .int (nI rbegin), .int rword, .int rnumber, .long rletters, .int rfaultKind, .int rfaultPlace])), (rtape, .inl (ky 2, 940, .inl rtapeF)), (a, .inr (7, [.int (nI wide), .int (nI high), .int heat, .int cools, .int skinHeat, .int today, .int stirs, .int steps, .int (nI lumps), .int (nI boats), .ref thickness, .ref lumpNames, .ref lumpCells, .ref boatNames, .ref boatCells, .ref loads, .ref spoons, .ref spoonsLeft, .ref depths])), (lumpNames, .inl (ky 1, 6, .inr (.inl lumpNamesF)))] sz)) 0 0 (va_A [(se, .inr (9, [.ref ccodes, .int (nI ccodeCount), .int cones])), (ccodes, .inl (ky 0, 40, .inl ccodesF)), (reader, .inr (5, [.ref rtape, .int (nI rlength), .int (nI rmostBytes), .int (nI rplace), .int rkind, .int (nI rbegin), .int rword, .int rnumber, .long rletters, .int rfaultKind, .int rfaultPlace])), (rtape, .inl (ky 2, 940, .inl rtapeF)), (a, .inr (7, [.int (nI wide), .int (nI high), .int heat, .int cools, .int skinHeat, .int today, .int stirs, .int steps, .int (nI lumps), .int (nI boats), .ref thickness, .ref lumpNames, .ref lumpCells, .ref boatNames, .ref boatCells, .ref loads, .ref spoons, .ref spoonsLeft, .ref depths])), (lumpNames, .inl (ky 1, 6, .inr (.inl lumpNamesF)))] sz) := by
  refine Met.ofW (cc := cX9_readCond) (maxL := 6) (ret := (some .boolean)) (by decide) rfl ?_
  intro p e s m args below meth c s₁ B hml hv
  obtain ⟨rfl, hsz, hP, hK, hD0, hE⟩ := hv
  have hx := B.exec
  have hb := B.bytes
  have hr := B.returns
  have hts := atoms_spec (ws := wsX9_readCond) B.pre
  have hown : s.vm.findClass RX9 = some m.cls := findClass_of_methodNamed B.named
  have hlocks := B.notSynchronized
  subst hsz
  have hD := hD0.self (sz := s.heap.size)
  generalize hAe : va_A [(se, .inr (9, [.ref ccodes, .int (nI ccodeCount), .int cones])), (ccodes, .inl (ky 0, 40, .inl ccodesF)), (reader, .inr (5, [.ref rtape, .int (nI rlength), .int (nI rmostBytes), .int (nI rplace), .int rkind, .int (nI rbegin), .int rword, .int rnumber, .long rletters, .int rfaultKind, .int rfaultPlace])), (rtape, .inl (ky 2, 940, .inl rtapeF)), (a, .inr (7, [.int (nI wide), .int (nI high), .int heat, .int cools, .int skinHeat, .int today, .int stirs, .int steps, .int (nI lumps), .int (nI boats), .ref thickness, .ref lumpNames, .ref lumpCells, .ref boatNames, .ref boatCells, .ref loads, .ref spoons, .ref spoonsLeft, .ref depths])), (lumpNames, .inl (ky 1, 6, .inr (.inl lumpNamesF)))] s.heap.size = A at hD hE ⊢
  have hA : ∀ q : Nat, s.heap.size ≤ q → A q := fun q h => by rw [← hAe]; exact Or.inr h
  have hS : va_S A s.heap s.heap [] := va_S.rf
  have hl := lv_entry ([.ref se, .ref reader, .ref a, .int (nI 8)]) (n := 6) (Nat.le_of_ble_eq_true rfl)
  rw [lg_entry_eq]
  generalize (lg_sl ([.ref se, .ref reader, .ref a, .int (nI 8)]) ++ List.replicate (6 - (lg_sl ([.ref se, .ref reader, .ref a, .int (nI 8)])).length) Slot.unset).toArray = ls at hl ⊢
  have hl : lv_has ls 6 [(0, .ref se), (1, .ref reader), (2, .ref a), (3, .int (nI 8))] := hl
  refine q_name (fun Q hQ => ?_)
  generalize ([.ref se, .ref reader, .ref a, .int (nI 8)] : List Value).toArray = args at hts hQ ⊢
  refine lv_aload_n hx hb dX9_readCond_0 rfl (lv_at hl 0 rfl) ?_
  refine lv_aload_n hx hb dX9_readCond_1 rfl (lv_at hl 1 rfl) ?_
  refine lv_aload_n hx hb dX9_readCond_2 rfl (lv_at hl 2 rfl) ?_
  refine lv_iload_n hx hb dX9_readCond_3 rfl (lv_at hl 3 rfl) ?_
  refine r_call_i (wr := []) (va_runV (As := [.ref reader, .ref a, .int (nI 8)]) (rest := []) ⟨hx, hb, hml, hown, hts⟩ (c_n_readAll8 l dC dI ky s.heap.size adK adV se ccodes ccodeCount cones ccodesF reader rtape rlength rmostBytes rplace rkind rbegin rword rnumber rletters rfaultKind rfaultPlace rtapeF a wide high heat cools skinHeat today stirs steps lumps boats thickness lumpNames lumpCells boatNames boatCells loads spoons spoonsLeft depths lumpNamesF iv_cse_0 iv_rreader_0 iv_rreader_1 iv_rreader_2 iv_rreader_3 iv_a_0 iv_a_1 iv_a_2 iv_a_3 iv_a_4 iv_a_5) (cwV 3 hts gX9_readCond_X9_readAll rfl rfl rfl (by decide +kernel) ⟨(Nat.le_of_ble_eq_true rfl), (Nat.le_of_ble_eq_true rfl)⟩) (pre_UEV hE hS hA hK hP hD [0, 1, 2, 3, 4, 5] (by decide) rfl (va_recv hK hP (ci := 9) (q0 := 0) rfl rfl)) rfl rfl hl.1 rfl (lv_room (Nat.le_of_ble_eq_true rfl)) dX9_readCond_4 ⟨(Nat.le_of_ble_eq_true rfl), (Nat.le_of_ble_eq_true rfl)⟩) hP hD hS hA [0, 1, 2, 3, 4, 5] [] rfl rfl (by decide) (by decide) (fun r3 u1 H locs p2 hP hD hS => ?_)
  obtain ⟨ccodeCountG_4, conesG_5, ccodesG_6, rplaceG_7, rkindG_8, rbeginG_9, rwordG_10, rnumberG_11, rlettersG_12, rfaultKindG_13, rfaultPlaceG_14⟩ := u1
  try dsimp only at p2
  obtain ⟨p15, p16, p17, p18⟩ := p2
  refine W.widen (k := 0) (n := 0) (Nat.le_of_ble_eq_true rfl) (Nat.le_of_ble_eq_true rfl) ?_
  have hP : va_P (dC, dI) vwCl [(se, .inr (9, [.ref ccodes, .int (nI ccodeCountG_4), .int conesG_5])), (ccodes, .inl (ky 0, 40, .inl ccodesG_6)), (reader, .inr (5, [.ref rtape, .int (nI rlength), .int (nI rmostBytes), .int (nI rplaceG_7), .int rkindG_8, .int (nI rbeginG_9), .int rwordG_10, .int rnumberG_11, .long rlettersG_12, .int rfaultKindG_13, .int rfaultPlaceG_14])), (rtape, .inl (ky 2, 940, .inl rtapeF)), (a, .inr (7, [.int (nI wide), .int (nI high), .int heat, .int cools, .int skinHeat, .int today, .int stirs, .int steps, .int (nI lumps), .int (nI boats), .ref thickness, .ref lumpNames, .ref lumpCells, .ref boatNames, .ref boatCells, .ref loads, .ref spoons, .ref spoonsLeft, .ref depths])), (lumpNames, .inl (ky 1, 6, .inr (.inl lumpNamesF)))] H := hP
  have hD : va_D A [(se, .inr (9, [.ref ccodes, .int (nI ccodeCountG_4), .int conesG_5])), (ccodes, .inl (ky 0, 40, .inl ccodesG_6)), (reader, .inr (5, [.ref rtape, .int (nI rlength), .int (nI rmostBytes), .int (nI rplaceG_7), .int rkindG_8, .int (nI rbeginG_9), .int rwordG_10, .int rnumberG_11, .long rlettersG_12, .int rfaultKindG_13, .int rfaultPlaceG_14])), (rtape, .inl (ky 2, 940, .inl rtapeF)), (a, .inr (7, [.int (nI wide), .int (nI high), .int heat, .int cools, .int skinHeat, .int today, .int stirs, .int steps, .int (nI lumps), .int (nI boats), .ref thickness, .ref lumpNames, .ref lumpCells, .ref boatNames, .ref boatCells, .ref loads, .ref spoons, .ref spoonsLeft, .ref depths])), (lumpNames, .inl (ky 1, 6, .inr (.inl lumpNamesF)))] := hD
  refine lv_istore (lv' := [(4, .int r3), (0, .ref se), (1, .ref reader), (2, .ref a), (3, .int (nI 8))]) hx hb dX9_readCond_7 hl (by decide) rfl (fun ls hl => ?_)
  refine lv_iconst (v := nI 0) hx hb dX9_readCond_9 (by decide) ?_
  refine lv_istore (lv' := [(5, .int (nI 0)), (4, .int r3), (0, .ref se), (1, .ref reader), (2, .ref a), (3, .int (nI 8))]) hx hb dX9_readCond_10 hl (by decide) rfl (fun ls hl => ?_)
  have hL76 : ∀ (n77 : Nat) (k57 : Nat) (x58 : Int32) (k59 : Nat) (x60 : Int32) (f61 : Nat → Int32) (k62 : Nat) (x63 : Int32) (k64 : Nat) (x65 : Int32) (x66 : Int32) (w67 : Int64) (x68 : Int32) (x69 : Int32), (k57 ≤ 20) → (x58 = nI 0 ∨ x58 = nI 1) → (k59 ≤ 40) → (k62 ≤ 940) → (k64 ≤ 940) → (k62 ≤ rlength) → 20 - k57 < n77 → ∀ (H : Heap) (locs : List Loc) (ls : Array Slot), va_P (dC, dI) vwCl [(se, .inr (9, [.ref ccodes, .int (nI k59), .int x60])), (ccodes, .inl (ky 0, 40, .inl f61)), (reader, .inr (5, [.ref rtape, .int (nI rlength), .int (nI rmostBytes), .int (nI k62), .int x63, .int (nI k64), .int x65, .int x66, .long w67, .int x68, .int x69])), (rtape, .inl (ky 2, 940, .inl rtapeF)), (a, .inr (7, [.int (nI wide), .int (nI high), .int heat, .int cools, .int skinHeat, .int today, .int stirs, .int steps, .int (nI lumps), .int (nI boats), .ref thickness, .ref lumpNames, .ref lumpCells, .ref boatNames, .ref boatCells, .ref loads, .ref spoons, .ref spoonsLeft, .ref depths])), (lumpNames, .inl (ky 1, 6, .inr (.inl lumpNamesF)))] H → va_D A [(se, .inr (9, [.ref ccodes, .int (nI k59), .int x60])), (ccodes, .inl (ky 0, 40, .inl f61)), (reader, .inr (5, [.ref rtape, .int (nI rlength), .int (nI rmostBytes), .int (nI k62), .int x63, .int (nI k64), .int x65, .int x66, .long w67, .int x68, .int x69])), (rtape, .inl (ky 2, 940, .inl rtapeF)), (a, .inr (7, [.int (nI wide), .int (nI high), .int heat, .int cools, .int skinHeat, .int today, .int stirs, .int steps, .int (nI lumps), .int (nI boats), .ref thickness, .ref lumpNames, .ref lumpCells, .ref boatNames, .ref boatCells, .ref loads, .ref spoons, .ref spoonsLeft, .ref depths])), (lumpNames, .inl (ky 1, 6, .inr (.inl lumpNamesF)))] → va_S A s.heap H locs → lv_has ls 6 [(5, .int (nI k57)), (4, .int x58), (0, .ref se), (1, .ref reader), (2, .ref a), (3, .int (nI 8))] → W p l e (headSpec wsX9_readCond ({ frames := 10, cells := 0, slots := 0, locals := 231 })).room s m args below meth c H locs 0 0 Q (F0 m 12 ls []) := by
    intro n77
    induction n77 with
    | zero => intro k57 x58 k59 x60 f61 k62 x63 k64 x65 x66 w67 x68 x69 _ _ _ _ _ _ h9; exact absurd h9 (Nat.not_lt_zero _)
    | succ n77 ih78 =>
      intro k57 x58 k59 x60 f61 k62 x63 k64 x65 x66 w67 x68 x69 j70 j71 j72 j73 j74 j75 hm79 H locs ls hP hD hS hl
      refine lv_iload hx hb dX9_readCond_12 (lv_at hl 0 rfl) ?_
      refine lv_bipush (v := nI 20) hx hb dX9_readCond_14 (by decide) ?_
      refine n_icmp_ge (x := k57) (y := 20) (tgt := 69) hx hb (by omega) (by omega) dX9_readCond_16 (by decide) (fun c80 => ?_) (fun c80 => ?_)
      · refine lv_iload hx hb dX9_readCond_69 (lv_at hl 1 rfl) ?_
        rw [hQ]
        exact W.zret (v := x58) hx hb hr ((lf_n_readCond8_1 x58 j71)) (fun t9 ht9 hW9 => ⟨⟨x58, (k59, x60, f61, k62, x63, k64, x65, x66, w67, x68, x69), rfl, ⟨j71, j72, j75, j74⟩, by rw [ht9]; exact hP, va_K.moved hW9.alike hK, hD⟩, hS.F ht9⟩) hS.2.2 dX9_readCond_71
      · refine lv_iload hx hb dX9_readCond_19 (lv_at hl 1 rfl) ?_
        refine lv_if_eq (tgt := 69) hx hb dX9_readCond_21 (by decide) (fun c81 => ?_) (fun c81 => ?_)
        · refine lv_iload hx hb dX9_readCond_69 (lv_at hl 1 rfl) ?_
          rw [hQ]
          exact W.zret (v := x58) hx hb hr ((lf_n_readCond8_2 x58 j71 c81)) (fun t9 ht9 hW9 => ⟨⟨x58, (k59, x60, f61, k62, x63, k64, x65, x66, w67, x68, x69), rfl, ⟨j71, j72, j75, j74⟩, by rw [ht9]; exact hP, va_K.moved hW9.alike hK, hD⟩, hS.F ht9⟩) hS.2.2 dX9_readCond_71
        · refine lv_aload_n hx hb dX9_readCond_24 rfl (lv_at hl 3 rfl) ?_
          refine vp_callSi (W.runV (As := []) (rest := []) ⟨hx, hb, hml, hown, hts⟩ (c_r_nextWord l dC dI ky reader rtape rlength rmostBytes k62 x63 k64 x65 x66 w67 x68 x69 iv_rreader_0 j75 iv_rreader_2 j74) (cwV 0 hts gX9_readCond_X5_nextWord rfl rfl rfl (by decide +kernel) ⟨(Nat.le_of_ble_eq_true rfl), (Nat.le_of_ble_eq_true rfl)⟩) (pre_PV hK hP [2] rfl (ci := 5) (q0 := 2) rfl rfl) rfl rfl hl.1 rfl (lv_room (Nat.le_of_ble_eq_true rfl)) dX9_readCond_25 ⟨(Nat.le_of_ble_eq_true rfl), (Nat.le_of_ble_eq_true rfl)⟩) (fun r82 p83 => ?_)
          refine lv_bipush (v := nI 20) hx hb dX9_readCond_28 (by decide) ?_
          refine lv_icmp_ne (tgt := 69) hx hb dX9_readCond_30 (by decide) (fun c84 => ?_) (fun c84 => ?_)
          · refine lv_iload hx hb dX9_readCond_69 (lv_at hl 1 rfl) ?_
            rw [hQ]
            exact W.zret (v := x58) hx hb hr ((lf_n_readCond8_3 x58 j71 c81 p83)) (fun t9 ht9 hW9 => ⟨⟨x58, (k59, x60, f61, k62, x63, k64, x65, x66, w67, x68, x69), rfl, ⟨j71, j72, j75, j74⟩, by rw [ht9]; exact hP, va_K.moved hW9.alike hK, hD⟩, hS.F ht9⟩) hS.2.2 dX9_readCond_71
          · refine lv_aload_n hx hb dX9_readCond_33 rfl (lv_at hl 3 rfl) ?_
            refine r_call_v (wr := [(se, .inr (9, [.ref ccodes, .int (nI k59), .int x60])), (ccodes, .inl (ky 0, 40, .inl f61)), (a, .inr (7, [.int (nI wide), .int (nI high), .int heat, .int cools, .int skinHeat, .int today, .int stirs, .int steps, .int (nI lumps), .int (nI boats), .ref thickness, .ref lumpNames, .ref lumpCells, .ref boatNames, .ref boatCells, .ref loads, .ref spoons, .ref spoonsLeft, .ref depths])), (lumpNames, .inl (ky 1, 6, .inr (.inl lumpNamesF)))]) (va_runV (As := []) (rest := []) ⟨hx, hb, hml, hown, hts⟩ (c_r_advance l dC dI ky H.size adK adV reader rtape rlength rmostBytes k62 x63 k64 x65 x66 w67 x68 x69 rtapeF iv_rreader_0 j75 iv_rreader_2 j74) (cwV 0 hts gX9_readCond_X5_advance rfl rfl rfl (by decide +kernel) ⟨(Nat.le_of_ble_eq_true rfl), (Nat.le_of_ble_eq_true rfl)⟩) (pre_UEV hE hS hA hK hP hD [2, 3] (by decide) rfl (va_recv hK hP (ci := 5) (q0 := 2) rfl rfl)) rfl rfl hl.1 rfl (lv_room (Nat.le_of_ble_eq_true rfl)) dX9_readCond_34 ⟨(Nat.le_of_ble_eq_true rfl), (Nat.le_of_ble_eq_true rfl)⟩) hP hD hS hA [2, 3] [0, 1, 4, 5] rfl rfl (by decide) (by decide) (fun  u85 H locs p86 hP hD hS => ?_)
            obtain ⟨rplaceG_87, rkindG_88, rbeginG_89, rwordG_90, rnumberG_91, rlettersG_92⟩ := u85
            try dsimp only at p86
            obtain ⟨p93, p94⟩ := p86
            refine W.widen (k := 0) (n := 0) (Nat.le_of_ble_eq_true rfl) (Nat.le_of_ble_eq_true rfl) ?_
            have hP : va_P (dC, dI) vwCl [(se, .inr (9, [.ref ccodes, .int (nI k59), .int x60])), (ccodes, .inl (ky 0, 40, .inl f61)), (a, .inr (7, [.int (nI wide), .int (nI high), .int heat, .int cools, .int skinHeat, .int today, .int stirs, .int steps, .int (nI lumps), .int (nI boats), .ref thickness, .ref lumpNames, .ref lumpCells, .ref boatNames, .ref boatCells, .ref loads, .ref spoons, .ref spoonsLeft, .ref depths])), (lumpNames, .inl (ky 1, 6, .inr (.inl lumpNamesF))), (reader, .inr (5, [.ref rtape, .int (nI rlength), .int (nI rmostBytes), .int (nI rplaceG_87), .int rkindG_88, .int (nI rbeginG_89), .int rwordG_90, .int rnumberG_91, .long rlettersG_92, .int x68, .int x69])), (rtape, .inl (ky 2, 940, .inl rtapeF))] H := hP
            have hD : va_D A [(se, .inr (9, [.ref ccodes, .int (nI k59), .int x60])), (ccodes, .inl (ky 0, 40, .inl f61)), (a, .inr (7, [.int (nI wide), .int (nI high), .int heat, .int cools, .int skinHeat, .int today, .int stirs, .int steps, .int (nI lumps), .int (nI boats), .ref thickness, .ref lumpNames, .ref lumpCells, .ref boatNames, .ref boatCells, .ref loads, .ref spoons, .ref spoonsLeft, .ref depths])), (lumpNames, .inl (ky 1, 6, .inr (.inl lumpNamesF))), (reader, .inr (5, [.ref rtape, .int (nI rlength), .int (nI rmostBytes), .int (nI rplaceG_87), .int rkindG_88, .int (nI rbeginG_89), .int rwordG_90, .int rnumberG_91, .long rlettersG_92, .int x68, .int x69])), (rtape, .inl (ky 2, 940, .inl rtapeF))] := hD
            refine lv_aload_n hx hb dX9_readCond_37 rfl (lv_at hl 2 rfl) ?_
            refine lv_aload_n hx hb dX9_readCond_38 rfl (lv_at hl 3 rfl) ?_
            refine lv_aload_n hx hb dX9_readCond_39 rfl (lv_at hl 4 rfl) ?_
            refine lv_iload_n hx hb dX9_readCond_40 rfl (lv_at hl 5 rfl) ?_
            refine r_call_i (wr := []) (va_runV (As := [.ref reader, .ref a, .int (nI 8)]) (rest := []) ⟨hx, hb, hml, hown, hts⟩ (c_n_readAll8 l dC dI ky H.size adK adV se ccodes k59 x60 f61 reader rtape rlength rmostBytes rplaceG_87 rkindG_88 rbeginG_89 rwordG_90 rnumberG_91 rlettersG_92 x68 x69 rtapeF a wide high heat cools skinHeat today stirs steps lumps boats thickness lumpNames lumpCells boatNames boatCells loads spoons spoonsLeft depths lumpNamesF j72 iv_rreader_0 p93 iv_rreader_2 p94 iv_a_0 iv_a_1 iv_a_2 iv_a_3 iv_a_4 iv_a_5) (cwV 3 hts gX9_readCond_X9_readAll rfl rfl rfl (by decide +kernel) ⟨(Nat.le_of_ble_eq_true rfl), (Nat.le_of_ble_eq_true rfl)⟩) (pre_UEV hE hS hA hK hP hD [0, 1, 4, 5, 2, 3] (by decide) rfl (va_recv hK hP (ci := 9) (q0 := 0) rfl rfl)) rfl rfl hl.1 rfl (lv_room (Nat.le_of_ble_eq_true rfl)) dX9_readCond_41 ⟨(Nat.le_of_ble_eq_true rfl), (Nat.le_of_ble_eq_true rfl)⟩) hP hD hS hA [0, 1, 4, 5, 2, 3] [] rfl rfl (by decide) (by decide) (fun r97 u95 H locs p96 hP hD hS => ?_)
            obtain ⟨ccodeCountG_98, conesG_99, ccodesG_100, rplaceG_101, rkindG_102, rbeginG_103, rwordG_104, rnumberG_105, rlettersG_106, rfaultKindG_107, rfaultPlaceG_108⟩ := u95
            try dsimp only at p96
            obtain ⟨p109, p110, p111, p112⟩ := p96
            refine W.widen (k := 0) (n := 0) (Nat.le_of_ble_eq_true rfl) (Nat.le_of_ble_eq_true rfl) ?_
            have hP : va_P (dC, dI) vwCl [(se, .inr (9, [.ref ccodes, .int (nI ccodeCountG_98), .int conesG_99])), (ccodes, .inl (ky 0, 40, .inl ccodesG_100)), (reader, .inr (5, [.ref rtape, .int (nI rlength), .int (nI rmostBytes), .int (nI rplaceG_101), .int rkindG_102, .int (nI rbeginG_103), .int rwordG_104, .int rnumberG_105, .long rlettersG_106, .int rfaultKindG_107, .int rfaultPlaceG_108])), (rtape, .inl (ky 2, 940, .inl rtapeF)), (a, .inr (7, [.int (nI wide), .int (nI high), .int heat, .int cools, .int skinHeat, .int today, .int stirs, .int steps, .int (nI lumps), .int (nI boats), .ref thickness, .ref lumpNames, .ref lumpCells, .ref boatNames, .ref boatCells, .ref loads, .ref spoons, .ref spoonsLeft, .ref depths])), (lumpNames, .inl (ky 1, 6, .inr (.inl lumpNamesF)))] H := hP
            have hD : va_D A [(se, .inr (9, [.ref ccodes, .int (nI ccodeCountG_98), .int conesG_99])), (ccodes, .inl (ky 0, 40, .inl ccodesG_100)), (reader, .inr (5, [.ref rtape, .int (nI rlength), .int (nI rmostBytes), .int (nI rplaceG_101), .int rkindG_102, .int (nI rbeginG_103), .int rwordG_104, .int rnumberG_105, .long rlettersG_106, .int rfaultKindG_107, .int rfaultPlaceG_108])), (rtape, .inl (ky 2, 940, .inl rtapeF)), (a, .inr (7, [.int (nI wide), .int (nI high), .int heat, .int cools, .int skinHeat, .int today, .int stirs, .int steps, .int (nI lumps), .int (nI boats), .ref thickness, .ref lumpNames, .ref lumpCells, .ref boatNames, .ref boatCells, .ref loads, .ref spoons, .ref spoonsLeft, .ref depths])), (lumpNames, .inl (ky 1, 6, .inr (.inl lumpNamesF)))] := hD
            refine lv_if_eq (tgt := 60) hx hb dX9_readCond_44 (by decide) (fun c113 => ?_) (fun c113 => ?_)
            · refine lv_iconst (v := nI 0) hx hb dX9_readCond_60 (by decide) ?_
              refine lv_istore (lv' := [(4, .int (nI 0)), (5, .int (nI k57)), (0, .ref se), (1, .ref reader), (2, .ref a), (3, .int (nI 8))]) hx hb dX9_readCond_61 hl (by decide) rfl (fun ls hl => ?_)
              refine lv_iinc (v := nI (k57 + 1)) (lv' := [(5, .int (nI (k57 + 1))), (4, .int (nI 0)), (0, .ref se), (1, .ref reader), (2, .ref a), (3, .int (nI 8))]) hx hb dX9_readCond_63 hl (k := 1) rfl (show nI k57 + nI 1 = nI (k57 + 1) from nI_add _ _) (by decide) rfl (fun ls hl => ?_)
              refine lv_goto (tgt := 12) hx hb dX9_readCond_66 (by decide) ?_
              exact ih78 (k57 + 1) (nI 0) ccodeCountG_98 conesG_99 ccodesG_100 rplaceG_101 rkindG_102 rbeginG_103 rwordG_104 rnumberG_105 rlettersG_106 rfaultKindG_107 rfaultPlaceG_108 (lf_n_readCond8_4 k57 n77 j70 hm79 c80 p83) (lf_n_readCond8_5 p83) p110 (lf_n_readCond8_6 rlength rplace rplaceG_7 k62 rplaceG_87 rplaceG_101 iv_rreader_0 iv_rreader_1 p17 j73 j75 p83 p93 p111) p112 p111 (lf_n_readCond8_7 k57 n77 j70 hm79 c80 p83) _ _ _ hP hD hS (lv_sub hl [0, 1, 2, 3, 4, 5] rfl)
            · refine lv_aload_n hx hb dX9_readCond_47 rfl (lv_at hl 2 rfl) ?_
              refine lv_bipush (v := nI 20) hx hb dX9_readCond_48 (by decide) ?_
              refine r_call_i (wr := [(reader, .inr (5, [.ref rtape, .int (nI rlength), .int (nI rmostBytes), .int (nI rplaceG_101), .int rkindG_102, .int (nI rbeginG_103), .int rwordG_104, .int rnumberG_105, .long rlettersG_106, .int rfaultKindG_107, .int rfaultPlaceG_108])), (rtape, .inl (ky 2, 940, .inl rtapeF)), (a, .inr (7, [.int (nI wide), .int (nI high), .int heat, .int cools, .int skinHeat, .int today, .int stirs, .int steps, .int (nI lumps), .int (nI boats), .ref thickness, .ref lumpNames, .ref lumpCells, .ref boatNames, .ref boatCells, .ref loads, .ref spoons, .ref spoonsLeft, .ref depths])), (lumpNames, .inl (ky 1, 6, .inr (.inl lumpNamesF)))]) (va_runV (As := [.int (nI 20)]) (rest := []) ⟨hx, hb, hml, hown, hts⟩ (c_n_put l dC dI ky H.size se ccodes ccodeCountG_98 conesG_99 ccodesG_100 (nI 20) p110) (cwV 1 hts gX9_readCond_X9_put rfl rfl rfl (by decide +kernel) ⟨(Nat.le_of_ble_eq_true rfl), (Nat.le_of_ble_eq_true rfl)⟩) (pre_UV hK hP hD [0, 1] (by decide) rfl (ci := 9) (q0 := 0) rfl rfl) rfl rfl hl.1 rfl (lv_room (Nat.le_of_ble_eq_true rfl)) dX9_readCond_50 ⟨(Nat.le_of_ble_eq_true rfl), (Nat.le_of_ble_eq_true rfl)⟩) hP hD hS hA [0, 1] [2, 3, 4, 5] rfl rfl (by decide) (by decide) (fun r116 u114 H locs p115 hP hD hS => ?_)
              obtain ⟨ccodeCountG_117, ccodesG_118⟩ := u114
              try dsimp only at p115
              obtain ⟨p119, p120⟩ := p115
              refine W.widen (k := 0) (n := 0) (Nat.le_of_ble_eq_true rfl) (Nat.le_of_ble_eq_true rfl) ?_
              have hP : va_P (dC, dI) vwCl [(reader, .inr (5, [.ref rtape, .int (nI rlength), .int (nI rmostBytes), .int (nI rplaceG_101), .int rkindG_102, .int (nI rbeginG_103), .int rwordG_104, .int rnumberG_105, .long rlettersG_106, .int rfaultKindG_107, .int rfaultPlaceG_108])), (rtape, .inl (ky 2, 940, .inl rtapeF)), (a, .inr (7, [.int (nI wide), .int (nI high), .int heat, .int cools, .int skinHeat, .int today, .int stirs, .int steps, .int (nI lumps), .int (nI boats), .ref thickness, .ref lumpNames, .ref lumpCells, .ref boatNames, .ref boatCells, .ref loads, .ref spoons, .ref spoonsLeft, .ref depths])), (lumpNames, .inl (ky 1, 6, .inr (.inl lumpNamesF))), (se, .inr (9, [.ref ccodes, .int (nI ccodeCountG_117), .int conesG_99])), (ccodes, .inl (ky 0, 40, .inl ccodesG_118))] H := hP
              have hD : va_D A [(reader, .inr (5, [.ref rtape, .int (nI rlength), .int (nI rmostBytes), .int (nI rplaceG_101), .int rkindG_102, .int (nI rbeginG_103), .int rwordG_104, .int rnumberG_105, .long rlettersG_106, .int rfaultKindG_107, .int rfaultPlaceG_108])), (rtape, .inl (ky 2, 940, .inl rtapeF)), (a, .inr (7, [.int (nI wide), .int (nI high), .int heat, .int cools, .int skinHeat, .int today, .int stirs, .int steps, .int (nI lumps), .int (nI boats), .ref thickness, .ref lumpNames, .ref lumpCells, .ref boatNames, .ref boatCells, .ref loads, .ref spoons, .ref spoonsLeft, .ref depths])), (lumpNames, .inl (ky 1, 6, .inr (.inl lumpNamesF))), (se, .inr (9, [.ref ccodes, .int (nI ccodeCountG_117), .int conesG_99])), (ccodes, .inl (ky 0, 40, .inl ccodesG_118))] := hD
              refine lv_if_eq (tgt := 60) hx hb dX9_readCond_53 (by decide) (fun c121 => ?_) (fun c121 => ?_)
              · refine lv_iconst (v := nI 0) hx hb dX9_readCond_60 (by decide) ?_
                refine lv_istore (lv' := [(4, .int (nI 0)), (5, .int (nI k57)), (0, .ref se), (1, .ref reader), (2, .ref a), (3, .int (nI 8))]) hx hb dX9_readCond_61 hl (by decide) rfl (fun ls hl => ?_)
                refine lv_iinc (v := nI (k57 + 1)) (lv' := [(5, .int (nI (k57 + 1))), (4, .int (nI 0)), (0, .ref se), (1, .ref reader), (2, .ref a), (3, .int (nI 8))]) hx hb dX9_readCond_63 hl (k := 1) rfl (show nI k57 + nI 1 = nI (k57 + 1) from nI_add _ _) (by decide) rfl (fun ls hl => ?_)
                refine lv_goto (tgt := 12) hx hb dX9_readCond_66 (by decide) ?_
                exact ih78 (k57 + 1) (nI 0) ccodeCountG_117 conesG_99 ccodesG_118 rplaceG_101 rkindG_102 rbeginG_103 rwordG_104 rnumberG_105 rlettersG_106 rfaultKindG_107 rfaultPlaceG_108 (lf_n_readCond8_8 k57 n77 j70 hm79 c80 p83) (lf_n_readCond8_9 p83) p120 (lf_n_readCond8_10 rlength rplace rplaceG_7 k62 rplaceG_87 rplaceG_101 iv_rreader_0 iv_rreader_1 p17 j73 j75 p83 p93 p111) p112 p111 (lf_n_readCond8_11 k57 n77 j70 hm79 c80 p83) _ _ _ (hP.sub [4, 5, 0, 1, 2, 3] rfl) (hD.sub [4, 5, 0, 1, 2, 3] (by decide) rfl) hS (lv_sub hl [0, 1, 2, 3, 4, 5] rfl)
              · refine lv_iconst (v := nI 1) hx hb dX9_readCond_56 (by decide) ?_
                refine lv_goto (tgt := 61) hx hb dX9_readCond_57 (by decide) ?_
                refine lv_istore (lv' := [(4, .int (nI 1)), (5, .int (nI k57)), (0, .ref se), (1, .ref reader), (2, .ref a), (3, .int (nI 8))]) hx hb dX9_readCond_61 hl (by decide) rfl (fun ls hl => ?_)
                refine lv_iinc (v := nI (k57 + 1)) (lv' := [(5, .int (nI (k57 + 1))), (4, .int (nI 1)), (0, .ref se), (1, .ref reader), (2, .ref a), (3, .int (nI 8))]) hx hb dX9_readCond_63 hl (k := 1) rfl (show nI k57 + nI 1 = nI (k57 + 1) from nI_add _ _) (by decide) rfl (fun ls hl => ?_)
                refine lv_goto (tgt := 12) hx hb dX9_readCond_66 (by decide) ?_
                exact ih78 (k57 + 1) (nI 1) ccodeCountG_117 conesG_99 ccodesG_118 rplaceG_101 rkindG_102 rbeginG_103 rwordG_104 rnumberG_105 rlettersG_106 rfaultKindG_107 rfaultPlaceG_108 (lf_n_readCond8_12 k57 n77 j70 hm79 c80 p83) (lf_n_readCond8_13 p83) p120 (lf_n_readCond8_14 rlength rplace rplaceG_7 k62 rplaceG_87 rplaceG_101 iv_rreader_0 iv_rreader_1 p17 j73 j75 p83 p93 p111) p112 p111 (lf_n_readCond8_15 k57 n77 j70 hm79 c80 p83) _ _ _ (hP.sub [4, 5, 0, 1, 2, 3] rfl) (hD.sub [4, 5, 0, 1, 2, 3] (by decide) rfl) hS (lv_sub hl [0, 1, 2, 3, 4, 5] rfl)
  exact hL76 ((20 - 0) + 1) 0 r3 ccodeCountG_4 conesG_5 ccodesG_6 rplaceG_7 rkindG_8 rbeginG_9 rwordG_10 rnumberG_11 rlettersG_12 rfaultKindG_13 rfaultPlaceG_14 (lf_n_readCond8_16) p15 p16 (lf_n_readCond8_17 rlength rplace rplaceG_7 iv_rreader_0 iv_rreader_1 p17) p18 p17 (Nat.lt_succ_self _) _ _ _ hP hD hS (lv_sub hl [0, 1, 2, 3, 4, 5] rfl)
set_option maxRecDepth 20000 in
theorem lf_n_readOne7_1  (p2 : True) : (nI 0) = nI 0 ∨ (nI 0) = nI 1 := by
  try have k_0 := ia_n 0 (by first | decide | omega)
  try have k_1 := ia_n 1 (by first | decide | omega)
  try simp only [ia_lt, ia_le, ia_eq, ia_m1, ia_0, ia_1, ne_eq, true_and, and_true, false_and, and_false, or_false, false_or, or_true, true_or, not_true_eq_false, not_false_eq_true] at *
  all_goals omega
set_option maxRecDepth 20000 in
theorem lf_n_readOne7_2  (p2 : True) : (nI 0) = nI 0 ∨ (nI 0) = nI 1 := by
  try have k_0 := ia_n 0 (by first | decide | omega)
  try have k_1 := ia_n 1 (by first | decide | omega)
  try simp only [ia_lt, ia_le, ia_eq, ia_m1, ia_0, ia_1, ne_eq, true_and, and_true, false_and, and_false, or_false, false_or, or_true, true_or, not_true_eq_false, not_false_eq_true] at *
  all_goals omega
set_option maxRecDepth 20000 in
theorem lf_n_readOne7_3  (p2 : True) : (nI 0) = nI 0 ∨ (nI 0) = nI 1 := by
  try have k_0 := ia_n 0 (by first | decide | omega)
  try have k_1 := ia_n 1 (by first | decide | omega)
  try simp only [ia_lt, ia_le, ia_eq, ia_m1, ia_0, ia_1, ne_eq, true_and, and_true, false_and, and_false, or_false, false_or, or_true, true_or, not_true_eq_false, not_false_eq_true] at *
  all_goals omega
set_option maxRecDepth 20000 in
theorem lf_n_readOne7_4  (p2 : True) : (nI 1) = nI 0 ∨ (nI 1) = nI 1 := by
  try have k_0 := ia_n 1 (by first | decide | omega)
  try have k_1 := ia_n 0 (by first | decide | omega)
  try simp only [ia_lt, ia_le, ia_eq, ia_m1, ia_0, ia_1, ne_eq, true_and, and_true, false_and, and_false, or_false, false_or, or_true, true_or, not_true_eq_false, not_false_eq_true] at *
  all_goals omega
set_option maxRecDepth 20000 in
theorem lf_n_readOne7_5  (p2 : True) : (nI 0) = nI 0 ∨ (nI 0) = nI 1 := by
  try have k_0 := ia_n 0 (by first | decide | omega)
  try have k_1 := ia_n 1 (by first | decide | omega)
  try simp only [ia_lt, ia_le, ia_eq, ia_m1, ia_0, ia_1, ne_eq, true_and, and_true, false_and, and_false, or_false, false_or, or_true, true_or, not_true_eq_false, not_false_eq_true] at *
  all_goals omega
set_option maxRecDepth 20000 in
theorem lf_n_readOne7_6  (p2 : True) : (nI 0) = nI 0 ∨ (nI 0) = nI 1 := by
  try have k_0 := ia_n 0 (by first | decide | omega)
  try have k_1 := ia_n 1 (by first | decide | omega)
  try simp only [ia_lt, ia_le, ia_eq, ia_m1, ia_0, ia_1, ne_eq, true_and, and_true, false_and, and_false, or_false, false_or, or_true, true_or, not_true_eq_false, not_false_eq_true] at *
  all_goals omega
set_option maxRecDepth 20000 in
theorem lf_n_readOne7_7 (r97 : Int32) (p2 : True) (p100 : r97 = nI 0 ∨ r97 = nI 1) : narrow .boolean (.int r97) = .int r97 := by
  have h : r97 = 0 ∨ r97 = 1 := by
    have b_r97 := ia_b r97
    try have k_0 := ia_n 0 (by first | decide | omega)
    try have k_1 := ia_n 1 (by first | decide | omega)
    try simp only [ia_lt, ia_le, ia_eq, ia_m1, ia_0, ia_1, ne_eq, true_and, and_true, false_and, and_false, or_false, false_or, or_true, true_or, not_true_eq_false, not_false_eq_true] at *
    all_goals omega
  rcases h with h | h <;> rw [h] <;> rfl
set_option maxRecDepth 20000 in
theorem lf_n_readOne7_8 (r104 : Int32) (p2 : True) (p115 : r104 = nI 0 ∨ r104 = nI 1) : narrow .boolean (.int r104) = .int r104 := by
  have h : r104 = 0 ∨ r104 = 1 := by
    have b_r104 := ia_b r104
    try have k_0 := ia_n 0 (by first | decide | omega)
    try have k_1 := ia_n 1 (by first | decide | omega)
    try simp only [ia_lt, ia_le, ia_eq, ia_m1, ia_0, ia_1, ne_eq, true_and, and_true, false_and, and_false, or_false, false_or, or_true, true_or, not_true_eq_false, not_false_eq_true] at *
    all_goals omega
  rcases h with h | h <;> rw [h] <;> rfl
set_option maxRecDepth 20000 in
theorem lf_n_readOne7_9 (r121 : Int32) (p2 : True) (p132 : r121 = nI 0 ∨ r121 = nI 1) : narrow .boolean (.int r121) = .int r121 := by
  have h : r121 = 0 ∨ r121 = 1 := by
    have b_r121 := ia_b r121
    try have k_0 := ia_n 0 (by first | decide | omega)
    try have k_1 := ia_n 1 (by first | decide | omega)
    try simp only [ia_lt, ia_le, ia_eq, ia_m1, ia_0, ia_1, ne_eq, true_and, and_true, false_and, and_false, or_false, false_or, or_true, true_or, not_true_eq_false, not_false_eq_true] at *
    all_goals omega
  rcases h with h | h <;> rw [h] <;> rfl
set_option maxRecDepth 20000 in
theorem lf_n_readOne7_10  (p2 : True) : (nI 0) = nI 0 ∨ (nI 0) = nI 1 := by
  try have k_0 := ia_n 0 (by first | decide | omega)
  try have k_1 := ia_n 1 (by first | decide | omega)
  try simp only [ia_lt, ia_le, ia_eq, ia_m1, ia_0, ia_1, ne_eq, true_and, and_true, false_and, and_false, or_false, false_or, or_true, true_or, not_true_eq_false, not_false_eq_true] at *
  all_goals omega
set_option maxRecDepth 20000 in
theorem lf_n_readOne7_11  (p2 : True) : (nI 0) = nI 0 ∨ (nI 0) = nI 1 := by
  try have k_0 := ia_n 0 (by first | decide | omega)
  try have k_1 := ia_n 1 (by first | decide | omega)
  try simp only [ia_lt, ia_le, ia_eq, ia_m1, ia_0, ia_1, ne_eq, true_and, and_true, false_and, and_false, or_false, false_or, or_true, true_or, not_true_eq_false, not_false_eq_true] at *
  all_goals omega
set_option maxRecDepth 20000 in
theorem lf_n_readOne7_12  (p2 : True) : (nI 1) = nI 0 ∨ (nI 1) = nI 1 := by
  try have k_0 := ia_n 1 (by first | decide | omega)
  try have k_1 := ia_n 0 (by first | decide | omega)
  try simp only [ia_lt, ia_le, ia_eq, ia_m1, ia_0, ia_1, ne_eq, true_and, and_true, false_and, and_false, or_false, false_or, or_true, true_or, not_true_eq_false, not_false_eq_true] at *
  all_goals omega
set_option maxRecDepth 20000 in
theorem lf_n_readOne7_13  (p2 : True) : (nI 0) = nI 0 ∨ (nI 0) = nI 1 := by
  try have k_0 := ia_n 0 (by first | decide | omega)
  try have k_1 := ia_n 1 (by first | decide | omega)
  try simp only [ia_lt, ia_le, ia_eq, ia_m1, ia_0, ia_1, ne_eq, true_and, and_true, false_and, and_false, or_false, false_or, or_true, true_or, not_true_eq_false, not_false_eq_true] at *
  all_goals omega
set_option maxRecDepth 20000 in
theorem lf_n_readOne7_14  (p2 : True) : (nI 0) = nI 0 ∨ (nI 0) = nI 1 := by
  try have k_0 := ia_n 0 (by first | decide | omega)
  try have k_1 := ia_n 1 (by first | decide | omega)
  try simp only [ia_lt, ia_le, ia_eq, ia_m1, ia_0, ia_1, ne_eq, true_and, and_true, false_and, and_false, or_false, false_or, or_true, true_or, not_true_eq_false, not_false_eq_true] at *
  all_goals omega
set_option maxRecDepth 20000 in
theorem lf_n_readOne7_15  (p2 : True) : (nI 1) = nI 0 ∨ (nI 1) = nI 1 := by
  try have k_0 := ia_n 1 (by first | decide | omega)
  try have k_1 := ia_n 0 (by first | decide | omega)
  try simp only [ia_lt, ia_le, ia_eq, ia_m1, ia_0, ia_1, ne_eq, true_and, and_true, false_and, and_false, or_false, false_or, or_true, true_or, not_true_eq_false, not_false_eq_true] at *
  all_goals omega
set_option maxHeartbeats 4000000 in
set_option maxRecDepth 100000 in
theorem c_n_readOne7 (l : Launch) (dC : Nat → ClassId) (dI : Nat → Nat → Nat) (ky : Nat → ClassId) (sz : Nat) (adK : Nat → Nat) (adV : Nat → Nat) (se : Nat) (ccodes : Nat) (ccodeCount : Nat) (cones : Int32) (ccodesF : Nat → Int32) (reader : Nat) (rtape : Nat) (rlength : Nat) (rmostBytes : Nat) (rplace : Nat) (rkind : Int32) (rbegin : Nat) (rword : Int32) (rnumber : Int32) (rletters : Int64) (rfaultKind : Int32) (rfaultPlace : Int32) (rtapeF : Nat → Int32) (a : Nat) (wide : Nat) (high : Nat) (heat : Int32) (cools : Int32) (skinHeat : Int32) (today : Int32) (stirs : Int32) (steps : Int32) (lumps : Nat) (boats : Nat) (thickness : Nat) (lumpNames : Nat) (lumpCells : Nat) (boatNames : Nat) (boatCells : Nat) (loads : Nat) (spoons : Nat) (spoonsLeft : Nat) (depths : Nat) (lumpNamesF : Nat → Int64) (iv_cse_0 : ccodeCount ≤ 40) (iv_rreader_0 : rlength ≤ 940) (iv_rreader_1 : rplace ≤ rlength) (iv_rreader_2 : rmostBytes ≤ 900) (iv_rreader_3 : rbegin ≤ 940) (iv_a_0 : 2 ≤ wide) (iv_a_1 : wide ≤ 6) (iv_a_2 : 2 ≤ high) (iv_a_3 : high ≤ 6) (iv_a_4 : lumps ≤ 6) (iv_a_5 : boats ≤ 6) : Met l yX9_readOne wsX9_readOne ({ frames := 11, cells := 0, slots := 0, locals := 256 }) (PcUE dC dI ky adK adV [.ref se, .ref reader, .ref a, .int (nI 7)] [(se, .inr (9, [.ref ccodes, .int (nI ccodeCount), .int cones])), (ccodes, .inl (ky 0, 40, .inl ccodesF)), (reader, .inr (5, [.ref rtape, .int (nI rlength), .int (nI rmostBytes), .int (nI rplace), .int rkind, .int (nI rbegin), .int rword, .int rnumber, .long rletters, .int rfaultKind, .int rfaultPlace])), (rtape, .inl (ky 2, 940, .inl rtapeF)), (a, .inr (7, [.int (nI wide), .int (nI high), .int heat, .int cools, .int skinHeat, .int today, .int stirs, .int steps, .int (nI lumps), .int (nI boats), .ref thickness, .ref lumpNames, .ref lumpCells, .ref boatNames, .ref boatCells, .ref loads, .ref spoons, .ref spoonsLeft, .ref depths])), (lumpNames, .inl (ky 1, 6, .inr (.inl lumpNamesF)))] sz) (va_Qi (fun (r : Int32) (u : Nat × Int32 × (Nat → Int32) × Nat × Int32 × Nat × Int32 × Int32 × Int64 × Int32 × Int32) => match u with | (ccodeCountG, conesG, ccodesG, rplaceG, rkindG, rbeginG, rwordG, rnumberG, rlettersG, rfaultKindG, rfaultPlaceG) => (r = nI 0 ∨ r = nI 1) ∧ (ccodeCountG ≤ 40) ∧ (rplaceG ≤ rlength) ∧ (rbeginG ≤ 940)) (BU dC dI ky (fun (u : Nat × Int32 × (Nat → Int32) × Nat × Int32 × Nat × Int32 × Int32 × Int64 × Int32 × Int32) => match u with | (ccodeCountG, conesG, ccodesG, rplaceG, rkindG, rbeginG, rwordG, rnumberG, rlettersG, rfaultKindG, rfaultPlaceG) => [(se, .inr (9, [.ref ccodes, .int (nI ccodeCountG), .int conesG])), (ccodes, .inl (ky 0, 40, .inl ccodesG)), (reader, .inr (5, [.ref rtape, .int (nI rlength), .int (nI rmostBytes), .int (nI rplaceG), .int rkindG, .int (nI rbeginG), .int rwordG, .int rnumberG, .long rlettersG, .int rfaultKindG, .int rfaultPlaceG])), (rtape, .inl (ky 2, 940, .inl rtapeF)), (a, .inr (7, [.int (nI wide), .int (nI high), .int heat, .int cools, .int skinHeat, .int today, .int stirs, .int steps, .int (nI lumps), .int (nI boats), .ref thickness, .ref lumpNames, .ref lumpCells, .ref boatNames, .ref boatCells, .ref loads, .ref spoons, .ref spoonsLeft, .ref depths])), (lumpNames, .inl (ky 1, 6, .inr (.inl lumpNamesF)))]) (va_A [(se, .inr (9, [.ref ccodes, .int (nI ccodeCount), .int cones])), (ccodes, .inl (ky 0, 40, .inl ccodesF)), (reader, .inr (5, [.ref rtape, .int (nI rlength), .int (nI rmostBytes), .int (nI rplace), .int rkind, .int (nI rbegin), .int rword, .int rnumber, .long rletters, .int rfaultKind, .int rfaultPlace])), (rtape, .inl (ky 2, 940, .inl rtapeF)), (a, .inr (7, [.int (nI wide), .int (nI high), .int heat, .int cools, .int skinHeat, .int today, .int stirs, .int steps, .int (nI lumps), .int (nI boats), .ref thickness, .ref lumpNames, .ref lumpCells, .ref boatNames, .ref boatCells, .ref loads, .ref spoons, .ref spoonsLeft, .ref depths])), (lumpNames, .inl (ky 1, 6, .inr (.inl lumpNamesF)))] sz)) (va_A [(se, .inr (9, [.ref ccodes, .int (nI ccodeCount), .int cones])), (ccodes, .inl (ky 0, 40, .inl ccodesF)), (reader, .inr (5, [.ref rtape, .int (nI rlength), .int (nI rmostBytes), .int (nI rplace), .int rkind, .int (nI rbegin), .int rword, .int rnumber, .long rletters, .int rfaultKind, .int rfaultPlace])), (rtape, .inl (ky 2, 940, .inl rtapeF)), (a, .inr (7, [.int (nI wide), .int (nI high), .int heat, .int cools, .int skinHeat, .int today, .int stirs, .int steps, .int (nI lumps), .int (nI boats), .ref thickness, .ref lumpNames, .ref lumpCells, .ref boatNames, .ref boatCells, .ref loads, .ref spoons, .ref spoonsLeft, .ref depths])), (lumpNames, .inl (ky 1, 6, .inr (.inl lumpNamesF)))] sz)) 0 0 (va_A [(se, .inr (9, [.ref ccodes, .int (nI ccodeCount), .int cones])), (ccodes, .inl (ky 0, 40, .inl ccodesF)), (reader, .inr (5, [.ref rtape, .int (nI rlength), .int (nI rmostBytes), .int (nI rplace), .int rkind, .int (nI rbegin), .int rword, .int rnumber, .long rletters, .int rfaultKind, .int rfaultPlace])), (rtape, .inl (ky 2, 940, .inl rtapeF)), (a, .inr (7, [.int (nI wide), .int (nI high), .int heat, .int cools, .int skinHeat, .int today, .int stirs, .int steps, .int (nI lumps), .int (nI boats), .ref thickness, .ref lumpNames, .ref lumpCells, .ref boatNames, .ref boatCells, .ref loads, .ref spoons, .ref spoonsLeft, .ref depths])), (lumpNames, .inl (ky 1, 6, .inr (.inl lumpNamesF)))] sz) := by
  refine Met.ofW (cc := cX9_readOne) (maxL := 6) (ret := (some .boolean)) (by decide) rfl ?_
  intro p e s m args below meth c s₁ B hml hv
  obtain ⟨rfl, hsz, hP, hK, hD0, hE⟩ := hv
  have hx := B.exec
  have hb := B.bytes
  have hr := B.returns
  have hts := atoms_spec (ws := wsX9_readOne) B.pre
  have hown : s.vm.findClass RX9 = some m.cls := findClass_of_methodNamed B.named
  have hlocks := B.notSynchronized
  have hin5 : ∀ w ∈ u_ws RX5 TX5 11, w ∈ wsX9_readOne := by decide +kernel
  have hin9 : ∀ w ∈ u_ws RX9 TX9 3, w ∈ wsX9_readOne := by decide +kernel
  subst hsz
  have hD := hD0.self (sz := s.heap.size)
  generalize hAe : va_A [(se, .inr (9, [.ref ccodes, .int (nI ccodeCount), .int cones])), (ccodes, .inl (ky 0, 40, .inl ccodesF)), (reader, .inr (5, [.ref rtape, .int (nI rlength), .int (nI rmostBytes), .int (nI rplace), .int rkind, .int (nI rbegin), .int rword, .int rnumber, .long rletters, .int rfaultKind, .int rfaultPlace])), (rtape, .inl (ky 2, 940, .inl rtapeF)), (a, .inr (7, [.int (nI wide), .int (nI high), .int heat, .int cools, .int skinHeat, .int today, .int stirs, .int steps, .int (nI lumps), .int (nI boats), .ref thickness, .ref lumpNames, .ref lumpCells, .ref boatNames, .ref boatCells, .ref loads, .ref spoons, .ref spoonsLeft, .ref depths])), (lumpNames, .inl (ky 1, 6, .inr (.inl lumpNamesF)))] s.heap.size = A at hD hE ⊢
  have hA : ∀ q : Nat, s.heap.size ≤ q → A q := fun q h => by rw [← hAe]; exact Or.inr h
  have hS : va_S A s.heap s.heap [] := va_S.rf
  have hl := lv_entry ([.ref se, .ref reader, .ref a, .int (nI 7)]) (n := 6) (Nat.le_of_ble_eq_true rfl)
  rw [lg_entry_eq]
  generalize (lg_sl ([.ref se, .ref reader, .ref a, .int (nI 7)]) ++ List.replicate (6 - (lg_sl ([.ref se, .ref reader, .ref a, .int (nI 7)])).length) Slot.unset).toArray = ls at hl ⊢
  have hl : lv_has ls 6 [(0, .ref se), (1, .ref reader), (2, .ref a), (3, .int (nI 7))] := hl
  refine q_name (fun Q hQ => ?_)
  generalize ([.ref se, .ref reader, .ref a, .int (nI 7)] : List Value).toArray = args at hts hQ ⊢
  refine lv_aload_n hx hb dX9_readOne_0 rfl (lv_at hl 1 rfl) ?_
  refine vp_callSi (W.runV (As := []) (rest := []) ⟨hx, hb, hml, hown, hts⟩ (c_r_nextWord l dC dI ky reader rtape rlength rmostBytes rplace rkind rbegin rword rnumber rletters rfaultKind rfaultPlace iv_rreader_0 iv_rreader_1 iv_rreader_2 iv_rreader_3) (cwV 0 hts gX9_readOne_X5_nextWord rfl rfl rfl (by decide +kernel) ⟨(Nat.le_of_ble_eq_true rfl), (Nat.le_of_ble_eq_true rfl)⟩) (pre_PV hK hP [2] rfl (ci := 5) (q0 := 2) rfl rfl) rfl rfl hl.1 rfl (lv_room (Nat.le_of_ble_eq_true rfl)) dX9_readOne_1 ⟨(Nat.le_of_ble_eq_true rfl), (Nat.le_of_ble_eq_true rfl)⟩) (fun r1 p2 => ?_)
  refine lv_istore (lv' := [(4, .int r1), (0, .ref se), (1, .ref reader), (2, .ref a), (3, .int (nI 7))]) hx hb dX9_readOne_4 hl (by decide) rfl (fun ls hl => ?_)
  refine lv_aload_n hx hb dX9_readOne_6 rfl (lv_at hl 2 rfl) ?_
  refine va_get (D := (dC, dI)) (ci := 5) (v := .int rkind) (C := RX5) (T := TX5) (N := 11) hx hb hts hin5 hown hK hP 2 rfl rfl 4 (by decide) (hts (.fieldLink RX9 35 "PorridgeSea$Reader" "kind" "I") (List.mem_of_getElem? (i := 1) rfl)) (fun _ h9 => h9) rfl dX9_readOne_7 ?_
  refine lv_bipush (v := nI 40) hx hb dX9_readOne_10 (by decide) ?_
  have hJ6 : ∀ (x4 : Int32), (x4 = nI 0 ∨ x4 = nI 1) → ∀ (H : Heap) (locs : List Loc) (ls : Array Slot), va_P (dC, dI) vwCl [(se, .inr (9, [.ref ccodes, .int (nI ccodeCount), .int cones])), (ccodes, .inl (ky 0, 40, .inl ccodesF)), (reader, .inr (5, [.ref rtape, .int (nI rlength), .int (nI rmostBytes), .int (nI rplace), .int rkind, .int (nI rbegin), .int rword, .int rnumber, .long rletters, .int rfaultKind, .int rfaultPlace])), (rtape, .inl (ky 2, 940, .inl rtapeF)), (a, .inr (7, [.int (nI wide), .int (nI high), .int heat, .int cools, .int skinHeat, .int today, .int stirs, .int steps, .int (nI lumps), .int (nI boats), .ref thickness, .ref lumpNames, .ref lumpCells, .ref boatNames, .ref boatCells, .ref loads, .ref spoons, .ref spoonsLeft, .ref depths])), (lumpNames, .inl (ky 1, 6, .inr (.inl lumpNamesF)))] H → va_D A [(se, .inr (9, [.ref ccodes, .int (nI ccodeCount), .int cones])), (ccodes, .inl (ky 0, 40, .inl ccodesF)), (reader, .inr (5, [.ref rtape, .int (nI rlength), .int (nI rmostBytes), .int (nI rplace), .int rkind, .int (nI rbegin), .int rword, .int rnumber, .long rletters, .int rfaultKind, .int rfaultPlace])), (rtape, .inl (ky 2, 940, .inl rtapeF)), (a, .inr (7, [.int (nI wide), .int (nI high), .int heat, .int cools, .int skinHeat, .int today, .int stirs, .int steps, .int (nI lumps), .int (nI boats), .ref thickness, .ref lumpNames, .ref lumpCells, .ref boatNames, .ref boatCells, .ref loads, .ref spoons, .ref spoonsLeft, .ref depths])), (lumpNames, .inl (ky 1, 6, .inr (.inl lumpNamesF)))] → va_S A s.heap H locs → lv_has ls 6 [(4, .int r1), (0, .ref se), (1, .ref reader), (2, .ref a), (3, .int (nI 7))] → W p l e (headSpec wsX9_readOne ({ frames := 11, cells := 0, slots := 0, locals := 256 })).room s m args below meth c H locs 0 0 Q (F0 m 20 ls [.int x4]) := by
    intro x4 j5 H locs ls hP hD hS hl
    refine lv_istore (lv' := [(5, .int x4), (4, .int r1), (0, .ref se), (1, .ref reader), (2, .ref a), (3, .int (nI 7))]) hx hb dX9_readOne_20 hl (by decide) rfl (fun ls hl => ?_)
    refine lv_iload hx hb dX9_readOne_22 (lv_at hl 0 rfl) ?_
    refine lv_if_ne (tgt := 47) hx hb dX9_readOne_24 (by decide) (fun c7 => ?_) (fun c7 => ?_)
    · refine lv_aload_n hx hb dX9_readOne_47 rfl (lv_at hl 2 rfl) ?_
      refine va_get (D := (dC, dI)) (ci := 9) (v := .int cones) (C := RX9) (T := TX9) (N := 3) hx hb hts hin9 hown hK hP 0 rfl rfl 2 (by decide) (hts (.fieldLink RX9 19 "PorridgeSea$Sentence" "ones" "I") (List.mem_of_getElem? (i := 2) rfl)) (fun _ h9 => h9) rfl dX9_readOne_48 ?_
      refine lv_bipush (v := nI 20) hx hb dX9_readOne_51 (by decide) ?_
      refine lv_icmp_ge (tgt := 62) hx hb dX9_readOne_53 (by decide) (fun c8 => ?_) (fun c8 => ?_)
      · refine lv_aload_n hx hb dX9_readOne_62 rfl (lv_at hl 3 rfl) ?_
        refine lv_iconst (v := nI 4) hx hb dX9_readOne_63 (by decide) ?_
        refine r_call_i (wr := [(se, .inr (9, [.ref ccodes, .int (nI ccodeCount), .int cones])), (ccodes, .inl (ky 0, 40, .inl ccodesF)), (rtape, .inl (ky 2, 940, .inl rtapeF)), (a, .inr (7, [.int (nI wide), .int (nI high), .int heat, .int cools, .int skinHeat, .int today, .int stirs, .int steps, .int (nI lumps), .int (nI boats), .ref thickness, .ref lumpNames, .ref lumpCells, .ref boatNames, .ref boatCells, .ref loads, .ref spoons, .ref spoonsLeft, .ref depths])), (lumpNames, .inl (ky 1, 6, .inr (.inl lumpNamesF)))]) (va_runV (As := [.int (nI 4)]) (rest := []) ⟨hx, hb, hml, hown, hts⟩ (c_r_refuse l dC dI ky H.size reader rtape rlength rmostBytes rplace rkind rbegin rword rnumber rletters rfaultKind rfaultPlace (nI 4) iv_rreader_0 iv_rreader_1 iv_rreader_2 iv_rreader_3) (cwV 1 hts gX9_readOne_X5_refuse rfl rfl rfl (by decide +kernel) ⟨(Nat.le_of_ble_eq_true rfl), (Nat.le_of_ble_eq_true rfl)⟩) (pre_UV hK hP hD [2] (by decide) rfl (ci := 5) (q0 := 2) rfl rfl) rfl rfl hl.1 rfl (lv_room (Nat.le_of_ble_eq_true rfl)) dX9_readOne_64 ⟨(Nat.le_of_ble_eq_true rfl), (Nat.le_of_ble_eq_true rfl)⟩) hP hD hS hA [2] [0, 1, 3, 4, 5] rfl rfl (by decide) (by decide) (fun r11 u9 H locs p10 hP hD hS => ?_)
        obtain ⟨rfaultKindG_12, rfaultPlaceG_13⟩ := u9
        try dsimp only at p10
        have p14 := p10
        refine W.widen (k := 0) (n := 0) (Nat.le_of_ble_eq_true rfl) (Nat.le_of_ble_eq_true rfl) ?_
        have hP : va_P (dC, dI) vwCl [(se, .inr (9, [.ref ccodes, .int (nI ccodeCount), .int cones])), (ccodes, .inl (ky 0, 40, .inl ccodesF)), (rtape, .inl (ky 2, 940, .inl rtapeF)), (a, .inr (7, [.int (nI wide), .int (nI high), .int heat, .int cools, .int skinHeat, .int today, .int stirs, .int steps, .int (nI lumps), .int (nI boats), .ref thickness, .ref lumpNames, .ref lumpCells, .ref boatNames, .ref boatCells, .ref loads, .ref spoons, .ref spoonsLeft, .ref depths])), (lumpNames, .inl (ky 1, 6, .inr (.inl lumpNamesF))), (reader, .inr (5, [.ref rtape, .int (nI rlength), .int (nI rmostBytes), .int (nI rplace), .int rkind, .int (nI rbegin), .int rword, .int rnumber, .long rletters, .int rfaultKindG_12, .int rfaultPlaceG_13]))] H := hP
        have hD : va_D A [(se, .inr (9, [.ref ccodes, .int (nI ccodeCount), .int cones])), (ccodes, .inl (ky 0, 40, .inl ccodesF)), (rtape, .inl (ky 2, 940, .inl rtapeF)), (a, .inr (7, [.int (nI wide), .int (nI high), .int heat, .int cools, .int skinHeat, .int today, .int stirs, .int steps, .int (nI lumps), .int (nI boats), .ref thickness, .ref lumpNames, .ref lumpCells, .ref boatNames, .ref boatCells, .ref loads, .ref spoons, .ref spoonsLeft, .ref depths])), (lumpNames, .inl (ky 1, 6, .inr (.inl lumpNamesF))), (reader, .inr (5, [.ref rtape, .int (nI rlength), .int (nI rmostBytes), .int (nI rplace), .int rkind, .int (nI rbegin), .int rword, .int rnumber, .long rletters, .int rfaultKindG_12, .int rfaultPlaceG_13]))] := hD
        subst p14
        rw [hQ]
        have hP9 := hP.sub (ws' := [(se, .inr (9, [.ref ccodes, .int (nI ccodeCount), .int cones])), (ccodes, .inl (ky 0, 40, .inl ccodesF)), (reader, .inr (5, [.ref rtape, .int (nI rlength), .int (nI rmostBytes), .int (nI rplace), .int rkind, .int (nI rbegin), .int rword, .int rnumber, .long rletters, .int rfaultKindG_12, .int rfaultPlaceG_13])), (rtape, .inl (ky 2, 940, .inl rtapeF)), (a, .inr (7, [.int (nI wide), .int (nI high), .int heat, .int cools, .int skinHeat, .int today, .int stirs, .int steps, .int (nI lumps), .int (nI boats), .ref thickness, .ref lumpNames, .ref lumpCells, .ref boatNames, .ref boatCells, .ref loads, .ref spoons, .ref spoonsLeft, .ref depths])), (lumpNames, .inl (ky 1, 6, .inr (.inl lumpNamesF)))]) [0, 1, 5, 2, 3, 4] rfl
        have hD9 := hD.sub (ws' := [(se, .inr (9, [.ref ccodes, .int (nI ccodeCount), .int cones])), (ccodes, .inl (ky 0, 40, .inl ccodesF)), (reader, .inr (5, [.ref rtape, .int (nI rlength), .int (nI rmostBytes), .int (nI rplace), .int rkind, .int (nI rbegin), .int rword, .int rnumber, .long rletters, .int rfaultKindG_12, .int rfaultPlaceG_13])), (rtape, .inl (ky 2, 940, .inl rtapeF)), (a, .inr (7, [.int (nI wide), .int (nI high), .int heat, .int cools, .int skinHeat, .int today, .int stirs, .int steps, .int (nI lumps), .int (nI boats), .ref thickness, .ref lumpNames, .ref lumpCells, .ref boatNames, .ref boatCells, .ref loads, .ref spoons, .ref spoonsLeft, .ref depths])), (lumpNames, .inl (ky 1, 6, .inr (.inl lumpNamesF)))]) [0, 1, 5, 2, 3, 4] (by decide) rfl
        exact W.zret (v := nI 0) hx hb hr (by decide) (fun t9 ht9 hW9 => ⟨⟨nI 0, (ccodeCount, cones, ccodesF, rplace, rkind, rbegin, rword, rnumber, rletters, rfaultKindG_12, rfaultPlaceG_13), rfl, ⟨(lf_n_readOne7_1 p2), iv_cse_0, iv_rreader_1, iv_rreader_3⟩, by rw [ht9]; exact hP9, va_K.moved hW9.alike hK, hD9⟩, hS.F ht9⟩) hS.2.2 dX9_readOne_67
      · refine lv_iload_n hx hb dX9_readOne_56 rfl (lv_at hl 5 rfl) ?_
        refine lv_bipush (v := nI 8) hx hb dX9_readOne_57 (by decide) ?_
        refine lv_icmp_le (tgt := 68) hx hb dX9_readOne_59 (by decide) (fun c15 => ?_) (fun c15 => absurd (by decide) c15)
        refine lv_aload_n hx hb dX9_readOne_68 rfl (lv_at hl 2 rfl) ?_
        refine lv_dup hx hb dX9_readOne_69 rfl ?_
        refine va_get (D := (dC, dI)) (ci := 9) (v := .int cones) (C := RX9) (T := TX9) (N := 3) hx hb hts hin9 hown hK hP 0 rfl rfl 2 (by decide) (hts (.fieldLink RX9 19 "PorridgeSea$Sentence" "ones" "I") (List.mem_of_getElem? (i := 2) rfl)) (fun _ h9 => h9) rfl dX9_readOne_70 ?_
        refine lv_iconst (v := nI 1) hx hb dX9_readOne_73 (by decide) ?_
        refine lv_iadd hx hb dX9_readOne_74 ?_
        refine lv_topi (fun y16 e17 => ?_)
        refine va_put (D := (dC, dI)) (ci := 9) (v := .int y16) (ty := .int) (C := RX9) (T := TX9) (N := 3) hx hb hts hin9 tyX9 tyX9_ok nmX9 hown hK hP hD hS 0 rfl rfl 2 (by decide) (hts (.fieldLink RX9 19 "PorridgeSea$Sentence" "ones" "I") (List.mem_of_getElem? (i := 2) rfl)) (fun _ h9 => h9) rfl (by decide +kernel) rfl rfl (Nat.le_of_ble_eq_true rfl) dX9_readOne_75 (fun H locs hP hD hS => ?_)
        have hP : va_P (dC, dI) vwCl [(se, .inr (9, [.ref ccodes, .int (nI ccodeCount), .int y16])), (ccodes, .inl (ky 0, 40, .inl ccodesF)), (reader, .inr (5, [.ref rtape, .int (nI rlength), .int (nI rmostBytes), .int (nI rplace), .int rkind, .int (nI rbegin), .int rword, .int rnumber, .long rletters, .int rfaultKind, .int rfaultPlace])), (rtape, .inl (ky 2, 940, .inl rtapeF)), (a, .inr (7, [.int (nI wide), .int (nI high), .int heat, .int cools, .int skinHeat, .int today, .int stirs, .int steps, .int (nI lumps), .int (nI boats), .ref thickness, .ref lumpNames, .ref lumpCells, .ref boatNames, .ref boatCells, .ref loads, .ref spoons, .ref spoonsLeft, .ref depths])), (lumpNames, .inl (ky 1, 6, .inr (.inl lumpNamesF)))] H := hP
        have hD : va_D A [(se, .inr (9, [.ref ccodes, .int (nI ccodeCount), .int y16])), (ccodes, .inl (ky 0, 40, .inl ccodesF)), (reader, .inr (5, [.ref rtape, .int (nI rlength), .int (nI rmostBytes), .int (nI rplace), .int rkind, .int (nI rbegin), .int rword, .int rnumber, .long rletters, .int rfaultKind, .int rfaultPlace])), (rtape, .inl (ky 2, 940, .inl rtapeF)), (a, .inr (7, [.int (nI wide), .int (nI high), .int heat, .int cools, .int skinHeat, .int today, .int stirs, .int steps, .int (nI lumps), .int (nI boats), .ref thickness, .ref lumpNames, .ref lumpCells, .ref boatNames, .ref boatCells, .ref loads, .ref spoons, .ref spoonsLeft, .ref depths])), (lumpNames, .inl (ky 1, 6, .inr (.inl lumpNamesF)))] := hD
        refine lv_aload_n hx hb dX9_readOne_78 rfl (lv_at hl 3 rfl) ?_
        refine r_call_v (wr := [(se, .inr (9, [.ref ccodes, .int (nI ccodeCount), .int y16])), (ccodes, .inl (ky 0, 40, .inl ccodesF)), (a, .inr (7, [.int (nI wide), .int (nI high), .int heat, .int cools, .int skinHeat, .int today, .int stirs, .int steps, .int (nI lumps), .int (nI boats), .ref thickness, .ref lumpNames, .ref lumpCells, .ref boatNames, .ref boatCells, .ref loads, .ref spoons, .ref spoonsLeft, .ref depths])), (lumpNames, .inl (ky 1, 6, .inr (.inl lumpNamesF)))]) (va_runV (As := []) (rest := []) ⟨hx, hb, hml, hown, hts⟩ (c_r_advance l dC dI ky H.size adK adV reader rtape rlength rmostBytes rplace rkind rbegin rword rnumber rletters rfaultKind rfaultPlace rtapeF iv_rreader_0 iv_rreader_1 iv_rreader_2 iv_rreader_3) (cwV 0 hts gX9_readOne_X5_advance rfl rfl rfl (by decide +kernel) ⟨(Nat.le_of_ble_eq_true rfl), (Nat.le_of_ble_eq_true rfl)⟩) (pre_UEV hE hS hA hK hP hD [2, 3] (by decide) rfl (va_recv hK hP (ci := 5) (q0 := 2) rfl rfl)) rfl rfl hl.1 rfl (lv_room (Nat.le_of_ble_eq_true rfl)) dX9_readOne_79 ⟨(Nat.le_of_ble_eq_true rfl), (Nat.le_of_ble_eq_true rfl)⟩) hP hD hS hA [2, 3] [0, 1, 4, 5] rfl rfl (by decide) (by decide) (fun  u18 H locs p19 hP hD hS => ?_)
        obtain ⟨rplaceG_20, rkindG_21, rbeginG_22, rwordG_23, rnumberG_24, rlettersG_25⟩ := u18
        try dsimp only at p19
        obtain ⟨p26, p27⟩ := p19
        refine W.widen (k := 0) (n := 0) (Nat.le_of_ble_eq_true rfl) (Nat.le_of_ble_eq_true rfl) ?_
        have hP : va_P (dC, dI) vwCl [(se, .inr (9, [.ref ccodes, .int (nI ccodeCount), .int y16])), (ccodes, .inl (ky 0, 40, .inl ccodesF)), (a, .inr (7, [.int (nI wide), .int (nI high), .int heat, .int cools, .int skinHeat, .int today, .int stirs, .int steps, .int (nI lumps), .int (nI boats), .ref thickness, .ref lumpNames, .ref lumpCells, .ref boatNames, .ref boatCells, .ref loads, .ref spoons, .ref spoonsLeft, .ref depths])), (lumpNames, .inl (ky 1, 6, .inr (.inl lumpNamesF))), (reader, .inr (5, [.ref rtape, .int (nI rlength), .int (nI rmostBytes), .int (nI rplaceG_20), .int rkindG_21, .int (nI rbeginG_22), .int rwordG_23, .int rnumberG_24, .long rlettersG_25, .int rfaultKind, .int rfaultPlace])), (rtape, .inl (ky 2, 940, .inl rtapeF))] H := hP
        have hD : va_D A [(se, .inr (9, [.ref ccodes, .int (nI ccodeCount), .int y16])), (ccodes, .inl (ky 0, 40, .inl ccodesF)), (a, .inr (7, [.int (nI wide), .int (nI high), .int heat, .int cools, .int skinHeat, .int today, .int stirs, .int steps, .int (nI lumps), .int (nI boats), .ref thickness, .ref lumpNames, .ref lumpCells, .ref boatNames, .ref boatCells, .ref loads, .ref spoons, .ref spoonsLeft, .ref depths])), (lumpNames, .inl (ky 1, 6, .inr (.inl lumpNamesF))), (reader, .inr (5, [.ref rtape, .int (nI rlength), .int (nI rmostBytes), .int (nI rplaceG_20), .int rkindG_21, .int (nI rbeginG_22), .int rwordG_23, .int rnumberG_24, .long rlettersG_25, .int rfaultKind, .int rfaultPlace])), (rtape, .inl (ky 2, 940, .inl rtapeF))] := hD
        refine lv_iload hx hb dX9_readOne_82 (lv_at hl 0 rfl) ?_
        refine lv_if_eq (tgt := 114) hx hb dX9_readOne_84 (by decide) (fun c28 => absurd c28 c7) (fun c28 => ?_)
        refine lv_aload_n hx hb dX9_readOne_87 rfl (lv_at hl 2 rfl) ?_
        refine lv_aload_n hx hb dX9_readOne_88 rfl (lv_at hl 3 rfl) ?_
        refine lv_aload_n hx hb dX9_readOne_89 rfl (lv_at hl 4 rfl) ?_
        refine lv_iload_n hx hb dX9_readOne_90 rfl (lv_at hl 5 rfl) ?_
        refine lv_iconst (v := nI 1) hx hb dX9_readOne_91 (by decide) ?_
        refine lv_iadd hx hb dX9_readOne_92 ?_
        refine r_ti (nI 8) (by decide) ?_
        refine r_call_i (wr := []) (va_runV (As := [.ref reader, .ref a, .int (nI 8)]) (rest := []) ⟨hx, hb, hml, hown, hts⟩ (c_n_readCond8 l dC dI ky H.size adK adV se ccodes ccodeCount y16 ccodesF reader rtape rlength rmostBytes rplaceG_20 rkindG_21 rbeginG_22 rwordG_23 rnumberG_24 rlettersG_25 rfaultKind rfaultPlace rtapeF a wide high heat cools skinHeat today stirs steps lumps boats thickness lumpNames lumpCells boatNames boatCells loads spoons spoonsLeft depths lumpNamesF iv_cse_0 iv_rreader_0 p26 iv_rreader_2 p27 iv_a_0 iv_a_1 iv_a_2 iv_a_3 iv_a_4 iv_a_5) (cwV 3 hts gX9_readOne_X9_readCond rfl rfl rfl (by decide +kernel) ⟨(Nat.le_of_ble_eq_true rfl), (Nat.le_of_ble_eq_true rfl)⟩) (pre_UEV hE hS hA hK hP hD [0, 1, 4, 5, 2, 3] (by decide) rfl (va_recv hK hP (ci := 9) (q0 := 0) rfl rfl)) rfl rfl hl.1 rfl (lv_room (Nat.le_of_ble_eq_true rfl)) dX9_readOne_93 ⟨(Nat.le_of_ble_eq_true rfl), (Nat.le_of_ble_eq_true rfl)⟩) hP hD hS hA [0, 1, 4, 5, 2, 3] [] rfl rfl (by decide) (by decide) (fun r31 u29 H locs p30 hP hD hS => ?_)
        obtain ⟨ccodeCountG_32, conesG_33, ccodesG_34, rplaceG_35, rkindG_36, rbeginG_37, rwordG_38, rnumberG_39, rlettersG_40, rfaultKindG_41, rfaultPlaceG_42⟩ := u29
        try dsimp only at p30
        obtain ⟨p43, p44, p45, p46⟩ := p30
        refine W.widen (k := 0) (n := 0) (Nat.le_of_ble_eq_true rfl) (Nat.le_of_ble_eq_true rfl) ?_
        have hP : va_P (dC, dI) vwCl [(se, .inr (9, [.ref ccodes, .int (nI ccodeCountG_32), .int conesG_33])), (ccodes, .inl (ky 0, 40, .inl ccodesG_34)), (reader, .inr (5, [.ref rtape, .int (nI rlength), .int (nI rmostBytes), .int (nI rplaceG_35), .int rkindG_36, .int (nI rbeginG_37), .int rwordG_38, .int rnumberG_39, .long rlettersG_40, .int rfaultKindG_41, .int rfaultPlaceG_42])), (rtape, .inl (ky 2, 940, .inl rtapeF)), (a, .inr (7, [.int (nI wide), .int (nI high), .int heat, .int cools, .int skinHeat, .int today, .int stirs, .int steps, .int (nI lumps), .int (nI boats), .ref thickness, .ref lumpNames, .ref lumpCells, .ref boatNames, .ref boatCells, .ref loads, .ref spoons, .ref spoonsLeft, .ref depths])), (lumpNames, .inl (ky 1, 6, .inr (.inl lumpNamesF)))] H := hP
        have hD : va_D A [(se, .inr (9, [.ref ccodes, .int (nI ccodeCountG_32), .int conesG_33])), (ccodes, .inl (ky 0, 40, .inl ccodesG_34)), (reader, .inr (5, [.ref rtape, .int (nI rlength), .int (nI rmostBytes), .int (nI rplaceG_35), .int rkindG_36, .int (nI rbeginG_37), .int rwordG_38, .int rnumberG_39, .long rlettersG_40, .int rfaultKindG_41, .int rfaultPlaceG_42])), (rtape, .inl (ky 2, 940, .inl rtapeF)), (a, .inr (7, [.int (nI wide), .int (nI high), .int heat, .int cools, .int skinHeat, .int today, .int stirs, .int steps, .int (nI lumps), .int (nI boats), .ref thickness, .ref lumpNames, .ref lumpCells, .ref boatNames, .ref boatCells, .ref loads, .ref spoons, .ref spoonsLeft, .ref depths])), (lumpNames, .inl (ky 1, 6, .inr (.inl lumpNamesF)))] := hD
        refine lv_if_eq (tgt := 112) hx hb dX9_readOne_96 (by decide) (fun c47 => ?_) (fun c47 => ?_)
        · refine lv_iconst (v := nI 0) hx hb dX9_readOne_112 (by decide) ?_
          rw [hQ]
          exact W.zret (v := nI 0) hx hb hr (by decide) (fun t9 ht9 hW9 => ⟨⟨nI 0, (ccodeCountG_32, conesG_33, ccodesG_34, rplaceG_35, rkindG_36, rbeginG_37, rwordG_38, rnumberG_39, rlettersG_40, rfaultKindG_41, rfaultPlaceG_42), rfl, ⟨(lf_n_readOne7_2 p2), p44, p45, p46⟩, by rw [ht9]; exact hP, va_K.moved hW9.alike hK, hD⟩, hS.F ht9⟩) hS.2.2 dX9_readOne_113
        · refine lv_aload_n hx hb dX9_readOne_99 rfl (lv_at hl 3 rfl) ?_
          refine lv_bipush (v := nI 41) hx hb dX9_readOne_100 (by decide) ?_
          refine r_call_i (wr := [(se, .inr (9, [.ref ccodes, .int (nI ccodeCountG_32), .int conesG_33])), (ccodes, .inl (ky 0, 40, .inl ccodesG_34)), (a, .inr (7, [.int (nI wide), .int (nI high), .int heat, .int cools, .int skinHeat, .int today, .int stirs, .int steps, .int (nI lumps), .int (nI boats), .ref thickness, .ref lumpNames, .ref lumpCells, .ref boatNames, .ref boatCells, .ref loads, .ref spoons, .ref spoonsLeft, .ref depths])), (lumpNames, .inl (ky 1, 6, .inr (.inl lumpNamesF)))]) (va_runV (As := [.int (nI 41)]) (rest := []) ⟨hx, hb, hml, hown, hts⟩ (c_r_takeSign l dC dI ky H.size adK adV reader rtape rlength rmostBytes rplaceG_35 rkindG_36 rbeginG_37 rwordG_38 rnumberG_39 rlettersG_40 rfaultKindG_41 rfaultPlaceG_42 rtapeF (nI 41) iv_rreader_0 p45 iv_rreader_2 p46) (cwV 1 hts gX9_readOne_X5_takeSign rfl rfl rfl (by decide +kernel) ⟨(Nat.le_of_ble_eq_true rfl), (Nat.le_of_ble_eq_true rfl)⟩) (pre_UEV hE hS hA hK hP hD [2, 3] (by decide) rfl (va_recv hK hP (ci := 5) (q0 := 2) rfl rfl)) rfl rfl hl.1 rfl (lv_room (Nat.le_of_ble_eq_true rfl)) dX9_readOne_102 ⟨(Nat.le_of_ble_eq_true rfl), (Nat.le_of_ble_eq_true rfl)⟩) hP hD hS hA [2, 3] [0, 1, 4, 5] rfl rfl (by decide) (by decide) (fun r50 u48 H locs p49 hP hD hS => ?_)
          obtain ⟨rplaceG_51, rkindG_52, rbeginG_53, rwordG_54, rnumberG_55, rlettersG_56, rfaultKindG_57, rfaultPlaceG_58⟩ := u48
          try dsimp only at p49
          obtain ⟨p59, p60, p61⟩ := p49
          refine W.widen (k := 0) (n := 0) (Nat.le_of_ble_eq_true rfl) (Nat.le_of_ble_eq_true rfl) ?_
          have hP : va_P (dC, dI) vwCl [(se, .inr (9, [.ref ccodes, .int (nI ccodeCountG_32), .int conesG_33])), (ccodes, .inl (ky 0, 40, .inl ccodesG_34)), (a, .inr (7, [.int (nI wide), .int (nI high), .int heat, .int cools, .int skinHeat, .int today, .int stirs, .int steps, .int (nI lumps), .int (nI boats), .ref thickness, .ref lumpNames, .ref lumpCells, .ref boatNames, .ref boatCells, .ref loads, .ref spoons, .ref spoonsLeft, .ref depths])), (lumpNames, .inl (ky 1, 6, .inr (.inl lumpNamesF))), (reader, .inr (5, [.ref rtape, .int (nI rlength), .int (nI rmostBytes), .int (nI rplaceG_51), .int rkindG_52, .int (nI rbeginG_53), .int rwordG_54, .int rnumberG_55, .long rlettersG_56, .int rfaultKindG_57, .int rfaultPlaceG_58])), (rtape, .inl (ky 2, 940, .inl rtapeF))] H := hP
          have hD : va_D A [(se, .inr (9, [.ref ccodes, .int (nI ccodeCountG_32), .int conesG_33])), (ccodes, .inl (ky 0, 40, .inl ccodesG_34)), (a, .inr (7, [.int (nI wide), .int (nI high), .int heat, .int cools, .int skinHeat, .int today, .int stirs, .int steps, .int (nI lumps), .int (nI boats), .ref thickness, .ref lumpNames, .ref lumpCells, .ref boatNames, .ref boatCells, .ref loads, .ref spoons, .ref spoonsLeft, .ref depths])), (lumpNames, .inl (ky 1, 6, .inr (.inl lumpNamesF))), (reader, .inr (5, [.ref rtape, .int (nI rlength), .int (nI rmostBytes), .int (nI rplaceG_51), .int rkindG_52, .int (nI rbeginG_53), .int rwordG_54, .int rnumberG_55, .long rlettersG_56, .int rfaultKindG_57, .int rfaultPlaceG_58])), (rtape, .inl (ky 2, 940, .inl rtapeF))] := hD
          refine lv_if_eq (tgt := 112) hx hb dX9_readOne_105 (by decide) (fun c62 => ?_) (fun c62 => ?_)
          · refine lv_iconst (v := nI 0) hx hb dX9_readOne_112 (by decide) ?_
            rw [hQ]
            have hP9 := hP.sub (ws' := [(se, .inr (9, [.ref ccodes, .int (nI ccodeCountG_32), .int conesG_33])), (ccodes, .inl (ky 0, 40, .inl ccodesG_34)), (reader, .inr (5, [.ref rtape, .int (nI rlength), .int (nI rmostBytes), .int (nI rplaceG_51), .int rkindG_52, .int (nI rbeginG_53), .int rwordG_54, .int rnumberG_55, .long rlettersG_56, .int rfaultKindG_57, .int rfaultPlaceG_58])), (rtape, .inl (ky 2, 940, .inl rtapeF)), (a, .inr (7, [.int (nI wide), .int (nI high), .int heat, .int cools, .int skinHeat, .int today, .int stirs, .int steps, .int (nI lumps), .int (nI boats), .ref thickness, .ref lumpNames, .ref lumpCells, .ref boatNames, .ref boatCells, .ref loads, .ref spoons, .ref spoonsLeft, .ref depths])), (lumpNames, .inl (ky 1, 6, .inr (.inl lumpNamesF)))]) [0, 1, 4, 5, 2, 3] rfl
            have hD9 := hD.sub (ws' := [(se, .inr (9, [.ref ccodes, .int (nI ccodeCountG_32), .int conesG_33])), (ccodes, .inl (ky 0, 40, .inl ccodesG_34)), (reader, .inr (5, [.ref rtape, .int (nI rlength), .int (nI rmostBytes), .int (nI rplaceG_51), .int rkindG_52, .int (nI rbeginG_53), .int rwordG_54, .int rnumberG_55, .long rlettersG_56, .int rfaultKindG_57, .int rfaultPlaceG_58])), (rtape, .inl (ky 2, 940, .inl rtapeF)), (a, .inr (7, [.int (nI wide), .int (nI high), .int heat, .int cools, .int skinHeat, .int today, .int stirs, .int steps, .int (nI lumps), .int (nI boats), .ref thickness, .ref lumpNames, .ref lumpCells, .ref boatNames, .ref boatCells, .ref loads, .ref spoons, .ref spoonsLeft, .ref depths])), (lumpNames, .inl (ky 1, 6, .inr (.inl lumpNamesF)))]) [0, 1, 4, 5, 2, 3] (by decide) rfl
            exact W.zret (v := nI 0) hx hb hr (by decide) (fun t9 ht9 hW9 => ⟨⟨nI 0, (ccodeCountG_32, conesG_33, ccodesG_34, rplaceG_51, rkindG_52, rbeginG_53, rwordG_54, rnumberG_55, rlettersG_56, rfaultKindG_57, rfaultPlaceG_58), rfl, ⟨(lf_n_readOne7_3 p2), p44, p60, p61⟩, by rw [ht9]; exact hP9, va_K.moved hW9.alike hK, hD9⟩, hS.F ht9⟩) hS.2.2 dX9_readOne_113
          · refine lv_iconst (v := nI 1) hx hb dX9_readOne_108 (by decide) ?_
            refine lv_goto (tgt := 113) hx hb dX9_readOne_109 (by decide) ?_
            rw [hQ]
            have hP9 := hP.sub (ws' := [(se, .inr (9, [.ref ccodes, .int (nI ccodeCountG_32), .int conesG_33])), (ccodes, .inl (ky 0, 40, .inl ccodesG_34)), (reader, .inr (5, [.ref rtape, .int (nI rlength), .int (nI rmostBytes), .int (nI rplaceG_51), .int rkindG_52, .int (nI rbeginG_53), .int rwordG_54, .int rnumberG_55, .long rlettersG_56, .int rfaultKindG_57, .int rfaultPlaceG_58])), (rtape, .inl (ky 2, 940, .inl rtapeF)), (a, .inr (7, [.int (nI wide), .int (nI high), .int heat, .int cools, .int skinHeat, .int today, .int stirs, .int steps, .int (nI lumps), .int (nI boats), .ref thickness, .ref lumpNames, .ref lumpCells, .ref boatNames, .ref boatCells, .ref loads, .ref spoons, .ref spoonsLeft, .ref depths])), (lumpNames, .inl (ky 1, 6, .inr (.inl lumpNamesF)))]) [0, 1, 4, 5, 2, 3] rfl
            have hD9 := hD.sub (ws' := [(se, .inr (9, [.ref ccodes, .int (nI ccodeCountG_32), .int conesG_33])), (ccodes, .inl (ky 0, 40, .inl ccodesG_34)), (reader, .inr (5, [.ref rtape, .int (nI rlength), .int (nI rmostBytes), .int (nI rplaceG_51), .int rkindG_52, .int (nI rbeginG_53), .int rwordG_54, .int rnumberG_55, .long rlettersG_56, .int rfaultKindG_57, .int rfaultPlaceG_58])), (rtape, .inl (ky 2, 940, .inl rtapeF)), (a, .inr (7, [.int (nI wide), .int (nI high), .int heat, .int cools, .int skinHeat, .int today, .int stirs, .int steps, .int (nI lumps), .int (nI boats), .ref thickness, .ref lumpNames, .ref lumpCells, .ref boatNames, .ref boatCells, .ref loads, .ref spoons, .ref spoonsLeft, .ref depths])), (lumpNames, .inl (ky 1, 6, .inr (.inl lumpNamesF)))]) [0, 1, 4, 5, 2, 3] (by decide) rfl
            exact W.zret (v := nI 1) hx hb hr (by decide) (fun t9 ht9 hW9 => ⟨⟨nI 1, (ccodeCountG_32, conesG_33, ccodesG_34, rplaceG_51, rkindG_52, rbeginG_53, rwordG_54, rnumberG_55, rlettersG_56, rfaultKindG_57, rfaultPlaceG_58), rfl, ⟨(lf_n_readOne7_4 p2), p44, p60, p61⟩, by rw [ht9]; exact hP9, va_K.moved hW9.alike hK, hD9⟩, hS.F ht9⟩) hS.2.2 dX9_readOne_113
    · refine lv_iload hx hb dX9_readOne_27 (lv_at hl 1 rfl) ?_
      refine lv_bipush (v := nI 22) hx hb dX9_readOne_29 (by decide) ?_
      refine lv_icmp_lt (tgt := 41) hx hb dX9_readOne_31 (by decide) (fun c63 => ?_) (fun c63 => ?_)
      · refine lv_aload_n hx hb dX9_readOne_41 rfl (lv_at hl 3 rfl) ?_
        refine lv_iconst (v := nI 1) hx hb dX9_readOne_42 (by decide) ?_
        refine r_call_i (wr := [(se, .inr (9, [.ref ccodes, .int (nI ccodeCount), .int cones])), (ccodes, .inl (ky 0, 40, .inl ccodesF)), (rtape, .inl (ky 2, 940, .inl rtapeF)), (a, .inr (7, [.int (nI wide), .int (nI high), .int heat, .int cools, .int skinHeat, .int today, .int stirs, .int steps, .int (nI lumps), .int (nI boats), .ref thickness, .ref lumpNames, .ref lumpCells, .ref boatNames, .ref boatCells, .ref loads, .ref spoons, .ref spoonsLeft, .ref depths])), (lumpNames, .inl (ky 1, 6, .inr (.inl lumpNamesF)))]) (va_runV (As := [.int (nI 1)]) (rest := []) ⟨hx, hb, hml, hown, hts⟩ (c_r_refuse l dC dI ky H.size reader rtape rlength rmostBytes rplace rkind rbegin rword rnumber rletters rfaultKind rfaultPlace (nI 1) iv_rreader_0 iv_rreader_1 iv_rreader_2 iv_rreader_3) (cwV 1 hts gX9_readOne_X5_refuse rfl rfl rfl (by decide +kernel) ⟨(Nat.le_of_ble_eq_true rfl), (Nat.le_of_ble_eq_true rfl)⟩) (pre_UV hK hP hD [2] (by decide) rfl (ci := 5) (q0 := 2) rfl rfl) rfl rfl hl.1 rfl (lv_room (Nat.le_of_ble_eq_true rfl)) dX9_readOne_43 ⟨(Nat.le_of_ble_eq_true rfl), (Nat.le_of_ble_eq_true rfl)⟩) hP hD hS hA [2] [0, 1, 3, 4, 5] rfl rfl (by decide) (by decide) (fun r66 u64 H locs p65 hP hD hS => ?_)
        obtain ⟨rfaultKindG_67, rfaultPlaceG_68⟩ := u64
        try dsimp only at p65
        have p69 := p65
        refine W.widen (k := 0) (n := 0) (Nat.le_of_ble_eq_true rfl) (Nat.le_of_ble_eq_true rfl) ?_
        have hP : va_P (dC, dI) vwCl [(se, .inr (9, [.ref ccodes, .int (nI ccodeCount), .int cones])), (ccodes, .inl (ky 0, 40, .inl ccodesF)), (rtape, .inl (ky 2, 940, .inl rtapeF)), (a, .inr (7, [.int (nI wide), .int (nI high), .int heat, .int cools, .int skinHeat, .int today, .int stirs, .int steps, .int (nI lumps), .int (nI boats), .ref thickness, .ref lumpNames, .ref lumpCells, .ref boatNames, .ref boatCells, .ref loads, .ref spoons, .ref spoonsLeft, .ref depths])), (lumpNames, .inl (ky 1, 6, .inr (.inl lumpNamesF))), (reader, .inr (5, [.ref rtape, .int (nI rlength), .int (nI rmostBytes), .int (nI rplace), .int rkind, .int (nI rbegin), .int rword, .int rnumber, .long rletters, .int rfaultKindG_67, .int rfaultPlaceG_68]))] H := hP
        have hD : va_D A [(se, .inr (9, [.ref ccodes, .int (nI ccodeCount), .int cones])), (ccodes, .inl (ky 0, 40, .inl ccodesF)), (rtape, .inl (ky 2, 940, .inl rtapeF)), (a, .inr (7, [.int (nI wide), .int (nI high), .int heat, .int cools, .int skinHeat, .int today, .int stirs, .int steps, .int (nI lumps), .int (nI boats), .ref thickness, .ref lumpNames, .ref lumpCells, .ref boatNames, .ref boatCells, .ref loads, .ref spoons, .ref spoonsLeft, .ref depths])), (lumpNames, .inl (ky 1, 6, .inr (.inl lumpNamesF))), (reader, .inr (5, [.ref rtape, .int (nI rlength), .int (nI rmostBytes), .int (nI rplace), .int rkind, .int (nI rbegin), .int rword, .int rnumber, .long rletters, .int rfaultKindG_67, .int rfaultPlaceG_68]))] := hD
        subst p69
        rw [hQ]
        have hP9 := hP.sub (ws' := [(se, .inr (9, [.ref ccodes, .int (nI ccodeCount), .int cones])), (ccodes, .inl (ky 0, 40, .inl ccodesF)), (reader, .inr (5, [.ref rtape, .int (nI rlength), .int (nI rmostBytes), .int (nI rplace), .int rkind, .int (nI rbegin), .int rword, .int rnumber, .long rletters, .int rfaultKindG_67, .int rfaultPlaceG_68])), (rtape, .inl (ky 2, 940, .inl rtapeF)), (a, .inr (7, [.int (nI wide), .int (nI high), .int heat, .int cools, .int skinHeat, .int today, .int stirs, .int steps, .int (nI lumps), .int (nI boats), .ref thickness, .ref lumpNames, .ref lumpCells, .ref boatNames, .ref boatCells, .ref loads, .ref spoons, .ref spoonsLeft, .ref depths])), (lumpNames, .inl (ky 1, 6, .inr (.inl lumpNamesF)))]) [0, 1, 5, 2, 3, 4] rfl
        have hD9 := hD.sub (ws' := [(se, .inr (9, [.ref ccodes, .int (nI ccodeCount), .int cones])), (ccodes, .inl (ky 0, 40, .inl ccodesF)), (reader, .inr (5, [.ref rtape, .int (nI rlength), .int (nI rmostBytes), .int (nI rplace), .int rkind, .int (nI rbegin), .int rword, .int rnumber, .long rletters, .int rfaultKindG_67, .int rfaultPlaceG_68])), (rtape, .inl (ky 2, 940, .inl rtapeF)), (a, .inr (7, [.int (nI wide), .int (nI high), .int heat, .int cools, .int skinHeat, .int today, .int stirs, .int steps, .int (nI lumps), .int (nI boats), .ref thickness, .ref lumpNames, .ref lumpCells, .ref boatNames, .ref boatCells, .ref loads, .ref spoons, .ref spoonsLeft, .ref depths])), (lumpNames, .inl (ky 1, 6, .inr (.inl lumpNamesF)))]) [0, 1, 5, 2, 3, 4] (by decide) rfl
        exact W.zret (v := nI 0) hx hb hr (by decide) (fun t9 ht9 hW9 => ⟨⟨nI 0, (ccodeCount, cones, ccodesF, rplace, rkind, rbegin, rword, rnumber, rletters, rfaultKindG_67, rfaultPlaceG_68), rfl, ⟨(lf_n_readOne7_5 p2), iv_cse_0, iv_rreader_1, iv_rreader_3⟩, by rw [ht9]; exact hP9, va_K.moved hW9.alike hK, hD9⟩, hS.F ht9⟩) hS.2.2 dX9_readOne_46
      · refine lv_iload hx hb dX9_readOne_34 (lv_at hl 1 rfl) ?_
        refine lv_bipush (v := nI 30) hx hb dX9_readOne_36 (by decide) ?_
        refine lv_icmp_le (tgt := 47) hx hb dX9_readOne_38 (by decide) (fun c70 => ?_) (fun c70 => ?_)
        · refine lv_aload_n hx hb dX9_readOne_47 rfl (lv_at hl 2 rfl) ?_
          refine va_get (D := (dC, dI)) (ci := 9) (v := .int cones) (C := RX9) (T := TX9) (N := 3) hx hb hts hin9 hown hK hP 0 rfl rfl 2 (by decide) (hts (.fieldLink RX9 19 "PorridgeSea$Sentence" "ones" "I") (List.mem_of_getElem? (i := 2) rfl)) (fun _ h9 => h9) rfl dX9_readOne_48 ?_
          refine lv_bipush (v := nI 20) hx hb dX9_readOne_51 (by decide) ?_
          refine lv_icmp_ge (tgt := 62) hx hb dX9_readOne_53 (by decide) (fun c71 => ?_) (fun c71 => ?_)
          · refine lv_aload_n hx hb dX9_readOne_62 rfl (lv_at hl 3 rfl) ?_
            refine lv_iconst (v := nI 4) hx hb dX9_readOne_63 (by decide) ?_
            refine r_call_i (wr := [(se, .inr (9, [.ref ccodes, .int (nI ccodeCount), .int cones])), (ccodes, .inl (ky 0, 40, .inl ccodesF)), (rtape, .inl (ky 2, 940, .inl rtapeF)), (a, .inr (7, [.int (nI wide), .int (nI high), .int heat, .int cools, .int skinHeat, .int today, .int stirs, .int steps, .int (nI lumps), .int (nI boats), .ref thickness, .ref lumpNames, .ref lumpCells, .ref boatNames, .ref boatCells, .ref loads, .ref spoons, .ref spoonsLeft, .ref depths])), (lumpNames, .inl (ky 1, 6, .inr (.inl lumpNamesF)))]) (va_runV (As := [.int (nI 4)]) (rest := []) ⟨hx, hb, hml, hown, hts⟩ (c_r_refuse l dC dI ky H.size reader rtape rlength rmostBytes rplace rkind rbegin rword rnumber rletters rfaultKind rfaultPlace (nI 4) iv_rreader_0 iv_rreader_1 iv_rreader_2 iv_rreader_3) (cwV 1 hts gX9_readOne_X5_refuse rfl rfl rfl (by decide +kernel) ⟨(Nat.le_of_ble_eq_true rfl), (Nat.le_of_ble_eq_true rfl)⟩) (pre_UV hK hP hD [2] (by decide) rfl (ci := 5) (q0 := 2) rfl rfl) rfl rfl hl.1 rfl (lv_room (Nat.le_of_ble_eq_true rfl)) dX9_readOne_64 ⟨(Nat.le_of_ble_eq_true rfl), (Nat.le_of_ble_eq_true rfl)⟩) hP hD hS hA [2] [0, 1, 3, 4, 5] rfl rfl (by decide) (by decide) (fun r74 u72 H locs p73 hP hD hS => ?_)
            obtain ⟨rfaultKindG_75, rfaultPlaceG_76⟩ := u72
            try dsimp only at p73
            have p77 := p73
            refine W.widen (k := 0) (n := 0) (Nat.le_of_ble_eq_true rfl) (Nat.le_of_ble_eq_true rfl) ?_
            have hP : va_P (dC, dI) vwCl [(se, .inr (9, [.ref ccodes, .int (nI ccodeCount), .int cones])), (ccodes, .inl (ky 0, 40, .inl ccodesF)), (rtape, .inl (ky 2, 940, .inl rtapeF)), (a, .inr (7, [.int (nI wide), .int (nI high), .int heat, .int cools, .int skinHeat, .int today, .int stirs, .int steps, .int (nI lumps), .int (nI boats), .ref thickness, .ref lumpNames, .ref lumpCells, .ref boatNames, .ref boatCells, .ref loads, .ref spoons, .ref spoonsLeft, .ref depths])), (lumpNames, .inl (ky 1, 6, .inr (.inl lumpNamesF))), (reader, .inr (5, [.ref rtape, .int (nI rlength), .int (nI rmostBytes), .int (nI rplace), .int rkind, .int (nI rbegin), .int rword, .int rnumber, .long rletters, .int rfaultKindG_75, .int rfaultPlaceG_76]))] H := hP
            have hD : va_D A [(se, .inr (9, [.ref ccodes, .int (nI ccodeCount), .int cones])), (ccodes, .inl (ky 0, 40, .inl ccodesF)), (rtape, .inl (ky 2, 940, .inl rtapeF)), (a, .inr (7, [.int (nI wide), .int (nI high), .int heat, .int cools, .int skinHeat, .int today, .int stirs, .int steps, .int (nI lumps), .int (nI boats), .ref thickness, .ref lumpNames, .ref lumpCells, .ref boatNames, .ref boatCells, .ref loads, .ref spoons, .ref spoonsLeft, .ref depths])), (lumpNames, .inl (ky 1, 6, .inr (.inl lumpNamesF))), (reader, .inr (5, [.ref rtape, .int (nI rlength), .int (nI rmostBytes), .int (nI rplace), .int rkind, .int (nI rbegin), .int rword, .int rnumber, .long rletters, .int rfaultKindG_75, .int rfaultPlaceG_76]))] := hD
            subst p77
            rw [hQ]
            have hP9 := hP.sub (ws' := [(se, .inr (9, [.ref ccodes, .int (nI ccodeCount), .int cones])), (ccodes, .inl (ky 0, 40, .inl ccodesF)), (reader, .inr (5, [.ref rtape, .int (nI rlength), .int (nI rmostBytes), .int (nI rplace), .int rkind, .int (nI rbegin), .int rword, .int rnumber, .long rletters, .int rfaultKindG_75, .int rfaultPlaceG_76])), (rtape, .inl (ky 2, 940, .inl rtapeF)), (a, .inr (7, [.int (nI wide), .int (nI high), .int heat, .int cools, .int skinHeat, .int today, .int stirs, .int steps, .int (nI lumps), .int (nI boats), .ref thickness, .ref lumpNames, .ref lumpCells, .ref boatNames, .ref boatCells, .ref loads, .ref spoons, .ref spoonsLeft, .ref depths])), (lumpNames, .inl (ky 1, 6, .inr (.inl lumpNamesF)))]) [0, 1, 5, 2, 3, 4] rfl
            have hD9 := hD.sub (ws' := [(se, .inr (9, [.ref ccodes, .int (nI ccodeCount), .int cones])), (ccodes, .inl (ky 0, 40, .inl ccodesF)), (reader, .inr (5, [.ref rtape, .int (nI rlength), .int (nI rmostBytes), .int (nI rplace), .int rkind, .int (nI rbegin), .int rword, .int rnumber, .long rletters, .int rfaultKindG_75, .int rfaultPlaceG_76])), (rtape, .inl (ky 2, 940, .inl rtapeF)), (a, .inr (7, [.int (nI wide), .int (nI high), .int heat, .int cools, .int skinHeat, .int today, .int stirs, .int steps, .int (nI lumps), .int (nI boats), .ref thickness, .ref lumpNames, .ref lumpCells, .ref boatNames, .ref boatCells, .ref loads, .ref spoons, .ref spoonsLeft, .ref depths])), (lumpNames, .inl (ky 1, 6, .inr (.inl lumpNamesF)))]) [0, 1, 5, 2, 3, 4] (by decide) rfl
            exact W.zret (v := nI 0) hx hb hr (by decide) (fun t9 ht9 hW9 => ⟨⟨nI 0, (ccodeCount, cones, ccodesF, rplace, rkind, rbegin, rword, rnumber, rletters, rfaultKindG_75, rfaultPlaceG_76), rfl, ⟨(lf_n_readOne7_6 p2), iv_cse_0, iv_rreader_1, iv_rreader_3⟩, by rw [ht9]; exact hP9, va_K.moved hW9.alike hK, hD9⟩, hS.F ht9⟩) hS.2.2 dX9_readOne_67
          · refine lv_iload_n hx hb dX9_readOne_56 rfl (lv_at hl 5 rfl) ?_
            refine lv_bipush (v := nI 8) hx hb dX9_readOne_57 (by decide) ?_
            refine lv_icmp_le (tgt := 68) hx hb dX9_readOne_59 (by decide) (fun c78 => ?_) (fun c78 => absurd (by decide) c78)
            refine lv_aload_n hx hb dX9_readOne_68 rfl (lv_at hl 2 rfl) ?_
            refine lv_dup hx hb dX9_readOne_69 rfl ?_
            refine va_get (D := (dC, dI)) (ci := 9) (v := .int cones) (C := RX9) (T := TX9) (N := 3) hx hb hts hin9 hown hK hP 0 rfl rfl 2 (by decide) (hts (.fieldLink RX9 19 "PorridgeSea$Sentence" "ones" "I") (List.mem_of_getElem? (i := 2) rfl)) (fun _ h9 => h9) rfl dX9_readOne_70 ?_
            refine lv_iconst (v := nI 1) hx hb dX9_readOne_73 (by decide) ?_
            refine lv_iadd hx hb dX9_readOne_74 ?_
            refine lv_topi (fun y79 e80 => ?_)
            refine va_put (D := (dC, dI)) (ci := 9) (v := .int y79) (ty := .int) (C := RX9) (T := TX9) (N := 3) hx hb hts hin9 tyX9 tyX9_ok nmX9 hown hK hP hD hS 0 rfl rfl 2 (by decide) (hts (.fieldLink RX9 19 "PorridgeSea$Sentence" "ones" "I") (List.mem_of_getElem? (i := 2) rfl)) (fun _ h9 => h9) rfl (by decide +kernel) rfl rfl (Nat.le_of_ble_eq_true rfl) dX9_readOne_75 (fun H locs hP hD hS => ?_)
            have hP : va_P (dC, dI) vwCl [(se, .inr (9, [.ref ccodes, .int (nI ccodeCount), .int y79])), (ccodes, .inl (ky 0, 40, .inl ccodesF)), (reader, .inr (5, [.ref rtape, .int (nI rlength), .int (nI rmostBytes), .int (nI rplace), .int rkind, .int (nI rbegin), .int rword, .int rnumber, .long rletters, .int rfaultKind, .int rfaultPlace])), (rtape, .inl (ky 2, 940, .inl rtapeF)), (a, .inr (7, [.int (nI wide), .int (nI high), .int heat, .int cools, .int skinHeat, .int today, .int stirs, .int steps, .int (nI lumps), .int (nI boats), .ref thickness, .ref lumpNames, .ref lumpCells, .ref boatNames, .ref boatCells, .ref loads, .ref spoons, .ref spoonsLeft, .ref depths])), (lumpNames, .inl (ky 1, 6, .inr (.inl lumpNamesF)))] H := hP
            have hD : va_D A [(se, .inr (9, [.ref ccodes, .int (nI ccodeCount), .int y79])), (ccodes, .inl (ky 0, 40, .inl ccodesF)), (reader, .inr (5, [.ref rtape, .int (nI rlength), .int (nI rmostBytes), .int (nI rplace), .int rkind, .int (nI rbegin), .int rword, .int rnumber, .long rletters, .int rfaultKind, .int rfaultPlace])), (rtape, .inl (ky 2, 940, .inl rtapeF)), (a, .inr (7, [.int (nI wide), .int (nI high), .int heat, .int cools, .int skinHeat, .int today, .int stirs, .int steps, .int (nI lumps), .int (nI boats), .ref thickness, .ref lumpNames, .ref lumpCells, .ref boatNames, .ref boatCells, .ref loads, .ref spoons, .ref spoonsLeft, .ref depths])), (lumpNames, .inl (ky 1, 6, .inr (.inl lumpNamesF)))] := hD
            refine lv_aload_n hx hb dX9_readOne_78 rfl (lv_at hl 3 rfl) ?_
            refine r_call_v (wr := [(se, .inr (9, [.ref ccodes, .int (nI ccodeCount), .int y79])), (ccodes, .inl (ky 0, 40, .inl ccodesF)), (a, .inr (7, [.int (nI wide), .int (nI high), .int heat, .int cools, .int skinHeat, .int today, .int stirs, .int steps, .int (nI lumps), .int (nI boats), .ref thickness, .ref lumpNames, .ref lumpCells, .ref boatNames, .ref boatCells, .ref loads, .ref spoons, .ref spoonsLeft, .ref depths])), (lumpNames, .inl (ky 1, 6, .inr (.inl lumpNamesF)))]) (va_runV (As := []) (rest := []) ⟨hx, hb, hml, hown, hts⟩ (c_r_advance l dC dI ky H.size adK adV reader rtape rlength rmostBytes rplace rkind rbegin rword rnumber rletters rfaultKind rfaultPlace rtapeF iv_rreader_0 iv_rreader_1 iv_rreader_2 iv_rreader_3) (cwV 0 hts gX9_readOne_X5_advance rfl rfl rfl (by decide +kernel) ⟨(Nat.le_of_ble_eq_true rfl), (Nat.le_of_ble_eq_true rfl)⟩) (pre_UEV hE hS hA hK hP hD [2, 3] (by decide) rfl (va_recv hK hP (ci := 5) (q0 := 2) rfl rfl)) rfl rfl hl.1 rfl (lv_room (Nat.le_of_ble_eq_true rfl)) dX9_readOne_79 ⟨(Nat.le_of_ble_eq_true rfl), (Nat.le_of_ble_eq_true rfl)⟩) hP hD hS hA [2, 3] [0, 1, 4, 5] rfl rfl (by decide) (by decide) (fun  u81 H locs p82 hP hD hS => ?_)
            obtain ⟨rplaceG_83, rkindG_84, rbeginG_85, rwordG_86, rnumberG_87, rlettersG_88⟩ := u81
            try dsimp only at p82
            obtain ⟨p89, p90⟩ := p82
            refine W.widen (k := 0) (n := 0) (Nat.le_of_ble_eq_true rfl) (Nat.le_of_ble_eq_true rfl) ?_
            have hP : va_P (dC, dI) vwCl [(se, .inr (9, [.ref ccodes, .int (nI ccodeCount), .int y79])), (ccodes, .inl (ky 0, 40, .inl ccodesF)), (a, .inr (7, [.int (nI wide), .int (nI high), .int heat, .int cools, .int skinHeat, .int today, .int stirs, .int steps, .int (nI lumps), .int (nI boats), .ref thickness, .ref lumpNames, .ref lumpCells, .ref boatNames, .ref boatCells, .ref loads, .ref spoons, .ref spoonsLeft, .ref depths])), (lumpNames, .inl (ky 1, 6, .inr (.inl lumpNamesF))), (reader, .inr (5, [.ref rtape, .int (nI rlength), .int (nI rmostBytes), .int (nI rplaceG_83), .int rkindG_84, .int (nI rbeginG_85), .int rwordG_86, .int rnumberG_87, .long rlettersG_88, .int rfaultKind, .int rfaultPlace])), (rtape, .inl (ky 2, 940, .inl rtapeF))] H := hP
            have hD : va_D A [(se, .inr (9, [.ref ccodes, .int (nI ccodeCount), .int y79])), (ccodes, .inl (ky 0, 40, .inl ccodesF)), (a, .inr (7, [.int (nI wide), .int (nI high), .int heat, .int cools, .int skinHeat, .int today, .int stirs, .int steps, .int (nI lumps), .int (nI boats), .ref thickness, .ref lumpNames, .ref lumpCells, .ref boatNames, .ref boatCells, .ref loads, .ref spoons, .ref spoonsLeft, .ref depths])), (lumpNames, .inl (ky 1, 6, .inr (.inl lumpNamesF))), (reader, .inr (5, [.ref rtape, .int (nI rlength), .int (nI rmostBytes), .int (nI rplaceG_83), .int rkindG_84, .int (nI rbeginG_85), .int rwordG_86, .int rnumberG_87, .long rlettersG_88, .int rfaultKind, .int rfaultPlace])), (rtape, .inl (ky 2, 940, .inl rtapeF))] := hD
            refine lv_iload hx hb dX9_readOne_82 (lv_at hl 0 rfl) ?_
            refine lv_if_eq (tgt := 114) hx hb dX9_readOne_84 (by decide) (fun c91 => ?_) (fun c91 => absurd c7 c91)
            refine lv_iload hx hb dX9_readOne_114 (lv_at hl 1 rfl) ?_
            refine lv_bipush (v := nI 22) hx hb dX9_readOne_116 (by decide) ?_
            refine lv_icmp_ne (tgt := 148) hx hb dX9_readOne_118 (by decide) (fun c92 => ?_) (fun c92 => ?_)
            · refine lv_iload hx hb dX9_readOne_148 (lv_at hl 1 rfl) ?_
              refine lv_bipush (v := nI 26) hx hb dX9_readOne_150 (by decide) ?_
              refine lv_icmp_ne (tgt := 162) hx hb dX9_readOne_152 (by decide) (fun c93 => ?_) (fun c93 => ?_)
              · refine lv_iload hx hb dX9_readOne_162 (lv_at hl 1 rfl) ?_
                refine lv_bipush (v := nI 27) hx hb dX9_readOne_164 (by decide) ?_
                refine lv_icmp_lt (tgt := 179) hx hb dX9_readOne_166 (by decide) (fun c94 => ?_) (fun c94 => ?_)
                · refine lv_aload_n hx hb dX9_readOne_179 rfl (lv_at hl 2 rfl) ?_
                  refine lv_iload hx hb dX9_readOne_180 (lv_at hl 1 rfl) ?_
                  refine r_call_i (wr := [(a, .inr (7, [.int (nI wide), .int (nI high), .int heat, .int cools, .int skinHeat, .int today, .int stirs, .int steps, .int (nI lumps), .int (nI boats), .ref thickness, .ref lumpNames, .ref lumpCells, .ref boatNames, .ref boatCells, .ref loads, .ref spoons, .ref spoonsLeft, .ref depths])), (lumpNames, .inl (ky 1, 6, .inr (.inl lumpNamesF))), (reader, .inr (5, [.ref rtape, .int (nI rlength), .int (nI rmostBytes), .int (nI rplaceG_83), .int rkindG_84, .int (nI rbeginG_85), .int rwordG_86, .int rnumberG_87, .long rlettersG_88, .int rfaultKind, .int rfaultPlace])), (rtape, .inl (ky 2, 940, .inl rtapeF))]) (va_runV (As := [.int r1]) (rest := []) ⟨hx, hb, hml, hown, hts⟩ (c_n_put l dC dI ky H.size se ccodes ccodeCount y79 ccodesF r1 iv_cse_0) (cwV 1 hts gX9_readOne_X9_put rfl rfl rfl (by decide +kernel) ⟨(Nat.le_of_ble_eq_true rfl), (Nat.le_of_ble_eq_true rfl)⟩) (pre_UV hK hP hD [0, 1] (by decide) rfl (ci := 9) (q0 := 0) rfl rfl) rfl rfl hl.1 rfl (lv_room (Nat.le_of_ble_eq_true rfl)) dX9_readOne_182 ⟨(Nat.le_of_ble_eq_true rfl), (Nat.le_of_ble_eq_true rfl)⟩) hP hD hS hA [0, 1] [2, 3, 4, 5] rfl rfl (by decide) (by decide) (fun r97 u95 H locs p96 hP hD hS => ?_)
                  obtain ⟨ccodeCountG_98, ccodesG_99⟩ := u95
                  try dsimp only at p96
                  obtain ⟨p100, p101⟩ := p96
                  refine W.widen (k := 0) (n := 0) (Nat.le_of_ble_eq_true rfl) (Nat.le_of_ble_eq_true rfl) ?_
                  have hP : va_P (dC, dI) vwCl [(a, .inr (7, [.int (nI wide), .int (nI high), .int heat, .int cools, .int skinHeat, .int today, .int stirs, .int steps, .int (nI lumps), .int (nI boats), .ref thickness, .ref lumpNames, .ref lumpCells, .ref boatNames, .ref boatCells, .ref loads, .ref spoons, .ref spoonsLeft, .ref depths])), (lumpNames, .inl (ky 1, 6, .inr (.inl lumpNamesF))), (reader, .inr (5, [.ref rtape, .int (nI rlength), .int (nI rmostBytes), .int (nI rplaceG_83), .int rkindG_84, .int (nI rbeginG_85), .int rwordG_86, .int rnumberG_87, .long rlettersG_88, .int rfaultKind, .int rfaultPlace])), (rtape, .inl (ky 2, 940, .inl rtapeF)), (se, .inr (9, [.ref ccodes, .int (nI ccodeCountG_98), .int y79])), (ccodes, .inl (ky 0, 40, .inl ccodesG_99))] H := hP
                  have hD : va_D A [(a, .inr (7, [.int (nI wide), .int (nI high), .int heat, .int cools, .int skinHeat, .int today, .int stirs, .int steps, .int (nI lumps), .int (nI boats), .ref thickness, .ref lumpNames, .ref lumpCells, .ref boatNames, .ref boatCells, .ref loads, .ref spoons, .ref spoonsLeft, .ref depths])), (lumpNames, .inl (ky 1, 6, .inr (.inl lumpNamesF))), (reader, .inr (5, [.ref rtape, .int (nI rlength), .int (nI rmostBytes), .int (nI rplaceG_83), .int rkindG_84, .int (nI rbeginG_85), .int rwordG_86, .int rnumberG_87, .long rlettersG_88, .int rfaultKind, .int rfaultPlace])), (rtape, .inl (ky 2, 940, .inl rtapeF)), (se, .inr (9, [.ref ccodes, .int (nI ccodeCountG_98), .int y79])), (ccodes, .inl (ky 0, 40, .inl ccodesG_99))] := hD
                  rw [hQ]
                  have hP9 := hP.sub (ws' := [(se, .inr (9, [.ref ccodes, .int (nI ccodeCountG_98), .int y79])), (ccodes, .inl (ky 0, 40, .inl ccodesG_99)), (reader, .inr (5, [.ref rtape, .int (nI rlength), .int (nI rmostBytes), .int (nI rplaceG_83), .int rkindG_84, .int (nI rbeginG_85), .int rwordG_86, .int rnumberG_87, .long rlettersG_88, .int rfaultKind, .int rfaultPlace])), (rtape, .inl (ky 2, 940, .inl rtapeF)), (a, .inr (7, [.int (nI wide), .int (nI high), .int heat, .int cools, .int skinHeat, .int today, .int stirs, .int steps, .int (nI lumps), .int (nI boats), .ref thickness, .ref lumpNames, .ref lumpCells, .ref boatNames, .ref boatCells, .ref loads, .ref spoons, .ref spoonsLeft, .ref depths])), (lumpNames, .inl (ky 1, 6, .inr (.inl lumpNamesF)))]) [4, 5, 2, 3, 0, 1] rfl
                  have hD9 := hD.sub (ws' := [(se, .inr (9, [.ref ccodes, .int (nI ccodeCountG_98), .int y79])), (ccodes, .inl (ky 0, 40, .inl ccodesG_99)), (reader, .inr (5, [.ref rtape, .int (nI rlength), .int (nI rmostBytes), .int (nI rplaceG_83), .int rkindG_84, .int (nI rbeginG_85), .int rwordG_86, .int rnumberG_87, .long rlettersG_88, .int rfaultKind, .int rfaultPlace])), (rtape, .inl (ky 2, 940, .inl rtapeF)), (a, .inr (7, [.int (nI wide), .int (nI high), .int heat, .int cools, .int skinHeat, .int today, .int stirs, .int steps, .int (nI lumps), .int (nI boats), .ref thickness, .ref lumpNames, .ref lumpCells, .ref boatNames, .ref boatCells, .ref loads, .ref spoons, .ref spoonsLeft, .ref depths])), (lumpNames, .inl (ky 1, 6, .inr (.inl lumpNamesF)))]) [4, 5, 2, 3, 0, 1] (by decide) rfl
                  exact W.zret (v := r97) hx hb hr ((lf_n_readOne7_7 r97 p2 p100)) (fun t9 ht9 hW9 => ⟨⟨r97, (ccodeCountG_98, y79, ccodesG_99, rplaceG_83, rkindG_84, rbeginG_85, rwordG_86, rnumberG_87, rlettersG_88, rfaultKind, rfaultPlace), rfl, ⟨p100, p101, p89, p90⟩, by rw [ht9]; exact hP9, va_K.moved hW9.alike hK, hD9⟩, hS.F ht9⟩) hS.2.2 dX9_readOne_185
                · refine lv_aload_n hx hb dX9_readOne_169 rfl (lv_at hl 2 rfl) ?_
                  refine lv_aload_n hx hb dX9_readOne_170 rfl (lv_at hl 3 rfl) ?_
                  refine lv_iload hx hb dX9_readOne_171 (lv_at hl 1 rfl) ?_
                  refine r_call_i (wr := [(a, .inr (7, [.int (nI wide), .int (nI high), .int heat, .int cools, .int skinHeat, .int today, .int stirs, .int steps, .int (nI lumps), .int (nI boats), .ref thickness, .ref lumpNames, .ref lumpCells, .ref boatNames, .ref boatCells, .ref loads, .ref spoons, .ref spoonsLeft, .ref depths])), (lumpNames, .inl (ky 1, 6, .inr (.inl lumpNamesF)))]) (va_runV (As := [.ref reader, .int r1]) (rest := []) ⟨hx, hb, hml, hown, hts⟩ (c_n_readComparison l dC dI ky H.size adK adV se ccodes ccodeCount y79 ccodesF reader rtape rlength rmostBytes rplaceG_83 rkindG_84 rbeginG_85 rwordG_86 rnumberG_87 rlettersG_88 rfaultKind rfaultPlace rtapeF r1 iv_cse_0 iv_rreader_0 p89 iv_rreader_2 p90) (cwV 2 hts gX9_readOne_X9_readComparison rfl rfl rfl (by decide +kernel) ⟨(Nat.le_of_ble_eq_true rfl), (Nat.le_of_ble_eq_true rfl)⟩) (pre_UEV hE hS hA hK hP hD [0, 1, 4, 5] (by decide) rfl (va_recv hK hP (ci := 9) (q0 := 0) rfl rfl)) rfl rfl hl.1 rfl (lv_room (Nat.le_of_ble_eq_true rfl)) dX9_readOne_173 ⟨(Nat.le_of_ble_eq_true rfl), (Nat.le_of_ble_eq_true rfl)⟩) hP hD hS hA [0, 1, 4, 5] [2, 3] rfl rfl (by decide) (by decide) (fun r104 u102 H locs p103 hP hD hS => ?_)
                  obtain ⟨ccodeCountG_105, ccodesG_106, rplaceG_107, rkindG_108, rbeginG_109, rwordG_110, rnumberG_111, rlettersG_112, rfaultKindG_113, rfaultPlaceG_114⟩ := u102
                  try dsimp only at p103
                  obtain ⟨p115, p116, p117, p118⟩ := p103
                  refine W.widen (k := 0) (n := 0) (Nat.le_of_ble_eq_true rfl) (Nat.le_of_ble_eq_true rfl) ?_
                  have hP : va_P (dC, dI) vwCl [(a, .inr (7, [.int (nI wide), .int (nI high), .int heat, .int cools, .int skinHeat, .int today, .int stirs, .int steps, .int (nI lumps), .int (nI boats), .ref thickness, .ref lumpNames, .ref lumpCells, .ref boatNames, .ref boatCells, .ref loads, .ref spoons, .ref spoonsLeft, .ref depths])), (lumpNames, .inl (ky 1, 6, .inr (.inl lumpNamesF))), (se, .inr (9, [.ref ccodes, .int (nI ccodeCountG_105), .int y79])), (ccodes, .inl (ky 0, 40, .inl ccodesG_106)), (reader, .inr (5, [.ref rtape, .int (nI rlength), .int (nI rmostBytes), .int (nI rplaceG_107), .int rkindG_108, .int (nI rbeginG_109), .int rwordG_110, .int rnumberG_111, .long rlettersG_112, .int rfaultKindG_113, .int rfaultPlaceG_114])), (rtape, .inl (ky 2, 940, .inl rtapeF))] H := hP
                  have hD : va_D A [(a, .inr (7, [.int (nI wide), .int (nI high), .int heat, .int cools, .int skinHeat, .int today, .int stirs, .int steps, .int (nI lumps), .int (nI boats), .ref thickness, .ref lumpNames, .ref lumpCells, .ref boatNames, .ref boatCells, .ref loads, .ref spoons, .ref spoonsLeft, .ref depths])), (lumpNames, .inl (ky 1, 6, .inr (.inl lumpNamesF))), (se, .inr (9, [.ref ccodes, .int (nI ccodeCountG_105), .int y79])), (ccodes, .inl (ky 0, 40, .inl ccodesG_106)), (reader, .inr (5, [.ref rtape, .int (nI rlength), .int (nI rmostBytes), .int (nI rplaceG_107), .int rkindG_108, .int (nI rbeginG_109), .int rwordG_110, .int rnumberG_111, .long rlettersG_112, .int rfaultKindG_113, .int rfaultPlaceG_114])), (rtape, .inl (ky 2, 940, .inl rtapeF))] := hD
                  refine lv_goto (tgt := 185) hx hb dX9_readOne_176 (by decide) ?_
                  rw [hQ]
                  have hP9 := hP.sub (ws' := [(se, .inr (9, [.ref ccodes, .int (nI ccodeCountG_105), .int y79])), (ccodes, .inl (ky 0, 40, .inl ccodesG_106)), (reader, .inr (5, [.ref rtape, .int (nI rlength), .int (nI rmostBytes), .int (nI rplaceG_107), .int rkindG_108, .int (nI rbeginG_109), .int rwordG_110, .int rnumberG_111, .long rlettersG_112, .int rfaultKindG_113, .int rfaultPlaceG_114])), (rtape, .inl (ky 2, 940, .inl rtapeF)), (a, .inr (7, [.int (nI wide), .int (nI high), .int heat, .int cools, .int skinHeat, .int today, .int stirs, .int steps, .int (nI lumps), .int (nI boats), .ref thickness, .ref lumpNames, .ref lumpCells, .ref boatNames, .ref boatCells, .ref loads, .ref spoons, .ref spoonsLeft, .ref depths])), (lumpNames, .inl (ky 1, 6, .inr (.inl lumpNamesF)))]) [2, 3, 4, 5, 0, 1] rfl
                  have hD9 := hD.sub (ws' := [(se, .inr (9, [.ref ccodes, .int (nI ccodeCountG_105), .int y79])), (ccodes, .inl (ky 0, 40, .inl ccodesG_106)), (reader, .inr (5, [.ref rtape, .int (nI rlength), .int (nI rmostBytes), .int (nI rplaceG_107), .int rkindG_108, .int (nI rbeginG_109), .int rwordG_110, .int rnumberG_111, .long rlettersG_112, .int rfaultKindG_113, .int rfaultPlaceG_114])), (rtape, .inl (ky 2, 940, .inl rtapeF)), (a, .inr (7, [.int (nI wide), .int (nI high), .int heat, .int cools, .int skinHeat, .int today, .int stirs, .int steps, .int (nI lumps), .int (nI boats), .ref thickness, .ref lumpNames, .ref lumpCells, .ref boatNames, .ref boatCells, .ref loads, .ref spoons, .ref spoonsLeft, .ref depths])), (lumpNames, .inl (ky 1, 6, .inr (.inl lumpNamesF)))]) [2, 3, 4, 5, 0, 1] (by decide) rfl
                  exact W.zret (v := r104) hx hb hr ((lf_n_readOne7_8 r104 p2 p115)) (fun t9 ht9 hW9 => ⟨⟨r104, (ccodeCountG_105, y79, ccodesG_106, rplaceG_107, rkindG_108, rbeginG_109, rwordG_110, rnumberG_111, rlettersG_112, rfaultKindG_113, rfaultPlaceG_114), rfl, ⟨p115, p116, p117, p118⟩, by rw [ht9]; exact hP9, va_K.moved hW9.alike hK, hD9⟩, hS.F ht9⟩) hS.2.2 dX9_readOne_185
              · refine lv_aload_n hx hb dX9_readOne_155 rfl (lv_at hl 2 rfl) ?_
                refine lv_aload_n hx hb dX9_readOne_156 rfl (lv_at hl 3 rfl) ?_
                refine lv_aload_n hx hb dX9_readOne_157 rfl (lv_at hl 4 rfl) ?_
                refine r_call_i (wr := []) (va_runV (As := [.ref reader, .ref a]) (rest := []) ⟨hx, hb, hml, hown, hts⟩ (c_n_readLump l dC dI ky H.size adK adV se ccodes ccodeCount y79 ccodesF reader rtape rlength rmostBytes rplaceG_83 rkindG_84 rbeginG_85 rwordG_86 rnumberG_87 rlettersG_88 rfaultKind rfaultPlace rtapeF a wide high heat cools skinHeat today stirs steps lumps boats thickness lumpNames lumpCells boatNames boatCells loads spoons spoonsLeft depths lumpNamesF iv_cse_0 iv_rreader_0 p89 iv_rreader_2 p90 iv_a_0 iv_a_1 iv_a_2 iv_a_3 iv_a_4 iv_a_5) (cwV 2 hts gX9_readOne_X9_readLump rfl rfl rfl (by decide +kernel) ⟨(Nat.le_of_ble_eq_true rfl), (Nat.le_of_ble_eq_true rfl)⟩) (pre_UEV hE hS hA hK hP hD [0, 1, 4, 5, 2, 3] (by decide) rfl (va_recv hK hP (ci := 9) (q0 := 0) rfl rfl)) rfl rfl hl.1 rfl (lv_room (Nat.le_of_ble_eq_true rfl)) dX9_readOne_158 ⟨(Nat.le_of_ble_eq_true rfl), (Nat.le_of_ble_eq_true rfl)⟩) hP hD hS hA [0, 1, 4, 5, 2, 3] [] rfl rfl (by decide) (by decide) (fun r121 u119 H locs p120 hP hD hS => ?_)
                obtain ⟨ccodeCountG_122, ccodesG_123, rplaceG_124, rkindG_125, rbeginG_126, rwordG_127, rnumberG_128, rlettersG_129, rfaultKindG_130, rfaultPlaceG_131⟩ := u119
                try dsimp only at p120
                obtain ⟨p132, p133, p134, p135⟩ := p120
                refine W.widen (k := 0) (n := 0) (Nat.le_of_ble_eq_true rfl) (Nat.le_of_ble_eq_true rfl) ?_
                have hP : va_P (dC, dI) vwCl [(se, .inr (9, [.ref ccodes, .int (nI ccodeCountG_122), .int y79])), (ccodes, .inl (ky 0, 40, .inl ccodesG_123)), (reader, .inr (5, [.ref rtape, .int (nI rlength), .int (nI rmostBytes), .int (nI rplaceG_124), .int rkindG_125, .int (nI rbeginG_126), .int rwordG_127, .int rnumberG_128, .long rlettersG_129, .int rfaultKindG_130, .int rfaultPlaceG_131])), (rtape, .inl (ky 2, 940, .inl rtapeF)), (a, .inr (7, [.int (nI wide), .int (nI high), .int heat, .int cools, .int skinHeat, .int today, .int stirs, .int steps, .int (nI lumps), .int (nI boats), .ref thickness, .ref lumpNames, .ref lumpCells, .ref boatNames, .ref boatCells, .ref loads, .ref spoons, .ref spoonsLeft, .ref depths])), (lumpNames, .inl (ky 1, 6, .inr (.inl lumpNamesF)))] H := hP
                have hD : va_D A [(se, .inr (9, [.ref ccodes, .int (nI ccodeCountG_122), .int y79])), (ccodes, .inl (ky 0, 40, .inl ccodesG_123)), (reader, .inr (5, [.ref rtape, .int (nI rlength), .int (nI rmostBytes), .int (nI rplaceG_124), .int rkindG_125, .int (nI rbeginG_126), .int rwordG_127, .int rnumberG_128, .long rlettersG_129, .int rfaultKindG_130, .int rfaultPlaceG_131])), (rtape, .inl (ky 2, 940, .inl rtapeF)), (a, .inr (7, [.int (nI wide), .int (nI high), .int heat, .int cools, .int skinHeat, .int today, .int stirs, .int steps, .int (nI lumps), .int (nI boats), .ref thickness, .ref lumpNames, .ref lumpCells, .ref boatNames, .ref boatCells, .ref loads, .ref spoons, .ref spoonsLeft, .ref depths])), (lumpNames, .inl (ky 1, 6, .inr (.inl lumpNamesF)))] := hD
                rw [hQ]
                exact W.zret (v := r121) hx hb hr ((lf_n_readOne7_9 r121 p2 p132)) (fun t9 ht9 hW9 => ⟨⟨r121, (ccodeCountG_122, y79, ccodesG_123, rplaceG_124, rkindG_125, rbeginG_126, rwordG_127, rnumberG_128, rlettersG_129, rfaultKindG_130, rfaultPlaceG_131), rfl, ⟨p132, p133, p134, p135⟩, by rw [ht9]; exact hP, va_K.moved hW9.alike hK, hD⟩, hS.F ht9⟩) hS.2.2 dX9_readOne_161
            · refine lv_aload_n hx hb dX9_readOne_121 rfl (lv_at hl 2 rfl) ?_
              refine lv_aload_n hx hb dX9_readOne_122 rfl (lv_at hl 3 rfl) ?_
              refine lv_aload_n hx hb dX9_readOne_123 rfl (lv_at hl 4 rfl) ?_
              refine lv_iload_n hx hb dX9_readOne_124 rfl (lv_at hl 5 rfl) ?_
              refine lv_iconst (v := nI 1) hx hb dX9_readOne_125 (by decide) ?_
              refine lv_iadd hx hb dX9_readOne_126 ?_
              refine r_ti (nI 8) (by decide) ?_
              refine r_call_i (wr := []) (va_runV (As := [.ref reader, .ref a, .int (nI 8)]) (rest := []) ⟨hx, hb, hml, hown, hts⟩ (c_n_readOne8 l dC dI ky H.size adK adV se ccodes ccodeCount y79 ccodesF reader rtape rlength rmostBytes rplaceG_83 rkindG_84 rbeginG_85 rwordG_86 rnumberG_87 rlettersG_88 rfaultKind rfaultPlace rtapeF a wide high heat cools skinHeat today stirs steps lumps boats thickness lumpNames lumpCells boatNames boatCells loads spoons spoonsLeft depths lumpNamesF iv_cse_0 iv_rreader_0 p89 iv_rreader_2 p90 iv_a_0 iv_a_1 iv_a_2 iv_a_3 iv_a_4 iv_a_5) (cwV 3 hts gX9_readOne_X9_readOne rfl rfl rfl (by decide +kernel) ⟨(Nat.le_of_ble_eq_true rfl), (Nat.le_of_ble_eq_true rfl)⟩) (pre_UEV hE hS hA hK hP hD [0, 1, 4, 5, 2, 3] (by decide) rfl (va_recv hK hP (ci := 9) (q0 := 0) rfl rfl)) rfl rfl hl.1 rfl (lv_room (Nat.le_of_ble_eq_true rfl)) dX9_readOne_127 ⟨(Nat.le_of_ble_eq_true rfl), (Nat.le_of_ble_eq_true rfl)⟩) hP hD hS hA [0, 1, 4, 5, 2, 3] [] rfl rfl (by decide) (by decide) (fun r138 u136 H locs p137 hP hD hS => ?_)
              obtain ⟨ccodeCountG_139, conesG_140, ccodesG_141, rplaceG_142, rkindG_143, rbeginG_144, rwordG_145, rnumberG_146, rlettersG_147, rfaultKindG_148, rfaultPlaceG_149⟩ := u136
              try dsimp only at p137
              obtain ⟨p150, p151, p152, p153⟩ := p137
              refine W.widen (k := 0) (n := 0) (Nat.le_of_ble_eq_true rfl) (Nat.le_of_ble_eq_true rfl) ?_
              have hP : va_P (dC, dI) vwCl [(se, .inr (9, [.ref ccodes, .int (nI ccodeCountG_139), .int conesG_140])), (ccodes, .inl (ky 0, 40, .inl ccodesG_141)), (reader, .inr (5, [.ref rtape, .int (nI rlength), .int (nI rmostBytes), .int (nI rplaceG_142), .int rkindG_143, .int (nI rbeginG_144), .int rwordG_145, .int rnumberG_146, .long rlettersG_147, .int rfaultKindG_148, .int rfaultPlaceG_149])), (rtape, .inl (ky 2, 940, .inl rtapeF)), (a, .inr (7, [.int (nI wide), .int (nI high), .int heat, .int cools, .int skinHeat, .int today, .int stirs, .int steps, .int (nI lumps), .int (nI boats), .ref thickness, .ref lumpNames, .ref lumpCells, .ref boatNames, .ref boatCells, .ref loads, .ref spoons, .ref spoonsLeft, .ref depths])), (lumpNames, .inl (ky 1, 6, .inr (.inl lumpNamesF)))] H := hP
              have hD : va_D A [(se, .inr (9, [.ref ccodes, .int (nI ccodeCountG_139), .int conesG_140])), (ccodes, .inl (ky 0, 40, .inl ccodesG_141)), (reader, .inr (5, [.ref rtape, .int (nI rlength), .int (nI rmostBytes), .int (nI rplaceG_142), .int rkindG_143, .int (nI rbeginG_144), .int rwordG_145, .int rnumberG_146, .long rlettersG_147, .int rfaultKindG_148, .int rfaultPlaceG_149])), (rtape, .inl (ky 2, 940, .inl rtapeF)), (a, .inr (7, [.int (nI wide), .int (nI high), .int heat, .int cools, .int skinHeat, .int today, .int stirs, .int steps, .int (nI lumps), .int (nI boats), .ref thickness, .ref lumpNames, .ref lumpCells, .ref boatNames, .ref boatCells, .ref loads, .ref spoons, .ref spoonsLeft, .ref depths])), (lumpNames, .inl (ky 1, 6, .inr (.inl lumpNamesF)))] := hD
              refine lv_if_eq (tgt := 146) hx hb dX9_readOne_130 (by decide) (fun c154 => ?_) (fun c154 => ?_)
              · refine lv_iconst (v := nI 0) hx hb dX9_readOne_146 (by decide) ?_
                rw [hQ]
                exact W.zret (v := nI 0) hx hb hr (by decide) (fun t9 ht9 hW9 => ⟨⟨nI 0, (ccodeCountG_139, conesG_140, ccodesG_141, rplaceG_142, rkindG_143, rbeginG_144, rwordG_145, rnumberG_146, rlettersG_147, rfaultKindG_148, rfaultPlaceG_149), rfl, ⟨(lf_n_readOne7_10 p2), p151, p152, p153⟩, by rw [ht9]; exact hP, va_K.moved hW9.alike hK, hD⟩, hS.F ht9⟩) hS.2.2 dX9_readOne_147
              · refine lv_aload_n hx hb dX9_readOne_133 rfl (lv_at hl 2 rfl) ?_
                refine lv_bipush (v := nI 22) hx hb dX9_readOne_134 (by decide) ?_
                refine r_call_i (wr := [(reader, .inr (5, [.ref rtape, .int (nI rlength), .int (nI rmostBytes), .int (nI rplaceG_142), .int rkindG_143, .int (nI rbeginG_144), .int rwordG_145, .int rnumberG_146, .long rlettersG_147, .int rfaultKindG_148, .int rfaultPlaceG_149])), (rtape, .inl (ky 2, 940, .inl rtapeF)), (a, .inr (7, [.int (nI wide), .int (nI high), .int heat, .int cools, .int skinHeat, .int today, .int stirs, .int steps, .int (nI lumps), .int (nI boats), .ref thickness, .ref lumpNames, .ref lumpCells, .ref boatNames, .ref boatCells, .ref loads, .ref spoons, .ref spoonsLeft, .ref depths])), (lumpNames, .inl (ky 1, 6, .inr (.inl lumpNamesF)))]) (va_runV (As := [.int (nI 22)]) (rest := []) ⟨hx, hb, hml, hown, hts⟩ (c_n_put l dC dI ky H.size se ccodes ccodeCountG_139 conesG_140 ccodesG_141 (nI 22) p151) (cwV 1 hts gX9_readOne_X9_put rfl rfl rfl (by decide +kernel) ⟨(Nat.le_of_ble_eq_true rfl), (Nat.le_of_ble_eq_true rfl)⟩) (pre_UV hK hP hD [0, 1] (by decide) rfl (ci := 9) (q0 := 0) rfl rfl) rfl rfl hl.1 rfl (lv_room (Nat.le_of_ble_eq_true rfl)) dX9_readOne_136 ⟨(Nat.le_of_ble_eq_true rfl), (Nat.le_of_ble_eq_true rfl)⟩) hP hD hS hA [0, 1] [2, 3, 4, 5] rfl rfl (by decide) (by decide) (fun r157 u155 H locs p156 hP hD hS => ?_)
                obtain ⟨ccodeCountG_158, ccodesG_159⟩ := u155
                try dsimp only at p156
                obtain ⟨p160, p161⟩ := p156
                refine W.widen (k := 0) (n := 0) (Nat.le_of_ble_eq_true rfl) (Nat.le_of_ble_eq_true rfl) ?_
                have hP : va_P (dC, dI) vwCl [(reader, .inr (5, [.ref rtape, .int (nI rlength), .int (nI rmostBytes), .int (nI rplaceG_142), .int rkindG_143, .int (nI rbeginG_144), .int rwordG_145, .int rnumberG_146, .long rlettersG_147, .int rfaultKindG_148, .int rfaultPlaceG_149])), (rtape, .inl (ky 2, 940, .inl rtapeF)), (a, .inr (7, [.int (nI wide), .int (nI high), .int heat, .int cools, .int skinHeat, .int today, .int stirs, .int steps, .int (nI lumps), .int (nI boats), .ref thickness, .ref lumpNames, .ref lumpCells, .ref boatNames, .ref boatCells, .ref loads, .ref spoons, .ref spoonsLeft, .ref depths])), (lumpNames, .inl (ky 1, 6, .inr (.inl lumpNamesF))), (se, .inr (9, [.ref ccodes, .int (nI ccodeCountG_158), .int conesG_140])), (ccodes, .inl (ky 0, 40, .inl ccodesG_159))] H := hP
                have hD : va_D A [(reader, .inr (5, [.ref rtape, .int (nI rlength), .int (nI rmostBytes), .int (nI rplaceG_142), .int rkindG_143, .int (nI rbeginG_144), .int rwordG_145, .int rnumberG_146, .long rlettersG_147, .int rfaultKindG_148, .int rfaultPlaceG_149])), (rtape, .inl (ky 2, 940, .inl rtapeF)), (a, .inr (7, [.int (nI wide), .int (nI high), .int heat, .int cools, .int skinHeat, .int today, .int stirs, .int steps, .int (nI lumps), .int (nI boats), .ref thickness, .ref lumpNames, .ref lumpCells, .ref boatNames, .ref boatCells, .ref loads, .ref spoons, .ref spoonsLeft, .ref depths])), (lumpNames, .inl (ky 1, 6, .inr (.inl lumpNamesF))), (se, .inr (9, [.ref ccodes, .int (nI ccodeCountG_158), .int conesG_140])), (ccodes, .inl (ky 0, 40, .inl ccodesG_159))] := hD
                refine lv_if_eq (tgt := 146) hx hb dX9_readOne_139 (by decide) (fun c162 => ?_) (fun c162 => ?_)
                · refine lv_iconst (v := nI 0) hx hb dX9_readOne_146 (by decide) ?_
                  rw [hQ]
                  have hP9 := hP.sub (ws' := [(se, .inr (9, [.ref ccodes, .int (nI ccodeCountG_158), .int conesG_140])), (ccodes, .inl (ky 0, 40, .inl ccodesG_159)), (reader, .inr (5, [.ref rtape, .int (nI rlength), .int (nI rmostBytes), .int (nI rplaceG_142), .int rkindG_143, .int (nI rbeginG_144), .int rwordG_145, .int rnumberG_146, .long rlettersG_147, .int rfaultKindG_148, .int rfaultPlaceG_149])), (rtape, .inl (ky 2, 940, .inl rtapeF)), (a, .inr (7, [.int (nI wide), .int (nI high), .int heat, .int cools, .int skinHeat, .int today, .int stirs, .int steps, .int (nI lumps), .int (nI boats), .ref thickness, .ref lumpNames, .ref lumpCells, .ref boatNames, .ref boatCells, .ref loads, .ref spoons, .ref spoonsLeft, .ref depths])), (lumpNames, .inl (ky 1, 6, .inr (.inl lumpNamesF)))]) [4, 5, 0, 1, 2, 3] rfl
                  have hD9 := hD.sub (ws' := [(se, .inr (9, [.ref ccodes, .int (nI ccodeCountG_158), .int conesG_140])), (ccodes, .inl (ky 0, 40, .inl ccodesG_159)), (reader, .inr (5, [.ref rtape, .int (nI rlength), .int (nI rmostBytes), .int (nI rplaceG_142), .int rkindG_143, .int (nI rbeginG_144), .int rwordG_145, .int rnumberG_146, .long rlettersG_147, .int rfaultKindG_148, .int rfaultPlaceG_149])), (rtape, .inl (ky 2, 940, .inl rtapeF)), (a, .inr (7, [.int (nI wide), .int (nI high), .int heat, .int cools, .int skinHeat, .int today, .int stirs, .int steps, .int (nI lumps), .int (nI boats), .ref thickness, .ref lumpNames, .ref lumpCells, .ref boatNames, .ref boatCells, .ref loads, .ref spoons, .ref spoonsLeft, .ref depths])), (lumpNames, .inl (ky 1, 6, .inr (.inl lumpNamesF)))]) [4, 5, 0, 1, 2, 3] (by decide) rfl
                  exact W.zret (v := nI 0) hx hb hr (by decide) (fun t9 ht9 hW9 => ⟨⟨nI 0, (ccodeCountG_158, conesG_140, ccodesG_159, rplaceG_142, rkindG_143, rbeginG_144, rwordG_145, rnumberG_146, rlettersG_147, rfaultKindG_148, rfaultPlaceG_149), rfl, ⟨(lf_n_readOne7_11 p2), p161, p152, p153⟩, by rw [ht9]; exact hP9, va_K.moved hW9.alike hK, hD9⟩, hS.F ht9⟩) hS.2.2 dX9_readOne_147
                · refine lv_iconst (v := nI 1) hx hb dX9_readOne_142 (by decide) ?_
                  refine lv_goto (tgt := 147) hx hb dX9_readOne_143 (by decide) ?_
                  rw [hQ]
                  have hP9 := hP.sub (ws' := [(se, .inr (9, [.ref ccodes, .int (nI ccodeCountG_158), .int conesG_140])), (ccodes, .inl (ky 0, 40, .inl ccodesG_159)), (reader, .inr (5, [.ref rtape, .int (nI rlength), .int (nI rmostBytes), .int (nI rplaceG_142), .int rkindG_143, .int (nI rbeginG_144), .int rwordG_145, .int rnumberG_146, .long rlettersG_147, .int rfaultKindG_148, .int rfaultPlaceG_149])), (rtape, .inl (ky 2, 940, .inl rtapeF)), (a, .inr (7, [.int (nI wide), .int (nI high), .int heat, .int cools, .int skinHeat, .int today, .int stirs, .int steps, .int (nI lumps), .int (nI boats), .ref thickness, .ref lumpNames, .ref lumpCells, .ref boatNames, .ref boatCells, .ref loads, .ref spoons, .ref spoonsLeft, .ref depths])), (lumpNames, .inl (ky 1, 6, .inr (.inl lumpNamesF)))]) [4, 5, 0, 1, 2, 3] rfl
                  have hD9 := hD.sub (ws' := [(se, .inr (9, [.ref ccodes, .int (nI ccodeCountG_158), .int conesG_140])), (ccodes, .inl (ky 0, 40, .inl ccodesG_159)), (reader, .inr (5, [.ref rtape, .int (nI rlength), .int (nI rmostBytes), .int (nI rplaceG_142), .int rkindG_143, .int (nI rbeginG_144), .int rwordG_145, .int rnumberG_146, .long rlettersG_147, .int rfaultKindG_148, .int rfaultPlaceG_149])), (rtape, .inl (ky 2, 940, .inl rtapeF)), (a, .inr (7, [.int (nI wide), .int (nI high), .int heat, .int cools, .int skinHeat, .int today, .int stirs, .int steps, .int (nI lumps), .int (nI boats), .ref thickness, .ref lumpNames, .ref lumpCells, .ref boatNames, .ref boatCells, .ref loads, .ref spoons, .ref spoonsLeft, .ref depths])), (lumpNames, .inl (ky 1, 6, .inr (.inl lumpNamesF)))]) [4, 5, 0, 1, 2, 3] (by decide) rfl
                  exact W.zret (v := nI 1) hx hb hr (by decide) (fun t9 ht9 hW9 => ⟨⟨nI 1, (ccodeCountG_158, conesG_140, ccodesG_159, rplaceG_142, rkindG_143, rbeginG_144, rwordG_145, rnumberG_146, rlettersG_147, rfaultKindG_148, rfaultPlaceG_149), rfl, ⟨(lf_n_readOne7_12 p2), p161, p152, p153⟩, by rw [ht9]; exact hP9, va_K.moved hW9.alike hK, hD9⟩, hS.F ht9⟩) hS.2.2 dX9_readOne_147
        · refine lv_aload_n hx hb dX9_readOne_41 rfl (lv_at hl 3 rfl) ?_
          refine lv_iconst (v := nI 1) hx hb dX9_readOne_42 (by decide) ?_
          refine r_call_i (wr := [(se, .inr (9, [.ref ccodes, .int (nI ccodeCount), .int cones])), (ccodes, .inl (ky 0, 40, .inl ccodesF)), (rtape, .inl (ky 2, 940, .inl rtapeF)), (a, .inr (7, [.int (nI wide), .int (nI high), .int heat, .int cools, .int skinHeat, .int today, .int stirs, .int steps, .int (nI lumps), .int (nI boats), .ref thickness, .ref lumpNames, .ref lumpCells, .ref boatNames, .ref boatCells, .ref loads, .ref spoons, .ref spoonsLeft, .ref depths])), (lumpNames, .inl (ky 1, 6, .inr (.inl lumpNamesF)))]) (va_runV (As := [.int (nI 1)]) (rest := []) ⟨hx, hb, hml, hown, hts⟩ (c_r_refuse l dC dI ky H.size reader rtape rlength rmostBytes rplace rkind rbegin rword rnumber rletters rfaultKind rfaultPlace (nI 1) iv_rreader_0 iv_rreader_1 iv_rreader_2 iv_rreader_3) (cwV 1 hts gX9_readOne_X5_refuse rfl rfl rfl (by decide +kernel) ⟨(Nat.le_of_ble_eq_true rfl), (Nat.le_of_ble_eq_true rfl)⟩) (pre_UV hK hP hD [2] (by decide) rfl (ci := 5) (q0 := 2) rfl rfl) rfl rfl hl.1 rfl (lv_room (Nat.le_of_ble_eq_true rfl)) dX9_readOne_43 ⟨(Nat.le_of_ble_eq_true rfl), (Nat.le_of_ble_eq_true rfl)⟩) hP hD hS hA [2] [0, 1, 3, 4, 5] rfl rfl (by decide) (by decide) (fun r165 u163 H locs p164 hP hD hS => ?_)
          obtain ⟨rfaultKindG_166, rfaultPlaceG_167⟩ := u163
          try dsimp only at p164
          have p168 := p164
          refine W.widen (k := 0) (n := 0) (Nat.le_of_ble_eq_true rfl) (Nat.le_of_ble_eq_true rfl) ?_
          have hP : va_P (dC, dI) vwCl [(se, .inr (9, [.ref ccodes, .int (nI ccodeCount), .int cones])), (ccodes, .inl (ky 0, 40, .inl ccodesF)), (rtape, .inl (ky 2, 940, .inl rtapeF)), (a, .inr (7, [.int (nI wide), .int (nI high), .int heat, .int cools, .int skinHeat, .int today, .int stirs, .int steps, .int (nI lumps), .int (nI boats), .ref thickness, .ref lumpNames, .ref lumpCells, .ref boatNames, .ref boatCells, .ref loads, .ref spoons, .ref spoonsLeft, .ref depths])), (lumpNames, .inl (ky 1, 6, .inr (.inl lumpNamesF))), (reader, .inr (5, [.ref rtape, .int (nI rlength), .int (nI rmostBytes), .int (nI rplace), .int rkind, .int (nI rbegin), .int rword, .int rnumber, .long rletters, .int rfaultKindG_166, .int rfaultPlaceG_167]))] H := hP
          have hD : va_D A [(se, .inr (9, [.ref ccodes, .int (nI ccodeCount), .int cones])), (ccodes, .inl (ky 0, 40, .inl ccodesF)), (rtape, .inl (ky 2, 940, .inl rtapeF)), (a, .inr (7, [.int (nI wide), .int (nI high), .int heat, .int cools, .int skinHeat, .int today, .int stirs, .int steps, .int (nI lumps), .int (nI boats), .ref thickness, .ref lumpNames, .ref lumpCells, .ref boatNames, .ref boatCells, .ref loads, .ref spoons, .ref spoonsLeft, .ref depths])), (lumpNames, .inl (ky 1, 6, .inr (.inl lumpNamesF))), (reader, .inr (5, [.ref rtape, .int (nI rlength), .int (nI rmostBytes), .int (nI rplace), .int rkind, .int (nI rbegin), .int rword, .int rnumber, .long rletters, .int rfaultKindG_166, .int rfaultPlaceG_167]))] := hD
          subst p168
          rw [hQ]
          have hP9 := hP.sub (ws' := [(se, .inr (9, [.ref ccodes, .int (nI ccodeCount), .int cones])), (ccodes, .inl (ky 0, 40, .inl ccodesF)), (reader, .inr (5, [.ref rtape, .int (nI rlength), .int (nI rmostBytes), .int (nI rplace), .int rkind, .int (nI rbegin), .int rword, .int rnumber, .long rletters, .int rfaultKindG_166, .int rfaultPlaceG_167])), (rtape, .inl (ky 2, 940, .inl rtapeF)), (a, .inr (7, [.int (nI wide), .int (nI high), .int heat, .int cools, .int skinHeat, .int today, .int stirs, .int steps, .int (nI lumps), .int (nI boats), .ref thickness, .ref lumpNames, .ref lumpCells, .ref boatNames, .ref boatCells, .ref loads, .ref spoons, .ref spoonsLeft, .ref depths])), (lumpNames, .inl (ky 1, 6, .inr (.inl lumpNamesF)))]) [0, 1, 5, 2, 3, 4] rfl
          have hD9 := hD.sub (ws' := [(se, .inr (9, [.ref ccodes, .int (nI ccodeCount), .int cones])), (ccodes, .inl (ky 0, 40, .inl ccodesF)), (reader, .inr (5, [.ref rtape, .int (nI rlength), .int (nI rmostBytes), .int (nI rplace), .int rkind, .int (nI rbegin), .int rword, .int rnumber, .long rletters, .int rfaultKindG_166, .int rfaultPlaceG_167])), (rtape, .inl (ky 2, 940, .inl rtapeF)), (a, .inr (7, [.int (nI wide), .int (nI high), .int heat, .int cools, .int skinHeat, .int today, .int stirs, .int steps, .int (nI lumps), .int (nI boats), .ref thickness, .ref lumpNames, .ref lumpCells, .ref boatNames, .ref boatCells, .ref loads, .ref spoons, .ref spoonsLeft, .ref depths])), (lumpNames, .inl (ky 1, 6, .inr (.inl lumpNamesF)))]) [0, 1, 5, 2, 3, 4] (by decide) rfl
          exact W.zret (v := nI 0) hx hb hr (by decide) (fun t9 ht9 hW9 => ⟨⟨nI 0, (ccodeCount, cones, ccodesF, rplace, rkind, rbegin, rword, rnumber, rletters, rfaultKindG_166, rfaultPlaceG_167), rfl, ⟨(lf_n_readOne7_13 p2), iv_cse_0, iv_rreader_1, iv_rreader_3⟩, by rw [ht9]; exact hP9, va_K.moved hW9.alike hK, hD9⟩, hS.F ht9⟩) hS.2.2 dX9_readOne_46
  refine lv_icmp_ne (tgt := 19) hx hb dX9_readOne_12 (by decide) (fun c3 => ?_) (fun c3 => ?_)
  · refine lv_iconst (v := nI 0) hx hb dX9_readOne_19 (by decide) ?_
    exact hJ6 (nI 0) (lf_n_readOne7_14 p2) _ _ _ hP hD hS (lv_sub hl [0, 1, 2, 3, 4] rfl)
  · refine lv_iconst (v := nI 1) hx hb dX9_readOne_15 (by decide) ?_
    refine lv_goto (tgt := 20) hx hb dX9_readOne_16 (by decide) ?_
    exact hJ6 (nI 1) (lf_n_readOne7_15 p2) _ _ _ hP hD hS (lv_sub hl [0, 1, 2, 3, 4] rfl)
set_option maxRecDepth 20000 in
theorem lf_n_readAll7_1 (x58 : Int32) (j71 : x58 = nI 0 ∨ x58 = nI 1) : narrow .boolean (.int x58) = .int x58 := by
  have h : x58 = 0 ∨ x58 = 1 := by
    have b_x58 := ia_b x58
    try have k_0 := ia_n 0 (by first | decide | omega)
    try have k_1 := ia_n 1 (by first | decide | omega)
    try simp only [ia_lt, ia_le, ia_eq, ia_m1, ia_0, ia_1, ne_eq, true_and, and_true, false_and, and_false, or_false, false_or, or_true, true_or, not_true_eq_false, not_false_eq_true] at *
    all_goals omega
  rcases h with h | h <;> rw [h] <;> rfl
set_option maxRecDepth 20000 in
theorem lf_n_readAll7_2 (x58 : Int32) (j71 : x58 = nI 0 ∨ x58 = nI 1) (c81 : x58 = 0) : narrow .boolean (.int x58) = .int x58 := by
  have h : x58 = 0 ∨ x58 = 1 := by
    have b_x58 := ia_b x58
    try have k_0 := ia_n 0 (by first | decide | omega)
    try have k_1 := ia_n 1 (by first | decide | omega)
    try simp only [ia_lt, ia_le, ia_eq, ia_m1, ia_0, ia_1, ne_eq, true_and, and_true, false_and, and_false, or_false, false_or, or_true, true_or, not_true_eq_false, not_false_eq_true] at *
    all_goals omega
  rcases h with h | h <;> rw [h] <;> rfl
set_option maxRecDepth 20000 in
theorem lf_n_readAll7_3 (x58 : Int32) (j71 : x58 = nI 0 ∨ x58 = nI 1) (c81 : ¬ x58 = 0) (p83 : True) : narrow .boolean (.int x58) = .int x58 := by
  have h : x58 = 0 ∨ x58 = 1 := by
    have b_x58 := ia_b x58
    try have k_0 := ia_n 0 (by first | decide | omega)
    try have k_1 := ia_n 1 (by first | decide | omega)
    try simp only [ia_lt, ia_le, ia_eq, ia_m1, ia_0, ia_1, ne_eq, true_and, and_true, false_and, and_false, or_false, false_or, or_true, true_or, not_true_eq_false, not_false_eq_true] at *
    all_goals omega
  rcases h with h | h <;> rw [h] <;> rfl
set_option maxRecDepth 20000 in
theorem lf_n_readAll7_4 (k57 : Nat) (n77 : Nat) (j70 : k57 ≤ 20) (hm79 : 20 - k57 < n77 + 1) (c80 : k57 < 20) (p83 : True) : (k57 + 1) ≤ 20 := by
  try simp only [ia_lt, ia_le, ia_eq, ia_m1, ia_0, ia_1, ne_eq, true_and, and_true, false_and, and_false, or_false, false_or, or_true, true_or, not_true_eq_false, not_false_eq_true] at *
  all_goals omega
set_option maxRecDepth 20000 in
theorem lf_n_readAll7_5  (p83 : True) : (nI 0) = nI 0 ∨ (nI 0) = nI 1 := by
  try have k_0 := ia_n 0 (by first | decide | omega)
  try have k_1 := ia_n 1 (by first | decide | omega)
  try simp only [ia_lt, ia_le, ia_eq, ia_m1, ia_0, ia_1, ne_eq, true_and, and_true, false_and, and_false, or_false, false_or, or_true, true_or, not_true_eq_false, not_false_eq_true] at *
  all_goals omega
set_option maxRecDepth 20000 in
theorem lf_n_readAll7_6 (rlength : Nat) (rplace : Nat) (rplaceG_7 : Nat) (k62 : Nat) (rplaceG_87 : Nat) (rplaceG_101 : Nat) (iv_rreader_0 : rlength ≤ 940) (iv_rreader_1 : rplace ≤ rlength) (p17 : rplaceG_7 ≤ rlength) (j73 : k62 ≤ 940) (j75 : k62 ≤ rlength) (p83 : True) (p93 : rplaceG_87 ≤ rlength) (p111 : rplaceG_101 ≤ rlength) : rplaceG_101 ≤ 940 := by
  try simp only [ia_lt, ia_le, ia_eq, ia_m1, ia_0, ia_1, ne_eq, true_and, and_true, false_and, and_false, or_false, false_or, or_true, true_or, not_true_eq_false, not_false_eq_true] at *
  all_goals omega
set_option maxRecDepth 20000 in
theorem lf_n_readAll7_7 (k57 : Nat) (n77 : Nat) (j70 : k57 ≤ 20) (hm79 : 20 - k57 < n77 + 1) (c80 : k57 < 20) (p83 : True) : 20 - (k57 + 1) < n77 := by
  try simp only [ia_lt, ia_le, ia_eq, ia_m1, ia_0, ia_1, ne_eq, true_and, and_true, false_and, and_false, or_false, false_or, or_true, true_or, not_true_eq_false, not_false_eq_true] at *
  all_goals omega
set_option maxRecDepth 20000 in
theorem lf_n_readAll7_8 (k57 : Nat) (n77 : Nat) (j70 : k57 ≤ 20) (hm79 : 20 - k57 < n77 + 1) (c80 : k57 < 20) (p83 : True) : (k57 + 1) ≤ 20 := by
  try simp only [ia_lt, ia_le, ia_eq, ia_m1, ia_0, ia_1, ne_eq, true_and, and_true, false_and, and_false, or_false, false_or, or_true, true_or, not_true_eq_false, not_false_eq_true] at *
  all_goals omega
set_option maxRecDepth 20000 in
theorem lf_n_readAll7_9  (p83 : True) : (nI 0) = nI 0 ∨ (nI 0) = nI 1 := by
  try have k_0 := ia_n 0 (by first | decide | omega)
  try have k_1 := ia_n 1 (by first | decide | omega)
  try simp only [ia_lt, ia_le, ia_eq, ia_m1, ia_0, ia_1, ne_eq, true_and, and_true, false_and, and_false, or_false, false_or, or_true, true_or, not_true_eq_false, not_false_eq_true] at *
  all_goals omega
set_option maxRecDepth 20000 in
theorem lf_n_readAll7_10 (rlength : Nat) (rplace : Nat) (rplaceG_7 : Nat) (k62 : Nat) (rplaceG_87 : Nat) (rplaceG_101 : Nat) (iv_rreader_0 : rlength ≤ 940) (iv_rreader_1 : rplace ≤ rlength) (p17 : rplaceG_7 ≤ rlength) (j73 : k62 ≤ 940) (j75 : k62 ≤ rlength) (p83 : True) (p93 : rplaceG_87 ≤ rlength) (p111 : rplaceG_101 ≤ rlength) : rplaceG_101 ≤ 940 := by
  try simp only [ia_lt, ia_le, ia_eq, ia_m1, ia_0, ia_1, ne_eq, true_and, and_true, false_and, and_false, or_false, false_or, or_true, true_or, not_true_eq_false, not_false_eq_true] at *
  all_goals omega
set_option maxRecDepth 20000 in
theorem lf_n_readAll7_11 (k57 : Nat) (n77 : Nat) (j70 : k57 ≤ 20) (hm79 : 20 - k57 < n77 + 1) (c80 : k57 < 20) (p83 : True) : 20 - (k57 + 1) < n77 := by
  try simp only [ia_lt, ia_le, ia_eq, ia_m1, ia_0, ia_1, ne_eq, true_and, and_true, false_and, and_false, or_false, false_or, or_true, true_or, not_true_eq_false, not_false_eq_true] at *
  all_goals omega
set_option maxRecDepth 20000 in
theorem lf_n_readAll7_12 (k57 : Nat) (n77 : Nat) (j70 : k57 ≤ 20) (hm79 : 20 - k57 < n77 + 1) (c80 : k57 < 20) (p83 : True) : (k57 + 1) ≤ 20 := by
  try simp only [ia_lt, ia_le, ia_eq, ia_m1, ia_0, ia_1, ne_eq, true_and, and_true, false_and, and_false, or_false, false_or, or_true, true_or, not_true_eq_false, not_false_eq_true] at *
  all_goals omega
set_option maxRecDepth 20000 in
theorem lf_n_readAll7_13  (p83 : True) : (nI 1) = nI 0 ∨ (nI 1) = nI 1 := by
  try have k_0 := ia_n 1 (by first | decide | omega)
  try have k_1 := ia_n 0 (by first | decide | omega)
  try simp only [ia_lt, ia_le, ia_eq, ia_m1, ia_0, ia_1, ne_eq, true_and, and_true, false_and, and_false, or_false, false_or, or_true, true_or, not_true_eq_false, not_false_eq_true] at *
  all_goals omega
set_option maxRecDepth 20000 in
theorem lf_n_readAll7_14 (rlength : Nat) (rplace : Nat) (rplaceG_7 : Nat) (k62 : Nat) (rplaceG_87 : Nat) (rplaceG_101 : Nat) (iv_rreader_0 : rlength ≤ 940) (iv_rreader_1 : rplace ≤ rlength) (p17 : rplaceG_7 ≤ rlength) (j73 : k62 ≤ 940) (j75 : k62 ≤ rlength) (p83 : True) (p93 : rplaceG_87 ≤ rlength) (p111 : rplaceG_101 ≤ rlength) : rplaceG_101 ≤ 940 := by
  try simp only [ia_lt, ia_le, ia_eq, ia_m1, ia_0, ia_1, ne_eq, true_and, and_true, false_and, and_false, or_false, false_or, or_true, true_or, not_true_eq_false, not_false_eq_true] at *
  all_goals omega
set_option maxRecDepth 20000 in
theorem lf_n_readAll7_15 (k57 : Nat) (n77 : Nat) (j70 : k57 ≤ 20) (hm79 : 20 - k57 < n77 + 1) (c80 : k57 < 20) (p83 : True) : 20 - (k57 + 1) < n77 := by
  try simp only [ia_lt, ia_le, ia_eq, ia_m1, ia_0, ia_1, ne_eq, true_and, and_true, false_and, and_false, or_false, false_or, or_true, true_or, not_true_eq_false, not_false_eq_true] at *
  all_goals omega
set_option maxRecDepth 20000 in
theorem lf_n_readAll7_16   : 0 ≤ 20 := by
  try simp only [ia_lt, ia_le, ia_eq, ia_m1, ia_0, ia_1, ne_eq, true_and, and_true, false_and, and_false, or_false, false_or, or_true, true_or, not_true_eq_false, not_false_eq_true] at *
  all_goals omega
set_option maxRecDepth 20000 in
theorem lf_n_readAll7_17 (rlength : Nat) (rplace : Nat) (rplaceG_7 : Nat) (iv_rreader_0 : rlength ≤ 940) (iv_rreader_1 : rplace ≤ rlength) (p17 : rplaceG_7 ≤ rlength) : rplaceG_7 ≤ 940 := by
  try simp only [ia_lt, ia_le, ia_eq, ia_m1, ia_0, ia_1, ne_eq, true_and, and_true, false_and, and_false, or_false, false_or, or_true, true_or, not_true_eq_false, not_false_eq_true] at *
  all_goals omega
set_option maxHeartbeats 4000000 in
set_option maxRecDepth 100000 in
theorem c_n_readAll7 (l : Launch) (dC : Nat → ClassId) (dI : Nat → Nat → Nat) (ky : Nat → ClassId) (sz : Nat) (adK : Nat → Nat) (adV : Nat → Nat) (se : Nat) (ccodes : Nat) (ccodeCount : Nat) (cones : Int32) (ccodesF : Nat → Int32) (reader : Nat) (rtape : Nat) (rlength : Nat) (rmostBytes : Nat) (rplace : Nat) (rkind : Int32) (rbegin : Nat) (rword : Int32) (rnumber : Int32) (rletters : Int64) (rfaultKind : Int32) (rfaultPlace : Int32) (rtapeF : Nat → Int32) (a : Nat) (wide : Nat) (high : Nat) (heat : Int32) (cools : Int32) (skinHeat : Int32) (today : Int32) (stirs : Int32) (steps : Int32) (lumps : Nat) (boats : Nat) (thickness : Nat) (lumpNames : Nat) (lumpCells : Nat) (boatNames : Nat) (boatCells : Nat) (loads : Nat) (spoons : Nat) (spoonsLeft : Nat) (depths : Nat) (lumpNamesF : Nat → Int64) (iv_cse_0 : ccodeCount ≤ 40) (iv_rreader_0 : rlength ≤ 940) (iv_rreader_1 : rplace ≤ rlength) (iv_rreader_2 : rmostBytes ≤ 900) (iv_rreader_3 : rbegin ≤ 940) (iv_a_0 : 2 ≤ wide) (iv_a_1 : wide ≤ 6) (iv_a_2 : 2 ≤ high) (iv_a_3 : high ≤ 6) (iv_a_4 : lumps ≤ 6) (iv_a_5 : boats ≤ 6) : Met l yX9_readAll wsX9_readAll ({ frames := 12, cells := 0, slots := 0, locals := 281 }) (PcUE dC dI ky adK adV [.ref se, .ref reader, .ref a, .int (nI 7)] [(se, .inr (9, [.ref ccodes, .int (nI ccodeCount), .int cones])), (ccodes, .inl (ky 0, 40, .inl ccodesF)), (reader, .inr (5, [.ref rtape, .int (nI rlength), .int (nI rmostBytes), .int (nI rplace), .int rkind, .int (nI rbegin), .int rword, .int rnumber, .long rletters, .int rfaultKind, .int rfaultPlace])), (rtape, .inl (ky 2, 940, .inl rtapeF)), (a, .inr (7, [.int (nI wide), .int (nI high), .int heat, .int cools, .int skinHeat, .int today, .int stirs, .int steps, .int (nI lumps), .int (nI boats), .ref thickness, .ref lumpNames, .ref lumpCells, .ref boatNames, .ref boatCells, .ref loads, .ref spoons, .ref spoonsLeft, .ref depths])), (lumpNames, .inl (ky 1, 6, .inr (.inl lumpNamesF)))] sz) (va_Qi (fun (r : Int32) (u : Nat × Int32 × (Nat → Int32) × Nat × Int32 × Nat × Int32 × Int32 × Int64 × Int32 × Int32) => match u with | (ccodeCountG, conesG, ccodesG, rplaceG, rkindG, rbeginG, rwordG, rnumberG, rlettersG, rfaultKindG, rfaultPlaceG) => (r = nI 0 ∨ r = nI 1) ∧ (ccodeCountG ≤ 40) ∧ (rplaceG ≤ rlength) ∧ (rbeginG ≤ 940)) (BU dC dI ky (fun (u : Nat × Int32 × (Nat → Int32) × Nat × Int32 × Nat × Int32 × Int32 × Int64 × Int32 × Int32) => match u with | (ccodeCountG, conesG, ccodesG, rplaceG, rkindG, rbeginG, rwordG, rnumberG, rlettersG, rfaultKindG, rfaultPlaceG) => [(se, .inr (9, [.ref ccodes, .int (nI ccodeCountG), .int conesG])), (ccodes, .inl (ky 0, 40, .inl ccodesG)), (reader, .inr (5, [.ref rtape, .int (nI rlength), .int (nI rmostBytes), .int (nI rplaceG), .int rkindG, .int (nI rbeginG), .int rwordG, .int rnumberG, .long rlettersG, .int rfaultKindG, .int rfaultPlaceG])), (rtape, .inl (ky 2, 940, .inl rtapeF)), (a, .inr (7, [.int (nI wide), .int (nI high), .int heat, .int cools, .int skinHeat, .int today, .int stirs, .int steps, .int (nI lumps), .int (nI boats), .ref thickness, .ref lumpNames, .ref lumpCells, .ref boatNames, .ref boatCells, .ref loads, .ref spoons, .ref spoonsLeft, .ref depths])), (lumpNames, .inl (ky 1, 6, .inr (.inl lumpNamesF)))]) (va_A [(se, .inr (9, [.ref ccodes, .int (nI ccodeCount), .int cones])), (ccodes, .inl (ky 0, 40, .inl ccodesF)), (reader, .inr (5, [.ref rtape, .int (nI rlength), .int (nI rmostBytes), .int (nI rplace), .int rkind, .int (nI rbegin), .int rword, .int rnumber, .long rletters, .int rfaultKind, .int rfaultPlace])), (rtape, .inl (ky 2, 940, .inl rtapeF)), (a, .inr (7, [.int (nI wide), .int (nI high), .int heat, .int cools, .int skinHeat, .int today, .int stirs, .int steps, .int (nI lumps), .int (nI boats), .ref thickness, .ref lumpNames, .ref lumpCells, .ref boatNames, .ref boatCells, .ref loads, .ref spoons, .ref spoonsLeft, .ref depths])), (lumpNames, .inl (ky 1, 6, .inr (.inl lumpNamesF)))] sz)) (va_A [(se, .inr (9, [.ref ccodes, .int (nI ccodeCount), .int cones])), (ccodes, .inl (ky 0, 40, .inl ccodesF)), (reader, .inr (5, [.ref rtape, .int (nI rlength), .int (nI rmostBytes), .int (nI rplace), .int rkind, .int (nI rbegin), .int rword, .int rnumber, .long rletters, .int rfaultKind, .int rfaultPlace])), (rtape, .inl (ky 2, 940, .inl rtapeF)), (a, .inr (7, [.int (nI wide), .int (nI high), .int heat, .int cools, .int skinHeat, .int today, .int stirs, .int steps, .int (nI lumps), .int (nI boats), .ref thickness, .ref lumpNames, .ref lumpCells, .ref boatNames, .ref boatCells, .ref loads, .ref spoons, .ref spoonsLeft, .ref depths])), (lumpNames, .inl (ky 1, 6, .inr (.inl lumpNamesF)))] sz)) 0 0 (va_A [(se, .inr (9, [.ref ccodes, .int (nI ccodeCount), .int cones])), (ccodes, .inl (ky 0, 40, .inl ccodesF)), (reader, .inr (5, [.ref rtape, .int (nI rlength), .int (nI rmostBytes), .int (nI rplace), .int rkind, .int (nI rbegin), .int rword, .int rnumber, .long rletters, .int rfaultKind, .int rfaultPlace])), (rtape, .inl (ky 2, 940, .inl rtapeF)), (a, .inr (7, [.int (nI wide), .int (nI high), .int heat, .int cools, .int skinHeat, .int today, .int stirs, .int steps, .int (nI lumps), .int (nI boats), .ref thickness, .ref lumpNames, .ref lumpCells, .ref boatNames, .ref boatCells, .ref loads, .ref spoons, .ref spoonsLeft, .ref depths])), (lumpNames, .inl (ky 1, 6, .inr (.inl lumpNamesF)))] sz) := by
  refine Met.ofW (cc := cX9_readAll) (maxL := 6) (ret := (some .boolean)) (by decide) rfl ?_
  intro p e s m args below meth c s₁ B hml hv
  obtain ⟨rfl, hsz, hP, hK, hD0, hE⟩ := hv
  have hx := B.exec
  have hb := B.bytes
  have hr := B.returns
  have hts := atoms_spec (ws := wsX9_readAll) B.pre
  have hown : s.vm.findClass RX9 = some m.cls := findClass_of_methodNamed B.named
  have hlocks := B.notSynchronized
  subst hsz
  have hD := hD0.self (sz := s.heap.size)
  generalize hAe : va_A [(se, .inr (9, [.ref ccodes, .int (nI ccodeCount), .int cones])), (ccodes, .inl (ky 0, 40, .inl ccodesF)), (reader, .inr (5, [.ref rtape, .int (nI rlength), .int (nI rmostBytes), .int (nI rplace), .int rkind, .int (nI rbegin), .int rword, .int rnumber, .long rletters, .int rfaultKind, .int rfaultPlace])), (rtape, .inl (ky 2, 940, .inl rtapeF)), (a, .inr (7, [.int (nI wide), .int (nI high), .int heat, .int cools, .int skinHeat, .int today, .int stirs, .int steps, .int (nI lumps), .int (nI boats), .ref thickness, .ref lumpNames, .ref lumpCells, .ref boatNames, .ref boatCells, .ref loads, .ref spoons, .ref spoonsLeft, .ref depths])), (lumpNames, .inl (ky 1, 6, .inr (.inl lumpNamesF)))] s.heap.size = A at hD hE ⊢
  have hA : ∀ q : Nat, s.heap.size ≤ q → A q := fun q h => by rw [← hAe]; exact Or.inr h
  have hS : va_S A s.heap s.heap [] := va_S.rf
  have hl := lv_entry ([.ref se, .ref reader, .ref a, .int (nI 7)]) (n := 6) (Nat.le_of_ble_eq_true rfl)
  rw [lg_entry_eq]
  generalize (lg_sl ([.ref se, .ref reader, .ref a, .int (nI 7)]) ++ List.replicate (6 - (lg_sl ([.ref se, .ref reader, .ref a, .int (nI 7)])).length) Slot.unset).toArray = ls at hl ⊢
  have hl : lv_has ls 6 [(0, .ref se), (1, .ref reader), (2, .ref a), (3, .int (nI 7))] := hl
  refine q_name (fun Q hQ => ?_)
  generalize ([.ref se, .ref reader, .ref a, .int (nI 7)] : List Value).toArray = args at hts hQ ⊢
  refine lv_aload_n hx hb dX9_readAll_0 rfl (lv_at hl 0 rfl) ?_
  refine lv_aload_n hx hb dX9_readAll_1 rfl (lv_at hl 1 rfl) ?_
  refine lv_aload_n hx hb dX9_readAll_2 rfl (lv_at hl 2 rfl) ?_
  refine lv_iload_n hx hb dX9_readAll_3 rfl (lv_at hl 3 rfl) ?_
  refine r_call_i (wr := []) (va_runV (As := [.ref reader, .ref a, .int (nI 7)]) (rest := []) ⟨hx, hb, hml, hown, hts⟩ (c_n_readOne7 l dC dI ky s.heap.size adK adV se ccodes ccodeCount cones ccodesF reader rtape rlength rmostBytes rplace rkind rbegin rword rnumber rletters rfaultKind rfaultPlace rtapeF a wide high heat cools skinHeat today stirs steps lumps boats thickness lumpNames lumpCells boatNames boatCells loads spoons spoonsLeft depths lumpNamesF iv_cse_0 iv_rreader_0 iv_rreader_1 iv_rreader_2 iv_rreader_3 iv_a_0 iv_a_1 iv_a_2 iv_a_3 iv_a_4 iv_a_5) (cwV 3 hts gX9_readAll_X9_readOne rfl rfl rfl (by decide +kernel) ⟨(Nat.le_of_ble_eq_true rfl), (Nat.le_of_ble_eq_true rfl)⟩) (pre_UEV hE hS hA hK hP hD [0, 1, 2, 3, 4, 5] (by decide) rfl (va_recv hK hP (ci := 9) (q0 := 0) rfl rfl)) rfl rfl hl.1 rfl (lv_room (Nat.le_of_ble_eq_true rfl)) dX9_readAll_4 ⟨(Nat.le_of_ble_eq_true rfl), (Nat.le_of_ble_eq_true rfl)⟩) hP hD hS hA [0, 1, 2, 3, 4, 5] [] rfl rfl (by decide) (by decide) (fun r3 u1 H locs p2 hP hD hS => ?_)
  obtain ⟨ccodeCountG_4, conesG_5, ccodesG_6, rplaceG_7, rkindG_8, rbeginG_9, rwordG_10, rnumberG_11, rlettersG_12, rfaultKindG_13, rfaultPlaceG_14⟩ := u1
  try dsimp only at p2
  obtain ⟨p15, p16, p17, p18⟩ := p2
  refine W.widen (k := 0) (n := 0) (Nat.le_of_ble_eq_true rfl) (Nat.le_of_ble_eq_true rfl) ?_
  have hP : va_P (dC, dI) vwCl [(se, .inr (9, [.ref ccodes, .int (nI ccodeCountG_4), .int conesG_5])), (ccodes, .inl (ky 0, 40, .inl ccodesG_6)), (reader, .inr (5, [.ref rtape, .int (nI rlength), .int (nI rmostBytes), .int (nI rplaceG_7), .int rkindG_8, .int (nI rbeginG_9), .int rwordG_10, .int rnumberG_11, .long rlettersG_12, .int rfaultKindG_13, .int rfaultPlaceG_14])), (rtape, .inl (ky 2, 940, .inl rtapeF)), (a, .inr (7, [.int (nI wide), .int (nI high), .int heat, .int cools, .int skinHeat, .int today, .int stirs, .int steps, .int (nI lumps), .int (nI boats), .ref thickness, .ref lumpNames, .ref lumpCells, .ref boatNames, .ref boatCells, .ref loads, .ref spoons, .ref spoonsLeft, .ref depths])), (lumpNames, .inl (ky 1, 6, .inr (.inl lumpNamesF)))] H := hP
  have hD : va_D A [(se, .inr (9, [.ref ccodes, .int (nI ccodeCountG_4), .int conesG_5])), (ccodes, .inl (ky 0, 40, .inl ccodesG_6)), (reader, .inr (5, [.ref rtape, .int (nI rlength), .int (nI rmostBytes), .int (nI rplaceG_7), .int rkindG_8, .int (nI rbeginG_9), .int rwordG_10, .int rnumberG_11, .long rlettersG_12, .int rfaultKindG_13, .int rfaultPlaceG_14])), (rtape, .inl (ky 2, 940, .inl rtapeF)), (a, .inr (7, [.int (nI wide), .int (nI high), .int heat, .int cools, .int skinHeat, .int today, .int stirs, .int steps, .int (nI lumps), .int (nI boats), .ref thickness, .ref lumpNames, .ref lumpCells, .ref boatNames, .ref boatCells, .ref loads, .ref spoons, .ref spoonsLeft, .ref depths])), (lumpNames, .inl (ky 1, 6, .inr (.inl lumpNamesF)))] := hD
  refine lv_istore (lv' := [(4, .int r3), (0, .ref se), (1, .ref reader), (2, .ref a), (3, .int (nI 7))]) hx hb dX9_readAll_7 hl (by decide) rfl (fun ls hl => ?_)
  refine lv_iconst (v := nI 0) hx hb dX9_readAll_9 (by decide) ?_
  refine lv_istore (lv' := [(5, .int (nI 0)), (4, .int r3), (0, .ref se), (1, .ref reader), (2, .ref a), (3, .int (nI 7))]) hx hb dX9_readAll_10 hl (by decide) rfl (fun ls hl => ?_)
  have hL76 : ∀ (n77 : Nat) (k57 : Nat) (x58 : Int32) (k59 : Nat) (x60 : Int32) (f61 : Nat → Int32) (k62 : Nat) (x63 : Int32) (k64 : Nat) (x65 : Int32) (x66 : Int32) (w67 : Int64) (x68 : Int32) (x69 : Int32), (k57 ≤ 20) → (x58 = nI 0 ∨ x58 = nI 1) → (k59 ≤ 40) → (k62 ≤ 940) → (k64 ≤ 940) → (k62 ≤ rlength) → 20 - k57 < n77 → ∀ (H : Heap) (locs : List Loc) (ls : Array Slot), va_P (dC, dI) vwCl [(se, .inr (9, [.ref ccodes, .int (nI k59), .int x60])), (ccodes, .inl (ky 0, 40, .inl f61)), (reader, .inr (5, [.ref rtape, .int (nI rlength), .int (nI rmostBytes), .int (nI k62), .int x63, .int (nI k64), .int x65, .int x66, .long w67, .int x68, .int x69])), (rtape, .inl (ky 2, 940, .inl rtapeF)), (a, .inr (7, [.int (nI wide), .int (nI high), .int heat, .int cools, .int skinHeat, .int today, .int stirs, .int steps, .int (nI lumps), .int (nI boats), .ref thickness, .ref lumpNames, .ref lumpCells, .ref boatNames, .ref boatCells, .ref loads, .ref spoons, .ref spoonsLeft, .ref depths])), (lumpNames, .inl (ky 1, 6, .inr (.inl lumpNamesF)))] H → va_D A [(se, .inr (9, [.ref ccodes, .int (nI k59), .int x60])), (ccodes, .inl (ky 0, 40, .inl f61)), (reader, .inr (5, [.ref rtape, .int (nI rlength), .int (nI rmostBytes), .int (nI k62), .int x63, .int (nI k64), .int x65, .int x66, .long w67, .int x68, .int x69])), (rtape, .inl (ky 2, 940, .inl rtapeF)), (a, .inr (7, [.int (nI wide), .int (nI high), .int heat, .int cools, .int skinHeat, .int today, .int stirs, .int steps, .int (nI lumps), .int (nI boats), .ref thickness, .ref lumpNames, .ref lumpCells, .ref boatNames, .ref boatCells, .ref loads, .ref spoons, .ref spoonsLeft, .ref depths])), (lumpNames, .inl (ky 1, 6, .inr (.inl lumpNamesF)))] → va_S A s.heap H locs → lv_has ls 6 [(5, .int (nI k57)), (4, .int x58), (0, .ref se), (1, .ref reader), (2, .ref a), (3, .int (nI 7))] → W p l e (headSpec wsX9_readAll ({ frames := 12, cells := 0, slots := 0, locals := 281 })).room s m args below meth c H locs 0 0 Q (F0 m 12 ls []) := by
    intro n77
    induction n77 with
    | zero => intro k57 x58 k59 x60 f61 k62 x63 k64 x65 x66 w67 x68 x69 _ _ _ _ _ _ h9; exact absurd h9 (Nat.not_lt_zero _)
    | succ n77 ih78 =>
      intro k57 x58 k59 x60 f61 k62 x63 k64 x65 x66 w67 x68 x69 j70 j71 j72 j73 j74 j75 hm79 H locs ls hP hD hS hl
      refine lv_iload hx hb dX9_readAll_12 (lv_at hl 0 rfl) ?_
      refine lv_bipush (v := nI 20) hx hb dX9_readAll_14 (by decide) ?_
      refine n_icmp_ge (x := k57) (y := 20) (tgt := 69) hx hb (by omega) (by omega) dX9_readAll_16 (by decide) (fun c80 => ?_) (fun c80 => ?_)
      · refine lv_iload hx hb dX9_readAll_69 (lv_at hl 1 rfl) ?_
        rw [hQ]
        exact W.zret (v := x58) hx hb hr ((lf_n_readAll7_1 x58 j71)) (fun t9 ht9 hW9 => ⟨⟨x58, (k59, x60, f61, k62, x63, k64, x65, x66, w67, x68, x69), rfl, ⟨j71, j72, j75, j74⟩, by rw [ht9]; exact hP, va_K.moved hW9.alike hK, hD⟩, hS.F ht9⟩) hS.2.2 dX9_readAll_71
      · refine lv_iload hx hb dX9_readAll_19 (lv_at hl 1 rfl) ?_
        refine lv_if_eq (tgt := 69) hx hb dX9_readAll_21 (by decide) (fun c81 => ?_) (fun c81 => ?_)
        · refine lv_iload hx hb dX9_readAll_69 (lv_at hl 1 rfl) ?_
          rw [hQ]
          exact W.zret (v := x58) hx hb hr ((lf_n_readAll7_2 x58 j71 c81)) (fun t9 ht9 hW9 => ⟨⟨x58, (k59, x60, f61, k62, x63, k64, x65, x66, w67, x68, x69), rfl, ⟨j71, j72, j75, j74⟩, by rw [ht9]; exact hP, va_K.moved hW9.alike hK, hD⟩, hS.F ht9⟩) hS.2.2 dX9_readAll_71
        · refine lv_aload_n hx hb dX9_readAll_24 rfl (lv_at hl 3 rfl) ?_
          refine vp_callSi (W.runV (As := []) (rest := []) ⟨hx, hb, hml, hown, hts⟩ (c_r_nextWord l dC dI ky reader rtape rlength rmostBytes k62 x63 k64 x65 x66 w67 x68 x69 iv_rreader_0 j75 iv_rreader_2 j74) (cwV 0 hts gX9_readAll_X5_nextWord rfl rfl rfl (by decide +kernel) ⟨(Nat.le_of_ble_eq_true rfl), (Nat.le_of_ble_eq_true rfl)⟩) (pre_PV hK hP [2] rfl (ci := 5) (q0 := 2) rfl rfl) rfl rfl hl.1 rfl (lv_room (Nat.le_of_ble_eq_true rfl)) dX9_readAll_25 ⟨(Nat.le_of_ble_eq_true rfl), (Nat.le_of_ble_eq_true rfl)⟩) (fun r82 p83 => ?_)
          refine lv_bipush (v := nI 21) hx hb dX9_readAll_28 (by decide) ?_
          refine lv_icmp_ne (tgt := 69) hx hb dX9_readAll_30 (by decide) (fun c84 => ?_) (fun c84 => ?_)
          · refine lv_iload hx hb dX9_readAll_69 (lv_at hl 1 rfl) ?_
            rw [hQ]
            exact W.zret (v := x58) hx hb hr ((lf_n_readAll7_3 x58 j71 c81 p83)) (fun t9 ht9 hW9 => ⟨⟨x58, (k59, x60, f61, k62, x63, k64, x65, x66, w67, x68, x69), rfl, ⟨j71, j72, j75, j74⟩, by rw [ht9]; exact hP, va_K.moved hW9.alike hK, hD⟩, hS.F ht9⟩) hS.2.2 dX9_readAll_71
          · refine lv_aload_n hx hb dX9_readAll_33 rfl (lv_at hl 3 rfl) ?_
            refine r_call_v (wr := [(se, .inr (9, [.ref ccodes, .int (nI k59), .int x60])), (ccodes, .inl (ky 0, 40, .inl f61)), (a, .inr (7, [.int (nI wide), .int (nI high), .int heat, .int cools, .int skinHeat, .int today, .int stirs, .int steps, .int (nI lumps), .int (nI boats), .ref thickness, .ref lumpNames, .ref lumpCells, .ref boatNames, .ref boatCells, .ref loads, .ref spoons, .ref spoonsLeft, .ref depths])), (lumpNames, .inl (ky 1, 6, .inr (.inl lumpNamesF)))]) (va_runV (As := []) (rest := []) ⟨hx, hb, hml, hown, hts⟩ (c_r_advance l dC dI ky H.size adK adV reader rtape rlength rmostBytes k62 x63 k64 x65 x66 w67 x68 x69 rtapeF iv_rreader_0 j75 iv_rreader_2 j74) (cwV 0 hts gX9_readAll_X5_advance rfl rfl rfl (by decide +kernel) ⟨(Nat.le_of_ble_eq_true rfl), (Nat.le_of_ble_eq_true rfl)⟩) (pre_UEV hE hS hA hK hP hD [2, 3] (by decide) rfl (va_recv hK hP (ci := 5) (q0 := 2) rfl rfl)) rfl rfl hl.1 rfl (lv_room (Nat.le_of_ble_eq_true rfl)) dX9_readAll_34 ⟨(Nat.le_of_ble_eq_true rfl), (Nat.le_of_ble_eq_true rfl)⟩) hP hD hS hA [2, 3] [0, 1, 4, 5] rfl rfl (by decide) (by decide) (fun  u85 H locs p86 hP hD hS => ?_)
            obtain ⟨rplaceG_87, rkindG_88, rbeginG_89, rwordG_90, rnumberG_91, rlettersG_92⟩ := u85
            try dsimp only at p86
            obtain ⟨p93, p94⟩ := p86
            refine W.widen (k := 0) (n := 0) (Nat.le_of_ble_eq_true rfl) (Nat.le_of_ble_eq_true rfl) ?_
            have hP : va_P (dC, dI) vwCl [(se, .inr (9, [.ref ccodes, .int (nI k59), .int x60])), (ccodes, .inl (ky 0, 40, .inl f61)), (a, .inr (7, [.int (nI wide), .int (nI high), .int heat, .int cools, .int skinHeat, .int today, .int stirs, .int steps, .int (nI lumps), .int (nI boats), .ref thickness, .ref lumpNames, .ref lumpCells, .ref boatNames, .ref boatCells, .ref loads, .ref spoons, .ref spoonsLeft, .ref depths])), (lumpNames, .inl (ky 1, 6, .inr (.inl lumpNamesF))), (reader, .inr (5, [.ref rtape, .int (nI rlength), .int (nI rmostBytes), .int (nI rplaceG_87), .int rkindG_88, .int (nI rbeginG_89), .int rwordG_90, .int rnumberG_91, .long rlettersG_92, .int x68, .int x69])), (rtape, .inl (ky 2, 940, .inl rtapeF))] H := hP
            have hD : va_D A [(se, .inr (9, [.ref ccodes, .int (nI k59), .int x60])), (ccodes, .inl (ky 0, 40, .inl f61)), (a, .inr (7, [.int (nI wide), .int (nI high), .int heat, .int cools, .int skinHeat, .int today, .int stirs, .int steps, .int (nI lumps), .int (nI boats), .ref thickness, .ref lumpNames, .ref lumpCells, .ref boatNames, .ref boatCells, .ref loads, .ref spoons, .ref spoonsLeft, .ref depths])), (lumpNames, .inl (ky 1, 6, .inr (.inl lumpNamesF))), (reader, .inr (5, [.ref rtape, .int (nI rlength), .int (nI rmostBytes), .int (nI rplaceG_87), .int rkindG_88, .int (nI rbeginG_89), .int rwordG_90, .int rnumberG_91, .long rlettersG_92, .int x68, .int x69])), (rtape, .inl (ky 2, 940, .inl rtapeF))] := hD
            refine lv_aload_n hx hb dX9_readAll_37 rfl (lv_at hl 2 rfl) ?_
            refine lv_aload_n hx hb dX9_readAll_38 rfl (lv_at hl 3 rfl) ?_
            refine lv_aload_n hx hb dX9_readAll_39 rfl (lv_at hl 4 rfl) ?_
            refine lv_iload_n hx hb dX9_readAll_40 rfl (lv_at hl 5 rfl) ?_
            refine r_call_i (wr := []) (va_runV (As := [.ref reader, .ref a, .int (nI 7)]) (rest := []) ⟨hx, hb, hml, hown, hts⟩ (c_n_readOne7 l dC dI ky H.size adK adV se ccodes k59 x60 f61 reader rtape rlength rmostBytes rplaceG_87 rkindG_88 rbeginG_89 rwordG_90 rnumberG_91 rlettersG_92 x68 x69 rtapeF a wide high heat cools skinHeat today stirs steps lumps boats thickness lumpNames lumpCells boatNames boatCells loads spoons spoonsLeft depths lumpNamesF j72 iv_rreader_0 p93 iv_rreader_2 p94 iv_a_0 iv_a_1 iv_a_2 iv_a_3 iv_a_4 iv_a_5) (cwV 3 hts gX9_readAll_X9_readOne rfl rfl rfl (by decide +kernel) ⟨(Nat.le_of_ble_eq_true rfl), (Nat.le_of_ble_eq_true rfl)⟩) (pre_UEV hE hS hA hK hP hD [0, 1, 4, 5, 2, 3] (by decide) rfl (va_recv hK hP (ci := 9) (q0 := 0) rfl rfl)) rfl rfl hl.1 rfl (lv_room (Nat.le_of_ble_eq_true rfl)) dX9_readAll_41 ⟨(Nat.le_of_ble_eq_true rfl), (Nat.le_of_ble_eq_true rfl)⟩) hP hD hS hA [0, 1, 4, 5, 2, 3] [] rfl rfl (by decide) (by decide) (fun r97 u95 H locs p96 hP hD hS => ?_)
            obtain ⟨ccodeCountG_98, conesG_99, ccodesG_100, rplaceG_101, rkindG_102, rbeginG_103, rwordG_104, rnumberG_105, rlettersG_106, rfaultKindG_107, rfaultPlaceG_108⟩ := u95
            try dsimp only at p96
            obtain ⟨p109, p110, p111, p112⟩ := p96
            refine W.widen (k := 0) (n := 0) (Nat.le_of_ble_eq_true rfl) (Nat.le_of_ble_eq_true rfl) ?_
            have hP : va_P (dC, dI) vwCl [(se, .inr (9, [.ref ccodes, .int (nI ccodeCountG_98), .int conesG_99])), (ccodes, .inl (ky 0, 40, .inl ccodesG_100)), (reader, .inr (5, [.ref rtape, .int (nI rlength), .int (nI rmostBytes), .int (nI rplaceG_101), .int rkindG_102, .int (nI rbeginG_103), .int rwordG_104, .int rnumberG_105, .long rlettersG_106, .int rfaultKindG_107, .int rfaultPlaceG_108])), (rtape, .inl (ky 2, 940, .inl rtapeF)), (a, .inr (7, [.int (nI wide), .int (nI high), .int heat, .int cools, .int skinHeat, .int today, .int stirs, .int steps, .int (nI lumps), .int (nI boats), .ref thickness, .ref lumpNames, .ref lumpCells, .ref boatNames, .ref boatCells, .ref loads, .ref spoons, .ref spoonsLeft, .ref depths])), (lumpNames, .inl (ky 1, 6, .inr (.inl lumpNamesF)))] H := hP
            have hD : va_D A [(se, .inr (9, [.ref ccodes, .int (nI ccodeCountG_98), .int conesG_99])), (ccodes, .inl (ky 0, 40, .inl ccodesG_100)), (reader, .inr (5, [.ref rtape, .int (nI rlength), .int (nI rmostBytes), .int (nI rplaceG_101), .int rkindG_102, .int (nI rbeginG_103), .int rwordG_104, .int rnumberG_105, .long rlettersG_106, .int rfaultKindG_107, .int rfaultPlaceG_108])), (rtape, .inl (ky 2, 940, .inl rtapeF)), (a, .inr (7, [.int (nI wide), .int (nI high), .int heat, .int cools, .int skinHeat, .int today, .int stirs, .int steps, .int (nI lumps), .int (nI boats), .ref thickness, .ref lumpNames, .ref lumpCells, .ref boatNames, .ref boatCells, .ref loads, .ref spoons, .ref spoonsLeft, .ref depths])), (lumpNames, .inl (ky 1, 6, .inr (.inl lumpNamesF)))] := hD
            refine lv_if_eq (tgt := 60) hx hb dX9_readAll_44 (by decide) (fun c113 => ?_) (fun c113 => ?_)
            · refine lv_iconst (v := nI 0) hx hb dX9_readAll_60 (by decide) ?_
              refine lv_istore (lv' := [(4, .int (nI 0)), (5, .int (nI k57)), (0, .ref se), (1, .ref reader), (2, .ref a), (3, .int (nI 7))]) hx hb dX9_readAll_61 hl (by decide) rfl (fun ls hl => ?_)
              refine lv_iinc (v := nI (k57 + 1)) (lv' := [(5, .int (nI (k57 + 1))), (4, .int (nI 0)), (0, .ref se), (1, .ref reader), (2, .ref a), (3, .int (nI 7))]) hx hb dX9_readAll_63 hl (k := 1) rfl (show nI k57 + nI 1 = nI (k57 + 1) from nI_add _ _) (by decide) rfl (fun ls hl => ?_)
              refine lv_goto (tgt := 12) hx hb dX9_readAll_66 (by decide) ?_
              exact ih78 (k57 + 1) (nI 0) ccodeCountG_98 conesG_99 ccodesG_100 rplaceG_101 rkindG_102 rbeginG_103 rwordG_104 rnumberG_105 rlettersG_106 rfaultKindG_107 rfaultPlaceG_108 (lf_n_readAll7_4 k57 n77 j70 hm79 c80 p83) (lf_n_readAll7_5 p83) p110 (lf_n_readAll7_6 rlength rplace rplaceG_7 k62 rplaceG_87 rplaceG_101 iv_rreader_0 iv_rreader_1 p17 j73 j75 p83 p93 p111) p112 p111 (lf_n_readAll7_7 k57 n77 j70 hm79 c80 p83) _ _ _ hP hD hS (lv_sub hl [0, 1, 2, 3, 4, 5] rfl)
            · refine lv_aload_n hx hb dX9_readAll_47 rfl (lv_at hl 2 rfl) ?_
              refine lv_bipush (v := nI 21) hx hb dX9_readAll_48 (by decide) ?_
              refine r_call_i (wr := [(reader, .inr (5, [.ref rtape, .int (nI rlength), .int (nI rmostBytes), .int (nI rplaceG_101), .int rkindG_102, .int (nI rbeginG_103), .int rwordG_104, .int rnumberG_105, .long rlettersG_106, .int rfaultKindG_107, .int rfaultPlaceG_108])), (rtape, .inl (ky 2, 940, .inl rtapeF)), (a, .inr (7, [.int (nI wide), .int (nI high), .int heat, .int cools, .int skinHeat, .int today, .int stirs, .int steps, .int (nI lumps), .int (nI boats), .ref thickness, .ref lumpNames, .ref lumpCells, .ref boatNames, .ref boatCells, .ref loads, .ref spoons, .ref spoonsLeft, .ref depths])), (lumpNames, .inl (ky 1, 6, .inr (.inl lumpNamesF)))]) (va_runV (As := [.int (nI 21)]) (rest := []) ⟨hx, hb, hml, hown, hts⟩ (c_n_put l dC dI ky H.size se ccodes ccodeCountG_98 conesG_99 ccodesG_100 (nI 21) p110) (cwV 1 hts gX9_readAll_X9_put rfl rfl rfl (by decide +kernel) ⟨(Nat.le_of_ble_eq_true rfl), (Nat.le_of_ble_eq_true rfl)⟩) (pre_UV hK hP hD [0, 1] (by decide) rfl (ci := 9) (q0 := 0) rfl rfl) rfl rfl hl.1 rfl (lv_room (Nat.le_of_ble_eq_true rfl)) dX9_readAll_50 ⟨(Nat.le_of_ble_eq_true rfl), (Nat.le_of_ble_eq_true rfl)⟩) hP hD hS hA [0, 1] [2, 3, 4, 5] rfl rfl (by decide) (by decide) (fun r116 u114 H locs p115 hP hD hS => ?_)
              obtain ⟨ccodeCountG_117, ccodesG_118⟩ := u114
              try dsimp only at p115
              obtain ⟨p119, p120⟩ := p115
              refine W.widen (k := 0) (n := 0) (Nat.le_of_ble_eq_true rfl) (Nat.le_of_ble_eq_true rfl) ?_
              have hP : va_P (dC, dI) vwCl [(reader, .inr (5, [.ref rtape, .int (nI rlength), .int (nI rmostBytes), .int (nI rplaceG_101), .int rkindG_102, .int (nI rbeginG_103), .int rwordG_104, .int rnumberG_105, .long rlettersG_106, .int rfaultKindG_107, .int rfaultPlaceG_108])), (rtape, .inl (ky 2, 940, .inl rtapeF)), (a, .inr (7, [.int (nI wide), .int (nI high), .int heat, .int cools, .int skinHeat, .int today, .int stirs, .int steps, .int (nI lumps), .int (nI boats), .ref thickness, .ref lumpNames, .ref lumpCells, .ref boatNames, .ref boatCells, .ref loads, .ref spoons, .ref spoonsLeft, .ref depths])), (lumpNames, .inl (ky 1, 6, .inr (.inl lumpNamesF))), (se, .inr (9, [.ref ccodes, .int (nI ccodeCountG_117), .int conesG_99])), (ccodes, .inl (ky 0, 40, .inl ccodesG_118))] H := hP
              have hD : va_D A [(reader, .inr (5, [.ref rtape, .int (nI rlength), .int (nI rmostBytes), .int (nI rplaceG_101), .int rkindG_102, .int (nI rbeginG_103), .int rwordG_104, .int rnumberG_105, .long rlettersG_106, .int rfaultKindG_107, .int rfaultPlaceG_108])), (rtape, .inl (ky 2, 940, .inl rtapeF)), (a, .inr (7, [.int (nI wide), .int (nI high), .int heat, .int cools, .int skinHeat, .int today, .int stirs, .int steps, .int (nI lumps), .int (nI boats), .ref thickness, .ref lumpNames, .ref lumpCells, .ref boatNames, .ref boatCells, .ref loads, .ref spoons, .ref spoonsLeft, .ref depths])), (lumpNames, .inl (ky 1, 6, .inr (.inl lumpNamesF))), (se, .inr (9, [.ref ccodes, .int (nI ccodeCountG_117), .int conesG_99])), (ccodes, .inl (ky 0, 40, .inl ccodesG_118))] := hD
              refine lv_if_eq (tgt := 60) hx hb dX9_readAll_53 (by decide) (fun c121 => ?_) (fun c121 => ?_)
              · refine lv_iconst (v := nI 0) hx hb dX9_readAll_60 (by decide) ?_
                refine lv_istore (lv' := [(4, .int (nI 0)), (5, .int (nI k57)), (0, .ref se), (1, .ref reader), (2, .ref a), (3, .int (nI 7))]) hx hb dX9_readAll_61 hl (by decide) rfl (fun ls hl => ?_)
                refine lv_iinc (v := nI (k57 + 1)) (lv' := [(5, .int (nI (k57 + 1))), (4, .int (nI 0)), (0, .ref se), (1, .ref reader), (2, .ref a), (3, .int (nI 7))]) hx hb dX9_readAll_63 hl (k := 1) rfl (show nI k57 + nI 1 = nI (k57 + 1) from nI_add _ _) (by decide) rfl (fun ls hl => ?_)
                refine lv_goto (tgt := 12) hx hb dX9_readAll_66 (by decide) ?_
                exact ih78 (k57 + 1) (nI 0) ccodeCountG_117 conesG_99 ccodesG_118 rplaceG_101 rkindG_102 rbeginG_103 rwordG_104 rnumberG_105 rlettersG_106 rfaultKindG_107 rfaultPlaceG_108 (lf_n_readAll7_8 k57 n77 j70 hm79 c80 p83) (lf_n_readAll7_9 p83) p120 (lf_n_readAll7_10 rlength rplace rplaceG_7 k62 rplaceG_87 rplaceG_101 iv_rreader_0 iv_rreader_1 p17 j73 j75 p83 p93 p111) p112 p111 (lf_n_readAll7_11 k57 n77 j70 hm79 c80 p83) _ _ _ (hP.sub [4, 5, 0, 1, 2, 3] rfl) (hD.sub [4, 5, 0, 1, 2, 3] (by decide) rfl) hS (lv_sub hl [0, 1, 2, 3, 4, 5] rfl)
              · refine lv_iconst (v := nI 1) hx hb dX9_readAll_56 (by decide) ?_
                refine lv_goto (tgt := 61) hx hb dX9_readAll_57 (by decide) ?_
                refine lv_istore (lv' := [(4, .int (nI 1)), (5, .int (nI k57)), (0, .ref se), (1, .ref reader), (2, .ref a), (3, .int (nI 7))]) hx hb dX9_readAll_61 hl (by decide) rfl (fun ls hl => ?_)
                refine lv_iinc (v := nI (k57 + 1)) (lv' := [(5, .int (nI (k57 + 1))), (4, .int (nI 1)), (0, .ref se), (1, .ref reader), (2, .ref a), (3, .int (nI 7))]) hx hb dX9_readAll_63 hl (k := 1) rfl (show nI k57 + nI 1 = nI (k57 + 1) from nI_add _ _) (by decide) rfl (fun ls hl => ?_)
                refine lv_goto (tgt := 12) hx hb dX9_readAll_66 (by decide) ?_
                exact ih78 (k57 + 1) (nI 1) ccodeCountG_117 conesG_99 ccodesG_118 rplaceG_101 rkindG_102 rbeginG_103 rwordG_104 rnumberG_105 rlettersG_106 rfaultKindG_107 rfaultPlaceG_108 (lf_n_readAll7_12 k57 n77 j70 hm79 c80 p83) (lf_n_readAll7_13 p83) p120 (lf_n_readAll7_14 rlength rplace rplaceG_7 k62 rplaceG_87 rplaceG_101 iv_rreader_0 iv_rreader_1 p17 j73 j75 p83 p93 p111) p112 p111 (lf_n_readAll7_15 k57 n77 j70 hm79 c80 p83) _ _ _ (hP.sub [4, 5, 0, 1, 2, 3] rfl) (hD.sub [4, 5, 0, 1, 2, 3] (by decide) rfl) hS (lv_sub hl [0, 1, 2, 3, 4, 5] rfl)
  exact hL76 ((20 - 0) + 1) 0 r3 ccodeCountG_4 conesG_5 ccodesG_6 rplaceG_7 rkindG_8 rbeginG_9 rwordG_10 rnumberG_11 rlettersG_12 rfaultKindG_13 rfaultPlaceG_14 (lf_n_readAll7_16) p15 p16 (lf_n_readAll7_17 rlength rplace rplaceG_7 iv_rreader_0 iv_rreader_1 p17) p18 p17 (Nat.lt_succ_self _) _ _ _ hP hD hS (lv_sub hl [0, 1, 2, 3, 4, 5] rfl)
set_option maxRecDepth 20000 in
theorem lf_n_readCond7_1 (x58 : Int32) (j71 : x58 = nI 0 ∨ x58 = nI 1) : narrow .boolean (.int x58) = .int x58 := by
  have h : x58 = 0 ∨ x58 = 1 := by
    have b_x58 := ia_b x58
    try have k_0 := ia_n 0 (by first | decide | omega)
    try have k_1 := ia_n 1 (by first | decide | omega)
    try simp only [ia_lt, ia_le, ia_eq, ia_m1, ia_0, ia_1, ne_eq, true_and, and_true, false_and, and_false, or_false, false_or, or_true, true_or, not_true_eq_false, not_false_eq_true] at *
    all_goals omega
  rcases h with h | h <;> rw [h] <;> rfl
set_option maxRecDepth 20000 in
theorem lf_n_readCond7_2 (x58 : Int32) (j71 : x58 = nI 0 ∨ x58 = nI 1) (c81 : x58 = 0) : narrow .boolean (.int x58) = .int x58 := by
  have h : x58 = 0 ∨ x58 = 1 := by
    have b_x58 := ia_b x58
    try have k_0 := ia_n 0 (by first | decide | omega)
    try have k_1 := ia_n 1 (by first | decide | omega)
    try simp only [ia_lt, ia_le, ia_eq, ia_m1, ia_0, ia_1, ne_eq, true_and, and_true, false_and, and_false, or_false, false_or, or_true, true_or, not_true_eq_false, not_false_eq_true] at *
    all_goals omega
  rcases h with h | h <;> rw [h] <;> rfl
set_option maxRecDepth 20000 in
theorem lf_n_readCond7_3 (x58 : Int32) (j71 : x58 = nI 0 ∨ x58 = nI 1) (c81 : ¬ x58 = 0) (p83 : True) : narrow .boolean (.int x58) = .int x58 := by
  have h : x58 = 0 ∨ x58 = 1 := by
    have b_x58 := ia_b x58
    try have k_0 := ia_n 0 (by first | decide | omega)
    try have k_1 := ia_n 1 (by first | decide | omega)
    try simp only [ia_lt, ia_le, ia_eq, ia_m1, ia_0, ia_1, ne_eq, true_and, and_true, false_and, and_false, or_false, false_or, or_true, true_or, not_true_eq_false, not_false_eq_true] at *
    all_goals omega
  rcases h with h | h <;> rw [h] <;> rfl
set_option maxRecDepth 20000 in
theorem lf_n_readCond7_4 (k57 : Nat) (n77 : Nat) (j70 : k57 ≤ 20) (hm79 : 20 - k57 < n77 + 1) (c80 : k57 < 20) (p83 : True) : (k57 + 1) ≤ 20 := by
  try simp only [ia_lt, ia_le, ia_eq, ia_m1, ia_0, ia_1, ne_eq, true_and, and_true, false_and, and_false, or_false, false_or, or_true, true_or, not_true_eq_false, not_false_eq_true] at *
  all_goals omega
set_option maxRecDepth 20000 in
theorem lf_n_readCond7_5  (p83 : True) : (nI 0) = nI 0 ∨ (nI 0) = nI 1 := by
  try have k_0 := ia_n 0 (by first | decide | omega)
  try have k_1 := ia_n 1 (by first | decide | omega)
  try simp only [ia_lt, ia_le, ia_eq, ia_m1, ia_0, ia_1, ne_eq, true_and, and_true, false_and, and_false, or_false, false_or, or_true, true_or, not_true_eq_false, not_false_eq_true] at *
  all_goals omega
set_option maxRecDepth 20000 in
theorem lf_n_readCond7_6 (rlength : Nat) (rplace : Nat) (rplaceG_7 : Nat) (k62 : Nat) (rplaceG_87 : Nat) (rplaceG_101 : Nat) (iv_rreader_0 : rlength ≤ 940) (iv_rreader_1 : rplace ≤ rlength) (p17 : rplaceG_7 ≤ rlength) (j73 : k62 ≤ 940) (j75 : k62 ≤ rlength) (p83 : True) (p93 : rplaceG_87 ≤ rlength) (p111 : rplaceG_101 ≤ rlength) : rplaceG_101 ≤ 940 := by
  try simp only [ia_lt, ia_le, ia_eq, ia_m1, ia_0, ia_1, ne_eq, true_and, and_true, false_and, and_false, or_false, false_or, or_true, true_or, not_true_eq_false, not_false_eq_true] at *
  all_goals omega
set_option maxRecDepth 20000 in
theorem lf_n_readCond7_7 (k57 : Nat) (n77 : Nat) (j70 : k57 ≤ 20) (hm79 : 20 - k57 < n77 + 1) (c80 : k57 < 20) (p83 : True) : 20 - (k57 + 1) < n77 := by
  try simp only [ia_lt, ia_le, ia_eq, ia_m1, ia_0, ia_1, ne_eq, true_and, and_true, false_and, and_false, or_false, false_or, or_true, true_or, not_true_eq_false, not_false_eq_true] at *
  all_goals omega
set_option maxRecDepth 20000 in
theorem lf_n_readCond7_8 (k57 : Nat) (n77 : Nat) (j70 : k57 ≤ 20) (hm79 : 20 - k57 < n77 + 1) (c80 : k57 < 20) (p83 : True) : (k57 + 1) ≤ 20 := by
  try simp only [ia_lt, ia_le, ia_eq, ia_m1, ia_0, ia_1, ne_eq, true_and, and_true, false_and, and_false, or_false, false_or, or_true, true_or, not_true_eq_false, not_false_eq_true] at *
  all_goals omega
set_option maxRecDepth 20000 in
theorem lf_n_readCond7_9  (p83 : True) : (nI 0) = nI 0 ∨ (nI 0) = nI 1 := by
  try have k_0 := ia_n 0 (by first | decide | omega)
  try have k_1 := ia_n 1 (by first | decide | omega)
  try simp only [ia_lt, ia_le, ia_eq, ia_m1, ia_0, ia_1, ne_eq, true_and, and_true, false_and, and_false, or_false, false_or, or_true, true_or, not_true_eq_false, not_false_eq_true] at *
  all_goals omega
set_option maxRecDepth 20000 in
theorem lf_n_readCond7_10 (rlength : Nat) (rplace : Nat) (rplaceG_7 : Nat) (k62 : Nat) (rplaceG_87 : Nat) (rplaceG_101 : Nat) (iv_rreader_0 : rlength ≤ 940) (iv_rreader_1 : rplace ≤ rlength) (p17 : rplaceG_7 ≤ rlength) (j73 : k62 ≤ 940) (j75 : k62 ≤ rlength) (p83 : True) (p93 : rplaceG_87 ≤ rlength) (p111 : rplaceG_101 ≤ rlength) : rplaceG_101 ≤ 940 := by
  try simp only [ia_lt, ia_le, ia_eq, ia_m1, ia_0, ia_1, ne_eq, true_and, and_true, false_and, and_false, or_false, false_or, or_true, true_or, not_true_eq_false, not_false_eq_true] at *
  all_goals omega
set_option maxRecDepth 20000 in
theorem lf_n_readCond7_11 (k57 : Nat) (n77 : Nat) (j70 : k57 ≤ 20) (hm79 : 20 - k57 < n77 + 1) (c80 : k57 < 20) (p83 : True) : 20 - (k57 + 1) < n77 := by
  try simp only [ia_lt, ia_le, ia_eq, ia_m1, ia_0, ia_1, ne_eq, true_and, and_true, false_and, and_false, or_false, false_or, or_true, true_or, not_true_eq_false, not_false_eq_true] at *
  all_goals omega
set_option maxRecDepth 20000 in
theorem lf_n_readCond7_12 (k57 : Nat) (n77 : Nat) (j70 : k57 ≤ 20) (hm79 : 20 - k57 < n77 + 1) (c80 : k57 < 20) (p83 : True) : (k57 + 1) ≤ 20 := by
  try simp only [ia_lt, ia_le, ia_eq, ia_m1, ia_0, ia_1, ne_eq, true_and, and_true, false_and, and_false, or_false, false_or, or_true, true_or, not_true_eq_false, not_false_eq_true] at *
  all_goals omega
set_option maxRecDepth 20000 in
theorem lf_n_readCond7_13  (p83 : True) : (nI 1) = nI 0 ∨ (nI 1) = nI 1 := by
  try have k_0 := ia_n 1 (by first | decide | omega)
  try have k_1 := ia_n 0 (by first | decide | omega)
  try simp only [ia_lt, ia_le, ia_eq, ia_m1, ia_0, ia_1, ne_eq, true_and, and_true, false_and, and_false, or_false, false_or, or_true, true_or, not_true_eq_false, not_false_eq_true] at *
  all_goals omega
set_option maxRecDepth 20000 in
theorem lf_n_readCond7_14 (rlength : Nat) (rplace : Nat) (rplaceG_7 : Nat) (k62 : Nat) (rplaceG_87 : Nat) (rplaceG_101 : Nat) (iv_rreader_0 : rlength ≤ 940) (iv_rreader_1 : rplace ≤ rlength) (p17 : rplaceG_7 ≤ rlength) (j73 : k62 ≤ 940) (j75 : k62 ≤ rlength) (p83 : True) (p93 : rplaceG_87 ≤ rlength) (p111 : rplaceG_101 ≤ rlength) : rplaceG_101 ≤ 940 := by
  try simp only [ia_lt, ia_le, ia_eq, ia_m1, ia_0, ia_1, ne_eq, true_and, and_true, false_and, and_false, or_false, false_or, or_true, true_or, not_true_eq_false, not_false_eq_true] at *
  all_goals omega
set_option maxRecDepth 20000 in
theorem lf_n_readCond7_15 (k57 : Nat) (n77 : Nat) (j70 : k57 ≤ 20) (hm79 : 20 - k57 < n77 + 1) (c80 : k57 < 20) (p83 : True) : 20 - (k57 + 1) < n77 := by
  try simp only [ia_lt, ia_le, ia_eq, ia_m1, ia_0, ia_1, ne_eq, true_and, and_true, false_and, and_false, or_false, false_or, or_true, true_or, not_true_eq_false, not_false_eq_true] at *
  all_goals omega
set_option maxRecDepth 20000 in
theorem lf_n_readCond7_16   : 0 ≤ 20 := by
  try simp only [ia_lt, ia_le, ia_eq, ia_m1, ia_0, ia_1, ne_eq, true_and, and_true, false_and, and_false, or_false, false_or, or_true, true_or, not_true_eq_false, not_false_eq_true] at *
  all_goals omega
set_option maxRecDepth 20000 in
theorem lf_n_readCond7_17 (rlength : Nat) (rplace : Nat) (rplaceG_7 : Nat) (iv_rreader_0 : rlength ≤ 940) (iv_rreader_1 : rplace ≤ rlength) (p17 : rplaceG_7 ≤ rlength) : rplaceG_7 ≤ 940 := by
  try simp only [ia_lt, ia_le, ia_eq, ia_m1, ia_0, ia_1, ne_eq, true_and, and_true, false_and, and_false, or_false, false_or, or_true, true_or, not_true_eq_false, not_false_eq_true] at *
  all_goals omega
set_option maxHeartbeats 4000000 in
set_option maxRecDepth 100000 in
theorem c_n_readCond7 (l : Launch) (dC : Nat → ClassId) (dI : Nat → Nat → Nat) (ky : Nat → ClassId) (sz : Nat) (adK : Nat → Nat) (adV : Nat → Nat) (se : Nat) (ccodes : Nat) (ccodeCount : Nat) (cones : Int32) (ccodesF : Nat → Int32) (reader : Nat) (rtape : Nat) (rlength : Nat) (rmostBytes : Nat) (rplace : Nat) (rkind : Int32) (rbegin : Nat) (rword : Int32) (rnumber : Int32) (rletters : Int64) (rfaultKind : Int32) (rfaultPlace : Int32) (rtapeF : Nat → Int32) (a : Nat) (wide : Nat) (high : Nat) (heat : Int32) (cools : Int32) (skinHeat : Int32) (today : Int32) (stirs : Int32) (steps : Int32) (lumps : Nat) (boats : Nat) (thickness : Nat) (lumpNames : Nat) (lumpCells : Nat) (boatNames : Nat) (boatCells : Nat) (loads : Nat) (spoons : Nat) (spoonsLeft : Nat) (depths : Nat) (lumpNamesF : Nat → Int64) (iv_cse_0 : ccodeCount ≤ 40) (iv_rreader_0 : rlength ≤ 940) (iv_rreader_1 : rplace ≤ rlength) (iv_rreader_2 : rmostBytes ≤ 900) (iv_rreader_3 : rbegin ≤ 940) (iv_a_0 : 2 ≤ wide) (iv_a_1 : wide ≤ 6) (iv_a_2 : 2 ≤ high) (iv_a_3 : high ≤ 6) (iv_a_4 : lumps ≤ 6) (iv_a_5 : boats ≤ 6) : Met l yX9_readCond wsX9_readCond ({ frames := 13, cells := 0, slots := 0, locals := 306 }) (PcUE dC dI ky adK adV [.ref se, .ref reader, .ref a, .int (nI 7)] [(se, .inr (9, [.ref ccodes, .int (nI ccodeCount), .int cones])), (ccodes, .inl (ky 0, 40, .inl ccodesF)), (reader, .inr (5, [.ref rtape, .int (nI rlength), .int (nI rmostBytes), .int (nI rplace), .int rkind, .int (nI rbegin), .int rword, .int rnumber, .long rletters, .int rfaultKind, .int rfaultPlace])), (rtape, .inl (ky 2, 940, .inl rtapeF)), (a, .inr (7, [.int (nI wide), .int (nI high), .int heat, .int cools, .int skinHeat, .int today, .int stirs, .int steps, .int (nI lumps), .int (nI boats), .ref thickness, .ref lumpNames, .ref lumpCells, .ref boatNames, .ref boatCells, .ref loads, .ref spoons, .ref spoonsLeft, .ref depths])), (lumpNames, .inl (ky 1, 6, .inr (.inl lumpNamesF)))] sz) (va_Qi (fun (r : Int32) (u : Nat × Int32 × (Nat → Int32) × Nat × Int32 × Nat × Int32 × Int32 × Int64 × Int32 × Int32) => match u with | (ccodeCountG, conesG, ccodesG, rplaceG, rkindG, rbeginG, rwordG, rnumberG, rlettersG, rfaultKindG, rfaultPlaceG) => (r = nI 0 ∨ r = nI 1) ∧ (ccodeCountG ≤ 40) ∧ (rplaceG ≤ rlength) ∧ (rbeginG ≤ 940)) (BU dC dI ky (fun (u : Nat × Int32 × (Nat → Int32) × Nat × Int32 × Nat × Int32 × Int32 × Int64 × Int32 × Int32) => match u with | (ccodeCountG, conesG, ccodesG, rplaceG, rkindG, rbeginG, rwordG, rnumberG, rlettersG, rfaultKindG, rfaultPlaceG) => [(se, .inr (9, [.ref ccodes, .int (nI ccodeCountG), .int conesG])), (ccodes, .inl (ky 0, 40, .inl ccodesG)), (reader, .inr (5, [.ref rtape, .int (nI rlength), .int (nI rmostBytes), .int (nI rplaceG), .int rkindG, .int (nI rbeginG), .int rwordG, .int rnumberG, .long rlettersG, .int rfaultKindG, .int rfaultPlaceG])), (rtape, .inl (ky 2, 940, .inl rtapeF)), (a, .inr (7, [.int (nI wide), .int (nI high), .int heat, .int cools, .int skinHeat, .int today, .int stirs, .int steps, .int (nI lumps), .int (nI boats), .ref thickness, .ref lumpNames, .ref lumpCells, .ref boatNames, .ref boatCells, .ref loads, .ref spoons, .ref spoonsLeft, .ref depths])), (lumpNames, .inl (ky 1, 6, .inr (.inl lumpNamesF)))]) (va_A [(se, .inr (9, [.ref ccodes, .int (nI ccodeCount), .int cones])), (ccodes, .inl (ky 0, 40, .inl ccodesF)), (reader, .inr (5, [.ref rtape, .int (nI rlength), .int (nI rmostBytes), .int (nI rplace), .int rkind, .int (nI rbegin), .int rword, .int rnumber, .long rletters, .int rfaultKind, .int rfaultPlace])), (rtape, .inl (ky 2, 940, .inl rtapeF)), (a, .inr (7, [.int (nI wide), .int (nI high), .int heat, .int cools, .int skinHeat, .int today, .int stirs, .int steps, .int (nI lumps), .int (nI boats), .ref thickness, .ref lumpNames, .ref lumpCells, .ref boatNames, .ref boatCells, .ref loads, .ref spoons, .ref spoonsLeft, .ref depths])), (lumpNames, .inl (ky 1, 6, .inr (.inl lumpNamesF)))] sz)) (va_A [(se, .inr (9, [.ref ccodes, .int (nI ccodeCount), .int cones])), (ccodes, .inl (ky 0, 40, .inl ccodesF)), (reader, .inr (5, [.ref rtape, .int (nI rlength), .int (nI rmostBytes), .int (nI rplace), .int rkind, .int (nI rbegin), .int rword, .int rnumber, .long rletters, .int rfaultKind, .int rfaultPlace])), (rtape, .inl (ky 2, 940, .inl rtapeF)), (a, .inr (7, [.int (nI wide), .int (nI high), .int heat, .int cools, .int skinHeat, .int today, .int stirs, .int steps, .int (nI lumps), .int (nI boats), .ref thickness, .ref lumpNames, .ref lumpCells, .ref boatNames, .ref boatCells, .ref loads, .ref spoons, .ref spoonsLeft, .ref depths])), (lumpNames, .inl (ky 1, 6, .inr (.inl lumpNamesF)))] sz)) 0 0 (va_A [(se, .inr (9, [.ref ccodes, .int (nI ccodeCount), .int cones])), (ccodes, .inl (ky 0, 40, .inl ccodesF)), (reader, .inr (5, [.ref rtape, .int (nI rlength), .int (nI rmostBytes), .int (nI rplace), .int rkind, .int (nI rbegin), .int rword, .int rnumber, .long rletters, .int rfaultKind, .int rfaultPlace])), (rtape, .inl (ky 2, 940, .inl rtapeF)), (a, .inr (7, [.int (nI wide), .int (nI high), .int heat, .int cools, .int skinHeat, .int today, .int stirs, .int steps, .int (nI lumps), .int (nI boats), .ref thickness, .ref lumpNames, .ref lumpCells, .ref boatNames, .ref boatCells, .ref loads, .ref spoons, .ref spoonsLeft, .ref depths])), (lumpNames, .inl (ky 1, 6, .inr (.inl lumpNamesF)))] sz) := by
  refine Met.ofW (cc := cX9_readCond) (maxL := 6) (ret := (some .boolean)) (by decide) rfl ?_
  intro p e s m args below meth c s₁ B hml hv
  obtain ⟨rfl, hsz, hP, hK, hD0, hE⟩ := hv
  have hx := B.exec
  have hb := B.bytes
  have hr := B.returns
  have hts := atoms_spec (ws := wsX9_readCond) B.pre
  have hown : s.vm.findClass RX9 = some m.cls := findClass_of_methodNamed B.named
  have hlocks := B.notSynchronized
  subst hsz
  have hD := hD0.self (sz := s.heap.size)
  generalize hAe : va_A [(se, .inr (9, [.ref ccodes, .int (nI ccodeCount), .int cones])), (ccodes, .inl (ky 0, 40, .inl ccodesF)), (reader, .inr (5, [.ref rtape, .int (nI rlength), .int (nI rmostBytes), .int (nI rplace), .int rkind, .int (nI rbegin), .int rword, .int rnumber, .long rletters, .int rfaultKind, .int rfaultPlace])), (rtape, .inl (ky 2, 940, .inl rtapeF)), (a, .inr (7, [.int (nI wide), .int (nI high), .int heat, .int cools, .int skinHeat, .int today, .int stirs, .int steps, .int (nI lumps), .int (nI boats), .ref thickness, .ref lumpNames, .ref lumpCells, .ref boatNames, .ref boatCells, .ref loads, .ref spoons, .ref spoonsLeft, .ref depths])), (lumpNames, .inl (ky 1, 6, .inr (.inl lumpNamesF)))] s.heap.size = A at hD hE ⊢
  have hA : ∀ q : Nat, s.heap.size ≤ q → A q := fun q h => by rw [← hAe]; exact Or.inr h
  have hS : va_S A s.heap s.heap [] := va_S.rf
  have hl := lv_entry ([.ref se, .ref reader, .ref a, .int (nI 7)]) (n := 6) (Nat.le_of_ble_eq_true rfl)
  rw [lg_entry_eq]
  generalize (lg_sl ([.ref se, .ref reader, .ref a, .int (nI 7)]) ++ List.replicate (6 - (lg_sl ([.ref se, .ref reader, .ref a, .int (nI 7)])).length) Slot.unset).toArray = ls at hl ⊢
  have hl : lv_has ls 6 [(0, .ref se), (1, .ref reader), (2, .ref a), (3, .int (nI 7))] := hl
  refine q_name (fun Q hQ => ?_)
  generalize ([.ref se, .ref reader, .ref a, .int (nI 7)] : List Value).toArray = args at hts hQ ⊢
  refine lv_aload_n hx hb dX9_readCond_0 rfl (lv_at hl 0 rfl) ?_
  refine lv_aload_n hx hb dX9_readCond_1 rfl (lv_at hl 1 rfl) ?_
  refine lv_aload_n hx hb dX9_readCond_2 rfl (lv_at hl 2 rfl) ?_
  refine lv_iload_n hx hb dX9_readCond_3 rfl (lv_at hl 3 rfl) ?_
  refine r_call_i (wr := []) (va_runV (As := [.ref reader, .ref a, .int (nI 7)]) (rest := []) ⟨hx, hb, hml, hown, hts⟩ (c_n_readAll7 l dC dI ky s.heap.size adK adV se ccodes ccodeCount cones ccodesF reader rtape rlength rmostBytes rplace rkind rbegin rword rnumber rletters rfaultKind rfaultPlace rtapeF a wide high heat cools skinHeat today stirs steps lumps boats thickness lumpNames lumpCells boatNames boatCells loads spoons spoonsLeft depths lumpNamesF iv_cse_0 iv_rreader_0 iv_rreader_1 iv_rreader_2 iv_rreader_3 iv_a_0 iv_a_1 iv_a_2 iv_a_3 iv_a_4 iv_a_5) (cwV 3 hts gX9_readCond_X9_readAll rfl rfl rfl (by decide +kernel) ⟨(Nat.le_of_ble_eq_true rfl), (Nat.le_of_ble_eq_true rfl)⟩) (pre_UEV hE hS hA hK hP hD [0, 1, 2, 3, 4, 5] (by decide) rfl (va_recv hK hP (ci := 9) (q0 := 0) rfl rfl)) rfl rfl hl.1 rfl (lv_room (Nat.le_of_ble_eq_true rfl)) dX9_readCond_4 ⟨(Nat.le_of_ble_eq_true rfl), (Nat.le_of_ble_eq_true rfl)⟩) hP hD hS hA [0, 1, 2, 3, 4, 5] [] rfl rfl (by decide) (by decide) (fun r3 u1 H locs p2 hP hD hS => ?_)
  obtain ⟨ccodeCountG_4, conesG_5, ccodesG_6, rplaceG_7, rkindG_8, rbeginG_9, rwordG_10, rnumberG_11, rlettersG_12, rfaultKindG_13, rfaultPlaceG_14⟩ := u1
  try dsimp only at p2
  obtain ⟨p15, p16, p17, p18⟩ := p2
  refine W.widen (k := 0) (n := 0) (Nat.le_of_ble_eq_true rfl) (Nat.le_of_ble_eq_true rfl) ?_
  have hP : va_P (dC, dI) vwCl [(se, .inr (9, [.ref ccodes, .int (nI ccodeCountG_4), .int conesG_5])), (ccodes, .inl (ky 0, 40, .inl ccodesG_6)), (reader, .inr (5, [.ref rtape, .int (nI rlength), .int (nI rmostBytes), .int (nI rplaceG_7), .int rkindG_8, .int (nI rbeginG_9), .int rwordG_10, .int rnumberG_11, .long rlettersG_12, .int rfaultKindG_13, .int rfaultPlaceG_14])), (rtape, .inl (ky 2, 940, .inl rtapeF)), (a, .inr (7, [.int (nI wide), .int (nI high), .int heat, .int cools, .int skinHeat, .int today, .int stirs, .int steps, .int (nI lumps), .int (nI boats), .ref thickness, .ref lumpNames, .ref lumpCells, .ref boatNames, .ref boatCells, .ref loads, .ref spoons, .ref spoonsLeft, .ref depths])), (lumpNames, .inl (ky 1, 6, .inr (.inl lumpNamesF)))] H := hP
  have hD : va_D A [(se, .inr (9, [.ref ccodes, .int (nI ccodeCountG_4), .int conesG_5])), (ccodes, .inl (ky 0, 40, .inl ccodesG_6)), (reader, .inr (5, [.ref rtape, .int (nI rlength), .int (nI rmostBytes), .int (nI rplaceG_7), .int rkindG_8, .int (nI rbeginG_9), .int rwordG_10, .int rnumberG_11, .long rlettersG_12, .int rfaultKindG_13, .int rfaultPlaceG_14])), (rtape, .inl (ky 2, 940, .inl rtapeF)), (a, .inr (7, [.int (nI wide), .int (nI high), .int heat, .int cools, .int skinHeat, .int today, .int stirs, .int steps, .int (nI lumps), .int (nI boats), .ref thickness, .ref lumpNames, .ref lumpCells, .ref boatNames, .ref boatCells, .ref loads, .ref spoons, .ref spoonsLeft, .ref depths])), (lumpNames, .inl (ky 1, 6, .inr (.inl lumpNamesF)))] := hD
  refine lv_istore (lv' := [(4, .int r3), (0, .ref se), (1, .ref reader), (2, .ref a), (3, .int (nI 7))]) hx hb dX9_readCond_7 hl (by decide) rfl (fun ls hl => ?_)
  refine lv_iconst (v := nI 0) hx hb dX9_readCond_9 (by decide) ?_
  refine lv_istore (lv' := [(5, .int (nI 0)), (4, .int r3), (0, .ref se), (1, .ref reader), (2, .ref a), (3, .int (nI 7))]) hx hb dX9_readCond_10 hl (by decide) rfl (fun ls hl => ?_)
  have hL76 : ∀ (n77 : Nat) (k57 : Nat) (x58 : Int32) (k59 : Nat) (x60 : Int32) (f61 : Nat → Int32) (k62 : Nat) (x63 : Int32) (k64 : Nat) (x65 : Int32) (x66 : Int32) (w67 : Int64) (x68 : Int32) (x69 : Int32), (k57 ≤ 20) → (x58 = nI 0 ∨ x58 = nI 1) → (k59 ≤ 40) → (k62 ≤ 940) → (k64 ≤ 940) → (k62 ≤ rlength) → 20 - k57 < n77 → ∀ (H : Heap) (locs : List Loc) (ls : Array Slot), va_P (dC, dI) vwCl [(se, .inr (9, [.ref ccodes, .int (nI k59), .int x60])), (ccodes, .inl (ky 0, 40, .inl f61)), (reader, .inr (5, [.ref rtape, .int (nI rlength), .int (nI rmostBytes), .int (nI k62), .int x63, .int (nI k64), .int x65, .int x66, .long w67, .int x68, .int x69])), (rtape, .inl (ky 2, 940, .inl rtapeF)), (a, .inr (7, [.int (nI wide), .int (nI high), .int heat, .int cools, .int skinHeat, .int today, .int stirs, .int steps, .int (nI lumps), .int (nI boats), .ref thickness, .ref lumpNames, .ref lumpCells, .ref boatNames, .ref boatCells, .ref loads, .ref spoons, .ref spoonsLeft, .ref depths])), (lumpNames, .inl (ky 1, 6, .inr (.inl lumpNamesF)))] H → va_D A [(se, .inr (9, [.ref ccodes, .int (nI k59), .int x60])), (ccodes, .inl (ky 0, 40, .inl f61)), (reader, .inr (5, [.ref rtape, .int (nI rlength), .int (nI rmostBytes), .int (nI k62), .int x63, .int (nI k64), .int x65, .int x66, .long w67, .int x68, .int x69])), (rtape, .inl (ky 2, 940, .inl rtapeF)), (a, .inr (7, [.int (nI wide), .int (nI high), .int heat, .int cools, .int skinHeat, .int today, .int stirs, .int steps, .int (nI lumps), .int (nI boats), .ref thickness, .ref lumpNames, .ref lumpCells, .ref boatNames, .ref boatCells, .ref loads, .ref spoons, .ref spoonsLeft, .ref depths])), (lumpNames, .inl (ky 1, 6, .inr (.inl lumpNamesF)))] → va_S A s.heap H locs → lv_has ls 6 [(5, .int (nI k57)), (4, .int x58), (0, .ref se), (1, .ref reader), (2, .ref a), (3, .int (nI 7))] → W p l e (headSpec wsX9_readCond ({ frames := 13, cells := 0, slots := 0, locals := 306 })).room s m args below meth c H locs 0 0 Q (F0 m 12 ls []) := by
    intro n77
    induction n77 with
    | zero => intro k57 x58 k59 x60 f61 k62 x63 k64 x65 x66 w67 x68 x69 _ _ _ _ _ _ h9; exact absurd h9 (Nat.not_lt_zero _)
    | succ n77 ih78 =>
      intro k57 x58 k59 x60 f61 k62 x63 k64 x65 x66 w67 x68 x69 j70 j71 j72 j73 j74 j75 hm79 H locs ls hP hD hS hl
      refine lv_iload hx hb dX9_readCond_12 (lv_at hl 0 rfl) ?_
      refine lv_bipush (v := nI 20) hx hb dX9_readCond_14 (by decide) ?_
      refine n_icmp_ge (x := k57) (y := 20) (tgt := 69) hx hb (by omega) (by omega) dX9_readCond_16 (by decide) (fun c80 => ?_) (fun c80 => ?_)
      · refine lv_iload hx hb dX9_readCond_69 (lv_at hl 1 rfl) ?_
        rw [hQ]
        exact W.zret (v := x58) hx hb hr ((lf_n_readCond7_1 x58 j71)) (fun t9 ht9 hW9 => ⟨⟨x58, (k59, x60, f61, k62, x63, k64, x65, x66, w67, x68, x69), rfl, ⟨j71, j72, j75, j74⟩, by rw [ht9]; exact hP, va_K.moved hW9.alike hK, hD⟩, hS.F ht9⟩) hS.2.2 dX9_readCond_71
      · refine lv_iload hx hb dX9_readCond_19 (lv_at hl 1 rfl) ?_
        refine lv_if_eq (tgt := 69) hx hb dX9_readCond_21 (by decide) (fun c81 => ?_) (fun c81 => ?_)
        · refine lv_iload hx hb dX9_readCond_69 (lv_at hl 1 rfl) ?_
          rw [hQ]
          exact W.zret (v := x58) hx hb hr ((lf_n_readCond7_2 x58 j71 c81)) (fun t9 ht9 hW9 => ⟨⟨x58, (k59, x60, f61, k62, x63, k64, x65, x66, w67, x68, x69), rfl, ⟨j71, j72, j75, j74⟩, by rw [ht9]; exact hP, va_K.moved hW9.alike hK, hD⟩, hS.F ht9⟩) hS.2.2 dX9_readCond_71
        · refine lv_aload_n hx hb dX9_readCond_24 rfl (lv_at hl 3 rfl) ?_
          refine vp_callSi (W.runV (As := []) (rest := []) ⟨hx, hb, hml, hown, hts⟩ (c_r_nextWord l dC dI ky reader rtape rlength rmostBytes k62 x63 k64 x65 x66 w67 x68 x69 iv_rreader_0 j75 iv_rreader_2 j74) (cwV 0 hts gX9_readCond_X5_nextWord rfl rfl rfl (by decide +kernel) ⟨(Nat.le_of_ble_eq_true rfl), (Nat.le_of_ble_eq_true rfl)⟩) (pre_PV hK hP [2] rfl (ci := 5) (q0 := 2) rfl rfl) rfl rfl hl.1 rfl (lv_room (Nat.le_of_ble_eq_true rfl)) dX9_readCond_25 ⟨(Nat.le_of_ble_eq_true rfl), (Nat.le_of_ble_eq_true rfl)⟩) (fun r82 p83 => ?_)
          refine lv_bipush (v := nI 20) hx hb dX9_readCond_28 (by decide) ?_
          refine lv_icmp_ne (tgt := 69) hx hb dX9_readCond_30 (by decide) (fun c84 => ?_) (fun c84 => ?_)
          · refine lv_iload hx hb dX9_readCond_69 (lv_at hl 1 rfl) ?_
            rw [hQ]
            exact W.zret (v := x58) hx hb hr ((lf_n_readCond7_3 x58 j71 c81 p83)) (fun t9 ht9 hW9 => ⟨⟨x58, (k59, x60, f61, k62, x63, k64, x65, x66, w67, x68, x69), rfl, ⟨j71, j72, j75, j74⟩, by rw [ht9]; exact hP, va_K.moved hW9.alike hK, hD⟩, hS.F ht9⟩) hS.2.2 dX9_readCond_71
          · refine lv_aload_n hx hb dX9_readCond_33 rfl (lv_at hl 3 rfl) ?_
            refine r_call_v (wr := [(se, .inr (9, [.ref ccodes, .int (nI k59), .int x60])), (ccodes, .inl (ky 0, 40, .inl f61)), (a, .inr (7, [.int (nI wide), .int (nI high), .int heat, .int cools, .int skinHeat, .int today, .int stirs, .int steps, .int (nI lumps), .int (nI boats), .ref thickness, .ref lumpNames, .ref lumpCells, .ref boatNames, .ref boatCells, .ref loads, .ref spoons, .ref spoonsLeft, .ref depths])), (lumpNames, .inl (ky 1, 6, .inr (.inl lumpNamesF)))]) (va_runV (As := []) (rest := []) ⟨hx, hb, hml, hown, hts⟩ (c_r_advance l dC dI ky H.size adK adV reader rtape rlength rmostBytes k62 x63 k64 x65 x66 w67 x68 x69 rtapeF iv_rreader_0 j75 iv_rreader_2 j74) (cwV 0 hts gX9_readCond_X5_advance rfl rfl rfl (by decide +kernel) ⟨(Nat.le_of_ble_eq_true rfl), (Nat.le_of_ble_eq_true rfl)⟩) (pre_UEV hE hS hA hK hP hD [2, 3] (by decide) rfl (va_recv hK hP (ci := 5) (q0 := 2) rfl rfl)) rfl rfl hl.1 rfl (lv_room (Nat.le_of_ble_eq_true rfl)) dX9_readCond_34 ⟨(Nat.le_of_ble_eq_true rfl), (Nat.le_of_ble_eq_true rfl)⟩) hP hD hS hA [2, 3] [0, 1, 4, 5] rfl rfl (by decide) (by decide) (fun  u85 H locs p86 hP hD hS => ?_)
            obtain ⟨rplaceG_87, rkindG_88, rbeginG_89, rwordG_90, rnumberG_91, rlettersG_92⟩ := u85
            try dsimp only at p86
            obtain ⟨p93, p94⟩ := p86
            refine W.widen (k := 0) (n := 0) (Nat.le_of_ble_eq_true rfl) (Nat.le_of_ble_eq_true rfl) ?_
            have hP : va_P (dC, dI) vwCl [(se, .inr (9, [.ref ccodes, .int (nI k59), .int x60])), (ccodes, .inl (ky 0, 40, .inl f61)), (a, .inr (7, [.int (nI wide), .int (nI high), .int heat, .int cools, .int skinHeat, .int today, .int stirs, .int steps, .int (nI lumps), .int (nI boats), .ref thickness, .ref lumpNames, .ref lumpCells, .ref boatNames, .ref boatCells, .ref loads, .ref spoons, .ref spoonsLeft, .ref depths])), (lumpNames, .inl (ky 1, 6, .inr (.inl lumpNamesF))), (reader, .inr (5, [.ref rtape, .int (nI rlength), .int (nI rmostBytes), .int (nI rplaceG_87), .int rkindG_88, .int (nI rbeginG_89), .int rwordG_90, .int rnumberG_91, .long rlettersG_92, .int x68, .int x69])), (rtape, .inl (ky 2, 940, .inl rtapeF))] H := hP
            have hD : va_D A [(se, .inr (9, [.ref ccodes, .int (nI k59), .int x60])), (ccodes, .inl (ky 0, 40, .inl f61)), (a, .inr (7, [.int (nI wide), .int (nI high), .int heat, .int cools, .int skinHeat, .int today, .int stirs, .int steps, .int (nI lumps), .int (nI boats), .ref thickness, .ref lumpNames, .ref lumpCells, .ref boatNames, .ref boatCells, .ref loads, .ref spoons, .ref spoonsLeft, .ref depths])), (lumpNames, .inl (ky 1, 6, .inr (.inl lumpNamesF))), (reader, .inr (5, [.ref rtape, .int (nI rlength), .int (nI rmostBytes), .int (nI rplaceG_87), .int rkindG_88, .int (nI rbeginG_89), .int rwordG_90, .int rnumberG_91, .long rlettersG_92, .int x68, .int x69])), (rtape, .inl (ky 2, 940, .inl rtapeF))] := hD
            refine lv_aload_n hx hb dX9_readCond_37 rfl (lv_at hl 2 rfl) ?_
            refine lv_aload_n hx hb dX9_readCond_38 rfl (lv_at hl 3 rfl) ?_
            refine lv_aload_n hx hb dX9_readCond_39 rfl (lv_at hl 4 rfl) ?_
            refine lv_iload_n hx hb dX9_readCond_40 rfl (lv_at hl 5 rfl) ?_
            refine r_call_i (wr := []) (va_runV (As := [.ref reader, .ref a, .int (nI 7)]) (rest := []) ⟨hx, hb, hml, hown, hts⟩ (c_n_readAll7 l dC dI ky H.size adK adV se ccodes k59 x60 f61 reader rtape rlength rmostBytes rplaceG_87 rkindG_88 rbeginG_89 rwordG_90 rnumberG_91 rlettersG_92 x68 x69 rtapeF a wide high heat cools skinHeat today stirs steps lumps boats thickness lumpNames lumpCells boatNames boatCells loads spoons spoonsLeft depths lumpNamesF j72 iv_rreader_0 p93 iv_rreader_2 p94 iv_a_0 iv_a_1 iv_a_2 iv_a_3 iv_a_4 iv_a_5) (cwV 3 hts gX9_readCond_X9_readAll rfl rfl rfl (by decide +kernel) ⟨(Nat.le_of_ble_eq_true rfl), (Nat.le_of_ble_eq_true rfl)⟩) (pre_UEV hE hS hA hK hP hD [0, 1, 4, 5, 2, 3] (by decide) rfl (va_recv hK hP (ci := 9) (q0 := 0) rfl rfl)) rfl rfl hl.1 rfl (lv_room (Nat.le_of_ble_eq_true rfl)) dX9_readCond_41 ⟨(Nat.le_of_ble_eq_true rfl), (Nat.le_of_ble_eq_true rfl)⟩) hP hD hS hA [0, 1, 4, 5, 2, 3] [] rfl rfl (by decide) (by decide) (fun r97 u95 H locs p96 hP hD hS => ?_)
            obtain ⟨ccodeCountG_98, conesG_99, ccodesG_100, rplaceG_101, rkindG_102, rbeginG_103, rwordG_104, rnumberG_105, rlettersG_106, rfaultKindG_107, rfaultPlaceG_108⟩ := u95
            try dsimp only at p96
            obtain ⟨p109, p110, p111, p112⟩ := p96
            refine W.widen (k := 0) (n := 0) (Nat.le_of_ble_eq_true rfl) (Nat.le_of_ble_eq_true rfl) ?_
            have hP : va_P (dC, dI) vwCl [(se, .inr (9, [.ref ccodes, .int (nI ccodeCountG_98), .int conesG_99])), (ccodes, .inl (ky 0, 40, .inl ccodesG_100)), (reader, .inr (5, [.ref rtape, .int (nI rlength), .int (nI rmostBytes), .int (nI rplaceG_101), .int rkindG_102, .int (nI rbeginG_103), .int rwordG_104, .int rnumberG_105, .long rlettersG_106, .int rfaultKindG_107, .int rfaultPlaceG_108])), (rtape, .inl (ky 2, 940, .inl rtapeF)), (a, .inr (7, [.int (nI wide), .int (nI high), .int heat, .int cools, .int skinHeat, .int today, .int stirs, .int steps, .int (nI lumps), .int (nI boats), .ref thickness, .ref lumpNames, .ref lumpCells, .ref boatNames, .ref boatCells, .ref loads, .ref spoons, .ref spoonsLeft, .ref depths])), (lumpNames, .inl (ky 1, 6, .inr (.inl lumpNamesF)))] H := hP
            have hD : va_D A [(se, .inr (9, [.ref ccodes, .int (nI ccodeCountG_98), .int conesG_99])), (ccodes, .inl (ky 0, 40, .inl ccodesG_100)), (reader, .inr (5, [.ref rtape, .int (nI rlength), .int (nI rmostBytes), .int (nI rplaceG_101), .int rkindG_102, .int (nI rbeginG_103), .int rwordG_104, .int rnumberG_105, .long rlettersG_106, .int rfaultKindG_107, .int rfaultPlaceG_108])), (rtape, .inl (ky 2, 940, .inl rtapeF)), (a, .inr (7, [.int (nI wide), .int (nI high), .int heat, .int cools, .int skinHeat, .int today, .int stirs, .int steps, .int (nI lumps), .int (nI boats), .ref thickness, .ref lumpNames, .ref lumpCells, .ref boatNames, .ref boatCells, .ref loads, .ref spoons, .ref spoonsLeft, .ref depths])), (lumpNames, .inl (ky 1, 6, .inr (.inl lumpNamesF)))] := hD
            refine lv_if_eq (tgt := 60) hx hb dX9_readCond_44 (by decide) (fun c113 => ?_) (fun c113 => ?_)
            · refine lv_iconst (v := nI 0) hx hb dX9_readCond_60 (by decide) ?_
              refine lv_istore (lv' := [(4, .int (nI 0)), (5, .int (nI k57)), (0, .ref se), (1, .ref reader), (2, .ref a), (3, .int (nI 7))]) hx hb dX9_readCond_61 hl (by decide) rfl (fun ls hl => ?_)
              refine lv_iinc (v := nI (k57 + 1)) (lv' := [(5, .int (nI (k57 + 1))), (4, .int (nI 0)), (0, .ref se), (1, .ref reader), (2, .ref a), (3, .int (nI 7))]) hx hb dX9_readCond_63 hl (k := 1) rfl (show nI k57 + nI 1 = nI (k57 + 1) from nI_add _ _) (by decide) rfl (fun ls hl => ?_)
              refine lv_goto (tgt := 12) hx hb dX9_readCond_66 (by decide) ?_
              exact ih78 (k57 + 1) (nI 0) ccodeCountG_98 conesG_99 ccodesG_100 rplaceG_101 rkindG_102 rbeginG_103 rwordG_104 rnumberG_105 rlettersG_106 rfaultKindG_107 rfaultPlaceG_108 (lf_n_readCond7_4 k57 n77 j70 hm79 c80 p83) (lf_n_readCond7_5 p83) p110 (lf_n_readCond7_6 rlength rplace rplaceG_7 k62 rplaceG_87 rplaceG_101 iv_rreader_0 iv_rreader_1 p17 j73 j75 p83 p93 p111) p112 p111 (lf_n_readCond7_7 k57 n77 j70 hm79 c80 p83) _ _ _ hP hD hS (lv_sub hl [0, 1, 2, 3, 4, 5] rfl)
            · refine lv_aload_n hx hb dX9_readCond_47 rfl (lv_at hl 2 rfl) ?_
              refine lv_bipush (v := nI 20) hx hb dX9_readCond_48 (by decide) ?_
              refine r_call_i (wr := [(reader, .inr (5, [.ref rtape, .int (nI rlength), .int (nI rmostBytes), .int (nI rplaceG_101), .int rkindG_102, .int (nI rbeginG_103), .int rwordG_104, .int rnumberG_105, .long rlettersG_106, .int rfaultKindG_107, .int rfaultPlaceG_108])), (rtape, .inl (ky 2, 940, .inl rtapeF)), (a, .inr (7, [.int (nI wide), .int (nI high), .int heat, .int cools, .int skinHeat, .int today, .int stirs, .int steps, .int (nI lumps), .int (nI boats), .ref thickness, .ref lumpNames, .ref lumpCells, .ref boatNames, .ref boatCells, .ref loads, .ref spoons, .ref spoonsLeft, .ref depths])), (lumpNames, .inl (ky 1, 6, .inr (.inl lumpNamesF)))]) (va_runV (As := [.int (nI 20)]) (rest := []) ⟨hx, hb, hml, hown, hts⟩ (c_n_put l dC dI ky H.size se ccodes ccodeCountG_98 conesG_99 ccodesG_100 (nI 20) p110) (cwV 1 hts gX9_readCond_X9_put rfl rfl rfl (by decide +kernel) ⟨(Nat.le_of_ble_eq_true rfl), (Nat.le_of_ble_eq_true rfl)⟩) (pre_UV hK hP hD [0, 1] (by decide) rfl (ci := 9) (q0 := 0) rfl rfl) rfl rfl hl.1 rfl (lv_room (Nat.le_of_ble_eq_true rfl)) dX9_readCond_50 ⟨(Nat.le_of_ble_eq_true rfl), (Nat.le_of_ble_eq_true rfl)⟩) hP hD hS hA [0, 1] [2, 3, 4, 5] rfl rfl (by decide) (by decide) (fun r116 u114 H locs p115 hP hD hS => ?_)
              obtain ⟨ccodeCountG_117, ccodesG_118⟩ := u114
              try dsimp only at p115
              obtain ⟨p119, p120⟩ := p115
              refine W.widen (k := 0) (n := 0) (Nat.le_of_ble_eq_true rfl) (Nat.le_of_ble_eq_true rfl) ?_
              have hP : va_P (dC, dI) vwCl [(reader, .inr (5, [.ref rtape, .int (nI rlength), .int (nI rmostBytes), .int (nI rplaceG_101), .int rkindG_102, .int (nI rbeginG_103), .int rwordG_104, .int rnumberG_105, .long rlettersG_106, .int rfaultKindG_107, .int rfaultPlaceG_108])), (rtape, .inl (ky 2, 940, .inl rtapeF)), (a, .inr (7, [.int (nI wide), .int (nI high), .int heat, .int cools, .int skinHeat, .int today, .int stirs, .int steps, .int (nI lumps), .int (nI boats), .ref thickness, .ref lumpNames, .ref lumpCells, .ref boatNames, .ref boatCells, .ref loads, .ref spoons, .ref spoonsLeft, .ref depths])), (lumpNames, .inl (ky 1, 6, .inr (.inl lumpNamesF))), (se, .inr (9, [.ref ccodes, .int (nI ccodeCountG_117), .int conesG_99])), (ccodes, .inl (ky 0, 40, .inl ccodesG_118))] H := hP
              have hD : va_D A [(reader, .inr (5, [.ref rtape, .int (nI rlength), .int (nI rmostBytes), .int (nI rplaceG_101), .int rkindG_102, .int (nI rbeginG_103), .int rwordG_104, .int rnumberG_105, .long rlettersG_106, .int rfaultKindG_107, .int rfaultPlaceG_108])), (rtape, .inl (ky 2, 940, .inl rtapeF)), (a, .inr (7, [.int (nI wide), .int (nI high), .int heat, .int cools, .int skinHeat, .int today, .int stirs, .int steps, .int (nI lumps), .int (nI boats), .ref thickness, .ref lumpNames, .ref lumpCells, .ref boatNames, .ref boatCells, .ref loads, .ref spoons, .ref spoonsLeft, .ref depths])), (lumpNames, .inl (ky 1, 6, .inr (.inl lumpNamesF))), (se, .inr (9, [.ref ccodes, .int (nI ccodeCountG_117), .int conesG_99])), (ccodes, .inl (ky 0, 40, .inl ccodesG_118))] := hD
              refine lv_if_eq (tgt := 60) hx hb dX9_readCond_53 (by decide) (fun c121 => ?_) (fun c121 => ?_)
              · refine lv_iconst (v := nI 0) hx hb dX9_readCond_60 (by decide) ?_
                refine lv_istore (lv' := [(4, .int (nI 0)), (5, .int (nI k57)), (0, .ref se), (1, .ref reader), (2, .ref a), (3, .int (nI 7))]) hx hb dX9_readCond_61 hl (by decide) rfl (fun ls hl => ?_)
                refine lv_iinc (v := nI (k57 + 1)) (lv' := [(5, .int (nI (k57 + 1))), (4, .int (nI 0)), (0, .ref se), (1, .ref reader), (2, .ref a), (3, .int (nI 7))]) hx hb dX9_readCond_63 hl (k := 1) rfl (show nI k57 + nI 1 = nI (k57 + 1) from nI_add _ _) (by decide) rfl (fun ls hl => ?_)
                refine lv_goto (tgt := 12) hx hb dX9_readCond_66 (by decide) ?_
                exact ih78 (k57 + 1) (nI 0) ccodeCountG_117 conesG_99 ccodesG_118 rplaceG_101 rkindG_102 rbeginG_103 rwordG_104 rnumberG_105 rlettersG_106 rfaultKindG_107 rfaultPlaceG_108 (lf_n_readCond7_8 k57 n77 j70 hm79 c80 p83) (lf_n_readCond7_9 p83) p120 (lf_n_readCond7_10 rlength rplace rplaceG_7 k62 rplaceG_87 rplaceG_101 iv_rreader_0 iv_rreader_1 p17 j73 j75 p83 p93 p111) p112 p111 (lf_n_readCond7_11 k57 n77 j70 hm79 c80 p83) _ _ _ (hP.sub [4, 5, 0, 1, 2, 3] rfl) (hD.sub [4, 5, 0, 1, 2, 3] (by decide) rfl) hS (lv_sub hl [0, 1, 2, 3, 4, 5] rfl)
              · refine lv_iconst (v := nI 1) hx hb dX9_readCond_56 (by decide) ?_
                refine lv_goto (tgt := 61) hx hb dX9_readCond_57 (by decide) ?_
                refine lv_istore (lv' := [(4, .int (nI 1)), (5, .int (nI k57)), (0, .ref se), (1, .ref reader), (2, .ref a), (3, .int (nI 7))]) hx hb dX9_readCond_61 hl (by decide) rfl (fun ls hl => ?_)
                refine lv_iinc (v := nI (k57 + 1)) (lv' := [(5, .int (nI (k57 + 1))), (4, .int (nI 1)), (0, .ref se), (1, .ref reader), (2, .ref a), (3, .int (nI 7))]) hx hb dX9_readCond_63 hl (k := 1) rfl (show nI k57 + nI 1 = nI (k57 + 1) from nI_add _ _) (by decide) rfl (fun ls hl => ?_)
                refine lv_goto (tgt := 12) hx hb dX9_readCond_66 (by decide) ?_
                exact ih78 (k57 + 1) (nI 1) ccodeCountG_117 conesG_99 ccodesG_118 rplaceG_101 rkindG_102 rbeginG_103 rwordG_104 rnumberG_105 rlettersG_106 rfaultKindG_107 rfaultPlaceG_108 (lf_n_readCond7_12 k57 n77 j70 hm79 c80 p83) (lf_n_readCond7_13 p83) p120 (lf_n_readCond7_14 rlength rplace rplaceG_7 k62 rplaceG_87 rplaceG_101 iv_rreader_0 iv_rreader_1 p17 j73 j75 p83 p93 p111) p112 p111 (lf_n_readCond7_15 k57 n77 j70 hm79 c80 p83) _ _ _ (hP.sub [4, 5, 0, 1, 2, 3] rfl) (hD.sub [4, 5, 0, 1, 2, 3] (by decide) rfl) hS (lv_sub hl [0, 1, 2, 3, 4, 5] rfl)
  exact hL76 ((20 - 0) + 1) 0 r3 ccodeCountG_4 conesG_5 ccodesG_6 rplaceG_7 rkindG_8 rbeginG_9 rwordG_10 rnumberG_11 rlettersG_12 rfaultKindG_13 rfaultPlaceG_14 (lf_n_readCond7_16) p15 p16 (lf_n_readCond7_17 rlength rplace rplaceG_7 iv_rreader_0 iv_rreader_1 p17) p18 p17 (Nat.lt_succ_self _) _ _ _ hP hD hS (lv_sub hl [0, 1, 2, 3, 4, 5] rfl)
