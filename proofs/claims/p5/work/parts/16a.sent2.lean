theorem dX9_readOne_0 : decode cX9_readOne 0 = .ok (.aload_n 1, 1) := by decide +kernel
theorem dX9_readOne_1 : decode cX9_readOne 1 = .ok (.invokevirtual 47, 3) := by decide +kernel
theorem dX9_readOne_4 : decode cX9_readOne 4 = .ok (.istore 4, 2) := by decide +kernel
theorem dX9_readOne_6 : decode cX9_readOne 6 = .ok (.aload_n 1, 1) := by decide +kernel
theorem dX9_readOne_7 : decode cX9_readOne 7 = .ok (.getfield 35, 3) := by decide +kernel
theorem dX9_readOne_10 : decode cX9_readOne 10 = .ok (.bipush 40, 2) := by decide +kernel
theorem dX9_readOne_12 : decode cX9_readOne 12 = .ok (.if_icmp .ne 7, 3) := by decide +kernel
theorem dX9_readOne_19 : decode cX9_readOne 19 = .ok (.iconst 0, 1) := by decide +kernel
theorem dX9_readOne_15 : decode cX9_readOne 15 = .ok (.iconst 1, 1) := by decide +kernel
theorem dX9_readOne_16 : decode cX9_readOne 16 = .ok (.goto 4, 3) := by decide +kernel
theorem dX9_readOne_20 : decode cX9_readOne 20 = .ok (.istore 5, 2) := by decide +kernel
theorem dX9_readOne_22 : decode cX9_readOne 22 = .ok (.iload 5, 2) := by decide +kernel
theorem dX9_readOne_24 : decode cX9_readOne 24 = .ok (.ifCond .ne 23, 3) := by decide +kernel
theorem dX9_readOne_47 : decode cX9_readOne 47 = .ok (.aload_n 0, 1) := by decide +kernel
theorem dX9_readOne_48 : decode cX9_readOne 48 = .ok (.getfield 19, 3) := by decide +kernel
theorem dX9_readOne_51 : decode cX9_readOne 51 = .ok (.bipush 20, 2) := by decide +kernel
theorem dX9_readOne_53 : decode cX9_readOne 53 = .ok (.if_icmp .ge 9, 3) := by decide +kernel
theorem dX9_readOne_62 : decode cX9_readOne 62 = .ok (.aload_n 1, 1) := by decide +kernel
theorem dX9_readOne_63 : decode cX9_readOne 63 = .ok (.iconst 4, 1) := by decide +kernel
theorem dX9_readOne_64 : decode cX9_readOne 64 = .ok (.invokevirtual 40, 3) := by decide +kernel
theorem dX9_readOne_67 : decode cX9_readOne 67 = .ok (.ireturn, 1) := by decide +kernel
theorem dX9_readOne_56 : decode cX9_readOne 56 = .ok (.iload_n 3, 1) := by decide +kernel
theorem dX9_readOne_57 : decode cX9_readOne 57 = .ok (.bipush 8, 2) := by decide +kernel
theorem dX9_readOne_59 : decode cX9_readOne 59 = .ok (.if_icmp .le 9, 3) := by decide +kernel
theorem dX9_readOne_27 : decode cX9_readOne 27 = .ok (.iload 4, 2) := by decide +kernel
theorem dX9_readOne_29 : decode cX9_readOne 29 = .ok (.bipush 22, 2) := by decide +kernel
theorem dX9_readOne_31 : decode cX9_readOne 31 = .ok (.if_icmp .lt 10, 3) := by decide +kernel
theorem dX9_readOne_41 : decode cX9_readOne 41 = .ok (.aload_n 1, 1) := by decide +kernel
theorem dX9_readOne_42 : decode cX9_readOne 42 = .ok (.iconst 1, 1) := by decide +kernel
theorem dX9_readOne_43 : decode cX9_readOne 43 = .ok (.invokevirtual 40, 3) := by decide +kernel
theorem dX9_readOne_46 : decode cX9_readOne 46 = .ok (.ireturn, 1) := by decide +kernel
theorem dX9_readOne_34 : decode cX9_readOne 34 = .ok (.iload 4, 2) := by decide +kernel
theorem dX9_readOne_36 : decode cX9_readOne 36 = .ok (.bipush 30, 2) := by decide +kernel
theorem dX9_readOne_38 : decode cX9_readOne 38 = .ok (.if_icmp .le 9, 3) := by decide +kernel
theorem dX9_readAll_0 : decode cX9_readAll 0 = .ok (.aload_n 0, 1) := by decide +kernel
theorem dX9_readAll_1 : decode cX9_readAll 1 = .ok (.aload_n 1, 1) := by decide +kernel
theorem dX9_readAll_2 : decode cX9_readAll 2 = .ok (.aload_n 2, 1) := by decide +kernel
theorem dX9_readAll_3 : decode cX9_readAll 3 = .ok (.iload_n 3, 1) := by decide +kernel
theorem dX9_readAll_4 : decode cX9_readAll 4 = .ok (.invokevirtual 57, 3) := by decide +kernel
theorem dX9_readAll_7 : decode cX9_readAll 7 = .ok (.istore 4, 2) := by decide +kernel
theorem dX9_readAll_9 : decode cX9_readAll 9 = .ok (.iconst 0, 1) := by decide +kernel
theorem dX9_readAll_10 : decode cX9_readAll 10 = .ok (.istore 5, 2) := by decide +kernel
theorem dX9_readAll_12 : decode cX9_readAll 12 = .ok (.iload 5, 2) := by decide +kernel
theorem dX9_readAll_14 : decode cX9_readAll 14 = .ok (.bipush 20, 2) := by decide +kernel
theorem dX9_readAll_16 : decode cX9_readAll 16 = .ok (.if_icmp .ge 53, 3) := by decide +kernel
theorem dX9_readAll_19 : decode cX9_readAll 19 = .ok (.iload 4, 2) := by decide +kernel
theorem dX9_readAll_21 : decode cX9_readAll 21 = .ok (.ifCond .eq 48, 3) := by decide +kernel
theorem dX9_readAll_69 : decode cX9_readAll 69 = .ok (.iload 4, 2) := by decide +kernel
theorem dX9_readAll_71 : decode cX9_readAll 71 = .ok (.ireturn, 1) := by decide +kernel
theorem dX9_readAll_24 : decode cX9_readAll 24 = .ok (.aload_n 1, 1) := by decide +kernel
theorem dX9_readAll_25 : decode cX9_readAll 25 = .ok (.invokevirtual 47, 3) := by decide +kernel
theorem dX9_readAll_28 : decode cX9_readAll 28 = .ok (.bipush 21, 2) := by decide +kernel
theorem dX9_readAll_30 : decode cX9_readAll 30 = .ok (.if_icmp .ne 39, 3) := by decide +kernel
theorem dX9_readAll_33 : decode cX9_readAll 33 = .ok (.aload_n 1, 1) := by decide +kernel
theorem dX9_readAll_34 : decode cX9_readAll 34 = .ok (.invokevirtual 51, 3) := by decide +kernel
theorem dX9_readAll_37 : decode cX9_readAll 37 = .ok (.aload_n 0, 1) := by decide +kernel
theorem dX9_readAll_38 : decode cX9_readAll 38 = .ok (.aload_n 1, 1) := by decide +kernel
theorem dX9_readAll_39 : decode cX9_readAll 39 = .ok (.aload_n 2, 1) := by decide +kernel
theorem dX9_readAll_40 : decode cX9_readAll 40 = .ok (.iload_n 3, 1) := by decide +kernel
theorem dX9_readAll_41 : decode cX9_readAll 41 = .ok (.invokevirtual 57, 3) := by decide +kernel
theorem dX9_readAll_44 : decode cX9_readAll 44 = .ok (.ifCond .eq 16, 3) := by decide +kernel
theorem dX9_readAll_60 : decode cX9_readAll 60 = .ok (.iconst 0, 1) := by decide +kernel
theorem dX9_readAll_61 : decode cX9_readAll 61 = .ok (.istore 4, 2) := by decide +kernel
theorem dX9_readAll_63 : decode cX9_readAll 63 = .ok (.iinc 5 1, 3) := by decide +kernel
theorem dX9_readAll_66 : decode cX9_readAll 66 = .ok (.goto (-54), 3) := by decide +kernel
theorem dX9_readAll_47 : decode cX9_readAll 47 = .ok (.aload_n 0, 1) := by decide +kernel
theorem dX9_readAll_48 : decode cX9_readAll 48 = .ok (.bipush 21, 2) := by decide +kernel
theorem dX9_readAll_50 : decode cX9_readAll 50 = .ok (.invokevirtual 54, 3) := by decide +kernel
theorem dX9_readAll_53 : decode cX9_readAll 53 = .ok (.ifCond .eq 7, 3) := by decide +kernel
theorem dX9_readAll_56 : decode cX9_readAll 56 = .ok (.iconst 1, 1) := by decide +kernel
theorem dX9_readAll_57 : decode cX9_readAll 57 = .ok (.goto 4, 3) := by decide +kernel
theorem dX9_readCond_0 : decode cX9_readCond 0 = .ok (.aload_n 0, 1) := by decide +kernel
theorem dX9_readCond_1 : decode cX9_readCond 1 = .ok (.aload_n 1, 1) := by decide +kernel
theorem dX9_readCond_2 : decode cX9_readCond 2 = .ok (.aload_n 2, 1) := by decide +kernel
theorem dX9_readCond_3 : decode cX9_readCond 3 = .ok (.iload_n 3, 1) := by decide +kernel
theorem dX9_readCond_4 : decode cX9_readCond 4 = .ok (.invokevirtual 44, 3) := by decide +kernel
theorem dX9_readCond_7 : decode cX9_readCond 7 = .ok (.istore 4, 2) := by decide +kernel
theorem dX9_readCond_9 : decode cX9_readCond 9 = .ok (.iconst 0, 1) := by decide +kernel
theorem dX9_readCond_10 : decode cX9_readCond 10 = .ok (.istore 5, 2) := by decide +kernel
theorem dX9_readCond_12 : decode cX9_readCond 12 = .ok (.iload 5, 2) := by decide +kernel
theorem dX9_readCond_14 : decode cX9_readCond 14 = .ok (.bipush 20, 2) := by decide +kernel
theorem dX9_readCond_16 : decode cX9_readCond 16 = .ok (.if_icmp .ge 53, 3) := by decide +kernel
theorem dX9_readCond_19 : decode cX9_readCond 19 = .ok (.iload 4, 2) := by decide +kernel
theorem dX9_readCond_21 : decode cX9_readCond 21 = .ok (.ifCond .eq 48, 3) := by decide +kernel
theorem dX9_readCond_69 : decode cX9_readCond 69 = .ok (.iload 4, 2) := by decide +kernel
theorem dX9_readCond_71 : decode cX9_readCond 71 = .ok (.ireturn, 1) := by decide +kernel
theorem dX9_readCond_24 : decode cX9_readCond 24 = .ok (.aload_n 1, 1) := by decide +kernel
theorem dX9_readCond_25 : decode cX9_readCond 25 = .ok (.invokevirtual 47, 3) := by decide +kernel
theorem dX9_readCond_28 : decode cX9_readCond 28 = .ok (.bipush 20, 2) := by decide +kernel
theorem dX9_readCond_30 : decode cX9_readCond 30 = .ok (.if_icmp .ne 39, 3) := by decide +kernel
theorem dX9_readCond_33 : decode cX9_readCond 33 = .ok (.aload_n 1, 1) := by decide +kernel
theorem dX9_readCond_34 : decode cX9_readCond 34 = .ok (.invokevirtual 51, 3) := by decide +kernel
theorem dX9_readCond_37 : decode cX9_readCond 37 = .ok (.aload_n 0, 1) := by decide +kernel
theorem dX9_readCond_38 : decode cX9_readCond 38 = .ok (.aload_n 1, 1) := by decide +kernel
theorem dX9_readCond_39 : decode cX9_readCond 39 = .ok (.aload_n 2, 1) := by decide +kernel
theorem dX9_readCond_40 : decode cX9_readCond 40 = .ok (.iload_n 3, 1) := by decide +kernel
theorem dX9_readCond_41 : decode cX9_readCond 41 = .ok (.invokevirtual 44, 3) := by decide +kernel
theorem dX9_readCond_44 : decode cX9_readCond 44 = .ok (.ifCond .eq 16, 3) := by decide +kernel
theorem dX9_readCond_60 : decode cX9_readCond 60 = .ok (.iconst 0, 1) := by decide +kernel
theorem dX9_readCond_61 : decode cX9_readCond 61 = .ok (.istore 4, 2) := by decide +kernel
theorem dX9_readCond_63 : decode cX9_readCond 63 = .ok (.iinc 5 1, 3) := by decide +kernel
theorem dX9_readCond_66 : decode cX9_readCond 66 = .ok (.goto (-54), 3) := by decide +kernel
theorem dX9_readCond_47 : decode cX9_readCond 47 = .ok (.aload_n 0, 1) := by decide +kernel
theorem dX9_readCond_48 : decode cX9_readCond 48 = .ok (.bipush 20, 2) := by decide +kernel
theorem dX9_readCond_50 : decode cX9_readCond 50 = .ok (.invokevirtual 54, 3) := by decide +kernel
theorem dX9_readCond_53 : decode cX9_readCond 53 = .ok (.ifCond .eq 7, 3) := by decide +kernel
theorem dX9_readCond_56 : decode cX9_readCond 56 = .ok (.iconst 1, 1) := by decide +kernel
theorem dX9_readCond_57 : decode cX9_readCond 57 = .ok (.goto 4, 3) := by decide +kernel
theorem dX9_readOne_68 : decode cX9_readOne 68 = .ok (.aload_n 0, 1) := by decide +kernel
theorem dX9_readOne_69 : decode cX9_readOne 69 = .ok (.dup, 1) := by decide +kernel
theorem dX9_readOne_70 : decode cX9_readOne 70 = .ok (.getfield 19, 3) := by decide +kernel
theorem dX9_readOne_73 : decode cX9_readOne 73 = .ok (.iconst 1, 1) := by decide +kernel
theorem dX9_readOne_74 : decode cX9_readOne 74 = .ok (.iadd, 1) := by decide +kernel
theorem dX9_readOne_75 : decode cX9_readOne 75 = .ok (.putfield 19, 3) := by decide +kernel
theorem dX9_readOne_78 : decode cX9_readOne 78 = .ok (.aload_n 1, 1) := by decide +kernel
theorem dX9_readOne_79 : decode cX9_readOne 79 = .ok (.invokevirtual 51, 3) := by decide +kernel
theorem dX9_readOne_82 : decode cX9_readOne 82 = .ok (.iload 5, 2) := by decide +kernel
theorem dX9_readOne_84 : decode cX9_readOne 84 = .ok (.ifCond .eq 30, 3) := by decide +kernel
theorem dX9_readOne_87 : decode cX9_readOne 87 = .ok (.aload_n 0, 1) := by decide +kernel
theorem dX9_readOne_88 : decode cX9_readOne 88 = .ok (.aload_n 1, 1) := by decide +kernel
theorem dX9_readOne_89 : decode cX9_readOne 89 = .ok (.aload_n 2, 1) := by decide +kernel
theorem dX9_readOne_90 : decode cX9_readOne 90 = .ok (.iload_n 3, 1) := by decide +kernel
theorem dX9_readOne_91 : decode cX9_readOne 91 = .ok (.iconst 1, 1) := by decide +kernel
theorem dX9_readOne_92 : decode cX9_readOne 92 = .ok (.iadd, 1) := by decide +kernel
theorem dX9_readOne_93 : decode cX9_readOne 93 = .ok (.invokevirtual 31, 3) := by decide +kernel
theorem dX9_readOne_96 : decode cX9_readOne 96 = .ok (.ifCond .eq 16, 3) := by decide +kernel
theorem dX9_readOne_112 : decode cX9_readOne 112 = .ok (.iconst 0, 1) := by decide +kernel
theorem dX9_readOne_113 : decode cX9_readOne 113 = .ok (.ireturn, 1) := by decide +kernel
theorem dX9_readOne_99 : decode cX9_readOne 99 = .ok (.aload_n 1, 1) := by decide +kernel
theorem dX9_readOne_100 : decode cX9_readOne 100 = .ok (.bipush 41, 2) := by decide +kernel
theorem dX9_readOne_102 : decode cX9_readOne 102 = .ok (.invokevirtual 60, 3) := by decide +kernel
theorem dX9_readOne_105 : decode cX9_readOne 105 = .ok (.ifCond .eq 7, 3) := by decide +kernel
theorem dX9_readOne_108 : decode cX9_readOne 108 = .ok (.iconst 1, 1) := by decide +kernel
theorem dX9_readOne_109 : decode cX9_readOne 109 = .ok (.goto 4, 3) := by decide +kernel
theorem dX9_readOne_114 : decode cX9_readOne 114 = .ok (.iload 4, 2) := by decide +kernel
theorem dX9_readOne_116 : decode cX9_readOne 116 = .ok (.bipush 22, 2) := by decide +kernel
theorem dX9_readOne_118 : decode cX9_readOne 118 = .ok (.if_icmp .ne 30, 3) := by decide +kernel
theorem dX9_readOne_148 : decode cX9_readOne 148 = .ok (.iload 4, 2) := by decide +kernel
theorem dX9_readOne_150 : decode cX9_readOne 150 = .ok (.bipush 26, 2) := by decide +kernel
theorem dX9_readOne_152 : decode cX9_readOne 152 = .ok (.if_icmp .ne 10, 3) := by decide +kernel
theorem dX9_readOne_162 : decode cX9_readOne 162 = .ok (.iload 4, 2) := by decide +kernel
theorem dX9_readOne_164 : decode cX9_readOne 164 = .ok (.bipush 27, 2) := by decide +kernel
theorem dX9_readOne_166 : decode cX9_readOne 166 = .ok (.if_icmp .lt 13, 3) := by decide +kernel
theorem dX9_readOne_179 : decode cX9_readOne 179 = .ok (.aload_n 0, 1) := by decide +kernel
theorem dX9_readOne_180 : decode cX9_readOne 180 = .ok (.iload 4, 2) := by decide +kernel
theorem dX9_readOne_182 : decode cX9_readOne 182 = .ok (.invokevirtual 54, 3) := by decide +kernel
theorem dX9_readOne_185 : decode cX9_readOne 185 = .ok (.ireturn, 1) := by decide +kernel
theorem dX9_readOne_169 : decode cX9_readOne 169 = .ok (.aload_n 0, 1) := by decide +kernel
theorem dX9_readOne_170 : decode cX9_readOne 170 = .ok (.aload_n 1, 1) := by decide +kernel
theorem dX9_readOne_171 : decode cX9_readOne 171 = .ok (.iload 4, 2) := by decide +kernel
theorem dX9_readOne_173 : decode cX9_readOne 173 = .ok (.invokevirtual 67, 3) := by decide +kernel
theorem dX9_readOne_176 : decode cX9_readOne 176 = .ok (.goto 9, 3) := by decide +kernel
theorem dX9_readOne_155 : decode cX9_readOne 155 = .ok (.aload_n 0, 1) := by decide +kernel
theorem dX9_readOne_156 : decode cX9_readOne 156 = .ok (.aload_n 1, 1) := by decide +kernel
theorem dX9_readOne_157 : decode cX9_readOne 157 = .ok (.aload_n 2, 1) := by decide +kernel
theorem dX9_readOne_158 : decode cX9_readOne 158 = .ok (.invokevirtual 63, 3) := by decide +kernel
theorem dX9_readOne_161 : decode cX9_readOne 161 = .ok (.ireturn, 1) := by decide +kernel
theorem dX9_readOne_121 : decode cX9_readOne 121 = .ok (.aload_n 0, 1) := by decide +kernel
theorem dX9_readOne_122 : decode cX9_readOne 122 = .ok (.aload_n 1, 1) := by decide +kernel
theorem dX9_readOne_123 : decode cX9_readOne 123 = .ok (.aload_n 2, 1) := by decide +kernel
theorem dX9_readOne_124 : decode cX9_readOne 124 = .ok (.iload_n 3, 1) := by decide +kernel
theorem dX9_readOne_125 : decode cX9_readOne 125 = .ok (.iconst 1, 1) := by decide +kernel
theorem dX9_readOne_126 : decode cX9_readOne 126 = .ok (.iadd, 1) := by decide +kernel
theorem dX9_readOne_127 : decode cX9_readOne 127 = .ok (.invokevirtual 57, 3) := by decide +kernel
theorem dX9_readOne_130 : decode cX9_readOne 130 = .ok (.ifCond .eq 16, 3) := by decide +kernel
theorem dX9_readOne_146 : decode cX9_readOne 146 = .ok (.iconst 0, 1) := by decide +kernel
theorem dX9_readOne_147 : decode cX9_readOne 147 = .ok (.ireturn, 1) := by decide +kernel
theorem dX9_readOne_133 : decode cX9_readOne 133 = .ok (.aload_n 0, 1) := by decide +kernel
theorem dX9_readOne_134 : decode cX9_readOne 134 = .ok (.bipush 22, 2) := by decide +kernel
theorem dX9_readOne_136 : decode cX9_readOne 136 = .ok (.invokevirtual 54, 3) := by decide +kernel
theorem dX9_readOne_139 : decode cX9_readOne 139 = .ok (.ifCond .eq 7, 3) := by decide +kernel
theorem dX9_readOne_142 : decode cX9_readOne 142 = .ok (.iconst 1, 1) := by decide +kernel
theorem dX9_readOne_143 : decode cX9_readOne 143 = .ok (.goto 4, 3) := by decide +kernel
set_option maxRecDepth 100000 in
theorem ggX9_readOne_X5_nextWord : GoodIn wsX9_readOne wsX5_nextWord := goodIn_r _ [7, 8, 142, 143, 144, 145, 146, 147, 148, 149, 150, 151, 152] rfl (by decide +kernel)
set_option maxRecDepth 100000 in
theorem ggX9_readOne_X5_refuse : GoodIn wsX9_readOne wsX5_refuse := goodIn_r _ [12, 13, 14, 15, 16, 6, 17, 18, 19, 142, 143, 144, 145, 146, 147, 148, 149, 150, 151, 152] rfl (by decide +kernel)
set_option maxRecDepth 100000 in
theorem ggX9_readAll_X9_readOne : GoodIn wsX9_readAll wsX9_readOne := goodIn_r _ [100, 101, 102, 5, 6, 7, 8, 9, 10, 103, 104, 105, 106, 18, 107, 108, 109, 110, 111, 112, 11, 12, 13, 14, 15, 16, 17, 19, 20, 21, 22, 23, 24, 25, 26, 27, 28, 29, 30, 31, 32, 33, 34, 35, 36, 37, 38, 39, 40, 41, 42, 43, 44, 45, 46, 47, 48, 49, 50, 51, 52, 53, 54, 55, 56, 57, 58, 59, 60, 61, 62, 63, 64, 65, 66, 67, 68, 69, 70, 71, 72, 73, 74, 75, 76, 77, 78, 79, 80, 81, 82, 83, 84, 85, 86, 87, 88, 89, 113, 114, 115, 4, 116, 117, 118, 119, 120, 121, 1, 2, 3, 90, 91, 92, 93, 94, 95, 122, 123, 124, 125, 126, 127, 128, 129, 130, 131, 132, 133, 134, 135, 136, 137, 138, 139, 140, 141, 0, 96, 97, 98, 99, 142, 143, 144, 145, 146, 147, 148, 149, 150, 151, 152, 153, 154, 155, 156, 157, 158, 159, 160, 161, 162, 163, 164, 165, 166, 167, 168, 169, 170, 171, 172, 173, 174] rfl (by decide +kernel)
set_option maxRecDepth 100000 in
theorem ggX9_readAll_X5_nextWord : GoodIn wsX9_readAll wsX5_nextWord := goodIn_r _ [9, 10, 142, 143, 144, 145, 146, 147, 148, 149, 150, 151, 152] rfl (by decide +kernel)
set_option maxRecDepth 100000 in
theorem ggX9_readAll_X5_advance : GoodIn wsX9_readAll wsX5_advance := goodIn_r _ [14, 15, 16, 17, 18, 10, 19, 20, 21, 22, 8, 23, 24, 25, 26, 27, 28, 29, 30, 31, 32, 33, 34, 35, 36, 37, 38, 39, 40, 41, 42, 43, 44, 45, 46, 47, 48, 49, 50, 51, 52, 53, 54, 55, 56, 57, 58, 59, 60, 61, 62, 63, 64, 65, 66, 67, 68, 69, 70, 71, 72, 73, 74, 75, 76, 77, 78, 79, 80, 81, 82, 83, 84, 85, 86, 87, 88, 89, 142, 143, 144, 145, 146, 147, 148, 149, 150, 151, 152] rfl (by decide +kernel)
set_option maxRecDepth 100000 in
theorem ggX9_readAll_X9_put : GoodIn wsX9_readAll wsX9_put := goodIn_r _ [93, 94, 95, 153, 154, 155] rfl (by decide +kernel)
set_option maxRecDepth 100000 in
theorem ggX9_readCond_X9_readAll : GoodIn wsX9_readCond wsX9_readAll := goodIn_r _ [96, 97, 98, 99, 4, 5, 6, 7, 8, 9, 10, 11, 12, 13, 14, 15, 16, 17, 18, 19, 20, 21, 22, 23, 24, 25, 26, 27, 28, 29, 30, 31, 32, 33, 34, 35, 36, 37, 38, 39, 40, 41, 42, 43, 44, 45, 46, 47, 48, 49, 50, 51, 52, 53, 54, 55, 56, 57, 58, 59, 60, 61, 62, 63, 64, 65, 66, 67, 68, 69, 70, 71, 72, 73, 74, 75, 76, 77, 78, 79, 80, 81, 82, 83, 84, 85, 86, 87, 88, 89, 90, 91, 92, 93, 94, 95, 0, 1, 2, 3, 100, 101, 102, 103, 104, 105, 106, 107, 108, 109, 110, 111, 112, 113, 114, 115, 116, 117, 118, 119, 120, 121, 122, 123, 124, 125, 126, 127, 128, 129, 130, 131, 132, 133, 134, 135, 136, 137, 138, 139, 140, 141, 142, 143, 144, 145, 146, 147, 148, 149, 150, 151, 152, 153, 154, 155, 156, 157, 158, 159, 160, 161, 162, 163, 164, 165, 166, 167, 168, 169, 170, 171, 172, 173, 174] rfl (by decide +kernel)
set_option maxRecDepth 100000 in
theorem ggX9_readCond_X5_nextWord : GoodIn wsX9_readCond wsX5_nextWord := goodIn_r _ [9, 10, 142, 143, 144, 145, 146, 147, 148, 149, 150, 151, 152] rfl (by decide +kernel)
set_option maxRecDepth 100000 in
theorem ggX9_readCond_X5_advance : GoodIn wsX9_readCond wsX5_advance := goodIn_r _ [14, 15, 16, 17, 18, 10, 19, 20, 21, 22, 8, 23, 24, 25, 26, 27, 28, 29, 30, 31, 32, 33, 34, 35, 36, 37, 38, 39, 40, 41, 42, 43, 44, 45, 46, 47, 48, 49, 50, 51, 52, 53, 54, 55, 56, 57, 58, 59, 60, 61, 62, 63, 64, 65, 66, 67, 68, 69, 70, 71, 72, 73, 74, 75, 76, 77, 78, 79, 80, 81, 82, 83, 84, 85, 86, 87, 88, 89, 142, 143, 144, 145, 146, 147, 148, 149, 150, 151, 152] rfl (by decide +kernel)
set_option maxRecDepth 100000 in
theorem ggX9_readCond_X9_put : GoodIn wsX9_readCond wsX9_put := goodIn_r _ [93, 94, 95, 153, 154, 155] rfl (by decide +kernel)
set_option maxRecDepth 100000 in
theorem ggX9_readOne_X5_advance : GoodIn wsX9_readOne wsX5_advance := goodIn_r _ [23, 24, 25, 26, 13, 8, 27, 28, 29, 30, 6, 31, 32, 33, 34, 35, 36, 37, 38, 39, 40, 41, 42, 43, 44, 45, 46, 47, 48, 49, 50, 51, 52, 53, 54, 55, 56, 57, 58, 59, 60, 61, 62, 63, 64, 65, 66, 67, 68, 69, 70, 71, 72, 73, 74, 75, 76, 77, 78, 79, 80, 81, 82, 83, 84, 85, 86, 87, 88, 89, 90, 91, 92, 93, 94, 95, 96, 97, 142, 143, 144, 145, 146, 147, 148, 149, 150, 151, 152] rfl (by decide +kernel)
set_option maxRecDepth 100000 in
theorem ggX9_readOne_X9_readCond : GoodIn wsX9_readOne wsX9_readCond := goodIn_r _ [138, 139, 140, 141, 101, 3, 4, 5, 6, 7, 8, 20, 21, 22, 23, 24, 25, 26, 13, 27, 28, 29, 30, 31, 32, 33, 34, 35, 36, 37, 38, 39, 40, 41, 42, 43, 44, 45, 46, 47, 48, 49, 50, 51, 52, 53, 54, 55, 56, 57, 58, 59, 60, 61, 62, 63, 64, 65, 66, 67, 68, 69, 70, 71, 72, 73, 74, 75, 76, 77, 78, 79, 80, 81, 82, 83, 84, 85, 86, 87, 88, 89, 90, 91, 92, 93, 94, 95, 96, 97, 111, 112, 113, 114, 115, 116, 137, 108, 109, 110, 0, 1, 2, 9, 10, 11, 12, 14, 15, 16, 17, 18, 19, 98, 99, 100, 102, 103, 104, 105, 106, 107, 117, 118, 119, 120, 121, 122, 123, 124, 125, 126, 127, 128, 129, 130, 131, 132, 133, 134, 135, 136, 142, 143, 144, 145, 146, 147, 148, 149, 150, 151, 152, 153, 154, 155, 156, 157, 158, 159, 160, 161, 162, 163, 164, 165, 166, 167, 168, 169, 170, 171, 172, 173, 174] rfl (by decide +kernel)
set_option maxRecDepth 100000 in
theorem ggX9_readOne_X5_takeSign : GoodIn wsX9_readOne wsX5_takeSign := goodIn_r _ [105, 28, 106, 10, 11, 6, 12, 13, 14, 15, 16, 17, 18, 19, 107, 21, 22, 23, 24, 25, 26, 8, 27, 29, 30, 31, 32, 33, 34, 35, 36, 37, 38, 39, 40, 41, 42, 43, 44, 45, 46, 47, 48, 49, 50, 51, 52, 53, 54, 55, 56, 57, 58, 59, 60, 61, 62, 63, 64, 65, 66, 67, 68, 69, 70, 71, 72, 73, 74, 75, 76, 77, 78, 79, 80, 81, 82, 83, 84, 85, 86, 87, 88, 89, 90, 91, 92, 93, 94, 95, 96, 97, 142, 143, 144, 145, 146, 147, 148, 149, 150, 151, 152] rfl (by decide +kernel)
set_option maxRecDepth 100000 in
theorem ggX9_readOne_X9_put : GoodIn wsX9_readOne wsX9_put := goodIn_r _ [114, 115, 116, 153, 154, 155] rfl (by decide +kernel)
set_option maxRecDepth 100000 in
theorem ggX9_readOne_X9_readComparison : GoodIn wsX9_readOne wsX9_readComparison := goodIn_r _ [132, 1, 9, 10, 11, 6, 12, 13, 14, 15, 16, 17, 18, 19, 20, 21, 22, 23, 24, 25, 26, 8, 27, 28, 29, 30, 31, 32, 33, 34, 35, 36, 37, 38, 39, 40, 41, 42, 43, 44, 45, 46, 47, 48, 49, 50, 51, 52, 53, 54, 55, 56, 57, 58, 59, 60, 61, 62, 63, 64, 65, 66, 67, 68, 69, 70, 71, 72, 73, 74, 75, 76, 77, 78, 79, 80, 81, 82, 83, 84, 85, 86, 87, 88, 89, 90, 91, 92, 93, 94, 95, 96, 97, 133, 134, 135, 136, 106, 107, 111, 112, 113, 101, 114, 115, 116, 142, 143, 144, 145, 146, 147, 148, 149, 150, 151, 152, 153, 154, 155] rfl (by decide +kernel)
set_option maxRecDepth 100000 in
theorem ggX9_readOne_X9_readLump : GoodIn wsX9_readOne wsX9_readLump := goodIn_r _ [120, 121, 3, 4, 5, 6, 7, 8, 9, 10, 11, 12, 13, 14, 15, 16, 17, 18, 19, 122, 123, 124, 125, 126, 127, 128, 20, 21, 22, 23, 24, 25, 26, 27, 28, 29, 30, 31, 32, 33, 34, 35, 36, 37, 38, 39, 40, 41, 42, 43, 44, 45, 46, 47, 48, 49, 50, 51, 52, 53, 54, 55, 56, 57, 58, 59, 60, 61, 62, 63, 64, 65, 66, 67, 68, 69, 70, 71, 72, 73, 74, 75, 76, 77, 78, 79, 80, 81, 82, 83, 84, 85, 86, 87, 88, 89, 90, 91, 92, 93, 94, 95, 96, 97, 111, 112, 113, 101, 114, 115, 116, 142, 143, 144, 145, 146, 147, 148, 149, 150, 151, 152, 156, 157, 158, 159, 160, 161, 162, 163, 164, 165, 166, 167, 168, 169, 170, 171, 172, 173, 174, 153, 154, 155] rfl (by decide +kernel)
set_option maxRecDepth 100000 in
theorem ggX9_readOne_X9_readOne : GoodIn wsX9_readOne wsX9_readOne := goodIn_r _ [0, 1, 2, 3, 4, 5, 6, 7, 8, 9, 10, 11, 12, 13, 14, 15, 16, 17, 18, 19, 20, 21, 22, 23, 24, 25, 26, 27, 28, 29, 30, 31, 32, 33, 34, 35, 36, 37, 38, 39, 40, 41, 42, 43, 44, 45, 46, 47, 48, 49, 50, 51, 52, 53, 54, 55, 56, 57, 58, 59, 60, 61, 62, 63, 64, 65, 66, 67, 68, 69, 70, 71, 72, 73, 74, 75, 76, 77, 78, 79, 80, 81, 82, 83, 84, 85, 86, 87, 88, 89, 90, 91, 92, 93, 94, 95, 96, 97, 98, 99, 100, 101, 102, 103, 104, 105, 106, 107, 108, 109, 110, 111, 112, 113, 114, 115, 116, 117, 118, 119, 120, 121, 122, 123, 124, 125, 126, 127, 128, 129, 130, 131, 132, 133, 134, 135, 136, 137, 138, 139, 140, 141, 142, 143, 144, 145, 146, 147, 148, 149, 150, 151, 152, 153, 154, 155, 156, 157, 158, 159, 160, 161, 162, 163, 164, 165, 166, 167, 168, 169, 170, 171, 172, 173, 174] rfl (by decide +kernel)
set_option maxRecDepth 100000 in
theorem gX9_readOne_X5_nextWord : GoodIn wsX9_readOne (wsV RX9 47 RX5 yX5_nextWord wsX5_nextWord) := goodIn_app (goodIn_of _ (by decide +kernel)) ggX9_readOne_X5_nextWord
set_option maxRecDepth 100000 in
theorem gX9_readOne_X5_refuse : GoodIn wsX9_readOne (wsV RX9 40 RX5 yX5_refuse wsX5_refuse) := goodIn_app (goodIn_of _ (by decide +kernel)) ggX9_readOne_X5_refuse
set_option maxRecDepth 100000 in
theorem gX9_readAll_X9_readOne : GoodIn wsX9_readAll (wsV RX9 57 RX9 yX9_readOne wsX9_readOne) := goodIn_app (goodIn_of _ (by decide +kernel)) ggX9_readAll_X9_readOne
set_option maxRecDepth 100000 in
theorem gX9_readAll_X5_nextWord : GoodIn wsX9_readAll (wsV RX9 47 RX5 yX5_nextWord wsX5_nextWord) := goodIn_app (goodIn_of _ (by decide +kernel)) ggX9_readAll_X5_nextWord
set_option maxRecDepth 100000 in
theorem gX9_readAll_X5_advance : GoodIn wsX9_readAll (wsV RX9 51 RX5 yX5_advance wsX5_advance) := goodIn_app (goodIn_of _ (by decide +kernel)) ggX9_readAll_X5_advance
set_option maxRecDepth 100000 in
theorem gX9_readAll_X9_put : GoodIn wsX9_readAll (wsV RX9 54 RX9 yX9_put wsX9_put) := goodIn_app (goodIn_of _ (by decide +kernel)) ggX9_readAll_X9_put
set_option maxRecDepth 100000 in
theorem gX9_readCond_X9_readAll : GoodIn wsX9_readCond (wsV RX9 44 RX9 yX9_readAll wsX9_readAll) := goodIn_app (goodIn_of _ (by decide +kernel)) ggX9_readCond_X9_readAll
set_option maxRecDepth 100000 in
theorem gX9_readCond_X5_nextWord : GoodIn wsX9_readCond (wsV RX9 47 RX5 yX5_nextWord wsX5_nextWord) := goodIn_app (goodIn_of _ (by decide +kernel)) ggX9_readCond_X5_nextWord
set_option maxRecDepth 100000 in
theorem gX9_readCond_X5_advance : GoodIn wsX9_readCond (wsV RX9 51 RX5 yX5_advance wsX5_advance) := goodIn_app (goodIn_of _ (by decide +kernel)) ggX9_readCond_X5_advance
set_option maxRecDepth 100000 in
theorem gX9_readCond_X9_put : GoodIn wsX9_readCond (wsV RX9 54 RX9 yX9_put wsX9_put) := goodIn_app (goodIn_of _ (by decide +kernel)) ggX9_readCond_X9_put
set_option maxRecDepth 100000 in
theorem gX9_readOne_X5_advance : GoodIn wsX9_readOne (wsV RX9 51 RX5 yX5_advance wsX5_advance) := goodIn_app (goodIn_of _ (by decide +kernel)) ggX9_readOne_X5_advance
set_option maxRecDepth 100000 in
theorem gX9_readOne_X9_readCond : GoodIn wsX9_readOne (wsV RX9 31 RX9 yX9_readCond wsX9_readCond) := goodIn_app (goodIn_of _ (by decide +kernel)) ggX9_readOne_X9_readCond
set_option maxRecDepth 100000 in
theorem gX9_readOne_X5_takeSign : GoodIn wsX9_readOne (wsV RX9 60 RX5 yX5_takeSign wsX5_takeSign) := goodIn_app (goodIn_of _ (by decide +kernel)) ggX9_readOne_X5_takeSign
set_option maxRecDepth 100000 in
theorem gX9_readOne_X9_put : GoodIn wsX9_readOne (wsV RX9 54 RX9 yX9_put wsX9_put) := goodIn_app (goodIn_of _ (by decide +kernel)) ggX9_readOne_X9_put
set_option maxRecDepth 100000 in
theorem gX9_readOne_X9_readComparison : GoodIn wsX9_readOne (wsV RX9 67 RX9 yX9_readComparison wsX9_readComparison) := goodIn_app (goodIn_of _ (by decide +kernel)) ggX9_readOne_X9_readComparison
set_option maxRecDepth 100000 in
theorem gX9_readOne_X9_readLump : GoodIn wsX9_readOne (wsV RX9 63 RX9 yX9_readLump wsX9_readLump) := goodIn_app (goodIn_of _ (by decide +kernel)) ggX9_readOne_X9_readLump
set_option maxRecDepth 100000 in
theorem gX9_readOne_X9_readOne : GoodIn wsX9_readOne (wsV RX9 57 RX9 yX9_readOne wsX9_readOne) := goodIn_app (goodIn_of _ (by decide +kernel)) ggX9_readOne_X9_readOne
