theorem dX12_doStir_0 : decode cX12_doStir 0 = .ok (.iconst 0, 1) := by decide +kernel
theorem dX12_doStir_1 : decode cX12_doStir 1 = .ok (.istore_n 2, 1) := by decide +kernel
theorem dX12_doStir_2 : decode cX12_doStir 2 = .ok (.iload_n 2, 1) := by decide +kernel
theorem dX12_doStir_3 : decode cX12_doStir 3 = .ok (.bipush 36, 2) := by decide +kernel
theorem dX12_doStir_5 : decode cX12_doStir 5 = .ok (.if_icmp .ge 16, 3) := by decide +kernel
theorem dX12_doStir_8 : decode cX12_doStir 8 = .ok (.aload_n 0, 1) := by decide +kernel
theorem dX12_doStir_9 : decode cX12_doStir 9 = .ok (.getfield 130, 3) := by decide +kernel
theorem dX12_doStir_12 : decode cX12_doStir 12 = .ok (.iload_n 2, 1) := by decide +kernel
theorem dX12_doStir_13 : decode cX12_doStir 13 = .ok (.iconst 0, 1) := by decide +kernel
theorem dX12_doStir_14 : decode cX12_doStir 14 = .ok (.iastore, 1) := by decide +kernel
theorem dX12_doStir_15 : decode cX12_doStir 15 = .ok (.iinc 2 1, 3) := by decide +kernel
theorem dX12_doStir_18 : decode cX12_doStir 18 = .ok (.goto (-16), 3) := by decide +kernel
theorem dX12_doStir_21 : decode cX12_doStir 21 = .ok (.iconst 0, 1) := by decide +kernel
theorem dX12_doStir_22 : decode cX12_doStir 22 = .ok (.istore_n 2, 1) := by decide +kernel
theorem dX12_doStir_23 : decode cX12_doStir 23 = .ok (.iload_n 2, 1) := by decide +kernel
theorem dX12_doStir_24 : decode cX12_doStir 24 = .ok (.bipush 36, 2) := by decide +kernel
theorem dX12_doStir_26 : decode cX12_doStir 26 = .ok (.if_icmp .ge 37, 3) := by decide +kernel
theorem dX12_doStir_29 : decode cX12_doStir 29 = .ok (.aload_n 0, 1) := by decide +kernel
theorem dX12_doStir_30 : decode cX12_doStir 30 = .ok (.iload_n 2, 1) := by decide +kernel
theorem dX12_doStir_31 : decode cX12_doStir 31 = .ok (.invokevirtual 279, 3) := by decide +kernel
theorem dX12_doStir_34 : decode cX12_doStir 34 = .ok (.ifCond .eq 23, 3) := by decide +kernel
theorem dX12_doStir_57 : decode cX12_doStir 57 = .ok (.iinc 2 1, 3) := by decide +kernel
theorem dX12_doStir_60 : decode cX12_doStir 60 = .ok (.goto (-37), 3) := by decide +kernel
theorem dX12_doStir_37 : decode cX12_doStir 37 = .ok (.aload_n 0, 1) := by decide +kernel
theorem dX12_doStir_38 : decode cX12_doStir 38 = .ok (.getfield 130, 3) := by decide +kernel
theorem dX12_doStir_41 : decode cX12_doStir 41 = .ok (.aload_n 0, 1) := by decide +kernel
theorem dX12_doStir_42 : decode cX12_doStir 42 = .ok (.iload_n 2, 1) := by decide +kernel
theorem dX12_doStir_43 : decode cX12_doStir 43 = .ok (.iload_n 1, 1) := by decide +kernel
theorem dX12_doStir_44 : decode cX12_doStir 44 = .ok (.invokevirtual 282, 3) := by decide +kernel
theorem dX12_doStir_47 : decode cX12_doStir 47 = .ok (.aload_n 0, 1) := by decide +kernel
theorem dX12_doStir_48 : decode cX12_doStir 48 = .ok (.getfield 98, 3) := by decide +kernel
theorem dX12_doStir_51 : decode cX12_doStir 51 = .ok (.bipush 71, 2) := by decide +kernel
theorem dX12_doStir_53 : decode cX12_doStir 53 = .ok (.iload_n 2, 1) := by decide +kernel
theorem dX12_doStir_54 : decode cX12_doStir 54 = .ok (.iadd, 1) := by decide +kernel
theorem dX12_doStir_55 : decode cX12_doStir 55 = .ok (.iaload, 1) := by decide +kernel
theorem dX12_doStir_56 : decode cX12_doStir 56 = .ok (.iastore, 1) := by decide +kernel
theorem dX12_doStir_63 : decode cX12_doStir 63 = .ok (.iconst 0, 1) := by decide +kernel
theorem dX12_doStir_64 : decode cX12_doStir 64 = .ok (.istore_n 2, 1) := by decide +kernel
theorem dX12_doStir_65 : decode cX12_doStir 65 = .ok (.iload_n 2, 1) := by decide +kernel
theorem dX12_doStir_66 : decode cX12_doStir 66 = .ok (.bipush 36, 2) := by decide +kernel
theorem dX12_doStir_68 : decode cX12_doStir 68 = .ok (.if_icmp .ge 24, 3) := by decide +kernel
theorem dX12_doStir_71 : decode cX12_doStir 71 = .ok (.aload_n 0, 1) := by decide +kernel
theorem dX12_doStir_72 : decode cX12_doStir 72 = .ok (.getfield 98, 3) := by decide +kernel
theorem dX12_doStir_75 : decode cX12_doStir 75 = .ok (.bipush 71, 2) := by decide +kernel
theorem dX12_doStir_77 : decode cX12_doStir 77 = .ok (.iload_n 2, 1) := by decide +kernel
theorem dX12_doStir_78 : decode cX12_doStir 78 = .ok (.iadd, 1) := by decide +kernel
theorem dX12_doStir_79 : decode cX12_doStir 79 = .ok (.aload_n 0, 1) := by decide +kernel
theorem dX12_doStir_80 : decode cX12_doStir 80 = .ok (.getfield 130, 3) := by decide +kernel
theorem dX12_doStir_83 : decode cX12_doStir 83 = .ok (.iload_n 2, 1) := by decide +kernel
theorem dX12_doStir_84 : decode cX12_doStir 84 = .ok (.iaload, 1) := by decide +kernel
theorem dX12_doStir_85 : decode cX12_doStir 85 = .ok (.iastore, 1) := by decide +kernel
theorem dX12_doStir_86 : decode cX12_doStir 86 = .ok (.iinc 2 1, 3) := by decide +kernel
theorem dX12_doStir_89 : decode cX12_doStir 89 = .ok (.goto (-24), 3) := by decide +kernel
theorem dX12_doStir_92 : decode cX12_doStir 92 = .ok (.iconst 0, 1) := by decide +kernel
theorem dX12_doStir_93 : decode cX12_doStir 93 = .ok (.istore_n 2, 1) := by decide +kernel
theorem dX12_doStir_94 : decode cX12_doStir 94 = .ok (.iload_n 2, 1) := by decide +kernel
theorem dX12_doStir_95 : decode cX12_doStir 95 = .ok (.aload_n 0, 1) := by decide +kernel
theorem dX12_doStir_96 : decode cX12_doStir 96 = .ok (.getfield 98, 3) := by decide +kernel
theorem dX12_doStir_99 : decode cX12_doStir 99 = .ok (.iconst 2, 1) := by decide +kernel
theorem dX12_doStir_100 : decode cX12_doStir 100 = .ok (.iaload, 1) := by decide +kernel
theorem dX12_doStir_101 : decode cX12_doStir 101 = .ok (.if_icmp .ge 32, 3) := by decide +kernel
theorem dX12_doStir_104 : decode cX12_doStir 104 = .ok (.aload_n 0, 1) := by decide +kernel
theorem dX12_doStir_105 : decode cX12_doStir 105 = .ok (.getfield 98, 3) := by decide +kernel
theorem dX12_doStir_108 : decode cX12_doStir 108 = .ok (.bipush 107, 2) := by decide +kernel
theorem dX12_doStir_110 : decode cX12_doStir 110 = .ok (.iload_n 2, 1) := by decide +kernel
theorem dX12_doStir_111 : decode cX12_doStir 111 = .ok (.iadd, 1) := by decide +kernel
theorem dX12_doStir_112 : decode cX12_doStir 112 = .ok (.aload_n 0, 1) := by decide +kernel
theorem dX12_doStir_113 : decode cX12_doStir 113 = .ok (.aload_n 0, 1) := by decide +kernel
theorem dX12_doStir_114 : decode cX12_doStir 114 = .ok (.getfield 98, 3) := by decide +kernel
theorem dX12_doStir_117 : decode cX12_doStir 117 = .ok (.bipush 107, 2) := by decide +kernel
theorem dX12_doStir_119 : decode cX12_doStir 119 = .ok (.iload_n 2, 1) := by decide +kernel
theorem dX12_doStir_120 : decode cX12_doStir 120 = .ok (.iadd, 1) := by decide +kernel
theorem dX12_doStir_121 : decode cX12_doStir 121 = .ok (.iaload, 1) := by decide +kernel
theorem dX12_doStir_122 : decode cX12_doStir 122 = .ok (.iload_n 1, 1) := by decide +kernel
theorem dX12_doStir_123 : decode cX12_doStir 123 = .ok (.invokevirtual 282, 3) := by decide +kernel
theorem dX12_doStir_126 : decode cX12_doStir 126 = .ok (.iastore, 1) := by decide +kernel
theorem dX12_doStir_127 : decode cX12_doStir 127 = .ok (.iinc 2 1, 3) := by decide +kernel
theorem dX12_doStir_130 : decode cX12_doStir 130 = .ok (.goto (-36), 3) := by decide +kernel
theorem dX12_doStir_133 : decode cX12_doStir 133 = .ok (.iconst 0, 1) := by decide +kernel
theorem dX12_doStir_134 : decode cX12_doStir 134 = .ok (.istore_n 2, 1) := by decide +kernel
theorem dX12_doStir_135 : decode cX12_doStir 135 = .ok (.iload_n 2, 1) := by decide +kernel
theorem dX12_doStir_136 : decode cX12_doStir 136 = .ok (.aload_n 0, 1) := by decide +kernel
theorem dX12_doStir_137 : decode cX12_doStir 137 = .ok (.getfield 98, 3) := by decide +kernel
theorem dX12_doStir_140 : decode cX12_doStir 140 = .ok (.iconst 3, 1) := by decide +kernel
theorem dX12_doStir_141 : decode cX12_doStir 141 = .ok (.iaload, 1) := by decide +kernel
theorem dX12_doStir_142 : decode cX12_doStir 142 = .ok (.if_icmp .ge 40, 3) := by decide +kernel
theorem dX12_doStir_182 : decode cX12_doStir 182 = .ok (.aload_n 0, 1) := by decide +kernel
theorem dX12_doStir_183 : decode cX12_doStir 183 = .ok (.getfield 98, 3) := by decide +kernel
theorem dX12_doStir_186 : decode cX12_doStir 186 = .ok (.bipush 69, 2) := by decide +kernel
theorem dX12_doStir_188 : decode cX12_doStir 188 = .ok (.dup2, 1) := by decide +kernel
theorem dX12_doStir_189 : decode cX12_doStir 189 = .ok (.iaload, 1) := by decide +kernel
theorem dX12_doStir_190 : decode cX12_doStir 190 = .ok (.iconst 1, 1) := by decide +kernel
theorem dX12_doStir_191 : decode cX12_doStir 191 = .ok (.iadd, 1) := by decide +kernel
theorem dX12_doStir_192 : decode cX12_doStir 192 = .ok (.iastore, 1) := by decide +kernel
theorem dX12_doStir_193 : decode cX12_doStir 193 = .ok (.return_, 1) := by decide +kernel
theorem dX12_doStir_145 : decode cX12_doStir 145 = .ok (.aload_n 0, 1) := by decide +kernel
theorem dX12_doStir_146 : decode cX12_doStir 146 = .ok (.iload_n 2, 1) := by decide +kernel
theorem dX12_doStir_147 : decode cX12_doStir 147 = .ok (.invokevirtual 246, 3) := by decide +kernel
theorem dX12_doStir_150 : decode cX12_doStir 150 = .ok (.ifCond .ne 26, 3) := by decide +kernel
theorem dX12_doStir_176 : decode cX12_doStir 176 = .ok (.iinc 2 1, 3) := by decide +kernel
theorem dX12_doStir_179 : decode cX12_doStir 179 = .ok (.goto (-44), 3) := by decide +kernel
theorem dX12_doStir_153 : decode cX12_doStir 153 = .ok (.aload_n 0, 1) := by decide +kernel
theorem dX12_doStir_154 : decode cX12_doStir 154 = .ok (.getfield 98, 3) := by decide +kernel
theorem dX12_doStir_157 : decode cX12_doStir 157 = .ok (.bipush 113, 2) := by decide +kernel
theorem dX12_doStir_159 : decode cX12_doStir 159 = .ok (.iload_n 2, 1) := by decide +kernel
theorem dX12_doStir_160 : decode cX12_doStir 160 = .ok (.iadd, 1) := by decide +kernel
theorem dX12_doStir_161 : decode cX12_doStir 161 = .ok (.aload_n 0, 1) := by decide +kernel
theorem dX12_doStir_162 : decode cX12_doStir 162 = .ok (.aload_n 0, 1) := by decide +kernel
theorem dX12_doStir_163 : decode cX12_doStir 163 = .ok (.getfield 98, 3) := by decide +kernel
theorem dX12_doStir_166 : decode cX12_doStir 166 = .ok (.bipush 113, 2) := by decide +kernel
theorem dX12_doStir_168 : decode cX12_doStir 168 = .ok (.iload_n 2, 1) := by decide +kernel
theorem dX12_doStir_169 : decode cX12_doStir 169 = .ok (.iadd, 1) := by decide +kernel
theorem dX12_doStir_170 : decode cX12_doStir 170 = .ok (.iaload, 1) := by decide +kernel
theorem dX12_doStir_171 : decode cX12_doStir 171 = .ok (.iload_n 1, 1) := by decide +kernel
theorem dX12_doStir_172 : decode cX12_doStir 172 = .ok (.invokevirtual 282, 3) := by decide +kernel
theorem dX12_doStir_175 : decode cX12_doStir 175 = .ok (.iastore, 1) := by decide +kernel
theorem dX12_oneDay_0 : decode cX12_oneDay 0 = .ok (.iconst 0, 1) := by decide +kernel
theorem dX12_oneDay_1 : decode cX12_oneDay 1 = .ok (.istore_n 1, 1) := by decide +kernel
theorem dX12_oneDay_2 : decode cX12_oneDay 2 = .ok (.iload_n 1, 1) := by decide +kernel
theorem dX12_oneDay_3 : decode cX12_oneDay 3 = .ok (.aload_n 0, 1) := by decide +kernel
theorem dX12_oneDay_4 : decode cX12_oneDay 4 = .ok (.getfield 98, 3) := by decide +kernel
theorem dX12_oneDay_7 : decode cX12_oneDay 7 = .ok (.iconst 3, 1) := by decide +kernel
theorem dX12_oneDay_8 : decode cX12_oneDay 8 = .ok (.iaload, 1) := by decide +kernel
theorem dX12_oneDay_9 : decode cX12_oneDay 9 = .ok (.if_icmp .ge 69, 3) := by decide +kernel
theorem dX12_oneDay_12 : decode cX12_oneDay 12 = .ok (.aload_n 0, 1) := by decide +kernel
theorem dX12_oneDay_13 : decode cX12_oneDay 13 = .ok (.iload_n 1, 1) := by decide +kernel
theorem dX12_oneDay_14 : decode cX12_oneDay 14 = .ok (.invokevirtual 266, 3) := by decide +kernel
theorem dX12_oneDay_17 : decode cX12_oneDay 17 = .ok (.ifCond .eq 16, 3) := by decide +kernel
theorem dX12_oneDay_33 : decode cX12_oneDay 33 = .ok (.aload_n 0, 1) := by decide +kernel
theorem dX12_oneDay_34 : decode cX12_oneDay 34 = .ok (.iload_n 1, 1) := by decide +kernel
theorem dX12_oneDay_35 : decode cX12_oneDay 35 = .ok (.invokevirtual 246, 3) := by decide +kernel
theorem dX12_oneDay_38 : decode cX12_oneDay 38 = .ok (.ifCond .ne 16, 3) := by decide +kernel
theorem dX12_oneDay_41 : decode cX12_oneDay 41 = .ok (.aload_n 0, 1) := by decide +kernel
theorem dX12_oneDay_42 : decode cX12_oneDay 42 = .ok (.getfield 98, 3) := by decide +kernel
theorem dX12_oneDay_45 : decode cX12_oneDay 45 = .ok (.bipush 125, 2) := by decide +kernel
theorem dX12_oneDay_47 : decode cX12_oneDay 47 = .ok (.iload_n 1, 1) := by decide +kernel
theorem dX12_oneDay_48 : decode cX12_oneDay 48 = .ok (.iadd, 1) := by decide +kernel
theorem dX12_oneDay_49 : decode cX12_oneDay 49 = .ok (.dup2, 1) := by decide +kernel
theorem dX12_oneDay_50 : decode cX12_oneDay 50 = .ok (.iaload, 1) := by decide +kernel
theorem dX12_oneDay_51 : decode cX12_oneDay 51 = .ok (.iconst 1, 1) := by decide +kernel
theorem dX12_oneDay_52 : decode cX12_oneDay 52 = .ok (.iadd, 1) := by decide +kernel
theorem dX12_oneDay_53 : decode cX12_oneDay 53 = .ok (.iastore, 1) := by decide +kernel
theorem dX12_oneDay_20 : decode cX12_oneDay 20 = .ok (.aload_n 0, 1) := by decide +kernel
theorem dX12_oneDay_21 : decode cX12_oneDay 21 = .ok (.getfield 98, 3) := by decide +kernel
theorem dX12_oneDay_24 : decode cX12_oneDay 24 = .ok (.bipush 125, 2) := by decide +kernel
theorem dX12_oneDay_26 : decode cX12_oneDay 26 = .ok (.iload_n 1, 1) := by decide +kernel
theorem dX12_oneDay_27 : decode cX12_oneDay 27 = .ok (.iadd, 1) := by decide +kernel
theorem dX12_oneDay_28 : decode cX12_oneDay 28 = .ok (.iconst 0, 1) := by decide +kernel
theorem dX12_oneDay_29 : decode cX12_oneDay 29 = .ok (.iastore, 1) := by decide +kernel
theorem dX12_oneDay_30 : decode cX12_oneDay 30 = .ok (.goto 24, 3) := by decide +kernel
theorem dX12_oneDay_54 : decode cX12_oneDay 54 = .ok (.aload_n 0, 1) := by decide +kernel
theorem dX12_oneDay_55 : decode cX12_oneDay 55 = .ok (.getfield 98, 3) := by decide +kernel
theorem dX12_oneDay_58 : decode cX12_oneDay 58 = .ok (.bipush 119, 2) := by decide +kernel
theorem dX12_oneDay_60 : decode cX12_oneDay 60 = .ok (.iload_n 1, 1) := by decide +kernel
theorem dX12_oneDay_61 : decode cX12_oneDay 61 = .ok (.iadd, 1) := by decide +kernel
theorem dX12_oneDay_62 : decode cX12_oneDay 62 = .ok (.aload_n 0, 1) := by decide +kernel
theorem dX12_oneDay_63 : decode cX12_oneDay 63 = .ok (.getfield 98, 3) := by decide +kernel
theorem dX12_oneDay_66 : decode cX12_oneDay 66 = .ok (.bipush 61, 2) := by decide +kernel
theorem dX12_oneDay_68 : decode cX12_oneDay 68 = .ok (.iload_n 1, 1) := by decide +kernel
theorem dX12_oneDay_69 : decode cX12_oneDay 69 = .ok (.iadd, 1) := by decide +kernel
theorem dX12_oneDay_70 : decode cX12_oneDay 70 = .ok (.iaload, 1) := by decide +kernel
theorem dX12_oneDay_71 : decode cX12_oneDay 71 = .ok (.iastore, 1) := by decide +kernel
theorem dX12_oneDay_72 : decode cX12_oneDay 72 = .ok (.iinc 1 1, 3) := by decide +kernel
theorem dX12_oneDay_75 : decode cX12_oneDay 75 = .ok (.goto (-73), 3) := by decide +kernel
theorem dX12_oneDay_78 : decode cX12_oneDay 78 = .ok (.aload_n 0, 1) := by decide +kernel
theorem dX12_oneDay_79 : decode cX12_oneDay 79 = .ok (.getfield 98, 3) := by decide +kernel
theorem dX12_oneDay_82 : decode cX12_oneDay 82 = .ok (.bipush 68, 2) := by decide +kernel
theorem dX12_oneDay_84 : decode cX12_oneDay 84 = .ok (.dup2, 1) := by decide +kernel
theorem dX12_oneDay_85 : decode cX12_oneDay 85 = .ok (.iaload, 1) := by decide +kernel
theorem dX12_oneDay_86 : decode cX12_oneDay 86 = .ok (.aload_n 0, 1) := by decide +kernel
theorem dX12_oneDay_87 : decode cX12_oneDay 87 = .ok (.getfield 98, 3) := by decide +kernel
theorem dX12_oneDay_90 : decode cX12_oneDay 90 = .ok (.iconst 5, 1) := by decide +kernel
theorem dX12_oneDay_91 : decode cX12_oneDay 91 = .ok (.iaload, 1) := by decide +kernel
theorem dX12_oneDay_92 : decode cX12_oneDay 92 = .ok (.aload_n 0, 1) := by decide +kernel
theorem dX12_oneDay_93 : decode cX12_oneDay 93 = .ok (.getfield 98, 3) := by decide +kernel
theorem dX12_oneDay_96 : decode cX12_oneDay 96 = .ok (.bipush 68, 2) := by decide +kernel
theorem dX12_oneDay_98 : decode cX12_oneDay 98 = .ok (.iaload, 1) := by decide +kernel
theorem dX12_oneDay_99 : decode cX12_oneDay 99 = .ok (.invokestatic 288, 3) := by decide +kernel
theorem dX12_oneDay_102 : decode cX12_oneDay 102 = .ok (.isub, 1) := by decide +kernel
theorem dX12_oneDay_103 : decode cX12_oneDay 103 = .ok (.iastore, 1) := by decide +kernel
theorem dX12_oneDay_104 : decode cX12_oneDay 104 = .ok (.aload_n 0, 1) := by decide +kernel
theorem dX12_oneDay_105 : decode cX12_oneDay 105 = .ok (.getfield 98, 3) := by decide +kernel
theorem dX12_oneDay_108 : decode cX12_oneDay 108 = .ok (.bipush 67, 2) := by decide +kernel
theorem dX12_oneDay_110 : decode cX12_oneDay 110 = .ok (.dup2, 1) := by decide +kernel
theorem dX12_oneDay_111 : decode cX12_oneDay 111 = .ok (.iaload, 1) := by decide +kernel
theorem dX12_oneDay_112 : decode cX12_oneDay 112 = .ok (.iconst 1, 1) := by decide +kernel
theorem dX12_oneDay_113 : decode cX12_oneDay 113 = .ok (.iadd, 1) := by decide +kernel
theorem dX12_oneDay_114 : decode cX12_oneDay 114 = .ok (.iastore, 1) := by decide +kernel
theorem dX12_oneDay_115 : decode cX12_oneDay 115 = .ok (.return_, 1) := by decide +kernel
theorem dX12_passDays_0 : decode cX12_passDays 0 = .ok (.iload_n 1, 1) := by decide +kernel
theorem dX12_passDays_1 : decode cX12_passDays 1 = .ok (.sipush 400, 3) := by decide +kernel
theorem dX12_passDays_4 : decode cX12_passDays 4 = .ok (.aload_n 0, 1) := by decide +kernel
theorem dX12_passDays_5 : decode cX12_passDays 5 = .ok (.getfield 98, 3) := by decide +kernel
theorem dX12_passDays_8 : decode cX12_passDays 8 = .ok (.bipush 67, 2) := by decide +kernel
theorem dX12_passDays_10 : decode cX12_passDays 10 = .ok (.iaload, 1) := by decide +kernel
theorem dX12_passDays_11 : decode cX12_passDays 11 = .ok (.isub, 1) := by decide +kernel
theorem dX12_passDays_12 : decode cX12_passDays 12 = .ok (.invokestatic 288, 3) := by decide +kernel
theorem dX12_passDays_15 : decode cX12_passDays 15 = .ok (.istore_n 2, 1) := by decide +kernel
theorem dX12_passDays_16 : decode cX12_passDays 16 = .ok (.iconst 0, 1) := by decide +kernel
theorem dX12_passDays_17 : decode cX12_passDays 17 = .ok (.istore_n 3, 1) := by decide +kernel
theorem dX12_passDays_18 : decode cX12_passDays 18 = .ok (.iload_n 3, 1) := by decide +kernel
theorem dX12_passDays_19 : decode cX12_passDays 19 = .ok (.iload_n 2, 1) := by decide +kernel
theorem dX12_passDays_20 : decode cX12_passDays 20 = .ok (.if_icmp .ge 13, 3) := by decide +kernel
theorem dX12_passDays_33 : decode cX12_passDays 33 = .ok (.iload_n 2, 1) := by decide +kernel
theorem dX12_passDays_34 : decode cX12_passDays 34 = .ok (.ireturn, 1) := by decide +kernel
theorem dX12_passDays_23 : decode cX12_passDays 23 = .ok (.aload_n 0, 1) := by decide +kernel
theorem dX12_passDays_24 : decode cX12_passDays 24 = .ok (.invokevirtual 309, 3) := by decide +kernel
theorem dX12_passDays_27 : decode cX12_passDays 27 = .ok (.iinc 3 1, 3) := by decide +kernel
theorem dX12_passDays_30 : decode cX12_passDays 30 = .ok (.goto (-12), 3) := by decide +kernel
theorem dX12_days_0 : decode cX12_days 0 = .ok (.aload_n 0, 1) := by decide +kernel
theorem dX12_days_1 : decode cX12_days 1 = .ok (.iconst 0, 1) := by decide +kernel
theorem dX12_days_2 : decode cX12_days 2 = .ok (.putfield 1, 3) := by decide +kernel
theorem dX12_days_5 : decode cX12_days 5 = .ok (.iload_n 1, 1) := by decide +kernel
theorem dX12_days_6 : decode cX12_days 6 = .ok (.iconst 1, 1) := by decide +kernel
theorem dX12_days_7 : decode cX12_days 7 = .ok (.bipush 60, 2) := by decide +kernel
theorem dX12_days_9 : decode cX12_days 9 = .ok (.invokestatic 75, 3) := by decide +kernel
theorem dX12_days_12 : decode cX12_days 12 = .ok (.ifCond .ne 5, 3) := by decide +kernel
theorem dX12_days_17 : decode cX12_days 17 = .ok (.aload_n 0, 1) := by decide +kernel
theorem dX12_days_18 : decode cX12_days 18 = .ok (.getfield 98, 3) := by decide +kernel
theorem dX12_days_21 : decode cX12_days 21 = .ok (.bipush 67, 2) := by decide +kernel
theorem dX12_days_23 : decode cX12_days 23 = .ok (.iaload, 1) := by decide +kernel
theorem dX12_days_24 : decode cX12_days 24 = .ok (.sipush 400, 3) := by decide +kernel
theorem dX12_days_27 : decode cX12_days 27 = .ok (.if_icmp .ne 5, 3) := by decide +kernel
theorem dX12_days_32 : decode cX12_days 32 = .ok (.aload_n 0, 1) := by decide +kernel
theorem dX12_days_33 : decode cX12_days 33 = .ok (.invokevirtual 295, 3) := by decide +kernel
theorem dX12_days_36 : decode cX12_days 36 = .ok (.aload_n 0, 1) := by decide +kernel
theorem dX12_days_37 : decode cX12_days 37 = .ok (.iload_n 1, 1) := by decide +kernel
theorem dX12_days_38 : decode cX12_days 38 = .ok (.invokevirtual 312, 3) := by decide +kernel
theorem dX12_days_41 : decode cX12_days 41 = .ok (.ireturn, 1) := by decide +kernel
theorem dX12_days_30 : decode cX12_days 30 = .ok (.iconst 0, 1) := by decide +kernel
theorem dX12_days_31 : decode cX12_days 31 = .ok (.ireturn, 1) := by decide +kernel
theorem dX12_days_15 : decode cX12_days 15 = .ok (.iconst (-1), 1) := by decide +kernel
theorem dX12_days_16 : decode cX12_days 16 = .ok (.ireturn, 1) := by decide +kernel
set_option maxRecDepth 100000 in
theorem ggX12_doStir_X12_isInSea : GoodIn wsX12_doStir wsX12_isInSea := goodIn_r _ [7, 2, 16, 17, 18, 19, 20, 21, 22, 23, 24, 25, 26, 27, 28, 29, 30, 31, 32, 33, 34, 35, 36, 37, 38, 39, 40, 41, 42, 43, 44, 45, 46, 47, 48, 49, 50, 51, 52, 53, 54, 55, 56, 57, 58, 59, 60, 61, 62, 63, 64, 65, 66, 67] rfl (by decide +kernel)
set_option maxRecDepth 100000 in
theorem ggX12_doStir_X12_stirred : GoodIn wsX12_doStir wsX12_stirred := goodIn_r _ [11, 2, 16, 17, 18, 19, 20, 21, 22, 23, 24, 25, 26, 27, 28, 29, 30, 31, 32, 33, 34, 35, 36, 37, 38, 39, 40, 41, 42, 43, 44, 45, 46, 47, 48, 49, 50, 51, 52, 53, 54, 55, 56, 57, 58, 59, 60, 61, 62, 63, 64, 65, 66, 67] rfl (by decide +kernel)
set_option maxRecDepth 100000 in
theorem ggX12_doStir_X12_isEaten : GoodIn wsX12_doStir wsX12_isEaten := goodIn_r _ [15, 2, 16, 17, 18, 19, 20, 21, 22, 23, 24, 25, 26, 27, 28, 29, 30, 31, 32, 33, 34, 35, 36, 37, 38, 39, 40, 41, 42, 43, 44, 45, 46, 47, 48, 49, 50, 51, 52, 53, 54, 55, 56, 57, 58, 59, 60, 61, 62, 63, 64, 65, 66, 67] rfl (by decide +kernel)
set_option maxRecDepth 100000 in
theorem ggX12_oneDay_X12_isAfloat : GoodIn wsX12_oneDay wsX12_isAfloat := goodIn_r _ [6, 1, 7, 8, 9, 5, 10, 11, 12, 13, 14, 15, 16, 17, 18, 19, 20, 21, 22, 26, 27, 28, 29, 30, 31, 32, 33, 34, 35, 36, 37, 38, 39, 40, 41, 42, 43, 44, 45, 46, 47, 48, 49, 50, 51, 52, 53, 54, 55, 56, 57, 58, 59, 60, 61, 62, 63, 64, 65, 66, 67, 68, 69, 70, 71, 72, 73, 74, 75, 76, 77] rfl (by decide +kernel)
set_option maxRecDepth 100000 in
theorem ggX12_oneDay_X12_isEaten : GoodIn wsX12_oneDay wsX12_isEaten := goodIn_r _ [10, 1, 26, 27, 28, 29, 30, 31, 32, 33, 34, 35, 36, 37, 38, 39, 40, 41, 42, 43, 44, 45, 46, 47, 48, 49, 50, 51, 52, 53, 54, 55, 56, 57, 58, 59, 60, 61, 62, 63, 64, 65, 66, 67, 68, 69, 70, 71, 72, 73, 74, 75, 76, 77] rfl (by decide +kernel)
set_option maxRecDepth 100000 in
theorem ggX12_oneDay_X12_least : GoodIn wsX12_oneDay wsX12_least := goodIn_r _ [25] rfl (by decide +kernel)
set_option maxRecDepth 100000 in
theorem ggX12_passDays_X12_least : GoodIn wsX12_passDays wsX12_least := goodIn_r _ [5] rfl (by decide +kernel)
set_option maxRecDepth 100000 in
theorem ggX12_passDays_X12_oneDay : GoodIn wsX12_passDays wsX12_oneDay := goodIn_r _ [9, 1, 10, 11, 12, 4, 13, 14, 15, 16, 17, 18, 19, 20, 21, 22, 23, 24, 25, 26, 27, 28, 29, 2, 3, 5, 30, 31, 32, 33, 34, 35, 36, 37, 38, 39, 40, 41, 42, 43, 44, 45, 46, 47, 48, 49, 50, 51, 52, 53, 54, 55, 56, 57, 58, 59, 60, 61, 62, 63, 64, 65, 66, 67, 68, 69, 70, 71, 72, 73, 74, 75, 76, 77, 78, 79, 80, 81] rfl (by decide +kernel)
set_option maxRecDepth 100000 in
theorem ggX12_days_X12_isIn : GoodIn wsX12_days wsX12_isIn := goodIn_r _ [6] rfl (by decide +kernel)
set_option maxRecDepth 100000 in
theorem ggX12_days_X12_snap : GoodIn wsX12_days wsX12_snap := goodIn_r _ [10, 11, 12, 2, 44, 45, 46, 47, 48, 49, 50, 51, 52, 53, 54, 55, 56, 57, 58, 59, 60, 61, 62, 63, 64, 65, 66, 67, 68, 69, 70, 71, 72, 73, 74, 75, 76, 77, 78, 79, 80, 81, 82, 83, 84, 85, 86, 87, 88, 89, 90, 91, 92, 93, 94, 95] rfl (by decide +kernel)
set_option maxRecDepth 100000 in
theorem ggX12_days_X12_passDays : GoodIn wsX12_days wsX12_passDays := goodIn_r _ [16, 2, 17, 18, 5, 19, 20, 21, 22, 23, 24, 25, 26, 27, 28, 29, 30, 31, 32, 33, 34, 35, 36, 37, 38, 39, 40, 41, 42, 43, 44, 45, 46, 47, 48, 49, 50, 51, 52, 53, 54, 55, 56, 57, 58, 59, 60, 61, 62, 63, 64, 65, 66, 67, 68, 69, 70, 71, 72, 73, 74, 75, 76, 77, 78, 79, 80, 81, 82, 83, 84, 85, 86, 87, 88, 89, 90, 91, 92, 93, 94, 95] rfl (by decide +kernel)
set_option maxRecDepth 100000 in
theorem gX12_doStir_X12_isInSea : GoodIn wsX12_doStir (wsV RX12 279 RX12 yX12_isInSea wsX12_isInSea) := goodIn_app (goodIn_of _ (by decide +kernel)) ggX12_doStir_X12_isInSea
set_option maxRecDepth 100000 in
theorem gX12_doStir_X12_stirred : GoodIn wsX12_doStir (wsV RX12 282 RX12 yX12_stirred wsX12_stirred) := goodIn_app (goodIn_of _ (by decide +kernel)) ggX12_doStir_X12_stirred
set_option maxRecDepth 100000 in
theorem gX12_doStir_X12_isEaten : GoodIn wsX12_doStir (wsV RX12 246 RX12 yX12_isEaten wsX12_isEaten) := goodIn_app (goodIn_of _ (by decide +kernel)) ggX12_doStir_X12_isEaten
set_option maxRecDepth 100000 in
theorem gX12_oneDay_X12_isAfloat : GoodIn wsX12_oneDay (wsV RX12 266 RX12 yX12_isAfloat wsX12_isAfloat) := goodIn_app (goodIn_of _ (by decide +kernel)) ggX12_oneDay_X12_isAfloat
set_option maxRecDepth 100000 in
theorem gX12_oneDay_X12_isEaten : GoodIn wsX12_oneDay (wsV RX12 246 RX12 yX12_isEaten wsX12_isEaten) := goodIn_app (goodIn_of _ (by decide +kernel)) ggX12_oneDay_X12_isEaten
set_option maxRecDepth 100000 in
theorem gX12_oneDay_X12_least : GoodIn wsX12_oneDay (va_wsS RX12 288 yX12_least wsX12_least) := goodIn_app (goodIn_of _ (by decide +kernel)) ggX12_oneDay_X12_least
set_option maxRecDepth 100000 in
theorem gX12_passDays_X12_least : GoodIn wsX12_passDays (va_wsS RX12 288 yX12_least wsX12_least) := goodIn_app (goodIn_of _ (by decide +kernel)) ggX12_passDays_X12_least
set_option maxRecDepth 100000 in
theorem gX12_passDays_X12_oneDay : GoodIn wsX12_passDays (wsV RX12 309 RX12 yX12_oneDay wsX12_oneDay) := goodIn_app (goodIn_of _ (by decide +kernel)) ggX12_passDays_X12_oneDay
set_option maxRecDepth 100000 in
theorem gX12_days_X12_isIn : GoodIn wsX12_days (va_wsS RX12 75 yX12_isIn wsX12_isIn) := goodIn_app (goodIn_of _ (by decide +kernel)) ggX12_days_X12_isIn
set_option maxRecDepth 100000 in
theorem gX12_days_X12_snap : GoodIn wsX12_days (wsV RX12 295 RX12 yX12_snap wsX12_snap) := goodIn_app (goodIn_of _ (by decide +kernel)) ggX12_days_X12_snap
set_option maxRecDepth 100000 in
theorem gX12_days_X12_passDays : GoodIn wsX12_days (wsV RX12 312 RX12 yX12_passDays wsX12_passDays) := goodIn_app (goodIn_of _ (by decide +kernel)) ggX12_days_X12_passDays
set_option maxRecDepth 20000 in
theorem lf_x_isEatenN_1 (knowF : Nat → Int32) (bq : Nat) (y1 : Int32) (ab_now : NB knowF) (hb6 : bq < 6) (e2 : y1 = knowF (125 + bq)) : (125 + bq) < 373 := by
  have b_y1 := ia_b y1
  try simp only [ia_lt, ia_le, ia_eq, ia_m1, ia_0, ia_1, ne_eq, true_and, and_true, false_and, and_false, or_false, false_or, or_true, true_or, not_true_eq_false, not_false_eq_true] at *
  all_goals omega
set_option maxRecDepth 20000 in
theorem lf_x_isEatenN_2 (knowF : Nat → Int32) (bq : Nat) (y1 : Int32) (ab_now : NB knowF) (hb6 : bq < 6) (e2 : y1 = knowF (125 + bq)) (c3 : y1 ≠ nI 3) : ((nI 0) = nI 1 ∧ (knowF (125 + bq) = nI 3)) ∨ ((nI 0) = nI 0 ∧ (¬ knowF (125 + bq) = nI 3)) := by
  have b_y1 := ia_b y1
  try have k_0 := ia_n 3 (by first | decide | omega)
  try have k_1 := ia_n 0 (by first | decide | omega)
  try have k_2 := ia_n 1 (by first | decide | omega)
  try simp only [ia_lt, ia_le, ia_eq, ia_m1, ia_0, ia_1, ne_eq, true_and, and_true, false_and, and_false, or_false, false_or, or_true, true_or, not_true_eq_false, not_false_eq_true] at *
  all_goals omega
set_option maxRecDepth 20000 in
theorem lf_x_isEatenN_3 (knowF : Nat → Int32) (bq : Nat) (y1 : Int32) (ab_now : NB knowF) (hb6 : bq < 6) (e2 : y1 = knowF (125 + bq)) (c3 : y1 = nI 3) : ((nI 1) = nI 1 ∧ (knowF (125 + bq) = nI 3)) ∨ ((nI 1) = nI 0 ∧ (¬ knowF (125 + bq) = nI 3)) := by
  have b_y1 := ia_b y1
  try have k_0 := ia_n 3 (by first | decide | omega)
  try have k_1 := ia_n 1 (by first | decide | omega)
  try have k_2 := ia_n 0 (by first | decide | omega)
  try simp only [ia_lt, ia_le, ia_eq, ia_m1, ia_0, ia_1, ne_eq, true_and, and_true, false_and, and_false, or_false, false_or, or_true, true_or, not_true_eq_false, not_false_eq_true] at *
  all_goals omega
set_option maxHeartbeats 4000000 in
set_option maxRecDepth 100000 in
theorem c_x_isEatenN (l : Launch) (dC : Nat → ClassId) (dI : Nat → Nat → Nat) (ky : Nat → ClassId) (o : Nat) (kthrown : Int32) (ktape : Nat) (ktaped : Nat) (ksize : Nat) (klimit : Nat) (kto : Nat) (kfrom : Nat) (kkind : Int32) (knumber : Int32) (ksign : Int32) (kfault : Int32) (kplace : Int32) (kword : Int64) (ktold : Int32) (know : Nat) (kread : Nat) (kkept : Nat) (ksnaps : Nat) (kaside : Nat) (kname : Nat) (kreadName : Nat) (kkeptName : Nat) (kisKept : Nat) (konces : Nat) (ksnapMany : Nat) (khasCells : Int32) (kpoured : Nat) (kfar : Nat) (ksides : Nat) (ksideMany : Nat) (kwayDays : Int32) (khasWay : Int32) (klines : Nat) (kmet : Nat) (kmetMany : Nat) (ksunk : Nat) (ktrying : Nat) (ksunkMany : Nat) (ksending : Int32) (kfleets : Int32) (ktext : Nat) (ktexts : Nat) (kseed : Int32) (kline : Nat) (kwritten : Nat) (klineMany : Nat) (khasWritten : Int32) (knode : Nat) (knodes : Nat) (konesMany : Nat) (kwithin : Nat) (ktop : Nat) (knowF : Nat → Int32) (bq : Nat) (iv_ko_0 : ktaped ≤ 940) (iv_ko_1 : ksize ≤ 940) (iv_ko_2 : klimit ≤ 900) (iv_ko_3 : kto ≤ ksize) (iv_ko_4 : kfrom ≤ 940) (iv_ko_5 : ksnapMany ≤ 8) (iv_ko_6 : ksideMany ≤ 36) (iv_ko_7 : kmetMany ≤ 3) (iv_ko_8 : ksunkMany ≤ 36) (iv_ko_9 : ktexts ≤ 64) (iv_ko_10 : klineMany ≤ 40) (iv_ko_11 : knodes ≤ 60) (iv_ko_12 : konesMany ≤ 20) (iv_ko_13 : kwithin ≤ 8) (iv_ko_14 : ktop ≤ 59) (ab_now : NB knowF) (hb6 : bq < 6) : Met l yX12_isEaten wsX12_isEaten ({ frames := 0, cells := 0, slots := 0, locals := 0 }) (PcP dC dI ky [.ref o, .int (nI bq)] [(o, .inr (12, [.int kthrown, .ref ktape, .int (nI ktaped), .int (nI ksize), .int (nI klimit), .int (nI kto), .int (nI kfrom), .int kkind, .int knumber, .int ksign, .int kfault, .int kplace, .long kword, .int ktold, .ref know, .ref kread, .ref kkept, .ref ksnaps, .ref kaside, .ref kname, .ref kreadName, .ref kkeptName, .ref kisKept, .ref konces, .int (nI ksnapMany), .int khasCells, .ref kpoured, .ref kfar, .ref ksides, .int (nI ksideMany), .int kwayDays, .int khasWay, .ref klines, .ref kmet, .int (nI kmetMany), .ref ksunk, .ref ktrying, .int (nI ksunkMany), .int ksending, .int kfleets, .ref ktext, .int (nI ktexts), .int kseed, .ref kline, .ref kwritten, .int (nI klineMany), .int khasWritten, .ref knode, .int (nI knodes), .int (nI konesMany), .int (nI kwithin), .int (nI ktop)])), (know, .inl (ky 0, 373, .inl knowF))]) (vp_Si (fun r : Int32 => (r = nI 1 ∧ (knowF (125 + bq) = nI 3)) ∨ (r = nI 0 ∧ (¬ knowF (125 + bq) = nI 3)))) 0 0 (fun _ => False) := by
  refine Met.ofW (cc := cX12_isEaten) (maxL := 2) (ret := (some .boolean)) (by decide) rfl ?_
  intro p e s m args below meth c s₁ B hml hv
  obtain ⟨rfl, hP, hK⟩ := hv
  have hx := B.exec
  have hb := B.bytes
  have hr := B.returns
  have hts := atoms_spec (ws := wsX12_isEaten) B.pre
  have hown : s.vm.findClass RX12 = some m.cls := findClass_of_methodNamed B.named
  have hlocks := B.notSynchronized
  have hin12 : ∀ w ∈ u_ws RX12 TX12 52, w ∈ wsX12_isEaten := by decide +kernel
  have hl := lv_entry ([.ref o, .int (nI bq)]) (n := 2) (Nat.le_of_ble_eq_true rfl)
  rw [lg_entry_eq]
  generalize (lg_sl ([.ref o, .int (nI bq)]) ++ List.replicate (2 - (lg_sl ([.ref o, .int (nI bq)])).length) Slot.unset).toArray = ls at hl ⊢
  have hl : lv_has ls 2 [(0, .ref o), (1, .int (nI bq))] := hl
  refine q_name (fun Q hQ => ?_)
  generalize ([.ref o, .int (nI bq)] : List Value).toArray = args at hts hQ ⊢
  refine lv_aload_n hx hb dX12_isEaten_0 rfl (lv_at hl 0 rfl) ?_
  refine va_get (D := (dC, dI)) (ci := 12) (v := .ref know) (C := RX12) (T := TX12) (N := 52) hx hb hts hin12 hown hK hP 0 rfl rfl 14 (by decide) (hts (.fieldLink RX12 98 "PorridgeSeaModel" "now" "[I") (List.mem_of_getElem? (i := 1) rfl)) (fun _ h9 => h9) rfl dX12_isEaten_1 ?_
  refine lv_bipush (v := nI 125) hx hb dX12_isEaten_4 (by decide) ?_
  refine lv_iload_n hx hb dX12_isEaten_6 rfl (lv_at hl 1 rfl) ?_
  refine lv_iadd hx hb dX12_isEaten_7 ?_
  refine r_ti (nI (125 + bq)) (nI_add _ _) ?_
  obtain ⟨y1, e2⟩ : ∃ z9, z9 = knowF (125 + bq) := ⟨_, rfl⟩
  refine r_iald hx hb hK hP 1 rfl (125 + bq) (lf_x_isEatenN_1 knowF bq y1 ab_now hb6 e2) (by decide) y1 e2.symm dX12_isEaten_8 ?_
  refine lv_iconst (v := nI 3) hx hb dX12_isEaten_9 (by decide) ?_
  refine lv_icmp_ne (tgt := 17) hx hb dX12_isEaten_10 (by decide) (fun c3 => ?_) (fun c3 => ?_)
  · refine lv_iconst (v := nI 0) hx hb dX12_isEaten_17 (by decide) ?_
    rw [hQ]
    exact W.zret (v := nI 0) hx hb hr (by decide) (fun t9 ht9 hW9 => ⟨nI 0, rfl, (lf_x_isEatenN_2 knowF bq y1 ab_now hb6 e2 c3), ht9⟩) (fun _ h => absurd h List.not_mem_nil) dX12_isEaten_18
  · refine lv_iconst (v := nI 1) hx hb dX12_isEaten_13 (by decide) ?_
    refine lv_goto (tgt := 18) hx hb dX12_isEaten_14 (by decide) ?_
    rw [hQ]
    exact W.zret (v := nI 1) hx hb hr (by decide) (fun t9 ht9 hW9 => ⟨nI 1, rfl, (lf_x_isEatenN_3 knowF bq y1 ab_now hb6 e2 c3), ht9⟩) (fun _ h => absurd h List.not_mem_nil) dX12_isEaten_18
set_option maxRecDepth 20000 in
theorem lf_x_doStir_1 (k89 : Nat) (f90 : Nat → Int32) (n95 : Nat) (y98 : Int32) (y103 : Int32) (y105 : Int32) (j91 : k89 ≤ 6) (j92 : NB f90) (j93 : SB f90) (hm97 : 6 - k89 < n95 + 1) (e99 : y98 = f90 3) (b100 : 0 ≤ y98.toInt) (b101 : y98.toInt ≤ 6) (c102 : y98 ≤ nI k89) (e104 : y103 = f90 69) (e106 : y105 = y103 + (nI 1)) : -2147483648 ≤ (y105).toInt := by
  have b_y98 := ia_b y98
  have b_y103 := ia_b y103
  have b_y105 := ia_b y105
  try have k_0 := ia_n k89 (by first | decide | omega)
  try have k_1 := ia_n 1 (by first | decide | omega)
  try simp only [ia_lt, ia_le, ia_eq, ia_m1, ia_0, ia_1, ne_eq, true_and, and_true, false_and, and_false, or_false, false_or, or_true, true_or, not_true_eq_false, not_false_eq_true] at *
  all_goals omega
set_option maxRecDepth 20000 in
theorem lf_x_doStir_2 (k89 : Nat) (f90 : Nat → Int32) (n95 : Nat) (y98 : Int32) (y103 : Int32) (y105 : Int32) (j91 : k89 ≤ 6) (j92 : NB f90) (j93 : SB f90) (hm97 : 6 - k89 < n95 + 1) (e99 : y98 = f90 3) (b100 : 0 ≤ y98.toInt) (b101 : y98.toInt ≤ 6) (c102 : y98 ≤ nI k89) (e104 : y103 = f90 69) (e106 : y105 = y103 + (nI 1)) : (y105).toInt ≤ 2147483647 := by
  have b_y98 := ia_b y98
  have b_y103 := ia_b y103
  have b_y105 := ia_b y105
  try have k_0 := ia_n k89 (by first | decide | omega)
  try have k_1 := ia_n 1 (by first | decide | omega)
  try simp only [ia_lt, ia_le, ia_eq, ia_m1, ia_0, ia_1, ne_eq, true_and, and_true, false_and, and_false, or_false, false_or, or_true, true_or, not_true_eq_false, not_false_eq_true] at *
  all_goals omega
set_option maxRecDepth 20000 in
theorem lf_x_doStir_3 (k89 : Nat) (f90 : Nat → Int32) (n95 : Nat) (y98 : Int32) (j91 : k89 ≤ 6) (j92 : NB f90) (j93 : SB f90) (hm97 : 6 - k89 < n95 + 1) (e99 : y98 = f90 3) (b100 : 0 ≤ y98.toInt) (b101 : y98.toInt ≤ 6) (c102 : ¬ y98 ≤ nI k89) : k89 < 6 := by
  have b_y98 := ia_b y98
  try have k_0 := ia_n k89 (by first | decide | omega)
  try simp only [ia_lt, ia_le, ia_eq, ia_m1, ia_0, ia_1, ne_eq, true_and, and_true, false_and, and_false, or_false, false_or, or_true, true_or, not_true_eq_false, not_false_eq_true] at *
  all_goals omega
set_option maxRecDepth 20000 in
theorem lf_x_doStir_4 (k89 : Nat) (f90 : Nat → Int32) (n95 : Nat) (y98 : Int32) (j91 : k89 ≤ 6) (j92 : NB f90) (j93 : SB f90) (hm97 : 6 - k89 < n95 + 1) (e99 : y98 = f90 3) (b100 : 0 ≤ y98.toInt) (b101 : y98.toInt ≤ 6) (c102 : ¬ y98 ≤ nI k89) (t113 : f90 (125 + k89) = nI 3) : (k89 + 1) ≤ 6 := by
  have b_y98 := ia_b y98
  try have k_0 := ia_n k89 (by first | decide | omega)
  try have k_1 := ia_n 3 (by first | decide | omega)
  try simp only [ia_lt, ia_le, ia_eq, ia_m1, ia_0, ia_1, ne_eq, true_and, and_true, false_and, and_false, or_false, false_or, or_true, true_or, not_true_eq_false, not_false_eq_true] at *
  all_goals omega
set_option maxRecDepth 20000 in
theorem lf_x_doStir_5 (k89 : Nat) (f90 : Nat → Int32) (n95 : Nat) (y98 : Int32) (j91 : k89 ≤ 6) (j92 : NB f90) (j93 : SB f90) (hm97 : 6 - k89 < n95 + 1) (e99 : y98 = f90 3) (b100 : 0 ≤ y98.toInt) (b101 : y98.toInt ≤ 6) (c102 : ¬ y98 ≤ nI k89) (t113 : f90 (125 + k89) = nI 3) : 6 - (k89 + 1) < n95 := by
  have b_y98 := ia_b y98
  try have k_0 := ia_n k89 (by first | decide | omega)
  try have k_1 := ia_n 3 (by first | decide | omega)
  try simp only [ia_lt, ia_le, ia_eq, ia_m1, ia_0, ia_1, ne_eq, true_and, and_true, false_and, and_false, or_false, false_or, or_true, true_or, not_true_eq_false, not_false_eq_true] at *
  all_goals omega
set_option maxRecDepth 20000 in
theorem lf_x_doStir_6 (k89 : Nat) (f90 : Nat → Int32) (n95 : Nat) (y98 : Int32) (y117 : Int32) (j91 : k89 ≤ 6) (j92 : NB f90) (j93 : SB f90) (hm97 : 6 - k89 < n95 + 1) (e99 : y98 = f90 3) (b100 : 0 ≤ y98.toInt) (b101 : y98.toInt ≤ 6) (c102 : ¬ y98 ≤ nI k89) (t114 : ¬ f90 (125 + k89) = nI 3) (e118 : y117 = f90 (113 + k89)) : (113 + k89) < 373 := by
  have b_y98 := ia_b y98
  have b_y117 := ia_b y117
  try have k_0 := ia_n k89 (by first | decide | omega)
  try have k_1 := ia_n 3 (by first | decide | omega)
  try simp only [ia_lt, ia_le, ia_eq, ia_m1, ia_0, ia_1, ne_eq, true_and, and_true, false_and, and_false, or_false, false_or, or_true, true_or, not_true_eq_false, not_false_eq_true] at *
  all_goals omega
set_option maxRecDepth 20000 in
theorem lf_x_doStir_7 (k89 : Nat) (f90 : Nat → Int32) (n95 : Nat) (y98 : Int32) (y117 : Int32) (j91 : k89 ≤ 6) (j92 : NB f90) (j93 : SB f90) (hm97 : 6 - k89 < n95 + 1) (e99 : y98 = f90 3) (b100 : 0 ≤ y98.toInt) (b101 : y98.toInt ≤ 6) (c102 : ¬ y98 ≤ nI k89) (t114 : ¬ f90 (125 + k89) = nI 3) (e118 : y117 = f90 (113 + k89)) : 107 ≤ (113 + k89) := by
  have b_y98 := ia_b y98
  have b_y117 := ia_b y117
  try have k_0 := ia_n k89 (by first | decide | omega)
  try have k_1 := ia_n 3 (by first | decide | omega)
  try simp only [ia_lt, ia_le, ia_eq, ia_m1, ia_0, ia_1, ne_eq, true_and, and_true, false_and, and_false, or_false, false_or, or_true, true_or, not_true_eq_false, not_false_eq_true] at *
  all_goals omega
set_option maxRecDepth 20000 in
theorem lf_x_doStir_8 (k89 : Nat) (f90 : Nat → Int32) (n95 : Nat) (y98 : Int32) (y117 : Int32) (j91 : k89 ≤ 6) (j92 : NB f90) (j93 : SB f90) (hm97 : 6 - k89 < n95 + 1) (e99 : y98 = f90 3) (b100 : 0 ≤ y98.toInt) (b101 : y98.toInt ≤ 6) (c102 : ¬ y98 ≤ nI k89) (t114 : ¬ f90 (125 + k89) = nI 3) (e118 : y117 = f90 (113 + k89)) : (113 + k89) < 119 := by
  have b_y98 := ia_b y98
  have b_y117 := ia_b y117
  try have k_0 := ia_n k89 (by first | decide | omega)
  try have k_1 := ia_n 3 (by first | decide | omega)
  try simp only [ia_lt, ia_le, ia_eq, ia_m1, ia_0, ia_1, ne_eq, true_and, and_true, false_and, and_false, or_false, false_or, or_true, true_or, not_true_eq_false, not_false_eq_true] at *
  all_goals omega
set_option maxRecDepth 20000 in
theorem lf_x_doStir_9 (k89 : Nat) (f90 : Nat → Int32) (n95 : Nat) (y98 : Int32) (y117 : Int32) (j91 : k89 ≤ 6) (j92 : NB f90) (j93 : SB f90) (hm97 : 6 - k89 < n95 + 1) (e99 : y98 = f90 3) (b100 : 0 ≤ y98.toInt) (b101 : y98.toInt ≤ 6) (c102 : ¬ y98 ≤ nI k89) (t114 : ¬ f90 (125 + k89) = nI 3) (e118 : y117 = f90 (113 + k89)) (b119 : 0 ≤ y117.toInt) (b120 : y117.toInt ≤ 35) : 0 ≤ y117.toInt ∧ y117.toInt ≤ 35 := by
  have b_y98 := ia_b y98
  have b_y117 := ia_b y117
  try have k_0 := ia_n k89 (by first | decide | omega)
  try have k_1 := ia_n 3 (by first | decide | omega)
  try simp only [ia_lt, ia_le, ia_eq, ia_m1, ia_0, ia_1, ne_eq, true_and, and_true, false_and, and_false, or_false, false_or, or_true, true_or, not_true_eq_false, not_false_eq_true] at *
  all_goals omega
set_option maxRecDepth 20000 in
theorem lf_x_doStir_10 (k123 : Nat) (h125 : k123 < 36) : 0 ≤ (nI k123).toInt := by
  try have k_0 := ia_n k123 (by first | decide | omega)
  try simp only [ia_lt, ia_le, ia_eq, ia_m1, ia_0, ia_1, ne_eq, true_and, and_true, false_and, and_false, or_false, false_or, or_true, true_or, not_true_eq_false, not_false_eq_true] at *
  all_goals omega
set_option maxRecDepth 20000 in
theorem lf_x_doStir_11 (k123 : Nat) (h125 : k123 < 36) : (nI k123).toInt ≤ 35 := by
  try have k_0 := ia_n k123 (by first | decide | omega)
  try simp only [ia_lt, ia_le, ia_eq, ia_m1, ia_0, ia_1, ne_eq, true_and, and_true, false_and, and_false, or_false, false_or, or_true, true_or, not_true_eq_false, not_false_eq_true] at *
  all_goals omega
set_option maxRecDepth 20000 in
theorem lf_x_doStir_12 (k89 : Nat) (f90 : Nat → Int32) (n95 : Nat) (y98 : Int32) (y117 : Int32) (j91 : k89 ≤ 6) (j92 : NB f90) (j93 : SB f90) (hm97 : 6 - k89 < n95 + 1) (e99 : y98 = f90 3) (b100 : 0 ≤ y98.toInt) (b101 : y98.toInt ≤ 6) (c102 : ¬ y98 ≤ nI k89) (t114 : ¬ f90 (125 + k89) = nI 3) (e118 : y117 = f90 (113 + k89)) (b119 : 0 ≤ y117.toInt) (b120 : y117.toInt ≤ 35) : (113 + k89) < 373 := by
  have b_y98 := ia_b y98
  have b_y117 := ia_b y117
  try have k_0 := ia_n k89 (by first | decide | omega)
  try have k_1 := ia_n 3 (by first | decide | omega)
  try simp only [ia_lt, ia_le, ia_eq, ia_m1, ia_0, ia_1, ne_eq, true_and, and_true, false_and, and_false, or_false, false_or, or_true, true_or, not_true_eq_false, not_false_eq_true] at *
  all_goals omega
set_option maxRecDepth 20000 in
theorem lf_x_doStir_13 (k89 : Nat) (f90 : Nat → Int32) (n95 : Nat) (y98 : Int32) (y117 : Int32) (j91 : k89 ≤ 6) (j92 : NB f90) (j93 : SB f90) (hm97 : 6 - k89 < n95 + 1) (e99 : y98 = f90 3) (b100 : 0 ≤ y98.toInt) (b101 : y98.toInt ≤ 6) (c102 : ¬ y98 ≤ nI k89) (t114 : ¬ f90 (125 + k89) = nI 3) (e118 : y117 = f90 (113 + k89)) (b119 : 0 ≤ y117.toInt) (b120 : y117.toInt ≤ 35) : 107 ≤ (113 + k89) := by
  have b_y98 := ia_b y98
  have b_y117 := ia_b y117
  try have k_0 := ia_n k89 (by first | decide | omega)
  try have k_1 := ia_n 3 (by first | decide | omega)
  try simp only [ia_lt, ia_le, ia_eq, ia_m1, ia_0, ia_1, ne_eq, true_and, and_true, false_and, and_false, or_false, false_or, or_true, true_or, not_true_eq_false, not_false_eq_true] at *
  all_goals omega
set_option maxRecDepth 20000 in
theorem lf_x_doStir_14 (k89 : Nat) (f90 : Nat → Int32) (n95 : Nat) (y98 : Int32) (y117 : Int32) (j91 : k89 ≤ 6) (j92 : NB f90) (j93 : SB f90) (hm97 : 6 - k89 < n95 + 1) (e99 : y98 = f90 3) (b100 : 0 ≤ y98.toInt) (b101 : y98.toInt ≤ 6) (c102 : ¬ y98 ≤ nI k89) (t114 : ¬ f90 (125 + k89) = nI 3) (e118 : y117 = f90 (113 + k89)) (b119 : 0 ≤ y117.toInt) (b120 : y117.toInt ≤ 35) : (113 + k89) < 119 := by
  have b_y98 := ia_b y98
  have b_y117 := ia_b y117
  try have k_0 := ia_n k89 (by first | decide | omega)
  try have k_1 := ia_n 3 (by first | decide | omega)
  try simp only [ia_lt, ia_le, ia_eq, ia_m1, ia_0, ia_1, ne_eq, true_and, and_true, false_and, and_false, or_false, false_or, or_true, true_or, not_true_eq_false, not_false_eq_true] at *
  all_goals omega
set_option maxRecDepth 20000 in
theorem lf_x_doStir_15 (k89 : Nat) (f90 : Nat → Int32) (n95 : Nat) (y98 : Int32) (y117 : Int32) (j91 : k89 ≤ 6) (j92 : NB f90) (j93 : SB f90) (hm97 : 6 - k89 < n95 + 1) (e99 : y98 = f90 3) (b100 : 0 ≤ y98.toInt) (b101 : y98.toInt ≤ 6) (c102 : ¬ y98 ≤ nI k89) (t114 : ¬ f90 (125 + k89) = nI 3) (e118 : y117 = f90 (113 + k89)) (b119 : 0 ≤ y117.toInt) (b120 : y117.toInt ≤ 35) : (k89 + 1) ≤ 6 := by
  have b_y98 := ia_b y98
  have b_y117 := ia_b y117
  try have k_0 := ia_n k89 (by first | decide | omega)
  try have k_1 := ia_n 3 (by first | decide | omega)
  try simp only [ia_lt, ia_le, ia_eq, ia_m1, ia_0, ia_1, ne_eq, true_and, and_true, false_and, and_false, or_false, false_or, or_true, true_or, not_true_eq_false, not_false_eq_true] at *
  all_goals omega
set_option maxRecDepth 20000 in
theorem lf_x_doStir_16 (k89 : Nat) (f90 : Nat → Int32) (n95 : Nat) (y98 : Int32) (y117 : Int32) (j91 : k89 ≤ 6) (j92 : NB f90) (j93 : SB f90) (hm97 : 6 - k89 < n95 + 1) (e99 : y98 = f90 3) (b100 : 0 ≤ y98.toInt) (b101 : y98.toInt ≤ 6) (c102 : ¬ y98 ≤ nI k89) (t114 : ¬ f90 (125 + k89) = nI 3) (e118 : y117 = f90 (113 + k89)) (b119 : 0 ≤ y117.toInt) (b120 : y117.toInt ≤ 35) : 6 - (k89 + 1) < n95 := by
  have b_y98 := ia_b y98
  have b_y117 := ia_b y117
  try have k_0 := ia_n k89 (by first | decide | omega)
  try have k_1 := ia_n 3 (by first | decide | omega)
  try simp only [ia_lt, ia_le, ia_eq, ia_m1, ia_0, ia_1, ne_eq, true_and, and_true, false_and, and_false, or_false, false_or, or_true, true_or, not_true_eq_false, not_false_eq_true] at *
  all_goals omega
set_option maxRecDepth 20000 in
theorem lf_x_doStir_17   : 0 ≤ 6 := by
  try simp only [ia_lt, ia_le, ia_eq, ia_m1, ia_0, ia_1, ne_eq, true_and, and_true, false_and, and_false, or_false, false_or, or_true, true_or, not_true_eq_false, not_false_eq_true] at *
  all_goals omega
set_option maxRecDepth 20000 in
theorem lf_x_doStir_18 (k65 : Nat) (f66 : Nat → Int32) (n71 : Nat) (y74 : Int32) (y130 : Int32) (j67 : k65 ≤ 6) (j68 : NB f66) (j69 : SB f66) (hm73 : 6 - k65 < n71 + 1) (e75 : y74 = f66 2) (b76 : 0 ≤ y74.toInt) (b77 : y74.toInt ≤ 6) (c78 : ¬ y74 ≤ nI k65) (e131 : y130 = f66 (107 + k65)) : (107 + k65) < 373 := by
  have b_y74 := ia_b y74
  have b_y130 := ia_b y130
  try have k_0 := ia_n k65 (by first | decide | omega)
  try simp only [ia_lt, ia_le, ia_eq, ia_m1, ia_0, ia_1, ne_eq, true_and, and_true, false_and, and_false, or_false, false_or, or_true, true_or, not_true_eq_false, not_false_eq_true] at *
  all_goals omega
set_option maxRecDepth 20000 in
theorem lf_x_doStir_19 (k65 : Nat) (f66 : Nat → Int32) (n71 : Nat) (y74 : Int32) (y130 : Int32) (j67 : k65 ≤ 6) (j68 : NB f66) (j69 : SB f66) (hm73 : 6 - k65 < n71 + 1) (e75 : y74 = f66 2) (b76 : 0 ≤ y74.toInt) (b77 : y74.toInt ≤ 6) (c78 : ¬ y74 ≤ nI k65) (e131 : y130 = f66 (107 + k65)) : 107 ≤ (107 + k65) := by
  have b_y74 := ia_b y74
  have b_y130 := ia_b y130
  try have k_0 := ia_n k65 (by first | decide | omega)
  try simp only [ia_lt, ia_le, ia_eq, ia_m1, ia_0, ia_1, ne_eq, true_and, and_true, false_and, and_false, or_false, false_or, or_true, true_or, not_true_eq_false, not_false_eq_true] at *
  all_goals omega
set_option maxRecDepth 20000 in
theorem lf_x_doStir_20 (k65 : Nat) (f66 : Nat → Int32) (n71 : Nat) (y74 : Int32) (y130 : Int32) (j67 : k65 ≤ 6) (j68 : NB f66) (j69 : SB f66) (hm73 : 6 - k65 < n71 + 1) (e75 : y74 = f66 2) (b76 : 0 ≤ y74.toInt) (b77 : y74.toInt ≤ 6) (c78 : ¬ y74 ≤ nI k65) (e131 : y130 = f66 (107 + k65)) : (107 + k65) < 119 := by
  have b_y74 := ia_b y74
  have b_y130 := ia_b y130
  try have k_0 := ia_n k65 (by first | decide | omega)
  try simp only [ia_lt, ia_le, ia_eq, ia_m1, ia_0, ia_1, ne_eq, true_and, and_true, false_and, and_false, or_false, false_or, or_true, true_or, not_true_eq_false, not_false_eq_true] at *
  all_goals omega
set_option maxRecDepth 20000 in
theorem lf_x_doStir_21 (k65 : Nat) (f66 : Nat → Int32) (n71 : Nat) (y74 : Int32) (y130 : Int32) (j67 : k65 ≤ 6) (j68 : NB f66) (j69 : SB f66) (hm73 : 6 - k65 < n71 + 1) (e75 : y74 = f66 2) (b76 : 0 ≤ y74.toInt) (b77 : y74.toInt ≤ 6) (c78 : ¬ y74 ≤ nI k65) (e131 : y130 = f66 (107 + k65)) (b132 : 0 ≤ y130.toInt) (b133 : y130.toInt ≤ 35) : 0 ≤ y130.toInt ∧ y130.toInt ≤ 35 := by
  have b_y74 := ia_b y74
  have b_y130 := ia_b y130
  try have k_0 := ia_n k65 (by first | decide | omega)
  try simp only [ia_lt, ia_le, ia_eq, ia_m1, ia_0, ia_1, ne_eq, true_and, and_true, false_and, and_false, or_false, false_or, or_true, true_or, not_true_eq_false, not_false_eq_true] at *
  all_goals omega
set_option maxRecDepth 20000 in
theorem lf_x_doStir_22 (k136 : Nat) (h138 : k136 < 36) : 0 ≤ (nI k136).toInt := by
  try have k_0 := ia_n k136 (by first | decide | omega)
  try simp only [ia_lt, ia_le, ia_eq, ia_m1, ia_0, ia_1, ne_eq, true_and, and_true, false_and, and_false, or_false, false_or, or_true, true_or, not_true_eq_false, not_false_eq_true] at *
  all_goals omega
set_option maxRecDepth 20000 in
theorem lf_x_doStir_23 (k136 : Nat) (h138 : k136 < 36) : (nI k136).toInt ≤ 35 := by
  try have k_0 := ia_n k136 (by first | decide | omega)
  try simp only [ia_lt, ia_le, ia_eq, ia_m1, ia_0, ia_1, ne_eq, true_and, and_true, false_and, and_false, or_false, false_or, or_true, true_or, not_true_eq_false, not_false_eq_true] at *
  all_goals omega
set_option maxRecDepth 20000 in
theorem lf_x_doStir_24 (k65 : Nat) (f66 : Nat → Int32) (n71 : Nat) (y74 : Int32) (y130 : Int32) (j67 : k65 ≤ 6) (j68 : NB f66) (j69 : SB f66) (hm73 : 6 - k65 < n71 + 1) (e75 : y74 = f66 2) (b76 : 0 ≤ y74.toInt) (b77 : y74.toInt ≤ 6) (c78 : ¬ y74 ≤ nI k65) (e131 : y130 = f66 (107 + k65)) (b132 : 0 ≤ y130.toInt) (b133 : y130.toInt ≤ 35) : (107 + k65) < 373 := by
  have b_y74 := ia_b y74
  have b_y130 := ia_b y130
  try have k_0 := ia_n k65 (by first | decide | omega)
  try simp only [ia_lt, ia_le, ia_eq, ia_m1, ia_0, ia_1, ne_eq, true_and, and_true, false_and, and_false, or_false, false_or, or_true, true_or, not_true_eq_false, not_false_eq_true] at *
  all_goals omega
set_option maxRecDepth 20000 in
theorem lf_x_doStir_25 (k65 : Nat) (f66 : Nat → Int32) (n71 : Nat) (y74 : Int32) (y130 : Int32) (j67 : k65 ≤ 6) (j68 : NB f66) (j69 : SB f66) (hm73 : 6 - k65 < n71 + 1) (e75 : y74 = f66 2) (b76 : 0 ≤ y74.toInt) (b77 : y74.toInt ≤ 6) (c78 : ¬ y74 ≤ nI k65) (e131 : y130 = f66 (107 + k65)) (b132 : 0 ≤ y130.toInt) (b133 : y130.toInt ≤ 35) : 107 ≤ (107 + k65) := by
  have b_y74 := ia_b y74
  have b_y130 := ia_b y130
  try have k_0 := ia_n k65 (by first | decide | omega)
  try simp only [ia_lt, ia_le, ia_eq, ia_m1, ia_0, ia_1, ne_eq, true_and, and_true, false_and, and_false, or_false, false_or, or_true, true_or, not_true_eq_false, not_false_eq_true] at *
  all_goals omega
set_option maxRecDepth 20000 in
theorem lf_x_doStir_26 (k65 : Nat) (f66 : Nat → Int32) (n71 : Nat) (y74 : Int32) (y130 : Int32) (j67 : k65 ≤ 6) (j68 : NB f66) (j69 : SB f66) (hm73 : 6 - k65 < n71 + 1) (e75 : y74 = f66 2) (b76 : 0 ≤ y74.toInt) (b77 : y74.toInt ≤ 6) (c78 : ¬ y74 ≤ nI k65) (e131 : y130 = f66 (107 + k65)) (b132 : 0 ≤ y130.toInt) (b133 : y130.toInt ≤ 35) : (107 + k65) < 119 := by
  have b_y74 := ia_b y74
  have b_y130 := ia_b y130
  try have k_0 := ia_n k65 (by first | decide | omega)
  try simp only [ia_lt, ia_le, ia_eq, ia_m1, ia_0, ia_1, ne_eq, true_and, and_true, false_and, and_false, or_false, false_or, or_true, true_or, not_true_eq_false, not_false_eq_true] at *
  all_goals omega
set_option maxRecDepth 20000 in
theorem lf_x_doStir_27 (k65 : Nat) (f66 : Nat → Int32) (n71 : Nat) (y74 : Int32) (y130 : Int32) (j67 : k65 ≤ 6) (j68 : NB f66) (j69 : SB f66) (hm73 : 6 - k65 < n71 + 1) (e75 : y74 = f66 2) (b76 : 0 ≤ y74.toInt) (b77 : y74.toInt ≤ 6) (c78 : ¬ y74 ≤ nI k65) (e131 : y130 = f66 (107 + k65)) (b132 : 0 ≤ y130.toInt) (b133 : y130.toInt ≤ 35) : (k65 + 1) ≤ 6 := by
  have b_y74 := ia_b y74
  have b_y130 := ia_b y130
  try have k_0 := ia_n k65 (by first | decide | omega)
  try simp only [ia_lt, ia_le, ia_eq, ia_m1, ia_0, ia_1, ne_eq, true_and, and_true, false_and, and_false, or_false, false_or, or_true, true_or, not_true_eq_false, not_false_eq_true] at *
  all_goals omega
set_option maxRecDepth 20000 in
theorem lf_x_doStir_28 (k65 : Nat) (f66 : Nat → Int32) (n71 : Nat) (y74 : Int32) (y130 : Int32) (j67 : k65 ≤ 6) (j68 : NB f66) (j69 : SB f66) (hm73 : 6 - k65 < n71 + 1) (e75 : y74 = f66 2) (b76 : 0 ≤ y74.toInt) (b77 : y74.toInt ≤ 6) (c78 : ¬ y74 ≤ nI k65) (e131 : y130 = f66 (107 + k65)) (b132 : 0 ≤ y130.toInt) (b133 : y130.toInt ≤ 35) : 6 - (k65 + 1) < n71 := by
  have b_y74 := ia_b y74
  have b_y130 := ia_b y130
  try have k_0 := ia_n k65 (by first | decide | omega)
  try simp only [ia_lt, ia_le, ia_eq, ia_m1, ia_0, ia_1, ne_eq, true_and, and_true, false_and, and_false, or_false, false_or, or_true, true_or, not_true_eq_false, not_false_eq_true] at *
  all_goals omega
set_option maxRecDepth 20000 in
theorem lf_x_doStir_29   : 0 ≤ 6 := by
  try simp only [ia_lt, ia_le, ia_eq, ia_m1, ia_0, ia_1, ne_eq, true_and, and_true, false_and, and_false, or_false, false_or, or_true, true_or, not_true_eq_false, not_false_eq_true] at *
  all_goals omega
set_option maxRecDepth 20000 in
theorem lf_x_doStir_30 (f27 : Nat → Int32) (k45 : Nat) (n51 : Nat) (y143 : Int32) (j29 : AP36 f27) (j47 : k45 ≤ 36) (hm53 : 36 - k45 < n51 + 1) (c54 : k45 < 36) (e144 : y143 = f27 k45) : k45 < 36 := by
  have b_y143 := ia_b y143
  try simp only [ia_lt, ia_le, ia_eq, ia_m1, ia_0, ia_1, ne_eq, true_and, and_true, false_and, and_false, or_false, false_or, or_true, true_or, not_true_eq_false, not_false_eq_true] at *
  all_goals omega
set_option maxRecDepth 20000 in
theorem lf_x_doStir_31 (f27 : Nat → Int32) (k45 : Nat) (n51 : Nat) (y143 : Int32) (j29 : AP36 f27) (j47 : k45 ≤ 36) (hm53 : 36 - k45 < n51 + 1) (c54 : k45 < 36) (e144 : y143 = f27 k45) : 0 ≤ k45 := by
  have b_y143 := ia_b y143
  try simp only [ia_lt, ia_le, ia_eq, ia_m1, ia_0, ia_1, ne_eq, true_and, and_true, false_and, and_false, or_false, false_or, or_true, true_or, not_true_eq_false, not_false_eq_true] at *
  all_goals omega
set_option maxRecDepth 20000 in
theorem lf_x_doStir_32 (f27 : Nat → Int32) (k45 : Nat) (n51 : Nat) (y143 : Int32) (j29 : AP36 f27) (j47 : k45 ≤ 36) (hm53 : 36 - k45 < n51 + 1) (c54 : k45 < 36) (e144 : y143 = f27 k45) : k45 < 36 := by
  have b_y143 := ia_b y143
  try simp only [ia_lt, ia_le, ia_eq, ia_m1, ia_0, ia_1, ne_eq, true_and, and_true, false_and, and_false, or_false, false_or, or_true, true_or, not_true_eq_false, not_false_eq_true] at *
  all_goals omega
set_option maxRecDepth 20000 in
theorem lf_x_doStir_33 (f27 : Nat → Int32) (k45 : Nat) (n51 : Nat) (y143 : Int32) (j29 : AP36 f27) (j47 : k45 ≤ 36) (hm53 : 36 - k45 < n51 + 1) (c54 : k45 < 36) (e144 : y143 = f27 k45) (b145 : 0 ≤ y143.toInt) (b146 : y143.toInt ≤ 9) : 0 ≤ (y143).toInt := by
  have b_y143 := ia_b y143
  try simp only [ia_lt, ia_le, ia_eq, ia_m1, ia_0, ia_1, ne_eq, true_and, and_true, false_and, and_false, or_false, false_or, or_true, true_or, not_true_eq_false, not_false_eq_true] at *
  all_goals omega
set_option maxRecDepth 20000 in
theorem lf_x_doStir_34 (f27 : Nat → Int32) (k45 : Nat) (n51 : Nat) (y143 : Int32) (j29 : AP36 f27) (j47 : k45 ≤ 36) (hm53 : 36 - k45 < n51 + 1) (c54 : k45 < 36) (e144 : y143 = f27 k45) (b145 : 0 ≤ y143.toInt) (b146 : y143.toInt ≤ 9) : (y143).toInt ≤ 9 := by
  have b_y143 := ia_b y143
  try simp only [ia_lt, ia_le, ia_eq, ia_m1, ia_0, ia_1, ne_eq, true_and, and_true, false_and, and_false, or_false, false_or, or_true, true_or, not_true_eq_false, not_false_eq_true] at *
  all_goals omega
set_option maxRecDepth 20000 in
theorem lf_x_doStir_35 (f27 : Nat → Int32) (k45 : Nat) (n51 : Nat) (y143 : Int32) (j29 : AP36 f27) (j47 : k45 ≤ 36) (hm53 : 36 - k45 < n51 + 1) (c54 : k45 < 36) (e144 : y143 = f27 k45) (b145 : 0 ≤ y143.toInt) (b146 : y143.toInt ≤ 9) : (71 + k45) < 373 := by
  have b_y143 := ia_b y143
  try simp only [ia_lt, ia_le, ia_eq, ia_m1, ia_0, ia_1, ne_eq, true_and, and_true, false_and, and_false, or_false, false_or, or_true, true_or, not_true_eq_false, not_false_eq_true] at *
  all_goals omega
set_option maxRecDepth 20000 in
theorem lf_x_doStir_36 (f27 : Nat → Int32) (k45 : Nat) (n51 : Nat) (y143 : Int32) (j29 : AP36 f27) (j47 : k45 ≤ 36) (hm53 : 36 - k45 < n51 + 1) (c54 : k45 < 36) (e144 : y143 = f27 k45) (b145 : 0 ≤ y143.toInt) (b146 : y143.toInt ≤ 9) : 71 ≤ (71 + k45) := by
  have b_y143 := ia_b y143
  try simp only [ia_lt, ia_le, ia_eq, ia_m1, ia_0, ia_1, ne_eq, true_and, and_true, false_and, and_false, or_false, false_or, or_true, true_or, not_true_eq_false, not_false_eq_true] at *
  all_goals omega
set_option maxRecDepth 20000 in
theorem lf_x_doStir_37 (f27 : Nat → Int32) (k45 : Nat) (n51 : Nat) (y143 : Int32) (j29 : AP36 f27) (j47 : k45 ≤ 36) (hm53 : 36 - k45 < n51 + 1) (c54 : k45 < 36) (e144 : y143 = f27 k45) (b145 : 0 ≤ y143.toInt) (b146 : y143.toInt ≤ 9) : (71 + k45) < 107 := by
  have b_y143 := ia_b y143
  try simp only [ia_lt, ia_le, ia_eq, ia_m1, ia_0, ia_1, ne_eq, true_and, and_true, false_and, and_false, or_false, false_or, or_true, true_or, not_true_eq_false, not_false_eq_true] at *
  all_goals omega
set_option maxRecDepth 20000 in
theorem lf_x_doStir_38 (f27 : Nat → Int32) (k45 : Nat) (n51 : Nat) (y143 : Int32) (j29 : AP36 f27) (j47 : k45 ≤ 36) (hm53 : 36 - k45 < n51 + 1) (c54 : k45 < 36) (e144 : y143 = f27 k45) (b145 : 0 ≤ y143.toInt) (b146 : y143.toInt ≤ 9) : (k45 + 1) ≤ 36 := by
  have b_y143 := ia_b y143
  try simp only [ia_lt, ia_le, ia_eq, ia_m1, ia_0, ia_1, ne_eq, true_and, and_true, false_and, and_false, or_false, false_or, or_true, true_or, not_true_eq_false, not_false_eq_true] at *
  all_goals omega
set_option maxRecDepth 20000 in
theorem lf_x_doStir_39 (f27 : Nat → Int32) (k45 : Nat) (n51 : Nat) (y143 : Int32) (j29 : AP36 f27) (j47 : k45 ≤ 36) (hm53 : 36 - k45 < n51 + 1) (c54 : k45 < 36) (e144 : y143 = f27 k45) (b145 : 0 ≤ y143.toInt) (b146 : y143.toInt ≤ 9) : 36 - (k45 + 1) < n51 := by
  have b_y143 := ia_b y143
  try simp only [ia_lt, ia_le, ia_eq, ia_m1, ia_0, ia_1, ne_eq, true_and, and_true, false_and, and_false, or_false, false_or, or_true, true_or, not_true_eq_false, not_false_eq_true] at *
  all_goals omega
set_option maxRecDepth 20000 in
theorem lf_x_doStir_40   : 0 ≤ 36 := by
  try simp only [ia_lt, ia_le, ia_eq, ia_m1, ia_0, ia_1, ne_eq, true_and, and_true, false_and, and_false, or_false, false_or, or_true, true_or, not_true_eq_false, not_false_eq_true] at *
  all_goals omega
set_option maxRecDepth 20000 in
theorem lf_x_doStir_41 (k26 : Nat) (n31 : Nat) (j28 : k26 ≤ 36) (hm33 : 36 - k26 < n31 + 1) (c34 : k26 < 36) : (k26 + 1) ≤ 36 := by
  try simp only [ia_lt, ia_le, ia_eq, ia_m1, ia_0, ia_1, ne_eq, true_and, and_true, false_and, and_false, or_false, false_or, or_true, true_or, not_true_eq_false, not_false_eq_true] at *
  all_goals omega
set_option maxRecDepth 20000 in
theorem lf_x_doStir_42 (k26 : Nat) (n31 : Nat) (j28 : k26 ≤ 36) (hm33 : 36 - k26 < n31 + 1) (c34 : k26 < 36) : 36 - (k26 + 1) < n31 := by
  try simp only [ia_lt, ia_le, ia_eq, ia_m1, ia_0, ia_1, ne_eq, true_and, and_true, false_and, and_false, or_false, false_or, or_true, true_or, not_true_eq_false, not_false_eq_true] at *
  all_goals omega
set_option maxRecDepth 20000 in
theorem lf_x_doStir_43 (k26 : Nat) (n31 : Nat) (j28 : k26 ≤ 36) (hm33 : 36 - k26 < n31 + 1) (c34 : k26 < 36) : 0 ≤ (nI k26).toInt ∧ (nI k26).toInt ≤ 35 := by
  try have k_0 := ia_n k26 (by first | decide | omega)
  try simp only [ia_lt, ia_le, ia_eq, ia_m1, ia_0, ia_1, ne_eq, true_and, and_true, false_and, and_false, or_false, false_or, or_true, true_or, not_true_eq_false, not_false_eq_true] at *
  all_goals omega
set_option maxRecDepth 20000 in
theorem lf_x_doStir_44 (knowF : Nat → Int32) (k26 : Nat) (n31 : Nat) (y159 : Int32) (ab_now : NB knowF) (sb_now : SB knowF) (j28 : k26 ≤ 36) (hm33 : 36 - k26 < n31 + 1) (c34 : k26 < 36) (e160 : y159 = knowF (71 + k26)) : (71 + k26) < 373 := by
  have b_y159 := ia_b y159
  try simp only [ia_lt, ia_le, ia_eq, ia_m1, ia_0, ia_1, ne_eq, true_and, and_true, false_and, and_false, or_false, false_or, or_true, true_or, not_true_eq_false, not_false_eq_true] at *
  all_goals omega
set_option maxRecDepth 20000 in
theorem lf_x_doStir_45 (knowF : Nat → Int32) (k26 : Nat) (n31 : Nat) (y159 : Int32) (ab_now : NB knowF) (sb_now : SB knowF) (j28 : k26 ≤ 36) (hm33 : 36 - k26 < n31 + 1) (c34 : k26 < 36) (e160 : y159 = knowF (71 + k26)) : 71 ≤ (71 + k26) := by
  have b_y159 := ia_b y159
  try simp only [ia_lt, ia_le, ia_eq, ia_m1, ia_0, ia_1, ne_eq, true_and, and_true, false_and, and_false, or_false, false_or, or_true, true_or, not_true_eq_false, not_false_eq_true] at *
  all_goals omega
set_option maxRecDepth 20000 in
theorem lf_x_doStir_46 (knowF : Nat → Int32) (k26 : Nat) (n31 : Nat) (y159 : Int32) (ab_now : NB knowF) (sb_now : SB knowF) (j28 : k26 ≤ 36) (hm33 : 36 - k26 < n31 + 1) (c34 : k26 < 36) (e160 : y159 = knowF (71 + k26)) : (71 + k26) < 107 := by
  have b_y159 := ia_b y159
  try simp only [ia_lt, ia_le, ia_eq, ia_m1, ia_0, ia_1, ne_eq, true_and, and_true, false_and, and_false, or_false, false_or, or_true, true_or, not_true_eq_false, not_false_eq_true] at *
  all_goals omega
set_option maxRecDepth 20000 in
theorem lf_x_doStir_47 (knowF : Nat → Int32) (k26 : Nat) (n31 : Nat) (y159 : Int32) (ab_now : NB knowF) (sb_now : SB knowF) (j28 : k26 ≤ 36) (hm33 : 36 - k26 < n31 + 1) (c34 : k26 < 36) (e160 : y159 = knowF (71 + k26)) (b161 : 0 ≤ y159.toInt) (b162 : y159.toInt ≤ 9) : 0 ≤ (y159).toInt := by
  have b_y159 := ia_b y159
  try simp only [ia_lt, ia_le, ia_eq, ia_m1, ia_0, ia_1, ne_eq, true_and, and_true, false_and, and_false, or_false, false_or, or_true, true_or, not_true_eq_false, not_false_eq_true] at *
  all_goals omega
set_option maxRecDepth 20000 in
theorem lf_x_doStir_48 (knowF : Nat → Int32) (k26 : Nat) (n31 : Nat) (y159 : Int32) (ab_now : NB knowF) (sb_now : SB knowF) (j28 : k26 ≤ 36) (hm33 : 36 - k26 < n31 + 1) (c34 : k26 < 36) (e160 : y159 = knowF (71 + k26)) (b161 : 0 ≤ y159.toInt) (b162 : y159.toInt ≤ 9) : (y159).toInt ≤ 9 := by
  have b_y159 := ia_b y159
  try simp only [ia_lt, ia_le, ia_eq, ia_m1, ia_0, ia_1, ne_eq, true_and, and_true, false_and, and_false, or_false, false_or, or_true, true_or, not_true_eq_false, not_false_eq_true] at *
  all_goals omega
set_option maxRecDepth 20000 in
theorem lf_x_doStir_49 (k156 : Nat) (h158 : k156 < 36) : k156 < 36 := by
  try simp only [ia_lt, ia_le, ia_eq, ia_m1, ia_0, ia_1, ne_eq, true_and, and_true, false_and, and_false, or_false, false_or, or_true, true_or, not_true_eq_false, not_false_eq_true] at *
  all_goals omega
set_option maxRecDepth 20000 in
theorem lf_x_doStir_50 (k156 : Nat) (h158 : k156 < 36) : 0 ≤ k156 := by
  try simp only [ia_lt, ia_le, ia_eq, ia_m1, ia_0, ia_1, ne_eq, true_and, and_true, false_and, and_false, or_false, false_or, or_true, true_or, not_true_eq_false, not_false_eq_true] at *
  all_goals omega
set_option maxRecDepth 20000 in
theorem lf_x_doStir_51 (k156 : Nat) (h158 : k156 < 36) : k156 < 36 := by
  try simp only [ia_lt, ia_le, ia_eq, ia_m1, ia_0, ia_1, ne_eq, true_and, and_true, false_and, and_false, or_false, false_or, or_true, true_or, not_true_eq_false, not_false_eq_true] at *
  all_goals omega
set_option maxRecDepth 20000 in
theorem lf_x_doStir_52 (knowF : Nat → Int32) (k26 : Nat) (n31 : Nat) (y159 : Int32) (ab_now : NB knowF) (sb_now : SB knowF) (j28 : k26 ≤ 36) (hm33 : 36 - k26 < n31 + 1) (c34 : k26 < 36) (e160 : y159 = knowF (71 + k26)) (b161 : 0 ≤ y159.toInt) (b162 : y159.toInt ≤ 9) : (k26 + 1) ≤ 36 := by
  have b_y159 := ia_b y159
  try simp only [ia_lt, ia_le, ia_eq, ia_m1, ia_0, ia_1, ne_eq, true_and, and_true, false_and, and_false, or_false, false_or, or_true, true_or, not_true_eq_false, not_false_eq_true] at *
  all_goals omega
set_option maxRecDepth 20000 in
theorem lf_x_doStir_53 (knowF : Nat → Int32) (k26 : Nat) (n31 : Nat) (y159 : Int32) (ab_now : NB knowF) (sb_now : SB knowF) (j28 : k26 ≤ 36) (hm33 : 36 - k26 < n31 + 1) (c34 : k26 < 36) (e160 : y159 = knowF (71 + k26)) (b161 : 0 ≤ y159.toInt) (b162 : y159.toInt ≤ 9) : 36 - (k26 + 1) < n31 := by
  have b_y159 := ia_b y159
  try simp only [ia_lt, ia_le, ia_eq, ia_m1, ia_0, ia_1, ne_eq, true_and, and_true, false_and, and_false, or_false, false_or, or_true, true_or, not_true_eq_false, not_false_eq_true] at *
  all_goals omega
set_option maxRecDepth 20000 in
theorem lf_x_doStir_54   : 0 ≤ 36 := by
  try simp only [ia_lt, ia_le, ia_eq, ia_m1, ia_0, ia_1, ne_eq, true_and, and_true, false_and, and_false, or_false, false_or, or_true, true_or, not_true_eq_false, not_false_eq_true] at *
  all_goals omega
set_option maxRecDepth 20000 in
theorem lf_x_doStir_55   : 0 ≤ (nI 0).toInt := by
  try have k_0 := ia_n 0 (by first | decide | omega)
  try simp only [ia_lt, ia_le, ia_eq, ia_m1, ia_0, ia_1, ne_eq, true_and, and_true, false_and, and_false, or_false, false_or, or_true, true_or, not_true_eq_false, not_false_eq_true] at *
  all_goals omega
set_option maxRecDepth 20000 in
theorem lf_x_doStir_56   : (nI 0).toInt ≤ 9 := by
  try have k_0 := ia_n 0 (by first | decide | omega)
  try simp only [ia_lt, ia_le, ia_eq, ia_m1, ia_0, ia_1, ne_eq, true_and, and_true, false_and, and_false, or_false, false_or, or_true, true_or, not_true_eq_false, not_false_eq_true] at *
  all_goals omega
set_option maxRecDepth 20000 in
theorem lf_x_doStir_57 (k9 : Nat) (n14 : Nat) (j11 : k9 ≤ 36) (hm16 : 36 - k9 < n14 + 1) (c17 : k9 < 36) : k9 < 36 := by
  try simp only [ia_lt, ia_le, ia_eq, ia_m1, ia_0, ia_1, ne_eq, true_and, and_true, false_and, and_false, or_false, false_or, or_true, true_or, not_true_eq_false, not_false_eq_true] at *
  all_goals omega
set_option maxRecDepth 20000 in
theorem lf_x_doStir_58 (k9 : Nat) (n14 : Nat) (j11 : k9 ≤ 36) (hm16 : 36 - k9 < n14 + 1) (c17 : k9 < 36) : 0 ≤ k9 := by
  try simp only [ia_lt, ia_le, ia_eq, ia_m1, ia_0, ia_1, ne_eq, true_and, and_true, false_and, and_false, or_false, false_or, or_true, true_or, not_true_eq_false, not_false_eq_true] at *
  all_goals omega
set_option maxRecDepth 20000 in
theorem lf_x_doStir_59 (k9 : Nat) (n14 : Nat) (j11 : k9 ≤ 36) (hm16 : 36 - k9 < n14 + 1) (c17 : k9 < 36) : k9 < 36 := by
  try simp only [ia_lt, ia_le, ia_eq, ia_m1, ia_0, ia_1, ne_eq, true_and, and_true, false_and, and_false, or_false, false_or, or_true, true_or, not_true_eq_false, not_false_eq_true] at *
  all_goals omega
set_option maxRecDepth 20000 in
theorem lf_x_doStir_60 (k9 : Nat) (n14 : Nat) (j11 : k9 ≤ 36) (hm16 : 36 - k9 < n14 + 1) (c17 : k9 < 36) : (k9 + 1) ≤ 36 := by
  try simp only [ia_lt, ia_le, ia_eq, ia_m1, ia_0, ia_1, ne_eq, true_and, and_true, false_and, and_false, or_false, false_or, or_true, true_or, not_true_eq_false, not_false_eq_true] at *
  all_goals omega
set_option maxRecDepth 20000 in
theorem lf_x_doStir_61 (k9 : Nat) (n14 : Nat) (j11 : k9 ≤ 36) (hm16 : 36 - k9 < n14 + 1) (c17 : k9 < 36) : 36 - (k9 + 1) < n14 := by
  try simp only [ia_lt, ia_le, ia_eq, ia_m1, ia_0, ia_1, ne_eq, true_and, and_true, false_and, and_false, or_false, false_or, or_true, true_or, not_true_eq_false, not_false_eq_true] at *
  all_goals omega
set_option maxRecDepth 20000 in
theorem lf_x_doStir_62   : 0 ≤ 36 := by
  try simp only [ia_lt, ia_le, ia_eq, ia_m1, ia_0, ia_1, ne_eq, true_and, and_true, false_and, and_false, or_false, false_or, or_true, true_or, not_true_eq_false, not_false_eq_true] at *
  all_goals omega
set_option maxHeartbeats 4000000 in
set_option maxRecDepth 100000 in
theorem c_x_doStir (l : Launch) (dC : Nat → ClassId) (dI : Nat → Nat → Nat) (ky : Nat → ClassId) (sz : Nat) (o : Nat) (kthrown : Int32) (ktape : Nat) (ktaped : Nat) (ksize : Nat) (klimit : Nat) (kto : Nat) (kfrom : Nat) (kkind : Int32) (knumber : Int32) (ksign : Int32) (kfault : Int32) (kplace : Int32) (kword : Int64) (ktold : Int32) (know : Nat) (kread : Nat) (kkept : Nat) (ksnaps : Nat) (kaside : Nat) (kname : Nat) (kreadName : Nat) (kkeptName : Nat) (kisKept : Nat) (konces : Nat) (ksnapMany : Nat) (khasCells : Int32) (kpoured : Nat) (kfar : Nat) (ksides : Nat) (ksideMany : Nat) (kwayDays : Int32) (khasWay : Int32) (klines : Nat) (kmet : Nat) (kmetMany : Nat) (ksunk : Nat) (ktrying : Nat) (ksunkMany : Nat) (ksending : Int32) (kfleets : Int32) (ktext : Nat) (ktexts : Nat) (kseed : Int32) (kline : Nat) (kwritten : Nat) (klineMany : Nat) (khasWritten : Int32) (knode : Nat) (knodes : Nat) (konesMany : Nat) (kwithin : Nat) (ktop : Nat) (knowF : Nat → Int32) (kpouredF : Nat → Int32) (x : Int32) (iv_ko_0 : ktaped ≤ 940) (iv_ko_1 : ksize ≤ 940) (iv_ko_2 : klimit ≤ 900) (iv_ko_3 : kto ≤ ksize) (iv_ko_4 : kfrom ≤ 940) (iv_ko_5 : ksnapMany ≤ 8) (iv_ko_6 : ksideMany ≤ 36) (iv_ko_7 : kmetMany ≤ 3) (iv_ko_8 : ksunkMany ≤ 36) (iv_ko_9 : ktexts ≤ 64) (iv_ko_10 : klineMany ≤ 40) (iv_ko_11 : knodes ≤ 60) (iv_ko_12 : konesMany ≤ 20) (iv_ko_13 : kwithin ≤ 8) (iv_ko_14 : ktop ≤ 59) (ab_now : NB knowF) (ab_poured : AP36 kpouredF) (sb_now : SB knowF) (hl_x : 0 ≤ x.toInt ∧ x.toInt ≤ 23) : Met l yX12_doStir wsX12_doStir ({ frames := 1, cells := 0, slots := 0, locals := 27 }) (PcU dC dI ky [.ref o, .int x] [(o, .inr (12, [.int kthrown, .ref ktape, .int (nI ktaped), .int (nI ksize), .int (nI klimit), .int (nI kto), .int (nI kfrom), .int kkind, .int knumber, .int ksign, .int kfault, .int kplace, .long kword, .int ktold, .ref know, .ref kread, .ref kkept, .ref ksnaps, .ref kaside, .ref kname, .ref kreadName, .ref kkeptName, .ref kisKept, .ref konces, .int (nI ksnapMany), .int khasCells, .ref kpoured, .ref kfar, .ref ksides, .int (nI ksideMany), .int kwayDays, .int khasWay, .ref klines, .ref kmet, .int (nI kmetMany), .ref ksunk, .ref ktrying, .int (nI ksunkMany), .int ksending, .int kfleets, .ref ktext, .int (nI ktexts), .int kseed, .ref kline, .ref kwritten, .int (nI klineMany), .int khasWritten, .ref knode, .int (nI knodes), .int (nI konesMany), .int (nI kwithin), .int (nI ktop)])), (know, .inl (ky 0, 373, .inl knowF)), (kpoured, .inl (ky 0, 36, .inl kpouredF))] sz) (va_Qv (fun (u : (Nat → Int32) × (Nat → Int32)) => match u with | (knowG, kpouredG) => (NB knowG) ∧ (SB knowG) ∧ (AP36 kpouredG)) (BU dC dI ky (fun (u : (Nat → Int32) × (Nat → Int32)) => match u with | (knowG, kpouredG) => [(o, .inr (12, [.int kthrown, .ref ktape, .int (nI ktaped), .int (nI ksize), .int (nI klimit), .int (nI kto), .int (nI kfrom), .int kkind, .int knumber, .int ksign, .int kfault, .int kplace, .long kword, .int ktold, .ref know, .ref kread, .ref kkept, .ref ksnaps, .ref kaside, .ref kname, .ref kreadName, .ref kkeptName, .ref kisKept, .ref konces, .int (nI ksnapMany), .int khasCells, .ref kpoured, .ref kfar, .ref ksides, .int (nI ksideMany), .int kwayDays, .int khasWay, .ref klines, .ref kmet, .int (nI kmetMany), .ref ksunk, .ref ktrying, .int (nI ksunkMany), .int ksending, .int kfleets, .ref ktext, .int (nI ktexts), .int kseed, .ref kline, .ref kwritten, .int (nI klineMany), .int khasWritten, .ref knode, .int (nI knodes), .int (nI konesMany), .int (nI kwithin), .int (nI ktop)])), (know, .inl (ky 0, 373, .inl knowG)), (kpoured, .inl (ky 0, 36, .inl kpouredG))]) (va_A [(o, .inr (12, [.int kthrown, .ref ktape, .int (nI ktaped), .int (nI ksize), .int (nI klimit), .int (nI kto), .int (nI kfrom), .int kkind, .int knumber, .int ksign, .int kfault, .int kplace, .long kword, .int ktold, .ref know, .ref kread, .ref kkept, .ref ksnaps, .ref kaside, .ref kname, .ref kreadName, .ref kkeptName, .ref kisKept, .ref konces, .int (nI ksnapMany), .int khasCells, .ref kpoured, .ref kfar, .ref ksides, .int (nI ksideMany), .int kwayDays, .int khasWay, .ref klines, .ref kmet, .int (nI kmetMany), .ref ksunk, .ref ktrying, .int (nI ksunkMany), .int ksending, .int kfleets, .ref ktext, .int (nI ktexts), .int kseed, .ref kline, .ref kwritten, .int (nI klineMany), .int khasWritten, .ref knode, .int (nI knodes), .int (nI konesMany), .int (nI kwithin), .int (nI ktop)])), (know, .inl (ky 0, 373, .inl knowF)), (kpoured, .inl (ky 0, 36, .inl kpouredF))] sz)) (va_A [(o, .inr (12, [.int kthrown, .ref ktape, .int (nI ktaped), .int (nI ksize), .int (nI klimit), .int (nI kto), .int (nI kfrom), .int kkind, .int knumber, .int ksign, .int kfault, .int kplace, .long kword, .int ktold, .ref know, .ref kread, .ref kkept, .ref ksnaps, .ref kaside, .ref kname, .ref kreadName, .ref kkeptName, .ref kisKept, .ref konces, .int (nI ksnapMany), .int khasCells, .ref kpoured, .ref kfar, .ref ksides, .int (nI ksideMany), .int kwayDays, .int khasWay, .ref klines, .ref kmet, .int (nI kmetMany), .ref ksunk, .ref ktrying, .int (nI ksunkMany), .int ksending, .int kfleets, .ref ktext, .int (nI ktexts), .int kseed, .ref kline, .ref kwritten, .int (nI klineMany), .int khasWritten, .ref knode, .int (nI knodes), .int (nI konesMany), .int (nI kwithin), .int (nI ktop)])), (know, .inl (ky 0, 373, .inl knowF)), (kpoured, .inl (ky 0, 36, .inl kpouredF))] sz)) 0 0 (va_A [(o, .inr (12, [.int kthrown, .ref ktape, .int (nI ktaped), .int (nI ksize), .int (nI klimit), .int (nI kto), .int (nI kfrom), .int kkind, .int knumber, .int ksign, .int kfault, .int kplace, .long kword, .int ktold, .ref know, .ref kread, .ref kkept, .ref ksnaps, .ref kaside, .ref kname, .ref kreadName, .ref kkeptName, .ref kisKept, .ref konces, .int (nI ksnapMany), .int khasCells, .ref kpoured, .ref kfar, .ref ksides, .int (nI ksideMany), .int kwayDays, .int khasWay, .ref klines, .ref kmet, .int (nI kmetMany), .ref ksunk, .ref ktrying, .int (nI ksunkMany), .int ksending, .int kfleets, .ref ktext, .int (nI ktexts), .int kseed, .ref kline, .ref kwritten, .int (nI klineMany), .int khasWritten, .ref knode, .int (nI knodes), .int (nI konesMany), .int (nI kwithin), .int (nI ktop)])), (know, .inl (ky 0, 373, .inl knowF)), (kpoured, .inl (ky 0, 36, .inl kpouredF))] sz) := by
  refine Met.ofW (cc := cX12_doStir) (maxL := 3) (ret := none) (by decide) rfl ?_
  intro p e s m args below meth c s₁ B hml hv
  obtain ⟨rfl, hsz, hP, hK, hD0⟩ := hv
  have hx := B.exec
  have hb := B.bytes
  have hr := B.returns
  have hts := atoms_spec (ws := wsX12_doStir) B.pre
  have hown : s.vm.findClass RX12 = some m.cls := findClass_of_methodNamed B.named
  have hlocks := B.notSynchronized
  have hin12 : ∀ w ∈ u_ws RX12 TX12 52, w ∈ wsX12_doStir := by decide +kernel
  subst hsz
  have hD := hD0.self (sz := s.heap.size)
  generalize hAe : va_A [(o, .inr (12, [.int kthrown, .ref ktape, .int (nI ktaped), .int (nI ksize), .int (nI klimit), .int (nI kto), .int (nI kfrom), .int kkind, .int knumber, .int ksign, .int kfault, .int kplace, .long kword, .int ktold, .ref know, .ref kread, .ref kkept, .ref ksnaps, .ref kaside, .ref kname, .ref kreadName, .ref kkeptName, .ref kisKept, .ref konces, .int (nI ksnapMany), .int khasCells, .ref kpoured, .ref kfar, .ref ksides, .int (nI ksideMany), .int kwayDays, .int khasWay, .ref klines, .ref kmet, .int (nI kmetMany), .ref ksunk, .ref ktrying, .int (nI ksunkMany), .int ksending, .int kfleets, .ref ktext, .int (nI ktexts), .int kseed, .ref kline, .ref kwritten, .int (nI klineMany), .int khasWritten, .ref knode, .int (nI knodes), .int (nI konesMany), .int (nI kwithin), .int (nI ktop)])), (know, .inl (ky 0, 373, .inl knowF)), (kpoured, .inl (ky 0, 36, .inl kpouredF))] s.heap.size = A at hD ⊢
  have hA : ∀ q : Nat, s.heap.size ≤ q → A q := fun q h => by rw [← hAe]; exact Or.inr h
  have hS : va_S A s.heap s.heap [] := va_S.rf
  have hl := lv_entry ([.ref o, .int x]) (n := 3) (Nat.le_of_ble_eq_true rfl)
  rw [lg_entry_eq]
  generalize (lg_sl ([.ref o, .int x]) ++ List.replicate (3 - (lg_sl ([.ref o, .int x])).length) Slot.unset).toArray = ls at hl ⊢
  have hl : lv_has ls 3 [(0, .ref o), (1, .int x)] := hl
  refine q_name (fun Q hQ => ?_)
  generalize ([.ref o, .int x] : List Value).toArray = args at hts hQ ⊢
  refine lv_iconst (v := nI 0) hx hb dX12_doStir_0 (by decide) ?_
  refine lv_istore_n (lv' := [(2, .int (nI 0)), (0, .ref o), (1, .int x)]) hx hb dX12_doStir_1 rfl hl (by decide) rfl (fun ls hl => ?_)
  have hL13 : ∀ (n14 : Nat) (k9 : Nat) (f10 : Nat → Int32), (k9 ≤ 36) → (AP36 f10) → 36 - k9 < n14 → ∀ (H : Heap) (locs : List Loc) (ls : Array Slot), va_P (dC, dI) vwCl [(o, .inr (12, [.int kthrown, .ref ktape, .int (nI ktaped), .int (nI ksize), .int (nI klimit), .int (nI kto), .int (nI kfrom), .int kkind, .int knumber, .int ksign, .int kfault, .int kplace, .long kword, .int ktold, .ref know, .ref kread, .ref kkept, .ref ksnaps, .ref kaside, .ref kname, .ref kreadName, .ref kkeptName, .ref kisKept, .ref konces, .int (nI ksnapMany), .int khasCells, .ref kpoured, .ref kfar, .ref ksides, .int (nI ksideMany), .int kwayDays, .int khasWay, .ref klines, .ref kmet, .int (nI kmetMany), .ref ksunk, .ref ktrying, .int (nI ksunkMany), .int ksending, .int kfleets, .ref ktext, .int (nI ktexts), .int kseed, .ref kline, .ref kwritten, .int (nI klineMany), .int khasWritten, .ref knode, .int (nI knodes), .int (nI konesMany), .int (nI kwithin), .int (nI ktop)])), (know, .inl (ky 0, 373, .inl knowF)), (kpoured, .inl (ky 0, 36, .inl f10))] H → va_D A [(o, .inr (12, [.int kthrown, .ref ktape, .int (nI ktaped), .int (nI ksize), .int (nI klimit), .int (nI kto), .int (nI kfrom), .int kkind, .int knumber, .int ksign, .int kfault, .int kplace, .long kword, .int ktold, .ref know, .ref kread, .ref kkept, .ref ksnaps, .ref kaside, .ref kname, .ref kreadName, .ref kkeptName, .ref kisKept, .ref konces, .int (nI ksnapMany), .int khasCells, .ref kpoured, .ref kfar, .ref ksides, .int (nI ksideMany), .int kwayDays, .int khasWay, .ref klines, .ref kmet, .int (nI kmetMany), .ref ksunk, .ref ktrying, .int (nI ksunkMany), .int ksending, .int kfleets, .ref ktext, .int (nI ktexts), .int kseed, .ref kline, .ref kwritten, .int (nI klineMany), .int khasWritten, .ref knode, .int (nI knodes), .int (nI konesMany), .int (nI kwithin), .int (nI ktop)])), (know, .inl (ky 0, 373, .inl knowF)), (kpoured, .inl (ky 0, 36, .inl f10))] → va_S A s.heap H locs → lv_has ls 3 [(2, .int (nI k9)), (0, .ref o), (1, .int x)] → W p l e (headSpec wsX12_doStir ({ frames := 1, cells := 0, slots := 0, locals := 27 })).room s m args below meth c H locs 0 0 Q (F0 m 2 ls []) := by
    intro n14
    induction n14 with
    | zero => intro k9 f10 _ _ h9; exact absurd h9 (Nat.not_lt_zero _)
    | succ n14 ih15 =>
      intro k9 f10 j11 j12 hm16 H locs ls hP hD hS hl
      refine lv_iload_n hx hb dX12_doStir_2 rfl (lv_at hl 0 rfl) ?_
      refine lv_bipush (v := nI 36) hx hb dX12_doStir_3 (by decide) ?_
      refine n_icmp_ge (x := k9) (y := 36) (tgt := 21) hx hb (by omega) (by omega) dX12_doStir_5 (by decide) (fun c17 => ?_) (fun c17 => ?_)
      · refine lv_iconst (v := nI 0) hx hb dX12_doStir_21 (by decide) ?_
        refine lv_istore_n (lv' := [(2, .int (nI 0)), (0, .ref o), (1, .int x)]) hx hb dX12_doStir_22 rfl hl (by decide) rfl (fun ls hl => ?_)
        have hL30 : ∀ (n31 : Nat) (k26 : Nat) (f27 : Nat → Int32), (k26 ≤ 36) → (AP36 f27) → 36 - k26 < n31 → ∀ (H : Heap) (locs : List Loc) (ls : Array Slot), va_P (dC, dI) vwCl [(o, .inr (12, [.int kthrown, .ref ktape, .int (nI ktaped), .int (nI ksize), .int (nI klimit), .int (nI kto), .int (nI kfrom), .int kkind, .int knumber, .int ksign, .int kfault, .int kplace, .long kword, .int ktold, .ref know, .ref kread, .ref kkept, .ref ksnaps, .ref kaside, .ref kname, .ref kreadName, .ref kkeptName, .ref kisKept, .ref konces, .int (nI ksnapMany), .int khasCells, .ref kpoured, .ref kfar, .ref ksides, .int (nI ksideMany), .int kwayDays, .int khasWay, .ref klines, .ref kmet, .int (nI kmetMany), .ref ksunk, .ref ktrying, .int (nI ksunkMany), .int ksending, .int kfleets, .ref ktext, .int (nI ktexts), .int kseed, .ref kline, .ref kwritten, .int (nI klineMany), .int khasWritten, .ref knode, .int (nI knodes), .int (nI konesMany), .int (nI kwithin), .int (nI ktop)])), (know, .inl (ky 0, 373, .inl knowF)), (kpoured, .inl (ky 0, 36, .inl f27))] H → va_D A [(o, .inr (12, [.int kthrown, .ref ktape, .int (nI ktaped), .int (nI ksize), .int (nI klimit), .int (nI kto), .int (nI kfrom), .int kkind, .int knumber, .int ksign, .int kfault, .int kplace, .long kword, .int ktold, .ref know, .ref kread, .ref kkept, .ref ksnaps, .ref kaside, .ref kname, .ref kreadName, .ref kkeptName, .ref kisKept, .ref konces, .int (nI ksnapMany), .int khasCells, .ref kpoured, .ref kfar, .ref ksides, .int (nI ksideMany), .int kwayDays, .int khasWay, .ref klines, .ref kmet, .int (nI kmetMany), .ref ksunk, .ref ktrying, .int (nI ksunkMany), .int ksending, .int kfleets, .ref ktext, .int (nI ktexts), .int kseed, .ref kline, .ref kwritten, .int (nI klineMany), .int khasWritten, .ref knode, .int (nI knodes), .int (nI konesMany), .int (nI kwithin), .int (nI ktop)])), (know, .inl (ky 0, 373, .inl knowF)), (kpoured, .inl (ky 0, 36, .inl f27))] → va_S A s.heap H locs → lv_has ls 3 [(2, .int (nI k26)), (0, .ref o), (1, .int x)] → W p l e (headSpec wsX12_doStir ({ frames := 1, cells := 0, slots := 0, locals := 27 })).room s m args below meth c H locs 0 0 Q (F0 m 23 ls []) := by
          intro n31
          induction n31 with
          | zero => intro k26 f27 _ _ h9; exact absurd h9 (Nat.not_lt_zero _)
          | succ n31 ih32 =>
            intro k26 f27 j28 j29 hm33 H locs ls hP hD hS hl
            refine lv_iload_n hx hb dX12_doStir_23 rfl (lv_at hl 0 rfl) ?_
            refine lv_bipush (v := nI 36) hx hb dX12_doStir_24 (by decide) ?_
            refine n_icmp_ge (x := k26) (y := 36) (tgt := 63) hx hb (by omega) (by omega) dX12_doStir_26 (by decide) (fun c34 => ?_) (fun c34 => ?_)
            · refine lv_iconst (v := nI 0) hx hb dX12_doStir_63 (by decide) ?_
              refine lv_istore_n (lv' := [(2, .int (nI 0)), (0, .ref o), (1, .int x)]) hx hb dX12_doStir_64 rfl hl (by decide) rfl (fun ls hl => ?_)
              have hL50 : ∀ (n51 : Nat) (k45 : Nat) (f46 : Nat → Int32), (k45 ≤ 36) → (NB f46) → (SB f46) → 36 - k45 < n51 → ∀ (H : Heap) (locs : List Loc) (ls : Array Slot), va_P (dC, dI) vwCl [(o, .inr (12, [.int kthrown, .ref ktape, .int (nI ktaped), .int (nI ksize), .int (nI klimit), .int (nI kto), .int (nI kfrom), .int kkind, .int knumber, .int ksign, .int kfault, .int kplace, .long kword, .int ktold, .ref know, .ref kread, .ref kkept, .ref ksnaps, .ref kaside, .ref kname, .ref kreadName, .ref kkeptName, .ref kisKept, .ref konces, .int (nI ksnapMany), .int khasCells, .ref kpoured, .ref kfar, .ref ksides, .int (nI ksideMany), .int kwayDays, .int khasWay, .ref klines, .ref kmet, .int (nI kmetMany), .ref ksunk, .ref ktrying, .int (nI ksunkMany), .int ksending, .int kfleets, .ref ktext, .int (nI ktexts), .int kseed, .ref kline, .ref kwritten, .int (nI klineMany), .int khasWritten, .ref knode, .int (nI knodes), .int (nI konesMany), .int (nI kwithin), .int (nI ktop)])), (know, .inl (ky 0, 373, .inl f46)), (kpoured, .inl (ky 0, 36, .inl f27))] H → va_D A [(o, .inr (12, [.int kthrown, .ref ktape, .int (nI ktaped), .int (nI ksize), .int (nI klimit), .int (nI kto), .int (nI kfrom), .int kkind, .int knumber, .int ksign, .int kfault, .int kplace, .long kword, .int ktold, .ref know, .ref kread, .ref kkept, .ref ksnaps, .ref kaside, .ref kname, .ref kreadName, .ref kkeptName, .ref kisKept, .ref konces, .int (nI ksnapMany), .int khasCells, .ref kpoured, .ref kfar, .ref ksides, .int (nI ksideMany), .int kwayDays, .int khasWay, .ref klines, .ref kmet, .int (nI kmetMany), .ref ksunk, .ref ktrying, .int (nI ksunkMany), .int ksending, .int kfleets, .ref ktext, .int (nI ktexts), .int kseed, .ref kline, .ref kwritten, .int (nI klineMany), .int khasWritten, .ref knode, .int (nI knodes), .int (nI konesMany), .int (nI kwithin), .int (nI ktop)])), (know, .inl (ky 0, 373, .inl f46)), (kpoured, .inl (ky 0, 36, .inl f27))] → va_S A s.heap H locs → lv_has ls 3 [(2, .int (nI k45)), (0, .ref o), (1, .int x)] → W p l e (headSpec wsX12_doStir ({ frames := 1, cells := 0, slots := 0, locals := 27 })).room s m args below meth c H locs 0 0 Q (F0 m 65 ls []) := by
                intro n51
                induction n51 with
                | zero => intro k45 f46 _ _ _ h9; exact absurd h9 (Nat.not_lt_zero _)
                | succ n51 ih52 =>
                  intro k45 f46 j47 j48 j49 hm53 H locs ls hP hD hS hl
                  refine lv_iload_n hx hb dX12_doStir_65 rfl (lv_at hl 0 rfl) ?_
                  refine lv_bipush (v := nI 36) hx hb dX12_doStir_66 (by decide) ?_
                  refine n_icmp_ge (x := k45) (y := 36) (tgt := 92) hx hb (by omega) (by omega) dX12_doStir_68 (by decide) (fun c54 => ?_) (fun c54 => ?_)
                  · refine lv_iconst (v := nI 0) hx hb dX12_doStir_92 (by decide) ?_
                    refine lv_istore_n (lv' := [(2, .int (nI 0)), (0, .ref o), (1, .int x)]) hx hb dX12_doStir_93 rfl hl (by decide) rfl (fun ls hl => ?_)
                    have hL70 : ∀ (n71 : Nat) (k65 : Nat) (f66 : Nat → Int32), (k65 ≤ 6) → (NB f66) → (SB f66) → 6 - k65 < n71 → ∀ (H : Heap) (locs : List Loc) (ls : Array Slot), va_P (dC, dI) vwCl [(o, .inr (12, [.int kthrown, .ref ktape, .int (nI ktaped), .int (nI ksize), .int (nI klimit), .int (nI kto), .int (nI kfrom), .int kkind, .int knumber, .int ksign, .int kfault, .int kplace, .long kword, .int ktold, .ref know, .ref kread, .ref kkept, .ref ksnaps, .ref kaside, .ref kname, .ref kreadName, .ref kkeptName, .ref kisKept, .ref konces, .int (nI ksnapMany), .int khasCells, .ref kpoured, .ref kfar, .ref ksides, .int (nI ksideMany), .int kwayDays, .int khasWay, .ref klines, .ref kmet, .int (nI kmetMany), .ref ksunk, .ref ktrying, .int (nI ksunkMany), .int ksending, .int kfleets, .ref ktext, .int (nI ktexts), .int kseed, .ref kline, .ref kwritten, .int (nI klineMany), .int khasWritten, .ref knode, .int (nI knodes), .int (nI konesMany), .int (nI kwithin), .int (nI ktop)])), (know, .inl (ky 0, 373, .inl f66)), (kpoured, .inl (ky 0, 36, .inl f27))] H → va_D A [(o, .inr (12, [.int kthrown, .ref ktape, .int (nI ktaped), .int (nI ksize), .int (nI klimit), .int (nI kto), .int (nI kfrom), .int kkind, .int knumber, .int ksign, .int kfault, .int kplace, .long kword, .int ktold, .ref know, .ref kread, .ref kkept, .ref ksnaps, .ref kaside, .ref kname, .ref kreadName, .ref kkeptName, .ref kisKept, .ref konces, .int (nI ksnapMany), .int khasCells, .ref kpoured, .ref kfar, .ref ksides, .int (nI ksideMany), .int kwayDays, .int khasWay, .ref klines, .ref kmet, .int (nI kmetMany), .ref ksunk, .ref ktrying, .int (nI ksunkMany), .int ksending, .int kfleets, .ref ktext, .int (nI ktexts), .int kseed, .ref kline, .ref kwritten, .int (nI klineMany), .int khasWritten, .ref knode, .int (nI knodes), .int (nI konesMany), .int (nI kwithin), .int (nI ktop)])), (know, .inl (ky 0, 373, .inl f66)), (kpoured, .inl (ky 0, 36, .inl f27))] → va_S A s.heap H locs → lv_has ls 3 [(2, .int (nI k65)), (0, .ref o), (1, .int x)] → W p l e (headSpec wsX12_doStir ({ frames := 1, cells := 0, slots := 0, locals := 27 })).room s m args below meth c H locs 0 0 Q (F0 m 94 ls []) := by
                      intro n71
                      induction n71 with
                      | zero => intro k65 f66 _ _ _ h9; exact absurd h9 (Nat.not_lt_zero _)
                      | succ n71 ih72 =>
                        intro k65 f66 j67 j68 j69 hm73 H locs ls hP hD hS hl
                        refine lv_iload_n hx hb dX12_doStir_94 rfl (lv_at hl 0 rfl) ?_
                        refine lv_aload_n hx hb dX12_doStir_95 rfl (lv_at hl 1 rfl) ?_
                        refine va_get (D := (dC, dI)) (ci := 12) (v := .ref know) (C := RX12) (T := TX12) (N := 52) hx hb hts hin12 hown hK hP 0 rfl rfl 14 (by decide) (hts (.fieldLink RX12 98 "PorridgeSeaModel" "now" "[I") (List.mem_of_getElem? (i := 2) rfl)) (fun _ h9 => h9) rfl dX12_doStir_96 ?_
                        refine lv_iconst (v := nI 2) hx hb dX12_doStir_99 (by decide) ?_
                        obtain ⟨y74, e75⟩ : ∃ z9, z9 = f66 2 := ⟨_, rfl⟩
                        refine r_iald hx hb hK hP 1 rfl 2 (by decide) (by decide) y74 e75.symm dX12_doStir_100 ?_
                        obtain ⟨b76, b77⟩ : (0 : Int) ≤ y74.toInt ∧ y74.toInt ≤ 6 := by rw [e75]; exact ld_NB_2 j68 2 (by decide) (by decide)
                        refine lv_icmp_ge (tgt := 133) hx hb dX12_doStir_101 (by decide) (fun c78 => ?_) (fun c78 => ?_)
                        · refine lv_iconst (v := nI 0) hx hb dX12_doStir_133 (by decide) ?_
                          refine lv_istore_n (lv' := [(2, .int (nI 0)), (0, .ref o), (1, .int x)]) hx hb dX12_doStir_134 rfl hl (by decide) rfl (fun ls hl => ?_)
                          have hL94 : ∀ (n95 : Nat) (k89 : Nat) (f90 : Nat → Int32), (k89 ≤ 6) → (NB f90) → (SB f90) → 6 - k89 < n95 → ∀ (H : Heap) (locs : List Loc) (ls : Array Slot), va_P (dC, dI) vwCl [(o, .inr (12, [.int kthrown, .ref ktape, .int (nI ktaped), .int (nI ksize), .int (nI klimit), .int (nI kto), .int (nI kfrom), .int kkind, .int knumber, .int ksign, .int kfault, .int kplace, .long kword, .int ktold, .ref know, .ref kread, .ref kkept, .ref ksnaps, .ref kaside, .ref kname, .ref kreadName, .ref kkeptName, .ref kisKept, .ref konces, .int (nI ksnapMany), .int khasCells, .ref kpoured, .ref kfar, .ref ksides, .int (nI ksideMany), .int kwayDays, .int khasWay, .ref klines, .ref kmet, .int (nI kmetMany), .ref ksunk, .ref ktrying, .int (nI ksunkMany), .int ksending, .int kfleets, .ref ktext, .int (nI ktexts), .int kseed, .ref kline, .ref kwritten, .int (nI klineMany), .int khasWritten, .ref knode, .int (nI knodes), .int (nI konesMany), .int (nI kwithin), .int (nI ktop)])), (know, .inl (ky 0, 373, .inl f90)), (kpoured, .inl (ky 0, 36, .inl f27))] H → va_D A [(o, .inr (12, [.int kthrown, .ref ktape, .int (nI ktaped), .int (nI ksize), .int (nI klimit), .int (nI kto), .int (nI kfrom), .int kkind, .int knumber, .int ksign, .int kfault, .int kplace, .long kword, .int ktold, .ref know, .ref kread, .ref kkept, .ref ksnaps, .ref kaside, .ref kname, .ref kreadName, .ref kkeptName, .ref kisKept, .ref konces, .int (nI ksnapMany), .int khasCells, .ref kpoured, .ref kfar, .ref ksides, .int (nI ksideMany), .int kwayDays, .int khasWay, .ref klines, .ref kmet, .int (nI kmetMany), .ref ksunk, .ref ktrying, .int (nI ksunkMany), .int ksending, .int kfleets, .ref ktext, .int (nI ktexts), .int kseed, .ref kline, .ref kwritten, .int (nI klineMany), .int khasWritten, .ref knode, .int (nI knodes), .int (nI konesMany), .int (nI kwithin), .int (nI ktop)])), (know, .inl (ky 0, 373, .inl f90)), (kpoured, .inl (ky 0, 36, .inl f27))] → va_S A s.heap H locs → lv_has ls 3 [(2, .int (nI k89)), (0, .ref o), (1, .int x)] → W p l e (headSpec wsX12_doStir ({ frames := 1, cells := 0, slots := 0, locals := 27 })).room s m args below meth c H locs 0 0 Q (F0 m 135 ls []) := by
                            intro n95
                            induction n95 with
                            | zero => intro k89 f90 _ _ _ h9; exact absurd h9 (Nat.not_lt_zero _)
                            | succ n95 ih96 =>
                              intro k89 f90 j91 j92 j93 hm97 H locs ls hP hD hS hl
                              refine lv_iload_n hx hb dX12_doStir_135 rfl (lv_at hl 0 rfl) ?_
                              refine lv_aload_n hx hb dX12_doStir_136 rfl (lv_at hl 1 rfl) ?_
                              refine va_get (D := (dC, dI)) (ci := 12) (v := .ref know) (C := RX12) (T := TX12) (N := 52) hx hb hts hin12 hown hK hP 0 rfl rfl 14 (by decide) (hts (.fieldLink RX12 98 "PorridgeSeaModel" "now" "[I") (List.mem_of_getElem? (i := 2) rfl)) (fun _ h9 => h9) rfl dX12_doStir_137 ?_
                              refine lv_iconst (v := nI 3) hx hb dX12_doStir_140 (by decide) ?_
                              obtain ⟨y98, e99⟩ : ∃ z9, z9 = f90 3 := ⟨_, rfl⟩
                              refine r_iald hx hb hK hP 1 rfl 3 (by decide) (by decide) y98 e99.symm dX12_doStir_141 ?_
                              obtain ⟨b100, b101⟩ : (0 : Int) ≤ y98.toInt ∧ y98.toInt ≤ 6 := by rw [e99]; exact ld_NB_3 j92 3 (by decide) (by decide)
                              refine lv_icmp_ge (tgt := 182) hx hb dX12_doStir_142 (by decide) (fun c102 => ?_) (fun c102 => ?_)
                              · refine lv_aload_n hx hb dX12_doStir_182 rfl (lv_at hl 1 rfl) ?_
                                refine va_get (D := (dC, dI)) (ci := 12) (v := .ref know) (C := RX12) (T := TX12) (N := 52) hx hb hts hin12 hown hK hP 0 rfl rfl 14 (by decide) (hts (.fieldLink RX12 98 "PorridgeSeaModel" "now" "[I") (List.mem_of_getElem? (i := 2) rfl)) (fun _ h9 => h9) rfl dX12_doStir_183 ?_
                                refine lv_bipush (v := nI 69) hx hb dX12_doStir_186 (by decide) ?_
                                refine lv_dup2_11 hx hb dX12_doStir_188 rfl rfl ?_
                                obtain ⟨y103, e104⟩ : ∃ z9, z9 = f90 69 := ⟨_, rfl⟩
                                refine r_iald hx hb hK hP 1 rfl 69 (by decide) (by decide) y103 e104.symm dX12_doStir_189 ?_
                                refine lv_iconst (v := nI 1) hx hb dX12_doStir_190 (by decide) ?_
                                refine lv_iadd hx hb dX12_doStir_191 ?_
                                refine lv_topi (fun y105 e106 => ?_)
                                refine r_iast (x := y105) hx hb hK hP hD hS 1 rfl 69 (by decide) (by decide) dX12_doStir_192 (fun H locs hP hD hS => ?_)
                                obtain ⟨g107, e108⟩ : ∃ z9, z9 = upd f90 69 y105 := ⟨_, rfl⟩
                                rw [← e108] at hP hD
                                have nb109 : NB g107 := by rw [e108]; exact st_NB_67 j92 69 (by decide) (by decide) (lf_x_doStir_1 k89 f90 n95 y98 y103 y105 j91 j92 j93 hm97 e99 b100 b101 c102 e104 e106) (lf_x_doStir_2 k89 f90 n95 y98 y103 y105 j91 j92 j93 hm97 e99 b100 b101 c102 e104 e106)
                                have sb110 : SB g107 := by rw [e108]; exact SB_lo j93 _ _ (by omega)
                                have hP : va_P (dC, dI) vwCl [(o, .inr (12, [.int kthrown, .ref ktape, .int (nI ktaped), .int (nI ksize), .int (nI klimit), .int (nI kto), .int (nI kfrom), .int kkind, .int knumber, .int ksign, .int kfault, .int kplace, .long kword, .int ktold, .ref know, .ref kread, .ref kkept, .ref ksnaps, .ref kaside, .ref kname, .ref kreadName, .ref kkeptName, .ref kisKept, .ref konces, .int (nI ksnapMany), .int khasCells, .ref kpoured, .ref kfar, .ref ksides, .int (nI ksideMany), .int kwayDays, .int khasWay, .ref klines, .ref kmet, .int (nI kmetMany), .ref ksunk, .ref ktrying, .int (nI ksunkMany), .int ksending, .int kfleets, .ref ktext, .int (nI ktexts), .int kseed, .ref kline, .ref kwritten, .int (nI klineMany), .int khasWritten, .ref knode, .int (nI knodes), .int (nI konesMany), .int (nI kwithin), .int (nI ktop)])), (know, .inl (ky 0, 373, .inl g107)), (kpoured, .inl (ky 0, 36, .inl f27))] H := hP
                                have hD : va_D A [(o, .inr (12, [.int kthrown, .ref ktape, .int (nI ktaped), .int (nI ksize), .int (nI klimit), .int (nI kto), .int (nI kfrom), .int kkind, .int knumber, .int ksign, .int kfault, .int kplace, .long kword, .int ktold, .ref know, .ref kread, .ref kkept, .ref ksnaps, .ref kaside, .ref kname, .ref kreadName, .ref kkeptName, .ref kisKept, .ref konces, .int (nI ksnapMany), .int khasCells, .ref kpoured, .ref kfar, .ref ksides, .int (nI ksideMany), .int kwayDays, .int khasWay, .ref klines, .ref kmet, .int (nI kmetMany), .ref ksunk, .ref ktrying, .int (nI ksunkMany), .int ksending, .int kfleets, .ref ktext, .int (nI ktexts), .int kseed, .ref kline, .ref kwritten, .int (nI klineMany), .int khasWritten, .ref knode, .int (nI knodes), .int (nI konesMany), .int (nI kwithin), .int (nI ktop)])), (know, .inl (ky 0, 373, .inl g107)), (kpoured, .inl (ky 0, 36, .inl f27))] := hD
                                rw [hQ]
                                exact W.vret hx hb hr (fun t9 ht9 hW9 => ⟨⟨(g107, f27), rfl, ⟨nb109, sb110, j29⟩, by rw [ht9]; exact hP, va_K.moved hW9.alike hK, hD⟩, hS.F ht9⟩) hS.2.2 dX12_doStir_193
                              · refine lv_aload_n hx hb dX12_doStir_145 rfl (lv_at hl 1 rfl) ?_
                                refine lv_iload_n hx hb dX12_doStir_146 rfl (lv_at hl 0 rfl) ?_
                                refine vp_callSi (W.runV (As := [.int (nI k89)]) (rest := []) ⟨hx, hb, hml, hown, hts⟩ (c_x_isEatenN l dC dI ky o kthrown ktape ktaped ksize klimit kto kfrom kkind knumber ksign kfault kplace kword ktold know kread kkept ksnaps kaside kname kreadName kkeptName kisKept konces ksnapMany khasCells kpoured kfar ksides ksideMany kwayDays khasWay klines kmet kmetMany ksunk ktrying ksunkMany ksending kfleets ktext ktexts kseed kline kwritten klineMany khasWritten knode knodes konesMany kwithin ktop f90 k89 iv_ko_0 iv_ko_1 iv_ko_2 iv_ko_3 iv_ko_4 iv_ko_5 iv_ko_6 iv_ko_7 iv_ko_8 iv_ko_9 iv_ko_10 iv_ko_11 iv_ko_12 iv_ko_13 iv_ko_14 j92 (lf_x_doStir_3 k89 f90 n95 y98 j91 j92 j93 hm97 e99 b100 b101 c102)) (cwV 1 hts gX12_doStir_X12_isEaten rfl rfl rfl (by decide +kernel) ⟨(Nat.le_of_ble_eq_true rfl), (Nat.le_of_ble_eq_true rfl)⟩) (pre_PV hK hP [0, 1] rfl (ci := 12) (q0 := 0) rfl rfl) rfl rfl hl.1 rfl (lv_room (Nat.le_of_ble_eq_true rfl)) dX12_doStir_147 ⟨(Nat.le_of_ble_eq_true rfl), (Nat.le_of_ble_eq_true rfl)⟩) (fun r111 p112 => ?_)
                                rcases p112 with ⟨rfl, t113⟩ | ⟨rfl, t114⟩
                                · refine lv_if_ne (tgt := 176) hx hb dX12_doStir_150 (by decide) (fun c115 => ?_) (fun c115 => absurd c115 (by decide))
                                  refine lv_iinc (v := nI (k89 + 1)) (lv' := [(2, .int (nI (k89 + 1))), (0, .ref o), (1, .int x)]) hx hb dX12_doStir_176 hl (k := 0) rfl (show nI k89 + nI 1 = nI (k89 + 1) from nI_add _ _) (by decide) rfl (fun ls hl => ?_)
                                  refine lv_goto (tgt := 135) hx hb dX12_doStir_179 (by decide) ?_
                                  exact ih96 (k89 + 1) f90 (lf_x_doStir_4 k89 f90 n95 y98 j91 j92 j93 hm97 e99 b100 b101 c102 t113) j92 j93 (lf_x_doStir_5 k89 f90 n95 y98 j91 j92 j93 hm97 e99 b100 b101 c102 t113) _ _ _ hP hD hS (lv_sub hl [0, 1, 2] rfl)
                                · refine lv_if_ne (tgt := 176) hx hb dX12_doStir_150 (by decide) (fun c116 => absurd c116 (by decide)) (fun c116 => ?_)
                                  refine lv_aload_n hx hb dX12_doStir_153 rfl (lv_at hl 1 rfl) ?_
                                  refine va_get (D := (dC, dI)) (ci := 12) (v := .ref know) (C := RX12) (T := TX12) (N := 52) hx hb hts hin12 hown hK hP 0 rfl rfl 14 (by decide) (hts (.fieldLink RX12 98 "PorridgeSeaModel" "now" "[I") (List.mem_of_getElem? (i := 2) rfl)) (fun _ h9 => h9) rfl dX12_doStir_154 ?_
                                  refine lv_bipush (v := nI 113) hx hb dX12_doStir_157 (by decide) ?_
                                  refine lv_iload_n hx hb dX12_doStir_159 rfl (lv_at hl 0 rfl) ?_
                                  refine lv_iadd hx hb dX12_doStir_160 ?_
                                  refine r_ti (nI (113 + k89)) (nI_add _ _) ?_
                                  refine lv_aload_n hx hb dX12_doStir_161 rfl (lv_at hl 1 rfl) ?_
                                  refine lv_aload_n hx hb dX12_doStir_162 rfl (lv_at hl 1 rfl) ?_
                                  refine va_get (D := (dC, dI)) (ci := 12) (v := .ref know) (C := RX12) (T := TX12) (N := 52) hx hb hts hin12 hown hK hP 0 rfl rfl 14 (by decide) (hts (.fieldLink RX12 98 "PorridgeSeaModel" "now" "[I") (List.mem_of_getElem? (i := 2) rfl)) (fun _ h9 => h9) rfl dX12_doStir_163 ?_
                                  refine lv_bipush (v := nI 113) hx hb dX12_doStir_166 (by decide) ?_
                                  refine lv_iload_n hx hb dX12_doStir_168 rfl (lv_at hl 0 rfl) ?_
                                  refine lv_iadd hx hb dX12_doStir_169 ?_
                                  refine r_ti (nI (113 + k89)) (nI_add _ _) ?_
                                  obtain ⟨y117, e118⟩ : ∃ z9, z9 = f90 (113 + k89) := ⟨_, rfl⟩
                                  refine r_iald hx hb hK hP 1 rfl (113 + k89) (lf_x_doStir_6 k89 f90 n95 y98 y117 j91 j92 j93 hm97 e99 b100 b101 c102 t114 e118) (by decide) y117 e118.symm dX12_doStir_170 ?_
                                  obtain ⟨b119, b120⟩ : (0 : Int) ≤ y117.toInt ∧ y117.toInt ≤ 35 := by rw [e118]; exact ld_NB_107 j92 (113 + k89) (lf_x_doStir_7 k89 f90 n95 y98 y117 j91 j92 j93 hm97 e99 b100 b101 c102 t114 e118) (lf_x_doStir_8 k89 f90 n95 y98 y117 j91 j92 j93 hm97 e99 b100 b101 c102 t114 e118)
                                  refine lv_iload_n hx hb dX12_doStir_171 rfl (lv_at hl 2 rfl) ?_
                                  refine vp_callSi (W.runV (As := [.int y117, .int x]) (rest := [.int (nI (113 + k89)), .ref know]) ⟨hx, hb, hml, hown, hts⟩ (c_x_stirred l dC dI ky o kthrown ktape ktaped ksize klimit kto kfrom kkind knumber ksign kfault kplace kword ktold know kread kkept ksnaps kaside kname kreadName kkeptName kisKept konces ksnapMany khasCells kpoured kfar ksides ksideMany kwayDays khasWay klines kmet kmetMany ksunk ktrying ksunkMany ksending kfleets ktext ktexts kseed kline kwritten klineMany khasWritten knode knodes konesMany kwithin ktop f90 y117 x iv_ko_0 iv_ko_1 iv_ko_2 iv_ko_3 iv_ko_4 iv_ko_5 iv_ko_6 iv_ko_7 iv_ko_8 iv_ko_9 iv_ko_10 iv_ko_11 iv_ko_12 iv_ko_13 iv_ko_14 j92 (lf_x_doStir_9 k89 f90 n95 y98 y117 j91 j92 j93 hm97 e99 b100 b101 c102 t114 e118 b119 b120) hl_x) (cwV 2 hts gX12_doStir_X12_stirred rfl rfl rfl (by decide +kernel) ⟨(Nat.le_of_ble_eq_true rfl), (Nat.le_of_ble_eq_true rfl)⟩) (pre_PV hK hP [0, 1] rfl (ci := 12) (q0 := 0) rfl rfl) rfl rfl hl.1 rfl (lv_room (Nat.le_of_ble_eq_true rfl)) dX12_doStir_172 ⟨(Nat.le_of_ble_eq_true rfl), (Nat.le_of_ble_eq_true rfl)⟩) (fun r121 p122 => ?_)
                                  obtain ⟨k123, h125, rfl⟩ := p122
                                  refine r_iast (x := (nI k123)) hx hb hK hP hD hS 1 rfl (113 + k89) (lf_x_doStir_12 k89 f90 n95 y98 y117 j91 j92 j93 hm97 e99 b100 b101 c102 t114 e118 b119 b120) (by decide) dX12_doStir_175 (fun H locs hP hD hS => ?_)
                                  obtain ⟨g126, e127⟩ : ∃ z9, z9 = upd f90 (113 + k89) (nI k123) := ⟨_, rfl⟩
                                  rw [← e127] at hP hD
                                  have nb128 : NB g126 := by rw [e127]; exact st_NB_107 j92 (113 + k89) (lf_x_doStir_13 k89 f90 n95 y98 y117 j91 j92 j93 hm97 e99 b100 b101 c102 t114 e118 b119 b120) (lf_x_doStir_14 k89 f90 n95 y98 y117 j91 j92 j93 hm97 e99 b100 b101 c102 t114 e118 b119 b120) (lf_x_doStir_10 k123 h125) (lf_x_doStir_11 k123 h125)
                                  have sb129 : SB g126 := by rw [e127]; exact SB_lo j93 _ _ (by omega)
                                  have hP : va_P (dC, dI) vwCl [(o, .inr (12, [.int kthrown, .ref ktape, .int (nI ktaped), .int (nI ksize), .int (nI klimit), .int (nI kto), .int (nI kfrom), .int kkind, .int knumber, .int ksign, .int kfault, .int kplace, .long kword, .int ktold, .ref know, .ref kread, .ref kkept, .ref ksnaps, .ref kaside, .ref kname, .ref kreadName, .ref kkeptName, .ref kisKept, .ref konces, .int (nI ksnapMany), .int khasCells, .ref kpoured, .ref kfar, .ref ksides, .int (nI ksideMany), .int kwayDays, .int khasWay, .ref klines, .ref kmet, .int (nI kmetMany), .ref ksunk, .ref ktrying, .int (nI ksunkMany), .int ksending, .int kfleets, .ref ktext, .int (nI ktexts), .int kseed, .ref kline, .ref kwritten, .int (nI klineMany), .int khasWritten, .ref knode, .int (nI knodes), .int (nI konesMany), .int (nI kwithin), .int (nI ktop)])), (know, .inl (ky 0, 373, .inl g126)), (kpoured, .inl (ky 0, 36, .inl f27))] H := hP
                                  have hD : va_D A [(o, .inr (12, [.int kthrown, .ref ktape, .int (nI ktaped), .int (nI ksize), .int (nI klimit), .int (nI kto), .int (nI kfrom), .int kkind, .int knumber, .int ksign, .int kfault, .int kplace, .long kword, .int ktold, .ref know, .ref kread, .ref kkept, .ref ksnaps, .ref kaside, .ref kname, .ref kreadName, .ref kkeptName, .ref kisKept, .ref konces, .int (nI ksnapMany), .int khasCells, .ref kpoured, .ref kfar, .ref ksides, .int (nI ksideMany), .int kwayDays, .int khasWay, .ref klines, .ref kmet, .int (nI kmetMany), .ref ksunk, .ref ktrying, .int (nI ksunkMany), .int ksending, .int kfleets, .ref ktext, .int (nI ktexts), .int kseed, .ref kline, .ref kwritten, .int (nI klineMany), .int khasWritten, .ref knode, .int (nI knodes), .int (nI konesMany), .int (nI kwithin), .int (nI ktop)])), (know, .inl (ky 0, 373, .inl g126)), (kpoured, .inl (ky 0, 36, .inl f27))] := hD
                                  refine lv_iinc (v := nI (k89 + 1)) (lv' := [(2, .int (nI (k89 + 1))), (0, .ref o), (1, .int x)]) hx hb dX12_doStir_176 hl (k := 0) rfl (show nI k89 + nI 1 = nI (k89 + 1) from nI_add _ _) (by decide) rfl (fun ls hl => ?_)
                                  refine lv_goto (tgt := 135) hx hb dX12_doStir_179 (by decide) ?_
                                  exact ih96 (k89 + 1) g126 (lf_x_doStir_15 k89 f90 n95 y98 y117 j91 j92 j93 hm97 e99 b100 b101 c102 t114 e118 b119 b120) nb128 sb129 (lf_x_doStir_16 k89 f90 n95 y98 y117 j91 j92 j93 hm97 e99 b100 b101 c102 t114 e118 b119 b120) _ _ _ hP hD hS (lv_sub hl [0, 1, 2] rfl)
                          exact hL94 ((6 - 0) + 1) 0 f66 (lf_x_doStir_17) j68 j69 (Nat.lt_succ_self _) _ _ _ hP hD hS (lv_sub hl [0, 1, 2] rfl)
                        · refine lv_aload_n hx hb dX12_doStir_104 rfl (lv_at hl 1 rfl) ?_
                          refine va_get (D := (dC, dI)) (ci := 12) (v := .ref know) (C := RX12) (T := TX12) (N := 52) hx hb hts hin12 hown hK hP 0 rfl rfl 14 (by decide) (hts (.fieldLink RX12 98 "PorridgeSeaModel" "now" "[I") (List.mem_of_getElem? (i := 2) rfl)) (fun _ h9 => h9) rfl dX12_doStir_105 ?_
                          refine lv_bipush (v := nI 107) hx hb dX12_doStir_108 (by decide) ?_
                          refine lv_iload_n hx hb dX12_doStir_110 rfl (lv_at hl 0 rfl) ?_
                          refine lv_iadd hx hb dX12_doStir_111 ?_
                          refine r_ti (nI (107 + k65)) (nI_add _ _) ?_
                          refine lv_aload_n hx hb dX12_doStir_112 rfl (lv_at hl 1 rfl) ?_
                          refine lv_aload_n hx hb dX12_doStir_113 rfl (lv_at hl 1 rfl) ?_
                          refine va_get (D := (dC, dI)) (ci := 12) (v := .ref know) (C := RX12) (T := TX12) (N := 52) hx hb hts hin12 hown hK hP 0 rfl rfl 14 (by decide) (hts (.fieldLink RX12 98 "PorridgeSeaModel" "now" "[I") (List.mem_of_getElem? (i := 2) rfl)) (fun _ h9 => h9) rfl dX12_doStir_114 ?_
                          refine lv_bipush (v := nI 107) hx hb dX12_doStir_117 (by decide) ?_
                          refine lv_iload_n hx hb dX12_doStir_119 rfl (lv_at hl 0 rfl) ?_
                          refine lv_iadd hx hb dX12_doStir_120 ?_
                          refine r_ti (nI (107 + k65)) (nI_add _ _) ?_
                          obtain ⟨y130, e131⟩ : ∃ z9, z9 = f66 (107 + k65) := ⟨_, rfl⟩
                          refine r_iald hx hb hK hP 1 rfl (107 + k65) (lf_x_doStir_18 k65 f66 n71 y74 y130 j67 j68 j69 hm73 e75 b76 b77 c78 e131) (by decide) y130 e131.symm dX12_doStir_121 ?_
                          obtain ⟨b132, b133⟩ : (0 : Int) ≤ y130.toInt ∧ y130.toInt ≤ 35 := by rw [e131]; exact ld_NB_107 j68 (107 + k65) (lf_x_doStir_19 k65 f66 n71 y74 y130 j67 j68 j69 hm73 e75 b76 b77 c78 e131) (lf_x_doStir_20 k65 f66 n71 y74 y130 j67 j68 j69 hm73 e75 b76 b77 c78 e131)
                          refine lv_iload_n hx hb dX12_doStir_122 rfl (lv_at hl 2 rfl) ?_
                          refine vp_callSi (W.runV (As := [.int y130, .int x]) (rest := [.int (nI (107 + k65)), .ref know]) ⟨hx, hb, hml, hown, hts⟩ (c_x_stirred l dC dI ky o kthrown ktape ktaped ksize klimit kto kfrom kkind knumber ksign kfault kplace kword ktold know kread kkept ksnaps kaside kname kreadName kkeptName kisKept konces ksnapMany khasCells kpoured kfar ksides ksideMany kwayDays khasWay klines kmet kmetMany ksunk ktrying ksunkMany ksending kfleets ktext ktexts kseed kline kwritten klineMany khasWritten knode knodes konesMany kwithin ktop f66 y130 x iv_ko_0 iv_ko_1 iv_ko_2 iv_ko_3 iv_ko_4 iv_ko_5 iv_ko_6 iv_ko_7 iv_ko_8 iv_ko_9 iv_ko_10 iv_ko_11 iv_ko_12 iv_ko_13 iv_ko_14 j68 (lf_x_doStir_21 k65 f66 n71 y74 y130 j67 j68 j69 hm73 e75 b76 b77 c78 e131 b132 b133) hl_x) (cwV 2 hts gX12_doStir_X12_stirred rfl rfl rfl (by decide +kernel) ⟨(Nat.le_of_ble_eq_true rfl), (Nat.le_of_ble_eq_true rfl)⟩) (pre_PV hK hP [0, 1] rfl (ci := 12) (q0 := 0) rfl rfl) rfl rfl hl.1 rfl (lv_room (Nat.le_of_ble_eq_true rfl)) dX12_doStir_123 ⟨(Nat.le_of_ble_eq_true rfl), (Nat.le_of_ble_eq_true rfl)⟩) (fun r134 p135 => ?_)
                          obtain ⟨k136, h138, rfl⟩ := p135
                          refine r_iast (x := (nI k136)) hx hb hK hP hD hS 1 rfl (107 + k65) (lf_x_doStir_24 k65 f66 n71 y74 y130 j67 j68 j69 hm73 e75 b76 b77 c78 e131 b132 b133) (by decide) dX12_doStir_126 (fun H locs hP hD hS => ?_)
                          obtain ⟨g139, e140⟩ : ∃ z9, z9 = upd f66 (107 + k65) (nI k136) := ⟨_, rfl⟩
                          rw [← e140] at hP hD
                          have nb141 : NB g139 := by rw [e140]; exact st_NB_107 j68 (107 + k65) (lf_x_doStir_25 k65 f66 n71 y74 y130 j67 j68 j69 hm73 e75 b76 b77 c78 e131 b132 b133) (lf_x_doStir_26 k65 f66 n71 y74 y130 j67 j68 j69 hm73 e75 b76 b77 c78 e131 b132 b133) (lf_x_doStir_22 k136 h138) (lf_x_doStir_23 k136 h138)
                          have sb142 : SB g139 := by rw [e140]; exact SB_lo j69 _ _ (by omega)
                          have hP : va_P (dC, dI) vwCl [(o, .inr (12, [.int kthrown, .ref ktape, .int (nI ktaped), .int (nI ksize), .int (nI klimit), .int (nI kto), .int (nI kfrom), .int kkind, .int knumber, .int ksign, .int kfault, .int kplace, .long kword, .int ktold, .ref know, .ref kread, .ref kkept, .ref ksnaps, .ref kaside, .ref kname, .ref kreadName, .ref kkeptName, .ref kisKept, .ref konces, .int (nI ksnapMany), .int khasCells, .ref kpoured, .ref kfar, .ref ksides, .int (nI ksideMany), .int kwayDays, .int khasWay, .ref klines, .ref kmet, .int (nI kmetMany), .ref ksunk, .ref ktrying, .int (nI ksunkMany), .int ksending, .int kfleets, .ref ktext, .int (nI ktexts), .int kseed, .ref kline, .ref kwritten, .int (nI klineMany), .int khasWritten, .ref knode, .int (nI knodes), .int (nI konesMany), .int (nI kwithin), .int (nI ktop)])), (know, .inl (ky 0, 373, .inl g139)), (kpoured, .inl (ky 0, 36, .inl f27))] H := hP
                          have hD : va_D A [(o, .inr (12, [.int kthrown, .ref ktape, .int (nI ktaped), .int (nI ksize), .int (nI klimit), .int (nI kto), .int (nI kfrom), .int kkind, .int knumber, .int ksign, .int kfault, .int kplace, .long kword, .int ktold, .ref know, .ref kread, .ref kkept, .ref ksnaps, .ref kaside, .ref kname, .ref kreadName, .ref kkeptName, .ref kisKept, .ref konces, .int (nI ksnapMany), .int khasCells, .ref kpoured, .ref kfar, .ref ksides, .int (nI ksideMany), .int kwayDays, .int khasWay, .ref klines, .ref kmet, .int (nI kmetMany), .ref ksunk, .ref ktrying, .int (nI ksunkMany), .int ksending, .int kfleets, .ref ktext, .int (nI ktexts), .int kseed, .ref kline, .ref kwritten, .int (nI klineMany), .int khasWritten, .ref knode, .int (nI knodes), .int (nI konesMany), .int (nI kwithin), .int (nI ktop)])), (know, .inl (ky 0, 373, .inl g139)), (kpoured, .inl (ky 0, 36, .inl f27))] := hD
                          refine lv_iinc (v := nI (k65 + 1)) (lv' := [(2, .int (nI (k65 + 1))), (0, .ref o), (1, .int x)]) hx hb dX12_doStir_127 hl (k := 0) rfl (show nI k65 + nI 1 = nI (k65 + 1) from nI_add _ _) (by decide) rfl (fun ls hl => ?_)
                          refine lv_goto (tgt := 94) hx hb dX12_doStir_130 (by decide) ?_
                          exact ih72 (k65 + 1) g139 (lf_x_doStir_27 k65 f66 n71 y74 y130 j67 j68 j69 hm73 e75 b76 b77 c78 e131 b132 b133) nb141 sb142 (lf_x_doStir_28 k65 f66 n71 y74 y130 j67 j68 j69 hm73 e75 b76 b77 c78 e131 b132 b133) _ _ _ hP hD hS (lv_sub hl [0, 1, 2] rfl)
                    exact hL70 ((6 - 0) + 1) 0 f46 (lf_x_doStir_29) j48 j49 (Nat.lt_succ_self _) _ _ _ hP hD hS (lv_sub hl [0, 1, 2] rfl)
                  · refine lv_aload_n hx hb dX12_doStir_71 rfl (lv_at hl 1 rfl) ?_
                    refine va_get (D := (dC, dI)) (ci := 12) (v := .ref know) (C := RX12) (T := TX12) (N := 52) hx hb hts hin12 hown hK hP 0 rfl rfl 14 (by decide) (hts (.fieldLink RX12 98 "PorridgeSeaModel" "now" "[I") (List.mem_of_getElem? (i := 2) rfl)) (fun _ h9 => h9) rfl dX12_doStir_72 ?_
                    refine lv_bipush (v := nI 71) hx hb dX12_doStir_75 (by decide) ?_
                    refine lv_iload_n hx hb dX12_doStir_77 rfl (lv_at hl 0 rfl) ?_
                    refine lv_iadd hx hb dX12_doStir_78 ?_
                    refine r_ti (nI (71 + k45)) (nI_add _ _) ?_
                    refine lv_aload_n hx hb dX12_doStir_79 rfl (lv_at hl 1 rfl) ?_
                    refine va_get (D := (dC, dI)) (ci := 12) (v := .ref kpoured) (C := RX12) (T := TX12) (N := 52) hx hb hts hin12 hown hK hP 0 rfl rfl 26 (by decide) (hts (.fieldLink RX12 130 "PorridgeSeaModel" "poured" "[I") (List.mem_of_getElem? (i := 1) rfl)) (fun _ h9 => h9) rfl dX12_doStir_80 ?_
                    refine lv_iload_n hx hb dX12_doStir_83 rfl (lv_at hl 0 rfl) ?_
                    obtain ⟨y143, e144⟩ : ∃ z9, z9 = f27 k45 := ⟨_, rfl⟩
                    refine r_iald hx hb hK hP 2 rfl k45 (lf_x_doStir_30 f27 k45 n51 y143 j29 j47 hm53 c54 e144) (by decide) y143 e144.symm dX12_doStir_84 ?_
                    obtain ⟨b145, b146⟩ : (0 : Int) ≤ y143.toInt ∧ y143.toInt ≤ 9 := by rw [e144]; exact ld_AP36_0 j29 k45 (lf_x_doStir_31 f27 k45 n51 y143 j29 j47 hm53 c54 e144) (lf_x_doStir_32 f27 k45 n51 y143 j29 j47 hm53 c54 e144)
                    refine r_iast (x := y143) hx hb hK hP hD hS 1 rfl (71 + k45) (lf_x_doStir_35 f27 k45 n51 y143 j29 j47 hm53 c54 e144 b145 b146) (by decide) dX12_doStir_85 (fun H locs hP hD hS => ?_)
                    obtain ⟨g147, e148⟩ : ∃ z9, z9 = upd f46 (71 + k45) y143 := ⟨_, rfl⟩
                    rw [← e148] at hP hD
                    have nb149 : NB g147 := by rw [e148]; exact st_NB_71 j48 (71 + k45) (lf_x_doStir_36 f27 k45 n51 y143 j29 j47 hm53 c54 e144 b145 b146) (lf_x_doStir_37 f27 k45 n51 y143 j29 j47 hm53 c54 e144 b145 b146) (lf_x_doStir_33 f27 k45 n51 y143 j29 j47 hm53 c54 e144 b145 b146) (lf_x_doStir_34 f27 k45 n51 y143 j29 j47 hm53 c54 e144 b145 b146)
                    have sb150 : SB g147 := by rw [e148]; exact SB_lo j49 _ _ (by omega)
                    have hP : va_P (dC, dI) vwCl [(o, .inr (12, [.int kthrown, .ref ktape, .int (nI ktaped), .int (nI ksize), .int (nI klimit), .int (nI kto), .int (nI kfrom), .int kkind, .int knumber, .int ksign, .int kfault, .int kplace, .long kword, .int ktold, .ref know, .ref kread, .ref kkept, .ref ksnaps, .ref kaside, .ref kname, .ref kreadName, .ref kkeptName, .ref kisKept, .ref konces, .int (nI ksnapMany), .int khasCells, .ref kpoured, .ref kfar, .ref ksides, .int (nI ksideMany), .int kwayDays, .int khasWay, .ref klines, .ref kmet, .int (nI kmetMany), .ref ksunk, .ref ktrying, .int (nI ksunkMany), .int ksending, .int kfleets, .ref ktext, .int (nI ktexts), .int kseed, .ref kline, .ref kwritten, .int (nI klineMany), .int khasWritten, .ref knode, .int (nI knodes), .int (nI konesMany), .int (nI kwithin), .int (nI ktop)])), (know, .inl (ky 0, 373, .inl g147)), (kpoured, .inl (ky 0, 36, .inl f27))] H := hP
                    have hD : va_D A [(o, .inr (12, [.int kthrown, .ref ktape, .int (nI ktaped), .int (nI ksize), .int (nI klimit), .int (nI kto), .int (nI kfrom), .int kkind, .int knumber, .int ksign, .int kfault, .int kplace, .long kword, .int ktold, .ref know, .ref kread, .ref kkept, .ref ksnaps, .ref kaside, .ref kname, .ref kreadName, .ref kkeptName, .ref kisKept, .ref konces, .int (nI ksnapMany), .int khasCells, .ref kpoured, .ref kfar, .ref ksides, .int (nI ksideMany), .int kwayDays, .int khasWay, .ref klines, .ref kmet, .int (nI kmetMany), .ref ksunk, .ref ktrying, .int (nI ksunkMany), .int ksending, .int kfleets, .ref ktext, .int (nI ktexts), .int kseed, .ref kline, .ref kwritten, .int (nI klineMany), .int khasWritten, .ref knode, .int (nI knodes), .int (nI konesMany), .int (nI kwithin), .int (nI ktop)])), (know, .inl (ky 0, 373, .inl g147)), (kpoured, .inl (ky 0, 36, .inl f27))] := hD
                    refine lv_iinc (v := nI (k45 + 1)) (lv' := [(2, .int (nI (k45 + 1))), (0, .ref o), (1, .int x)]) hx hb dX12_doStir_86 hl (k := 0) rfl (show nI k45 + nI 1 = nI (k45 + 1) from nI_add _ _) (by decide) rfl (fun ls hl => ?_)
                    refine lv_goto (tgt := 65) hx hb dX12_doStir_89 (by decide) ?_
                    exact ih52 (k45 + 1) g147 (lf_x_doStir_38 f27 k45 n51 y143 j29 j47 hm53 c54 e144 b145 b146) nb149 sb150 (lf_x_doStir_39 f27 k45 n51 y143 j29 j47 hm53 c54 e144 b145 b146) _ _ _ hP hD hS (lv_sub hl [0, 1, 2] rfl)
              exact hL50 ((36 - 0) + 1) 0 knowF (lf_x_doStir_40) ab_now sb_now (Nat.lt_succ_self _) _ _ _ hP hD hS (lv_sub hl [0, 1, 2] rfl)
            · refine lv_aload_n hx hb dX12_doStir_29 rfl (lv_at hl 1 rfl) ?_
              refine lv_iload_n hx hb dX12_doStir_30 rfl (lv_at hl 0 rfl) ?_
              refine vp_callSi (W.runV (As := [.int (nI k26)]) (rest := []) ⟨hx, hb, hml, hown, hts⟩ (c_x_isInSea l dC dI ky o kthrown ktape ktaped ksize klimit kto kfrom kkind knumber ksign kfault kplace kword ktold know kread kkept ksnaps kaside kname kreadName kkeptName kisKept konces ksnapMany khasCells kpoured kfar ksides ksideMany kwayDays khasWay klines kmet kmetMany ksunk ktrying ksunkMany ksending kfleets ktext ktexts kseed kline kwritten klineMany khasWritten knode knodes konesMany kwithin ktop knowF (nI k26) iv_ko_0 iv_ko_1 iv_ko_2 iv_ko_3 iv_ko_4 iv_ko_5 iv_ko_6 iv_ko_7 iv_ko_8 iv_ko_9 iv_ko_10 iv_ko_11 iv_ko_12 iv_ko_13 iv_ko_14 ab_now) (cwV 1 hts gX12_doStir_X12_isInSea rfl rfl rfl (by decide +kernel) ⟨(Nat.le_of_ble_eq_true rfl), (Nat.le_of_ble_eq_true rfl)⟩) (pre_PV hK hP [0, 1] rfl (ci := 12) (q0 := 0) rfl rfl) rfl rfl hl.1 rfl (lv_room (Nat.le_of_ble_eq_true rfl)) dX12_doStir_31 ⟨(Nat.le_of_ble_eq_true rfl), (Nat.le_of_ble_eq_true rfl)⟩) (fun r151 p152 => ?_)
              refine lv_if_eq (tgt := 57) hx hb dX12_doStir_34 (by decide) (fun c153 => ?_) (fun c153 => ?_)
              · refine lv_iinc (v := nI (k26 + 1)) (lv' := [(2, .int (nI (k26 + 1))), (0, .ref o), (1, .int x)]) hx hb dX12_doStir_57 hl (k := 0) rfl (show nI k26 + nI 1 = nI (k26 + 1) from nI_add _ _) (by decide) rfl (fun ls hl => ?_)
                refine lv_goto (tgt := 23) hx hb dX12_doStir_60 (by decide) ?_
                exact ih32 (k26 + 1) f27 (lf_x_doStir_41 k26 n31 j28 hm33 c34) j29 (lf_x_doStir_42 k26 n31 j28 hm33 c34) _ _ _ hP hD hS (lv_sub hl [0, 1, 2] rfl)
              · refine lv_aload_n hx hb dX12_doStir_37 rfl (lv_at hl 1 rfl) ?_
                refine va_get (D := (dC, dI)) (ci := 12) (v := .ref kpoured) (C := RX12) (T := TX12) (N := 52) hx hb hts hin12 hown hK hP 0 rfl rfl 26 (by decide) (hts (.fieldLink RX12 130 "PorridgeSeaModel" "poured" "[I") (List.mem_of_getElem? (i := 1) rfl)) (fun _ h9 => h9) rfl dX12_doStir_38 ?_
                refine lv_aload_n hx hb dX12_doStir_41 rfl (lv_at hl 1 rfl) ?_
                refine lv_iload_n hx hb dX12_doStir_42 rfl (lv_at hl 0 rfl) ?_
                refine lv_iload_n hx hb dX12_doStir_43 rfl (lv_at hl 2 rfl) ?_
                refine vp_callSi (W.runV (As := [.int (nI k26), .int x]) (rest := [.ref kpoured]) ⟨hx, hb, hml, hown, hts⟩ (c_x_stirred l dC dI ky o kthrown ktape ktaped ksize klimit kto kfrom kkind knumber ksign kfault kplace kword ktold know kread kkept ksnaps kaside kname kreadName kkeptName kisKept konces ksnapMany khasCells kpoured kfar ksides ksideMany kwayDays khasWay klines kmet kmetMany ksunk ktrying ksunkMany ksending kfleets ktext ktexts kseed kline kwritten klineMany khasWritten knode knodes konesMany kwithin ktop knowF (nI k26) x iv_ko_0 iv_ko_1 iv_ko_2 iv_ko_3 iv_ko_4 iv_ko_5 iv_ko_6 iv_ko_7 iv_ko_8 iv_ko_9 iv_ko_10 iv_ko_11 iv_ko_12 iv_ko_13 iv_ko_14 ab_now (lf_x_doStir_43 k26 n31 j28 hm33 c34) hl_x) (cwV 2 hts gX12_doStir_X12_stirred rfl rfl rfl (by decide +kernel) ⟨(Nat.le_of_ble_eq_true rfl), (Nat.le_of_ble_eq_true rfl)⟩) (pre_PV hK hP [0, 1] rfl (ci := 12) (q0 := 0) rfl rfl) rfl rfl hl.1 rfl (lv_room (Nat.le_of_ble_eq_true rfl)) dX12_doStir_44 ⟨(Nat.le_of_ble_eq_true rfl), (Nat.le_of_ble_eq_true rfl)⟩) (fun r154 p155 => ?_)
                obtain ⟨k156, h158, rfl⟩ := p155
                refine lv_aload_n hx hb dX12_doStir_47 rfl (lv_at hl 1 rfl) ?_
                refine va_get (D := (dC, dI)) (ci := 12) (v := .ref know) (C := RX12) (T := TX12) (N := 52) hx hb hts hin12 hown hK hP 0 rfl rfl 14 (by decide) (hts (.fieldLink RX12 98 "PorridgeSeaModel" "now" "[I") (List.mem_of_getElem? (i := 2) rfl)) (fun _ h9 => h9) rfl dX12_doStir_48 ?_
                refine lv_bipush (v := nI 71) hx hb dX12_doStir_51 (by decide) ?_
                refine lv_iload_n hx hb dX12_doStir_53 rfl (lv_at hl 0 rfl) ?_
                refine lv_iadd hx hb dX12_doStir_54 ?_
                refine r_ti (nI (71 + k26)) (nI_add _ _) ?_
                obtain ⟨y159, e160⟩ : ∃ z9, z9 = knowF (71 + k26) := ⟨_, rfl⟩
                refine r_iald hx hb hK hP 1 rfl (71 + k26) (lf_x_doStir_44 knowF k26 n31 y159 ab_now sb_now j28 hm33 c34 e160) (by decide) y159 e160.symm dX12_doStir_55 ?_
                obtain ⟨b161, b162⟩ : (0 : Int) ≤ y159.toInt ∧ y159.toInt ≤ 9 := by rw [e160]; exact ld_NB_71 ab_now (71 + k26) (lf_x_doStir_45 knowF k26 n31 y159 ab_now sb_now j28 hm33 c34 e160) (lf_x_doStir_46 knowF k26 n31 y159 ab_now sb_now j28 hm33 c34 e160)
                refine r_iast (x := y159) hx hb hK hP hD hS 2 rfl k156 (lf_x_doStir_49 k156 h158) (by decide) dX12_doStir_56 (fun H locs hP hD hS => ?_)
                obtain ⟨g163, e164⟩ : ∃ z9, z9 = upd f27 k156 y159 := ⟨_, rfl⟩
                rw [← e164] at hP hD
                have nb165 : AP36 g163 := by rw [e164]; exact st_AP36_0 j29 k156 (lf_x_doStir_50 k156 h158) (lf_x_doStir_51 k156 h158) (lf_x_doStir_47 knowF k26 n31 y159 ab_now sb_now j28 hm33 c34 e160 b161 b162) (lf_x_doStir_48 knowF k26 n31 y159 ab_now sb_now j28 hm33 c34 e160 b161 b162)
                have hP : va_P (dC, dI) vwCl [(o, .inr (12, [.int kthrown, .ref ktape, .int (nI ktaped), .int (nI ksize), .int (nI klimit), .int (nI kto), .int (nI kfrom), .int kkind, .int knumber, .int ksign, .int kfault, .int kplace, .long kword, .int ktold, .ref know, .ref kread, .ref kkept, .ref ksnaps, .ref kaside, .ref kname, .ref kreadName, .ref kkeptName, .ref kisKept, .ref konces, .int (nI ksnapMany), .int khasCells, .ref kpoured, .ref kfar, .ref ksides, .int (nI ksideMany), .int kwayDays, .int khasWay, .ref klines, .ref kmet, .int (nI kmetMany), .ref ksunk, .ref ktrying, .int (nI ksunkMany), .int ksending, .int kfleets, .ref ktext, .int (nI ktexts), .int kseed, .ref kline, .ref kwritten, .int (nI klineMany), .int khasWritten, .ref knode, .int (nI knodes), .int (nI konesMany), .int (nI kwithin), .int (nI ktop)])), (know, .inl (ky 0, 373, .inl knowF)), (kpoured, .inl (ky 0, 36, .inl g163))] H := hP
                have hD : va_D A [(o, .inr (12, [.int kthrown, .ref ktape, .int (nI ktaped), .int (nI ksize), .int (nI klimit), .int (nI kto), .int (nI kfrom), .int kkind, .int knumber, .int ksign, .int kfault, .int kplace, .long kword, .int ktold, .ref know, .ref kread, .ref kkept, .ref ksnaps, .ref kaside, .ref kname, .ref kreadName, .ref kkeptName, .ref kisKept, .ref konces, .int (nI ksnapMany), .int khasCells, .ref kpoured, .ref kfar, .ref ksides, .int (nI ksideMany), .int kwayDays, .int khasWay, .ref klines, .ref kmet, .int (nI kmetMany), .ref ksunk, .ref ktrying, .int (nI ksunkMany), .int ksending, .int kfleets, .ref ktext, .int (nI ktexts), .int kseed, .ref kline, .ref kwritten, .int (nI klineMany), .int khasWritten, .ref knode, .int (nI knodes), .int (nI konesMany), .int (nI kwithin), .int (nI ktop)])), (know, .inl (ky 0, 373, .inl knowF)), (kpoured, .inl (ky 0, 36, .inl g163))] := hD
                refine lv_iinc (v := nI (k26 + 1)) (lv' := [(2, .int (nI (k26 + 1))), (0, .ref o), (1, .int x)]) hx hb dX12_doStir_57 hl (k := 0) rfl (show nI k26 + nI 1 = nI (k26 + 1) from nI_add _ _) (by decide) rfl (fun ls hl => ?_)
                refine lv_goto (tgt := 23) hx hb dX12_doStir_60 (by decide) ?_
                exact ih32 (k26 + 1) g163 (lf_x_doStir_52 knowF k26 n31 y159 ab_now sb_now j28 hm33 c34 e160 b161 b162) nb165 (lf_x_doStir_53 knowF k26 n31 y159 ab_now sb_now j28 hm33 c34 e160 b161 b162) _ _ _ hP hD hS (lv_sub hl [0, 1, 2] rfl)
        exact hL30 ((36 - 0) + 1) 0 f10 (lf_x_doStir_54) j12 (Nat.lt_succ_self _) _ _ _ hP hD hS (lv_sub hl [0, 1, 2] rfl)
      · refine lv_aload_n hx hb dX12_doStir_8 rfl (lv_at hl 1 rfl) ?_
        refine va_get (D := (dC, dI)) (ci := 12) (v := .ref kpoured) (C := RX12) (T := TX12) (N := 52) hx hb hts hin12 hown hK hP 0 rfl rfl 26 (by decide) (hts (.fieldLink RX12 130 "PorridgeSeaModel" "poured" "[I") (List.mem_of_getElem? (i := 1) rfl)) (fun _ h9 => h9) rfl dX12_doStir_9 ?_
        refine lv_iload_n hx hb dX12_doStir_12 rfl (lv_at hl 0 rfl) ?_
        refine lv_iconst (v := nI 0) hx hb dX12_doStir_13 (by decide) ?_
        refine r_iast (x := (nI 0)) hx hb hK hP hD hS 2 rfl k9 (lf_x_doStir_57 k9 n14 j11 hm16 c17) (by decide) dX12_doStir_14 (fun H locs hP hD hS => ?_)
        obtain ⟨g166, e167⟩ : ∃ z9, z9 = upd f10 k9 (nI 0) := ⟨_, rfl⟩
        rw [← e167] at hP hD
        have nb168 : AP36 g166 := by rw [e167]; exact st_AP36_0 j12 k9 (lf_x_doStir_58 k9 n14 j11 hm16 c17) (lf_x_doStir_59 k9 n14 j11 hm16 c17) (lf_x_doStir_55) (lf_x_doStir_56)
        have hP : va_P (dC, dI) vwCl [(o, .inr (12, [.int kthrown, .ref ktape, .int (nI ktaped), .int (nI ksize), .int (nI klimit), .int (nI kto), .int (nI kfrom), .int kkind, .int knumber, .int ksign, .int kfault, .int kplace, .long kword, .int ktold, .ref know, .ref kread, .ref kkept, .ref ksnaps, .ref kaside, .ref kname, .ref kreadName, .ref kkeptName, .ref kisKept, .ref konces, .int (nI ksnapMany), .int khasCells, .ref kpoured, .ref kfar, .ref ksides, .int (nI ksideMany), .int kwayDays, .int khasWay, .ref klines, .ref kmet, .int (nI kmetMany), .ref ksunk, .ref ktrying, .int (nI ksunkMany), .int ksending, .int kfleets, .ref ktext, .int (nI ktexts), .int kseed, .ref kline, .ref kwritten, .int (nI klineMany), .int khasWritten, .ref knode, .int (nI knodes), .int (nI konesMany), .int (nI kwithin), .int (nI ktop)])), (know, .inl (ky 0, 373, .inl knowF)), (kpoured, .inl (ky 0, 36, .inl g166))] H := hP
        have hD : va_D A [(o, .inr (12, [.int kthrown, .ref ktape, .int (nI ktaped), .int (nI ksize), .int (nI klimit), .int (nI kto), .int (nI kfrom), .int kkind, .int knumber, .int ksign, .int kfault, .int kplace, .long kword, .int ktold, .ref know, .ref kread, .ref kkept, .ref ksnaps, .ref kaside, .ref kname, .ref kreadName, .ref kkeptName, .ref kisKept, .ref konces, .int (nI ksnapMany), .int khasCells, .ref kpoured, .ref kfar, .ref ksides, .int (nI ksideMany), .int kwayDays, .int khasWay, .ref klines, .ref kmet, .int (nI kmetMany), .ref ksunk, .ref ktrying, .int (nI ksunkMany), .int ksending, .int kfleets, .ref ktext, .int (nI ktexts), .int kseed, .ref kline, .ref kwritten, .int (nI klineMany), .int khasWritten, .ref knode, .int (nI knodes), .int (nI konesMany), .int (nI kwithin), .int (nI ktop)])), (know, .inl (ky 0, 373, .inl knowF)), (kpoured, .inl (ky 0, 36, .inl g166))] := hD
        refine lv_iinc (v := nI (k9 + 1)) (lv' := [(2, .int (nI (k9 + 1))), (0, .ref o), (1, .int x)]) hx hb dX12_doStir_15 hl (k := 0) rfl (show nI k9 + nI 1 = nI (k9 + 1) from nI_add _ _) (by decide) rfl (fun ls hl => ?_)
        refine lv_goto (tgt := 2) hx hb dX12_doStir_18 (by decide) ?_
        exact ih15 (k9 + 1) g166 (lf_x_doStir_60 k9 n14 j11 hm16 c17) nb168 (lf_x_doStir_61 k9 n14 j11 hm16 c17) _ _ _ hP hD hS (lv_sub hl [0, 1, 2] rfl)
  exact hL13 ((36 - 0) + 1) 0 kpouredF (lf_x_doStir_62) ab_poured (Nat.lt_succ_self _) _ _ _ hP hD hS (lv_sub hl [0, 1, 2] rfl)
set_option maxRecDepth 20000 in
theorem lf_x_oneDay_1 (k11 : Nat) (f12 : Nat → Int32) (n17 : Nat) (y20 : Int32) (y25 : Int32) (y27 : Int32) (y29 : Int32) (r31 : Int32) (y33 : Int32) (j13 : k11 ≤ 6) (j14 : NB f12) (j15 : SB f12) (hm19 : 6 - k11 < n17 + 1) (e21 : y20 = f12 3) (b22 : 0 ≤ y20.toInt) (b23 : y20.toInt ≤ 6) (c24 : y20 ≤ nI k11) (e26 : y25 = f12 68) (e28 : y27 = f12 5) (e30 : y29 = f12 68) (p32 : (r31 = y27 ∨ r31 = y29) ∧ r31.toInt ≤ y27.toInt ∧ r31.toInt ≤ y29.toInt) (e34 : y33 = y25 - r31) : -2147483648 ≤ (y33).toInt := by
  have b_y20 := ia_b y20
  have b_y25 := ia_b y25
  have b_y27 := ia_b y27
  have b_y29 := ia_b y29
  have b_r31 := ia_b r31
  have b_y33 := ia_b y33
  try have k_0 := ia_n k11 (by first | decide | omega)
  try simp only [ia_lt, ia_le, ia_eq, ia_m1, ia_0, ia_1, ne_eq, true_and, and_true, false_and, and_false, or_false, false_or, or_true, true_or, not_true_eq_false, not_false_eq_true] at *
  all_goals omega
set_option maxRecDepth 20000 in
theorem lf_x_oneDay_2 (k11 : Nat) (f12 : Nat → Int32) (n17 : Nat) (y20 : Int32) (y25 : Int32) (y27 : Int32) (y29 : Int32) (r31 : Int32) (y33 : Int32) (j13 : k11 ≤ 6) (j14 : NB f12) (j15 : SB f12) (hm19 : 6 - k11 < n17 + 1) (e21 : y20 = f12 3) (b22 : 0 ≤ y20.toInt) (b23 : y20.toInt ≤ 6) (c24 : y20 ≤ nI k11) (e26 : y25 = f12 68) (e28 : y27 = f12 5) (e30 : y29 = f12 68) (p32 : (r31 = y27 ∨ r31 = y29) ∧ r31.toInt ≤ y27.toInt ∧ r31.toInt ≤ y29.toInt) (e34 : y33 = y25 - r31) : (y33).toInt ≤ 2147483647 := by
  have b_y20 := ia_b y20
  have b_y25 := ia_b y25
  have b_y27 := ia_b y27
  have b_y29 := ia_b y29
  have b_r31 := ia_b r31
  have b_y33 := ia_b y33
  try have k_0 := ia_n k11 (by first | decide | omega)
  try simp only [ia_lt, ia_le, ia_eq, ia_m1, ia_0, ia_1, ne_eq, true_and, and_true, false_and, and_false, or_false, false_or, or_true, true_or, not_true_eq_false, not_false_eq_true] at *
  all_goals omega
set_option maxRecDepth 20000 in
theorem lf_x_oneDay_3 (g35 : Nat → Int32) (y39 : Int32) (y41 : Int32) (nb37 : NB g35) (sb38 : SB g35) (e40 : y39 = g35 67) (e42 : y41 = y39 + (nI 1)) : -2147483648 ≤ (y41).toInt := by
  have b_y39 := ia_b y39
  have b_y41 := ia_b y41
  try have k_0 := ia_n 1 (by first | decide | omega)
  try simp only [ia_lt, ia_le, ia_eq, ia_m1, ia_0, ia_1, ne_eq, true_and, and_true, false_and, and_false, or_false, false_or, or_true, true_or, not_true_eq_false, not_false_eq_true] at *
  all_goals omega
set_option maxRecDepth 20000 in
theorem lf_x_oneDay_4 (g35 : Nat → Int32) (y39 : Int32) (y41 : Int32) (nb37 : NB g35) (sb38 : SB g35) (e40 : y39 = g35 67) (e42 : y41 = y39 + (nI 1)) : (y41).toInt ≤ 2147483647 := by
  have b_y39 := ia_b y39
  have b_y41 := ia_b y41
  try have k_0 := ia_n 1 (by first | decide | omega)
  try simp only [ia_lt, ia_le, ia_eq, ia_m1, ia_0, ia_1, ne_eq, true_and, and_true, false_and, and_false, or_false, false_or, or_true, true_or, not_true_eq_false, not_false_eq_true] at *
  all_goals omega
set_option maxRecDepth 20000 in
theorem lf_x_oneDay_5 (k11 : Nat) (f12 : Nat → Int32) (n17 : Nat) (y20 : Int32) (j13 : k11 ≤ 6) (j14 : NB f12) (j15 : SB f12) (hm19 : 6 - k11 < n17 + 1) (e21 : y20 = f12 3) (b22 : 0 ≤ y20.toInt) (b23 : y20.toInt ≤ 6) (c24 : ¬ y20 ≤ nI k11) : 0 ≤ (nI k11).toInt ∧ (nI k11).toInt ≤ 5 := by
  have b_y20 := ia_b y20
  try have k_0 := ia_n k11 (by first | decide | omega)
  try simp only [ia_lt, ia_le, ia_eq, ia_m1, ia_0, ia_1, ne_eq, true_and, and_true, false_and, and_false, or_false, false_or, or_true, true_or, not_true_eq_false, not_false_eq_true] at *
  all_goals omega
set_option maxRecDepth 20000 in
theorem lf_x_oneDay_6 (k11 : Nat) (f12 : Nat → Int32) (n17 : Nat) (y20 : Int32) (f50 : Nat → Int32) (y54 : Int32) (j13 : k11 ≤ 6) (j14 : NB f12) (j15 : SB f12) (hm19 : 6 - k11 < n17 + 1) (e21 : y20 = f12 3) (b22 : 0 ≤ y20.toInt) (b23 : y20.toInt ≤ 6) (c24 : ¬ y20 ≤ nI k11) (j51 : NB f50) (j52 : SB f50) (e55 : y54 = f50 (61 + k11)) : (61 + k11) < 373 := by
  have b_y20 := ia_b y20
  have b_y54 := ia_b y54
  try have k_0 := ia_n k11 (by first | decide | omega)
  try simp only [ia_lt, ia_le, ia_eq, ia_m1, ia_0, ia_1, ne_eq, true_and, and_true, false_and, and_false, or_false, false_or, or_true, true_or, not_true_eq_false, not_false_eq_true] at *
  all_goals omega
set_option maxRecDepth 20000 in
theorem lf_x_oneDay_7 (k11 : Nat) (f12 : Nat → Int32) (n17 : Nat) (y20 : Int32) (f50 : Nat → Int32) (y54 : Int32) (j13 : k11 ≤ 6) (j14 : NB f12) (j15 : SB f12) (hm19 : 6 - k11 < n17 + 1) (e21 : y20 = f12 3) (b22 : 0 ≤ y20.toInt) (b23 : y20.toInt ≤ 6) (c24 : ¬ y20 ≤ nI k11) (j51 : NB f50) (j52 : SB f50) (e55 : y54 = f50 (61 + k11)) : -2147483648 ≤ (y54).toInt := by
  have b_y20 := ia_b y20
  have b_y54 := ia_b y54
  try have k_0 := ia_n k11 (by first | decide | omega)
  try simp only [ia_lt, ia_le, ia_eq, ia_m1, ia_0, ia_1, ne_eq, true_and, and_true, false_and, and_false, or_false, false_or, or_true, true_or, not_true_eq_false, not_false_eq_true] at *
  all_goals omega
set_option maxRecDepth 20000 in
theorem lf_x_oneDay_8 (k11 : Nat) (f12 : Nat → Int32) (n17 : Nat) (y20 : Int32) (f50 : Nat → Int32) (y54 : Int32) (j13 : k11 ≤ 6) (j14 : NB f12) (j15 : SB f12) (hm19 : 6 - k11 < n17 + 1) (e21 : y20 = f12 3) (b22 : 0 ≤ y20.toInt) (b23 : y20.toInt ≤ 6) (c24 : ¬ y20 ≤ nI k11) (j51 : NB f50) (j52 : SB f50) (e55 : y54 = f50 (61 + k11)) : (y54).toInt ≤ 2147483647 := by
  have b_y20 := ia_b y20
  have b_y54 := ia_b y54
  try have k_0 := ia_n k11 (by first | decide | omega)
  try simp only [ia_lt, ia_le, ia_eq, ia_m1, ia_0, ia_1, ne_eq, true_and, and_true, false_and, and_false, or_false, false_or, or_true, true_or, not_true_eq_false, not_false_eq_true] at *
  all_goals omega
set_option maxRecDepth 20000 in
theorem lf_x_oneDay_9 (k11 : Nat) (f12 : Nat → Int32) (n17 : Nat) (y20 : Int32) (f50 : Nat → Int32) (y54 : Int32) (j13 : k11 ≤ 6) (j14 : NB f12) (j15 : SB f12) (hm19 : 6 - k11 < n17 + 1) (e21 : y20 = f12 3) (b22 : 0 ≤ y20.toInt) (b23 : y20.toInt ≤ 6) (c24 : ¬ y20 ≤ nI k11) (j51 : NB f50) (j52 : SB f50) (e55 : y54 = f50 (61 + k11)) : (119 + k11) < 373 := by
  have b_y20 := ia_b y20
  have b_y54 := ia_b y54
  try have k_0 := ia_n k11 (by first | decide | omega)
  try simp only [ia_lt, ia_le, ia_eq, ia_m1, ia_0, ia_1, ne_eq, true_and, and_true, false_and, and_false, or_false, false_or, or_true, true_or, not_true_eq_false, not_false_eq_true] at *
  all_goals omega
set_option maxRecDepth 20000 in
theorem lf_x_oneDay_10 (k11 : Nat) (f12 : Nat → Int32) (n17 : Nat) (y20 : Int32) (f50 : Nat → Int32) (y54 : Int32) (j13 : k11 ≤ 6) (j14 : NB f12) (j15 : SB f12) (hm19 : 6 - k11 < n17 + 1) (e21 : y20 = f12 3) (b22 : 0 ≤ y20.toInt) (b23 : y20.toInt ≤ 6) (c24 : ¬ y20 ≤ nI k11) (j51 : NB f50) (j52 : SB f50) (e55 : y54 = f50 (61 + k11)) : 119 ≤ (119 + k11) := by
  have b_y20 := ia_b y20
  have b_y54 := ia_b y54
  try have k_0 := ia_n k11 (by first | decide | omega)
  try simp only [ia_lt, ia_le, ia_eq, ia_m1, ia_0, ia_1, ne_eq, true_and, and_true, false_and, and_false, or_false, false_or, or_true, true_or, not_true_eq_false, not_false_eq_true] at *
  all_goals omega
set_option maxRecDepth 20000 in
theorem lf_x_oneDay_11 (k11 : Nat) (f12 : Nat → Int32) (n17 : Nat) (y20 : Int32) (f50 : Nat → Int32) (y54 : Int32) (j13 : k11 ≤ 6) (j14 : NB f12) (j15 : SB f12) (hm19 : 6 - k11 < n17 + 1) (e21 : y20 = f12 3) (b22 : 0 ≤ y20.toInt) (b23 : y20.toInt ≤ 6) (c24 : ¬ y20 ≤ nI k11) (j51 : NB f50) (j52 : SB f50) (e55 : y54 = f50 (61 + k11)) : (119 + k11) < 132 := by
  have b_y20 := ia_b y20
  have b_y54 := ia_b y54
  try have k_0 := ia_n k11 (by first | decide | omega)
  try simp only [ia_lt, ia_le, ia_eq, ia_m1, ia_0, ia_1, ne_eq, true_and, and_true, false_and, and_false, or_false, false_or, or_true, true_or, not_true_eq_false, not_false_eq_true] at *
  all_goals omega
set_option maxRecDepth 20000 in
theorem lf_x_oneDay_12 (k11 : Nat) (f12 : Nat → Int32) (n17 : Nat) (y20 : Int32) (f50 : Nat → Int32) (y54 : Int32) (j13 : k11 ≤ 6) (j14 : NB f12) (j15 : SB f12) (hm19 : 6 - k11 < n17 + 1) (e21 : y20 = f12 3) (b22 : 0 ≤ y20.toInt) (b23 : y20.toInt ≤ 6) (c24 : ¬ y20 ≤ nI k11) (j51 : NB f50) (j52 : SB f50) (e55 : y54 = f50 (61 + k11)) : (k11 + 1) ≤ 6 := by
  have b_y20 := ia_b y20
  have b_y54 := ia_b y54
  try have k_0 := ia_n k11 (by first | decide | omega)
  try simp only [ia_lt, ia_le, ia_eq, ia_m1, ia_0, ia_1, ne_eq, true_and, and_true, false_and, and_false, or_false, false_or, or_true, true_or, not_true_eq_false, not_false_eq_true] at *
  all_goals omega
set_option maxRecDepth 20000 in
theorem lf_x_oneDay_13 (k11 : Nat) (f12 : Nat → Int32) (n17 : Nat) (y20 : Int32) (f50 : Nat → Int32) (y54 : Int32) (j13 : k11 ≤ 6) (j14 : NB f12) (j15 : SB f12) (hm19 : 6 - k11 < n17 + 1) (e21 : y20 = f12 3) (b22 : 0 ≤ y20.toInt) (b23 : y20.toInt ≤ 6) (c24 : ¬ y20 ≤ nI k11) (j51 : NB f50) (j52 : SB f50) (e55 : y54 = f50 (61 + k11)) : 6 - (k11 + 1) < n17 := by
  have b_y20 := ia_b y20
  have b_y54 := ia_b y54
  try have k_0 := ia_n k11 (by first | decide | omega)
  try simp only [ia_lt, ia_le, ia_eq, ia_m1, ia_0, ia_1, ne_eq, true_and, and_true, false_and, and_false, or_false, false_or, or_true, true_or, not_true_eq_false, not_false_eq_true] at *
  all_goals omega
set_option maxRecDepth 20000 in
theorem lf_x_oneDay_14 (k11 : Nat) (f12 : Nat → Int32) (n17 : Nat) (y20 : Int32) (j13 : k11 ≤ 6) (j14 : NB f12) (j15 : SB f12) (hm19 : 6 - k11 < n17 + 1) (e21 : y20 = f12 3) (b22 : 0 ≤ y20.toInt) (b23 : y20.toInt ≤ 6) (c24 : ¬ y20 ≤ nI k11) : k11 < 6 := by
  have b_y20 := ia_b y20
  try have k_0 := ia_n k11 (by first | decide | omega)
  try simp only [ia_lt, ia_le, ia_eq, ia_m1, ia_0, ia_1, ne_eq, true_and, and_true, false_and, and_false, or_false, false_or, or_true, true_or, not_true_eq_false, not_false_eq_true] at *
  all_goals omega
set_option maxRecDepth 20000 in
theorem lf_x_oneDay_15 (k11 : Nat) (f12 : Nat → Int32) (n17 : Nat) (y20 : Int32) (y66 : Int32) (j13 : k11 ≤ 6) (j14 : NB f12) (j15 : SB f12) (hm19 : 6 - k11 < n17 + 1) (e21 : y20 = f12 3) (b22 : 0 ≤ y20.toInt) (b23 : y20.toInt ≤ 6) (c24 : ¬ y20 ≤ nI k11) (t63 : ¬ f12 (125 + k11) = nI 3) (e67 : y66 = f12 (125 + k11)) : (125 + k11) < 373 := by
  have b_y20 := ia_b y20
  have b_y66 := ia_b y66
  try have k_0 := ia_n k11 (by first | decide | omega)
  try have k_1 := ia_n 3 (by first | decide | omega)
  try simp only [ia_lt, ia_le, ia_eq, ia_m1, ia_0, ia_1, ne_eq, true_and, and_true, false_and, and_false, or_false, false_or, or_true, true_or, not_true_eq_false, not_false_eq_true] at *
  all_goals omega
set_option maxRecDepth 20000 in
theorem lf_x_oneDay_16 (k11 : Nat) (f12 : Nat → Int32) (n17 : Nat) (y20 : Int32) (y66 : Int32) (y68 : Int32) (j13 : k11 ≤ 6) (j14 : NB f12) (j15 : SB f12) (hm19 : 6 - k11 < n17 + 1) (e21 : y20 = f12 3) (b22 : 0 ≤ y20.toInt) (b23 : y20.toInt ≤ 6) (c24 : ¬ y20 ≤ nI k11) (t63 : ¬ f12 (125 + k11) = nI 3) (e67 : y66 = f12 (125 + k11)) (e69 : y68 = y66 + (nI 1)) : -2147483648 ≤ (y68).toInt := by
  have b_y20 := ia_b y20
  have b_y66 := ia_b y66
  have b_y68 := ia_b y68
  try have k_0 := ia_n k11 (by first | decide | omega)
  try have k_1 := ia_n 3 (by first | decide | omega)
  try have k_2 := ia_n 1 (by first | decide | omega)
  try simp only [ia_lt, ia_le, ia_eq, ia_m1, ia_0, ia_1, ne_eq, true_and, and_true, false_and, and_false, or_false, false_or, or_true, true_or, not_true_eq_false, not_false_eq_true] at *
  all_goals omega
set_option maxRecDepth 20000 in
theorem lf_x_oneDay_17 (k11 : Nat) (f12 : Nat → Int32) (n17 : Nat) (y20 : Int32) (y66 : Int32) (y68 : Int32) (j13 : k11 ≤ 6) (j14 : NB f12) (j15 : SB f12) (hm19 : 6 - k11 < n17 + 1) (e21 : y20 = f12 3) (b22 : 0 ≤ y20.toInt) (b23 : y20.toInt ≤ 6) (c24 : ¬ y20 ≤ nI k11) (t63 : ¬ f12 (125 + k11) = nI 3) (e67 : y66 = f12 (125 + k11)) (e69 : y68 = y66 + (nI 1)) : (y68).toInt ≤ 2147483647 := by
  have b_y20 := ia_b y20
  have b_y66 := ia_b y66
  have b_y68 := ia_b y68
  try have k_0 := ia_n k11 (by first | decide | omega)
  try have k_1 := ia_n 3 (by first | decide | omega)
  try have k_2 := ia_n 1 (by first | decide | omega)
  try simp only [ia_lt, ia_le, ia_eq, ia_m1, ia_0, ia_1, ne_eq, true_and, and_true, false_and, and_false, or_false, false_or, or_true, true_or, not_true_eq_false, not_false_eq_true] at *
  all_goals omega
set_option maxRecDepth 20000 in
theorem lf_x_oneDay_18 (k11 : Nat) (f12 : Nat → Int32) (n17 : Nat) (y20 : Int32) (y66 : Int32) (y68 : Int32) (j13 : k11 ≤ 6) (j14 : NB f12) (j15 : SB f12) (hm19 : 6 - k11 < n17 + 1) (e21 : y20 = f12 3) (b22 : 0 ≤ y20.toInt) (b23 : y20.toInt ≤ 6) (c24 : ¬ y20 ≤ nI k11) (t63 : ¬ f12 (125 + k11) = nI 3) (e67 : y66 = f12 (125 + k11)) (e69 : y68 = y66 + (nI 1)) : (125 + k11) < 373 := by
  have b_y20 := ia_b y20
  have b_y66 := ia_b y66
  have b_y68 := ia_b y68
  try have k_0 := ia_n k11 (by first | decide | omega)
  try have k_1 := ia_n 3 (by first | decide | omega)
  try have k_2 := ia_n 1 (by first | decide | omega)
  try simp only [ia_lt, ia_le, ia_eq, ia_m1, ia_0, ia_1, ne_eq, true_and, and_true, false_and, and_false, or_false, false_or, or_true, true_or, not_true_eq_false, not_false_eq_true] at *
  all_goals omega
set_option maxRecDepth 20000 in
theorem lf_x_oneDay_19 (k11 : Nat) (f12 : Nat → Int32) (n17 : Nat) (y20 : Int32) (y66 : Int32) (y68 : Int32) (j13 : k11 ≤ 6) (j14 : NB f12) (j15 : SB f12) (hm19 : 6 - k11 < n17 + 1) (e21 : y20 = f12 3) (b22 : 0 ≤ y20.toInt) (b23 : y20.toInt ≤ 6) (c24 : ¬ y20 ≤ nI k11) (t63 : ¬ f12 (125 + k11) = nI 3) (e67 : y66 = f12 (125 + k11)) (e69 : y68 = y66 + (nI 1)) : 119 ≤ (125 + k11) := by
  have b_y20 := ia_b y20
  have b_y66 := ia_b y66
  have b_y68 := ia_b y68
  try have k_0 := ia_n k11 (by first | decide | omega)
  try have k_1 := ia_n 3 (by first | decide | omega)
  try have k_2 := ia_n 1 (by first | decide | omega)
  try simp only [ia_lt, ia_le, ia_eq, ia_m1, ia_0, ia_1, ne_eq, true_and, and_true, false_and, and_false, or_false, false_or, or_true, true_or, not_true_eq_false, not_false_eq_true] at *
  all_goals omega
set_option maxRecDepth 20000 in
theorem lf_x_oneDay_20 (k11 : Nat) (f12 : Nat → Int32) (n17 : Nat) (y20 : Int32) (y66 : Int32) (y68 : Int32) (j13 : k11 ≤ 6) (j14 : NB f12) (j15 : SB f12) (hm19 : 6 - k11 < n17 + 1) (e21 : y20 = f12 3) (b22 : 0 ≤ y20.toInt) (b23 : y20.toInt ≤ 6) (c24 : ¬ y20 ≤ nI k11) (t63 : ¬ f12 (125 + k11) = nI 3) (e67 : y66 = f12 (125 + k11)) (e69 : y68 = y66 + (nI 1)) : (125 + k11) < 132 := by
  have b_y20 := ia_b y20
  have b_y66 := ia_b y66
  have b_y68 := ia_b y68
  try have k_0 := ia_n k11 (by first | decide | omega)
  try have k_1 := ia_n 3 (by first | decide | omega)
  try have k_2 := ia_n 1 (by first | decide | omega)
  try simp only [ia_lt, ia_le, ia_eq, ia_m1, ia_0, ia_1, ne_eq, true_and, and_true, false_and, and_false, or_false, false_or, or_true, true_or, not_true_eq_false, not_false_eq_true] at *
  all_goals omega
set_option maxRecDepth 20000 in
theorem lf_x_oneDay_21 (k11 : Nat) (f12 : Nat → Int32) (n17 : Nat) (y20 : Int32) (j13 : k11 ≤ 6) (j14 : NB f12) (j15 : SB f12) (hm19 : 6 - k11 < n17 + 1) (e21 : y20 = f12 3) (b22 : 0 ≤ y20.toInt) (b23 : y20.toInt ≤ 6) (c24 : ¬ y20 ≤ nI k11) : (125 + k11) < 373 := by
  have b_y20 := ia_b y20
  try have k_0 := ia_n k11 (by first | decide | omega)
  try simp only [ia_lt, ia_le, ia_eq, ia_m1, ia_0, ia_1, ne_eq, true_and, and_true, false_and, and_false, or_false, false_or, or_true, true_or, not_true_eq_false, not_false_eq_true] at *
  all_goals omega
set_option maxRecDepth 20000 in
theorem lf_x_oneDay_22   : 0 ≤ 6 := by
  try simp only [ia_lt, ia_le, ia_eq, ia_m1, ia_0, ia_1, ne_eq, true_and, and_true, false_and, and_false, or_false, false_or, or_true, true_or, not_true_eq_false, not_false_eq_true] at *
  all_goals omega
set_option maxHeartbeats 4000000 in
set_option maxRecDepth 100000 in
theorem c_x_oneDay (l : Launch) (dC : Nat → ClassId) (dI : Nat → Nat → Nat) (ky : Nat → ClassId) (sz : Nat) (o : Nat) (kthrown : Int32) (ktape : Nat) (ktaped : Nat) (ksize : Nat) (klimit : Nat) (kto : Nat) (kfrom : Nat) (kkind : Int32) (knumber : Int32) (ksign : Int32) (kfault : Int32) (kplace : Int32) (kword : Int64) (ktold : Int32) (know : Nat) (kread : Nat) (kkept : Nat) (ksnaps : Nat) (kaside : Nat) (kname : Nat) (kreadName : Nat) (kkeptName : Nat) (kisKept : Nat) (konces : Nat) (ksnapMany : Nat) (khasCells : Int32) (kpoured : Nat) (kfar : Nat) (ksides : Nat) (ksideMany : Nat) (kwayDays : Int32) (khasWay : Int32) (klines : Nat) (kmet : Nat) (kmetMany : Nat) (ksunk : Nat) (ktrying : Nat) (ksunkMany : Nat) (ksending : Int32) (kfleets : Int32) (ktext : Nat) (ktexts : Nat) (kseed : Int32) (kline : Nat) (kwritten : Nat) (klineMany : Nat) (khasWritten : Int32) (knode : Nat) (knodes : Nat) (konesMany : Nat) (kwithin : Nat) (ktop : Nat) (knowF : Nat → Int32) (iv_ko_0 : ktaped ≤ 940) (iv_ko_1 : ksize ≤ 940) (iv_ko_2 : klimit ≤ 900) (iv_ko_3 : kto ≤ ksize) (iv_ko_4 : kfrom ≤ 940) (iv_ko_5 : ksnapMany ≤ 8) (iv_ko_6 : ksideMany ≤ 36) (iv_ko_7 : kmetMany ≤ 3) (iv_ko_8 : ksunkMany ≤ 36) (iv_ko_9 : ktexts ≤ 64) (iv_ko_10 : klineMany ≤ 40) (iv_ko_11 : knodes ≤ 60) (iv_ko_12 : konesMany ≤ 20) (iv_ko_13 : kwithin ≤ 8) (iv_ko_14 : ktop ≤ 59) (ab_now : NB knowF) (sb_now : SB knowF) : Met l yX12_oneDay wsX12_oneDay ({ frames := 3, cells := 0, slots := 0, locals := 65 }) (PcU dC dI ky [.ref o] [(o, .inr (12, [.int kthrown, .ref ktape, .int (nI ktaped), .int (nI ksize), .int (nI klimit), .int (nI kto), .int (nI kfrom), .int kkind, .int knumber, .int ksign, .int kfault, .int kplace, .long kword, .int ktold, .ref know, .ref kread, .ref kkept, .ref ksnaps, .ref kaside, .ref kname, .ref kreadName, .ref kkeptName, .ref kisKept, .ref konces, .int (nI ksnapMany), .int khasCells, .ref kpoured, .ref kfar, .ref ksides, .int (nI ksideMany), .int kwayDays, .int khasWay, .ref klines, .ref kmet, .int (nI kmetMany), .ref ksunk, .ref ktrying, .int (nI ksunkMany), .int ksending, .int kfleets, .ref ktext, .int (nI ktexts), .int kseed, .ref kline, .ref kwritten, .int (nI klineMany), .int khasWritten, .ref knode, .int (nI knodes), .int (nI konesMany), .int (nI kwithin), .int (nI ktop)])), (know, .inl (ky 0, 373, .inl knowF))] sz) (va_Qv (fun (knowG : (Nat → Int32)) => (NB knowG) ∧ (SB knowG)) (BU dC dI ky (fun (knowG : (Nat → Int32)) => [(o, .inr (12, [.int kthrown, .ref ktape, .int (nI ktaped), .int (nI ksize), .int (nI klimit), .int (nI kto), .int (nI kfrom), .int kkind, .int knumber, .int ksign, .int kfault, .int kplace, .long kword, .int ktold, .ref know, .ref kread, .ref kkept, .ref ksnaps, .ref kaside, .ref kname, .ref kreadName, .ref kkeptName, .ref kisKept, .ref konces, .int (nI ksnapMany), .int khasCells, .ref kpoured, .ref kfar, .ref ksides, .int (nI ksideMany), .int kwayDays, .int khasWay, .ref klines, .ref kmet, .int (nI kmetMany), .ref ksunk, .ref ktrying, .int (nI ksunkMany), .int ksending, .int kfleets, .ref ktext, .int (nI ktexts), .int kseed, .ref kline, .ref kwritten, .int (nI klineMany), .int khasWritten, .ref knode, .int (nI knodes), .int (nI konesMany), .int (nI kwithin), .int (nI ktop)])), (know, .inl (ky 0, 373, .inl knowG))]) (va_A [(o, .inr (12, [.int kthrown, .ref ktape, .int (nI ktaped), .int (nI ksize), .int (nI klimit), .int (nI kto), .int (nI kfrom), .int kkind, .int knumber, .int ksign, .int kfault, .int kplace, .long kword, .int ktold, .ref know, .ref kread, .ref kkept, .ref ksnaps, .ref kaside, .ref kname, .ref kreadName, .ref kkeptName, .ref kisKept, .ref konces, .int (nI ksnapMany), .int khasCells, .ref kpoured, .ref kfar, .ref ksides, .int (nI ksideMany), .int kwayDays, .int khasWay, .ref klines, .ref kmet, .int (nI kmetMany), .ref ksunk, .ref ktrying, .int (nI ksunkMany), .int ksending, .int kfleets, .ref ktext, .int (nI ktexts), .int kseed, .ref kline, .ref kwritten, .int (nI klineMany), .int khasWritten, .ref knode, .int (nI knodes), .int (nI konesMany), .int (nI kwithin), .int (nI ktop)])), (know, .inl (ky 0, 373, .inl knowF))] sz)) (va_A [(o, .inr (12, [.int kthrown, .ref ktape, .int (nI ktaped), .int (nI ksize), .int (nI klimit), .int (nI kto), .int (nI kfrom), .int kkind, .int knumber, .int ksign, .int kfault, .int kplace, .long kword, .int ktold, .ref know, .ref kread, .ref kkept, .ref ksnaps, .ref kaside, .ref kname, .ref kreadName, .ref kkeptName, .ref kisKept, .ref konces, .int (nI ksnapMany), .int khasCells, .ref kpoured, .ref kfar, .ref ksides, .int (nI ksideMany), .int kwayDays, .int khasWay, .ref klines, .ref kmet, .int (nI kmetMany), .ref ksunk, .ref ktrying, .int (nI ksunkMany), .int ksending, .int kfleets, .ref ktext, .int (nI ktexts), .int kseed, .ref kline, .ref kwritten, .int (nI klineMany), .int khasWritten, .ref knode, .int (nI knodes), .int (nI konesMany), .int (nI kwithin), .int (nI ktop)])), (know, .inl (ky 0, 373, .inl knowF))] sz)) 0 0 (va_A [(o, .inr (12, [.int kthrown, .ref ktape, .int (nI ktaped), .int (nI ksize), .int (nI klimit), .int (nI kto), .int (nI kfrom), .int kkind, .int knumber, .int ksign, .int kfault, .int kplace, .long kword, .int ktold, .ref know, .ref kread, .ref kkept, .ref ksnaps, .ref kaside, .ref kname, .ref kreadName, .ref kkeptName, .ref kisKept, .ref konces, .int (nI ksnapMany), .int khasCells, .ref kpoured, .ref kfar, .ref ksides, .int (nI ksideMany), .int kwayDays, .int khasWay, .ref klines, .ref kmet, .int (nI kmetMany), .ref ksunk, .ref ktrying, .int (nI ksunkMany), .int ksending, .int kfleets, .ref ktext, .int (nI ktexts), .int kseed, .ref kline, .ref kwritten, .int (nI klineMany), .int khasWritten, .ref knode, .int (nI knodes), .int (nI konesMany), .int (nI kwithin), .int (nI ktop)])), (know, .inl (ky 0, 373, .inl knowF))] sz) := by
  refine Met.ofW (cc := cX12_oneDay) (maxL := 2) (ret := none) (by decide) rfl ?_
  intro p e s m args below meth c s₁ B hml hv
  obtain ⟨rfl, hsz, hP, hK, hD0⟩ := hv
  have hx := B.exec
  have hb := B.bytes
  have hr := B.returns
  have hts := atoms_spec (ws := wsX12_oneDay) B.pre
  have hown : s.vm.findClass RX12 = some m.cls := findClass_of_methodNamed B.named
  have hlocks := B.notSynchronized
  have hin12 : ∀ w ∈ u_ws RX12 TX12 52, w ∈ wsX12_oneDay := by decide +kernel
  subst hsz
  have hD := hD0.self (sz := s.heap.size)
  generalize hAe : va_A [(o, .inr (12, [.int kthrown, .ref ktape, .int (nI ktaped), .int (nI ksize), .int (nI klimit), .int (nI kto), .int (nI kfrom), .int kkind, .int knumber, .int ksign, .int kfault, .int kplace, .long kword, .int ktold, .ref know, .ref kread, .ref kkept, .ref ksnaps, .ref kaside, .ref kname, .ref kreadName, .ref kkeptName, .ref kisKept, .ref konces, .int (nI ksnapMany), .int khasCells, .ref kpoured, .ref kfar, .ref ksides, .int (nI ksideMany), .int kwayDays, .int khasWay, .ref klines, .ref kmet, .int (nI kmetMany), .ref ksunk, .ref ktrying, .int (nI ksunkMany), .int ksending, .int kfleets, .ref ktext, .int (nI ktexts), .int kseed, .ref kline, .ref kwritten, .int (nI klineMany), .int khasWritten, .ref knode, .int (nI knodes), .int (nI konesMany), .int (nI kwithin), .int (nI ktop)])), (know, .inl (ky 0, 373, .inl knowF))] s.heap.size = A at hD ⊢
  have hA : ∀ q : Nat, s.heap.size ≤ q → A q := fun q h => by rw [← hAe]; exact Or.inr h
  have hS : va_S A s.heap s.heap [] := va_S.rf
  have hl := lv_entry ([.ref o]) (n := 2) (Nat.le_of_ble_eq_true rfl)
  rw [lg_entry_eq]
  generalize (lg_sl ([.ref o]) ++ List.replicate (2 - (lg_sl ([.ref o])).length) Slot.unset).toArray = ls at hl ⊢
  have hl : lv_has ls 2 [(0, .ref o)] := hl
  refine q_name (fun Q hQ => ?_)
  generalize ([.ref o] : List Value).toArray = args at hts hQ ⊢
  refine lv_iconst (v := nI 0) hx hb dX12_oneDay_0 (by decide) ?_
  refine lv_istore_n (lv' := [(1, .int (nI 0)), (0, .ref o)]) hx hb dX12_oneDay_1 rfl hl (by decide) rfl (fun ls hl => ?_)
  have hL16 : ∀ (n17 : Nat) (k11 : Nat) (f12 : Nat → Int32), (k11 ≤ 6) → (NB f12) → (SB f12) → 6 - k11 < n17 → ∀ (H : Heap) (locs : List Loc) (ls : Array Slot), va_P (dC, dI) vwCl [(o, .inr (12, [.int kthrown, .ref ktape, .int (nI ktaped), .int (nI ksize), .int (nI klimit), .int (nI kto), .int (nI kfrom), .int kkind, .int knumber, .int ksign, .int kfault, .int kplace, .long kword, .int ktold, .ref know, .ref kread, .ref kkept, .ref ksnaps, .ref kaside, .ref kname, .ref kreadName, .ref kkeptName, .ref kisKept, .ref konces, .int (nI ksnapMany), .int khasCells, .ref kpoured, .ref kfar, .ref ksides, .int (nI ksideMany), .int kwayDays, .int khasWay, .ref klines, .ref kmet, .int (nI kmetMany), .ref ksunk, .ref ktrying, .int (nI ksunkMany), .int ksending, .int kfleets, .ref ktext, .int (nI ktexts), .int kseed, .ref kline, .ref kwritten, .int (nI klineMany), .int khasWritten, .ref knode, .int (nI knodes), .int (nI konesMany), .int (nI kwithin), .int (nI ktop)])), (know, .inl (ky 0, 373, .inl f12))] H → va_D A [(o, .inr (12, [.int kthrown, .ref ktape, .int (nI ktaped), .int (nI ksize), .int (nI klimit), .int (nI kto), .int (nI kfrom), .int kkind, .int knumber, .int ksign, .int kfault, .int kplace, .long kword, .int ktold, .ref know, .ref kread, .ref kkept, .ref ksnaps, .ref kaside, .ref kname, .ref kreadName, .ref kkeptName, .ref kisKept, .ref konces, .int (nI ksnapMany), .int khasCells, .ref kpoured, .ref kfar, .ref ksides, .int (nI ksideMany), .int kwayDays, .int khasWay, .ref klines, .ref kmet, .int (nI kmetMany), .ref ksunk, .ref ktrying, .int (nI ksunkMany), .int ksending, .int kfleets, .ref ktext, .int (nI ktexts), .int kseed, .ref kline, .ref kwritten, .int (nI klineMany), .int khasWritten, .ref knode, .int (nI knodes), .int (nI konesMany), .int (nI kwithin), .int (nI ktop)])), (know, .inl (ky 0, 373, .inl f12))] → va_S A s.heap H locs → lv_has ls 2 [(1, .int (nI k11)), (0, .ref o)] → W p l e (headSpec wsX12_oneDay ({ frames := 3, cells := 0, slots := 0, locals := 65 })).room s m args below meth c H locs 0 0 Q (F0 m 2 ls []) := by
    intro n17
    induction n17 with
    | zero => intro k11 f12 _ _ _ h9; exact absurd h9 (Nat.not_lt_zero _)
    | succ n17 ih18 =>
      intro k11 f12 j13 j14 j15 hm19 H locs ls hP hD hS hl
      refine lv_iload_n hx hb dX12_oneDay_2 rfl (lv_at hl 0 rfl) ?_
      refine lv_aload_n hx hb dX12_oneDay_3 rfl (lv_at hl 1 rfl) ?_
      refine va_get (D := (dC, dI)) (ci := 12) (v := .ref know) (C := RX12) (T := TX12) (N := 52) hx hb hts hin12 hown hK hP 0 rfl rfl 14 (by decide) (hts (.fieldLink RX12 98 "PorridgeSeaModel" "now" "[I") (List.mem_of_getElem? (i := 1) rfl)) (fun _ h9 => h9) rfl dX12_oneDay_4 ?_
      refine lv_iconst (v := nI 3) hx hb dX12_oneDay_7 (by decide) ?_
      obtain ⟨y20, e21⟩ : ∃ z9, z9 = f12 3 := ⟨_, rfl⟩
      refine r_iald hx hb hK hP 1 rfl 3 (by decide) (by decide) y20 e21.symm dX12_oneDay_8 ?_
      obtain ⟨b22, b23⟩ : (0 : Int) ≤ y20.toInt ∧ y20.toInt ≤ 6 := by rw [e21]; exact ld_NB_3 j14 3 (by decide) (by decide)
      refine lv_icmp_ge (tgt := 78) hx hb dX12_oneDay_9 (by decide) (fun c24 => ?_) (fun c24 => ?_)
      · refine lv_aload_n hx hb dX12_oneDay_78 rfl (lv_at hl 1 rfl) ?_
        refine va_get (D := (dC, dI)) (ci := 12) (v := .ref know) (C := RX12) (T := TX12) (N := 52) hx hb hts hin12 hown hK hP 0 rfl rfl 14 (by decide) (hts (.fieldLink RX12 98 "PorridgeSeaModel" "now" "[I") (List.mem_of_getElem? (i := 1) rfl)) (fun _ h9 => h9) rfl dX12_oneDay_79 ?_
        refine lv_bipush (v := nI 68) hx hb dX12_oneDay_82 (by decide) ?_
        refine lv_dup2_11 hx hb dX12_oneDay_84 rfl rfl ?_
        obtain ⟨y25, e26⟩ : ∃ z9, z9 = f12 68 := ⟨_, rfl⟩
        refine r_iald hx hb hK hP 1 rfl 68 (by decide) (by decide) y25 e26.symm dX12_oneDay_85 ?_
        refine lv_aload_n hx hb dX12_oneDay_86 rfl (lv_at hl 1 rfl) ?_
        refine va_get (D := (dC, dI)) (ci := 12) (v := .ref know) (C := RX12) (T := TX12) (N := 52) hx hb hts hin12 hown hK hP 0 rfl rfl 14 (by decide) (hts (.fieldLink RX12 98 "PorridgeSeaModel" "now" "[I") (List.mem_of_getElem? (i := 1) rfl)) (fun _ h9 => h9) rfl dX12_oneDay_87 ?_
        refine lv_iconst (v := nI 5) hx hb dX12_oneDay_90 (by decide) ?_
        obtain ⟨y27, e28⟩ : ∃ z9, z9 = f12 5 := ⟨_, rfl⟩
        refine r_iald hx hb hK hP 1 rfl 5 (by decide) (by decide) y27 e28.symm dX12_oneDay_91 ?_
        refine lv_aload_n hx hb dX12_oneDay_92 rfl (lv_at hl 1 rfl) ?_
        refine va_get (D := (dC, dI)) (ci := 12) (v := .ref know) (C := RX12) (T := TX12) (N := 52) hx hb hts hin12 hown hK hP 0 rfl rfl 14 (by decide) (hts (.fieldLink RX12 98 "PorridgeSeaModel" "now" "[I") (List.mem_of_getElem? (i := 1) rfl)) (fun _ h9 => h9) rfl dX12_oneDay_93 ?_
        refine lv_bipush (v := nI 68) hx hb dX12_oneDay_96 (by decide) ?_
        obtain ⟨y29, e30⟩ : ∃ z9, z9 = f12 68 := ⟨_, rfl⟩
        refine r_iald hx hb hK hP 1 rfl 68 (by decide) (by decide) y29 e30.symm dX12_oneDay_98 ?_
        refine vp_callSi (W.runS (As := [.int y27, .int y29]) (rest := [.int y25, .int (nI 68), .ref know]) ⟨hx, hb, hml, hown, hts⟩ (c_x_least l dC dI ky y27 y29) (va_cwS 2 hts gX12_oneDay_X12_least rfl rfl rfl (by decide +kernel) ⟨(Nat.le_of_ble_eq_true rfl), (Nat.le_of_ble_eq_true rfl)⟩) (pre_PS hK hP [] rfl) rfl rfl hl.1 rfl (lv_room (Nat.le_of_ble_eq_true rfl)) dX12_oneDay_99 ⟨(Nat.le_of_ble_eq_true rfl), (Nat.le_of_ble_eq_true rfl)⟩) (fun r31 p32 => ?_)
        refine lv_isub hx hb dX12_oneDay_102 ?_
        refine lv_topi (fun y33 e34 => ?_)
        refine r_iast (x := y33) hx hb hK hP hD hS 1 rfl 68 (by decide) (by decide) dX12_oneDay_103 (fun H locs hP hD hS => ?_)
        obtain ⟨g35, e36⟩ : ∃ z9, z9 = upd f12 68 y33 := ⟨_, rfl⟩
        rw [← e36] at hP hD
        have nb37 : NB g35 := by rw [e36]; exact st_NB_67 j14 68 (by decide) (by decide) (lf_x_oneDay_1 k11 f12 n17 y20 y25 y27 y29 r31 y33 j13 j14 j15 hm19 e21 b22 b23 c24 e26 e28 e30 p32 e34) (lf_x_oneDay_2 k11 f12 n17 y20 y25 y27 y29 r31 y33 j13 j14 j15 hm19 e21 b22 b23 c24 e26 e28 e30 p32 e34)
        have sb38 : SB g35 := by rw [e36]; exact SB_lo j15 _ _ (by omega)
        have hP : va_P (dC, dI) vwCl [(o, .inr (12, [.int kthrown, .ref ktape, .int (nI ktaped), .int (nI ksize), .int (nI klimit), .int (nI kto), .int (nI kfrom), .int kkind, .int knumber, .int ksign, .int kfault, .int kplace, .long kword, .int ktold, .ref know, .ref kread, .ref kkept, .ref ksnaps, .ref kaside, .ref kname, .ref kreadName, .ref kkeptName, .ref kisKept, .ref konces, .int (nI ksnapMany), .int khasCells, .ref kpoured, .ref kfar, .ref ksides, .int (nI ksideMany), .int kwayDays, .int khasWay, .ref klines, .ref kmet, .int (nI kmetMany), .ref ksunk, .ref ktrying, .int (nI ksunkMany), .int ksending, .int kfleets, .ref ktext, .int (nI ktexts), .int kseed, .ref kline, .ref kwritten, .int (nI klineMany), .int khasWritten, .ref knode, .int (nI knodes), .int (nI konesMany), .int (nI kwithin), .int (nI ktop)])), (know, .inl (ky 0, 373, .inl g35))] H := hP
        have hD : va_D A [(o, .inr (12, [.int kthrown, .ref ktape, .int (nI ktaped), .int (nI ksize), .int (nI klimit), .int (nI kto), .int (nI kfrom), .int kkind, .int knumber, .int ksign, .int kfault, .int kplace, .long kword, .int ktold, .ref know, .ref kread, .ref kkept, .ref ksnaps, .ref kaside, .ref kname, .ref kreadName, .ref kkeptName, .ref kisKept, .ref konces, .int (nI ksnapMany), .int khasCells, .ref kpoured, .ref kfar, .ref ksides, .int (nI ksideMany), .int kwayDays, .int khasWay, .ref klines, .ref kmet, .int (nI kmetMany), .ref ksunk, .ref ktrying, .int (nI ksunkMany), .int ksending, .int kfleets, .ref ktext, .int (nI ktexts), .int kseed, .ref kline, .ref kwritten, .int (nI klineMany), .int khasWritten, .ref knode, .int (nI knodes), .int (nI konesMany), .int (nI kwithin), .int (nI ktop)])), (know, .inl (ky 0, 373, .inl g35))] := hD
        refine lv_aload_n hx hb dX12_oneDay_104 rfl (lv_at hl 1 rfl) ?_
        refine va_get (D := (dC, dI)) (ci := 12) (v := .ref know) (C := RX12) (T := TX12) (N := 52) hx hb hts hin12 hown hK hP 0 rfl rfl 14 (by decide) (hts (.fieldLink RX12 98 "PorridgeSeaModel" "now" "[I") (List.mem_of_getElem? (i := 1) rfl)) (fun _ h9 => h9) rfl dX12_oneDay_105 ?_
        refine lv_bipush (v := nI 67) hx hb dX12_oneDay_108 (by decide) ?_
        refine lv_dup2_11 hx hb dX12_oneDay_110 rfl rfl ?_
        obtain ⟨y39, e40⟩ : ∃ z9, z9 = g35 67 := ⟨_, rfl⟩
        refine r_iald hx hb hK hP 1 rfl 67 (by decide) (by decide) y39 e40.symm dX12_oneDay_111 ?_
        refine lv_iconst (v := nI 1) hx hb dX12_oneDay_112 (by decide) ?_
        refine lv_iadd hx hb dX12_oneDay_113 ?_
        refine lv_topi (fun y41 e42 => ?_)
        refine r_iast (x := y41) hx hb hK hP hD hS 1 rfl 67 (by decide) (by decide) dX12_oneDay_114 (fun H locs hP hD hS => ?_)
        obtain ⟨g43, e44⟩ : ∃ z9, z9 = upd g35 67 y41 := ⟨_, rfl⟩
        rw [← e44] at hP hD
        have nb45 : NB g43 := by rw [e44]; exact st_NB_67 nb37 67 (by decide) (by decide) (lf_x_oneDay_3 g35 y39 y41 nb37 sb38 e40 e42) (lf_x_oneDay_4 g35 y39 y41 nb37 sb38 e40 e42)
        have sb46 : SB g43 := by rw [e44]; exact SB_lo sb38 _ _ (by omega)
        have hP : va_P (dC, dI) vwCl [(o, .inr (12, [.int kthrown, .ref ktape, .int (nI ktaped), .int (nI ksize), .int (nI klimit), .int (nI kto), .int (nI kfrom), .int kkind, .int knumber, .int ksign, .int kfault, .int kplace, .long kword, .int ktold, .ref know, .ref kread, .ref kkept, .ref ksnaps, .ref kaside, .ref kname, .ref kreadName, .ref kkeptName, .ref kisKept, .ref konces, .int (nI ksnapMany), .int khasCells, .ref kpoured, .ref kfar, .ref ksides, .int (nI ksideMany), .int kwayDays, .int khasWay, .ref klines, .ref kmet, .int (nI kmetMany), .ref ksunk, .ref ktrying, .int (nI ksunkMany), .int ksending, .int kfleets, .ref ktext, .int (nI ktexts), .int kseed, .ref kline, .ref kwritten, .int (nI klineMany), .int khasWritten, .ref knode, .int (nI knodes), .int (nI konesMany), .int (nI kwithin), .int (nI ktop)])), (know, .inl (ky 0, 373, .inl g43))] H := hP
        have hD : va_D A [(o, .inr (12, [.int kthrown, .ref ktape, .int (nI ktaped), .int (nI ksize), .int (nI klimit), .int (nI kto), .int (nI kfrom), .int kkind, .int knumber, .int ksign, .int kfault, .int kplace, .long kword, .int ktold, .ref know, .ref kread, .ref kkept, .ref ksnaps, .ref kaside, .ref kname, .ref kreadName, .ref kkeptName, .ref kisKept, .ref konces, .int (nI ksnapMany), .int khasCells, .ref kpoured, .ref kfar, .ref ksides, .int (nI ksideMany), .int kwayDays, .int khasWay, .ref klines, .ref kmet, .int (nI kmetMany), .ref ksunk, .ref ktrying, .int (nI ksunkMany), .int ksending, .int kfleets, .ref ktext, .int (nI ktexts), .int kseed, .ref kline, .ref kwritten, .int (nI klineMany), .int khasWritten, .ref knode, .int (nI knodes), .int (nI konesMany), .int (nI kwithin), .int (nI ktop)])), (know, .inl (ky 0, 373, .inl g43))] := hD
        rw [hQ]
        exact W.vret hx hb hr (fun t9 ht9 hW9 => ⟨⟨g43, rfl, ⟨nb45, sb46⟩, by rw [ht9]; exact hP, va_K.moved hW9.alike hK, hD⟩, hS.F ht9⟩) hS.2.2 dX12_oneDay_115
      · refine lv_aload_n hx hb dX12_oneDay_12 rfl (lv_at hl 1 rfl) ?_
        refine lv_iload_n hx hb dX12_oneDay_13 rfl (lv_at hl 0 rfl) ?_
        refine vp_callSi (W.runV (As := [.int (nI k11)]) (rest := []) ⟨hx, hb, hml, hown, hts⟩ (c_x_isAfloat l dC dI ky o kthrown ktape ktaped ksize klimit kto kfrom kkind knumber ksign kfault kplace kword ktold know kread kkept ksnaps kaside kname kreadName kkeptName kisKept konces ksnapMany khasCells kpoured kfar ksides ksideMany kwayDays khasWay klines kmet kmetMany ksunk ktrying ksunkMany ksending kfleets ktext ktexts kseed kline kwritten klineMany khasWritten knode knodes konesMany kwithin ktop f12 (nI k11) iv_ko_0 iv_ko_1 iv_ko_2 iv_ko_3 iv_ko_4 iv_ko_5 iv_ko_6 iv_ko_7 iv_ko_8 iv_ko_9 iv_ko_10 iv_ko_11 iv_ko_12 iv_ko_13 iv_ko_14 j14 (lf_x_oneDay_5 k11 f12 n17 y20 j13 j14 j15 hm19 e21 b22 b23 c24)) (cwV 1 hts gX12_oneDay_X12_isAfloat rfl rfl rfl (by decide +kernel) ⟨(Nat.le_of_ble_eq_true rfl), (Nat.le_of_ble_eq_true rfl)⟩) (pre_PV hK hP [0, 1] rfl (ci := 12) (q0 := 0) rfl rfl) rfl rfl hl.1 rfl (lv_room (Nat.le_of_ble_eq_true rfl)) dX12_oneDay_14 ⟨(Nat.le_of_ble_eq_true rfl), (Nat.le_of_ble_eq_true rfl)⟩) (fun r47 p48 => ?_)
        have hJ53 : ∀ (f50 : Nat → Int32), (NB f50) → (SB f50) → ∀ (H : Heap) (locs : List Loc) (ls : Array Slot), va_P (dC, dI) vwCl [(o, .inr (12, [.int kthrown, .ref ktape, .int (nI ktaped), .int (nI ksize), .int (nI klimit), .int (nI kto), .int (nI kfrom), .int kkind, .int knumber, .int ksign, .int kfault, .int kplace, .long kword, .int ktold, .ref know, .ref kread, .ref kkept, .ref ksnaps, .ref kaside, .ref kname, .ref kreadName, .ref kkeptName, .ref kisKept, .ref konces, .int (nI ksnapMany), .int khasCells, .ref kpoured, .ref kfar, .ref ksides, .int (nI ksideMany), .int kwayDays, .int khasWay, .ref klines, .ref kmet, .int (nI kmetMany), .ref ksunk, .ref ktrying, .int (nI ksunkMany), .int ksending, .int kfleets, .ref ktext, .int (nI ktexts), .int kseed, .ref kline, .ref kwritten, .int (nI klineMany), .int khasWritten, .ref knode, .int (nI knodes), .int (nI konesMany), .int (nI kwithin), .int (nI ktop)])), (know, .inl (ky 0, 373, .inl f50))] H → va_D A [(o, .inr (12, [.int kthrown, .ref ktape, .int (nI ktaped), .int (nI ksize), .int (nI klimit), .int (nI kto), .int (nI kfrom), .int kkind, .int knumber, .int ksign, .int kfault, .int kplace, .long kword, .int ktold, .ref know, .ref kread, .ref kkept, .ref ksnaps, .ref kaside, .ref kname, .ref kreadName, .ref kkeptName, .ref kisKept, .ref konces, .int (nI ksnapMany), .int khasCells, .ref kpoured, .ref kfar, .ref ksides, .int (nI ksideMany), .int kwayDays, .int khasWay, .ref klines, .ref kmet, .int (nI kmetMany), .ref ksunk, .ref ktrying, .int (nI ksunkMany), .int ksending, .int kfleets, .ref ktext, .int (nI ktexts), .int kseed, .ref kline, .ref kwritten, .int (nI klineMany), .int khasWritten, .ref knode, .int (nI knodes), .int (nI konesMany), .int (nI kwithin), .int (nI ktop)])), (know, .inl (ky 0, 373, .inl f50))] → va_S A s.heap H locs → lv_has ls 2 [(1, .int (nI k11)), (0, .ref o)] → W p l e (headSpec wsX12_oneDay ({ frames := 3, cells := 0, slots := 0, locals := 65 })).room s m args below meth c H locs 0 0 Q (F0 m 54 ls []) := by
          intro f50 j51 j52 H locs ls hP hD hS hl
          refine lv_aload_n hx hb dX12_oneDay_54 rfl (lv_at hl 1 rfl) ?_
          refine va_get (D := (dC, dI)) (ci := 12) (v := .ref know) (C := RX12) (T := TX12) (N := 52) hx hb hts hin12 hown hK hP 0 rfl rfl 14 (by decide) (hts (.fieldLink RX12 98 "PorridgeSeaModel" "now" "[I") (List.mem_of_getElem? (i := 1) rfl)) (fun _ h9 => h9) rfl dX12_oneDay_55 ?_
          refine lv_bipush (v := nI 119) hx hb dX12_oneDay_58 (by decide) ?_
          refine lv_iload_n hx hb dX12_oneDay_60 rfl (lv_at hl 0 rfl) ?_
          refine lv_iadd hx hb dX12_oneDay_61 ?_
          refine r_ti (nI (119 + k11)) (nI_add _ _) ?_
          refine lv_aload_n hx hb dX12_oneDay_62 rfl (lv_at hl 1 rfl) ?_
          refine va_get (D := (dC, dI)) (ci := 12) (v := .ref know) (C := RX12) (T := TX12) (N := 52) hx hb hts hin12 hown hK hP 0 rfl rfl 14 (by decide) (hts (.fieldLink RX12 98 "PorridgeSeaModel" "now" "[I") (List.mem_of_getElem? (i := 1) rfl)) (fun _ h9 => h9) rfl dX12_oneDay_63 ?_
          refine lv_bipush (v := nI 61) hx hb dX12_oneDay_66 (by decide) ?_
          refine lv_iload_n hx hb dX12_oneDay_68 rfl (lv_at hl 0 rfl) ?_
          refine lv_iadd hx hb dX12_oneDay_69 ?_
          refine r_ti (nI (61 + k11)) (nI_add _ _) ?_
          obtain ⟨y54, e55⟩ : ∃ z9, z9 = f50 (61 + k11) := ⟨_, rfl⟩
          refine r_iald hx hb hK hP 1 rfl (61 + k11) (lf_x_oneDay_6 k11 f12 n17 y20 f50 y54 j13 j14 j15 hm19 e21 b22 b23 c24 j51 j52 e55) (by decide) y54 e55.symm dX12_oneDay_70 ?_
          refine r_iast (x := y54) hx hb hK hP hD hS 1 rfl (119 + k11) (lf_x_oneDay_9 k11 f12 n17 y20 f50 y54 j13 j14 j15 hm19 e21 b22 b23 c24 j51 j52 e55) (by decide) dX12_oneDay_71 (fun H locs hP hD hS => ?_)
          obtain ⟨g56, e57⟩ : ∃ z9, z9 = upd f50 (119 + k11) y54 := ⟨_, rfl⟩
          rw [← e57] at hP hD
          have nb58 : NB g56 := by rw [e57]; exact st_NB_119 j51 (119 + k11) (lf_x_oneDay_10 k11 f12 n17 y20 f50 y54 j13 j14 j15 hm19 e21 b22 b23 c24 j51 j52 e55) (lf_x_oneDay_11 k11 f12 n17 y20 f50 y54 j13 j14 j15 hm19 e21 b22 b23 c24 j51 j52 e55) (lf_x_oneDay_7 k11 f12 n17 y20 f50 y54 j13 j14 j15 hm19 e21 b22 b23 c24 j51 j52 e55) (lf_x_oneDay_8 k11 f12 n17 y20 f50 y54 j13 j14 j15 hm19 e21 b22 b23 c24 j51 j52 e55)
          have sb59 : SB g56 := by rw [e57]; exact SB_lo j52 _ _ (by omega)
          have hP : va_P (dC, dI) vwCl [(o, .inr (12, [.int kthrown, .ref ktape, .int (nI ktaped), .int (nI ksize), .int (nI klimit), .int (nI kto), .int (nI kfrom), .int kkind, .int knumber, .int ksign, .int kfault, .int kplace, .long kword, .int ktold, .ref know, .ref kread, .ref kkept, .ref ksnaps, .ref kaside, .ref kname, .ref kreadName, .ref kkeptName, .ref kisKept, .ref konces, .int (nI ksnapMany), .int khasCells, .ref kpoured, .ref kfar, .ref ksides, .int (nI ksideMany), .int kwayDays, .int khasWay, .ref klines, .ref kmet, .int (nI kmetMany), .ref ksunk, .ref ktrying, .int (nI ksunkMany), .int ksending, .int kfleets, .ref ktext, .int (nI ktexts), .int kseed, .ref kline, .ref kwritten, .int (nI klineMany), .int khasWritten, .ref knode, .int (nI knodes), .int (nI konesMany), .int (nI kwithin), .int (nI ktop)])), (know, .inl (ky 0, 373, .inl g56))] H := hP
          have hD : va_D A [(o, .inr (12, [.int kthrown, .ref ktape, .int (nI ktaped), .int (nI ksize), .int (nI klimit), .int (nI kto), .int (nI kfrom), .int kkind, .int knumber, .int ksign, .int kfault, .int kplace, .long kword, .int ktold, .ref know, .ref kread, .ref kkept, .ref ksnaps, .ref kaside, .ref kname, .ref kreadName, .ref kkeptName, .ref kisKept, .ref konces, .int (nI ksnapMany), .int khasCells, .ref kpoured, .ref kfar, .ref ksides, .int (nI ksideMany), .int kwayDays, .int khasWay, .ref klines, .ref kmet, .int (nI kmetMany), .ref ksunk, .ref ktrying, .int (nI ksunkMany), .int ksending, .int kfleets, .ref ktext, .int (nI ktexts), .int kseed, .ref kline, .ref kwritten, .int (nI klineMany), .int khasWritten, .ref knode, .int (nI knodes), .int (nI konesMany), .int (nI kwithin), .int (nI ktop)])), (know, .inl (ky 0, 373, .inl g56))] := hD
          refine lv_iinc (v := nI (k11 + 1)) (lv' := [(1, .int (nI (k11 + 1))), (0, .ref o)]) hx hb dX12_oneDay_72 hl (k := 0) rfl (show nI k11 + nI 1 = nI (k11 + 1) from nI_add _ _) (by decide) rfl (fun ls hl => ?_)
          refine lv_goto (tgt := 2) hx hb dX12_oneDay_75 (by decide) ?_
          exact ih18 (k11 + 1) g56 (lf_x_oneDay_12 k11 f12 n17 y20 f50 y54 j13 j14 j15 hm19 e21 b22 b23 c24 j51 j52 e55) nb58 sb59 (lf_x_oneDay_13 k11 f12 n17 y20 f50 y54 j13 j14 j15 hm19 e21 b22 b23 c24 j51 j52 e55) _ _ _ hP hD hS (lv_sub hl [0, 1] rfl)
        refine lv_if_eq (tgt := 33) hx hb dX12_oneDay_17 (by decide) (fun c49 => ?_) (fun c49 => ?_)
        · refine lv_aload_n hx hb dX12_oneDay_33 rfl (lv_at hl 1 rfl) ?_
          refine lv_iload_n hx hb dX12_oneDay_34 rfl (lv_at hl 0 rfl) ?_
          refine vp_callSi (W.runV (As := [.int (nI k11)]) (rest := []) ⟨hx, hb, hml, hown, hts⟩ (c_x_isEatenN l dC dI ky o kthrown ktape ktaped ksize klimit kto kfrom kkind knumber ksign kfault kplace kword ktold know kread kkept ksnaps kaside kname kreadName kkeptName kisKept konces ksnapMany khasCells kpoured kfar ksides ksideMany kwayDays khasWay klines kmet kmetMany ksunk ktrying ksunkMany ksending kfleets ktext ktexts kseed kline kwritten klineMany khasWritten knode knodes konesMany kwithin ktop f12 k11 iv_ko_0 iv_ko_1 iv_ko_2 iv_ko_3 iv_ko_4 iv_ko_5 iv_ko_6 iv_ko_7 iv_ko_8 iv_ko_9 iv_ko_10 iv_ko_11 iv_ko_12 iv_ko_13 iv_ko_14 j14 (lf_x_oneDay_14 k11 f12 n17 y20 j13 j14 j15 hm19 e21 b22 b23 c24)) (cwV 1 hts gX12_oneDay_X12_isEaten rfl rfl rfl (by decide +kernel) ⟨(Nat.le_of_ble_eq_true rfl), (Nat.le_of_ble_eq_true rfl)⟩) (pre_PV hK hP [0, 1] rfl (ci := 12) (q0 := 0) rfl rfl) rfl rfl hl.1 rfl (lv_room (Nat.le_of_ble_eq_true rfl)) dX12_oneDay_35 ⟨(Nat.le_of_ble_eq_true rfl), (Nat.le_of_ble_eq_true rfl)⟩) (fun r60 p61 => ?_)
          rcases p61 with ⟨rfl, t62⟩ | ⟨rfl, t63⟩
          · refine lv_if_ne (tgt := 54) hx hb dX12_oneDay_38 (by decide) (fun c64 => ?_) (fun c64 => absurd c64 (by decide))
            exact hJ53 f12 j14 j15 _ _ _ hP hD hS (lv_sub hl [0, 1] rfl)
          · refine lv_if_ne (tgt := 54) hx hb dX12_oneDay_38 (by decide) (fun c65 => absurd c65 (by decide)) (fun c65 => ?_)
            refine lv_aload_n hx hb dX12_oneDay_41 rfl (lv_at hl 1 rfl) ?_
            refine va_get (D := (dC, dI)) (ci := 12) (v := .ref know) (C := RX12) (T := TX12) (N := 52) hx hb hts hin12 hown hK hP 0 rfl rfl 14 (by decide) (hts (.fieldLink RX12 98 "PorridgeSeaModel" "now" "[I") (List.mem_of_getElem? (i := 1) rfl)) (fun _ h9 => h9) rfl dX12_oneDay_42 ?_
            refine lv_bipush (v := nI 125) hx hb dX12_oneDay_45 (by decide) ?_
            refine lv_iload_n hx hb dX12_oneDay_47 rfl (lv_at hl 0 rfl) ?_
            refine lv_iadd hx hb dX12_oneDay_48 ?_
            refine r_ti (nI (125 + k11)) (nI_add _ _) ?_
            refine lv_dup2_11 hx hb dX12_oneDay_49 rfl rfl ?_
            obtain ⟨y66, e67⟩ : ∃ z9, z9 = f12 (125 + k11) := ⟨_, rfl⟩
            refine r_iald hx hb hK hP 1 rfl (125 + k11) (lf_x_oneDay_15 k11 f12 n17 y20 y66 j13 j14 j15 hm19 e21 b22 b23 c24 t63 e67) (by decide) y66 e67.symm dX12_oneDay_50 ?_
            refine lv_iconst (v := nI 1) hx hb dX12_oneDay_51 (by decide) ?_
            refine lv_iadd hx hb dX12_oneDay_52 ?_
            refine lv_topi (fun y68 e69 => ?_)
            refine r_iast (x := y68) hx hb hK hP hD hS 1 rfl (125 + k11) (lf_x_oneDay_18 k11 f12 n17 y20 y66 y68 j13 j14 j15 hm19 e21 b22 b23 c24 t63 e67 e69) (by decide) dX12_oneDay_53 (fun H locs hP hD hS => ?_)
            obtain ⟨g70, e71⟩ : ∃ z9, z9 = upd f12 (125 + k11) y68 := ⟨_, rfl⟩
            rw [← e71] at hP hD
            have nb72 : NB g70 := by rw [e71]; exact st_NB_119 j14 (125 + k11) (lf_x_oneDay_19 k11 f12 n17 y20 y66 y68 j13 j14 j15 hm19 e21 b22 b23 c24 t63 e67 e69) (lf_x_oneDay_20 k11 f12 n17 y20 y66 y68 j13 j14 j15 hm19 e21 b22 b23 c24 t63 e67 e69) (lf_x_oneDay_16 k11 f12 n17 y20 y66 y68 j13 j14 j15 hm19 e21 b22 b23 c24 t63 e67 e69) (lf_x_oneDay_17 k11 f12 n17 y20 y66 y68 j13 j14 j15 hm19 e21 b22 b23 c24 t63 e67 e69)
            have sb73 : SB g70 := by rw [e71]; exact SB_lo j15 _ _ (by omega)
            have hP : va_P (dC, dI) vwCl [(o, .inr (12, [.int kthrown, .ref ktape, .int (nI ktaped), .int (nI ksize), .int (nI klimit), .int (nI kto), .int (nI kfrom), .int kkind, .int knumber, .int ksign, .int kfault, .int kplace, .long kword, .int ktold, .ref know, .ref kread, .ref kkept, .ref ksnaps, .ref kaside, .ref kname, .ref kreadName, .ref kkeptName, .ref kisKept, .ref konces, .int (nI ksnapMany), .int khasCells, .ref kpoured, .ref kfar, .ref ksides, .int (nI ksideMany), .int kwayDays, .int khasWay, .ref klines, .ref kmet, .int (nI kmetMany), .ref ksunk, .ref ktrying, .int (nI ksunkMany), .int ksending, .int kfleets, .ref ktext, .int (nI ktexts), .int kseed, .ref kline, .ref kwritten, .int (nI klineMany), .int khasWritten, .ref knode, .int (nI knodes), .int (nI konesMany), .int (nI kwithin), .int (nI ktop)])), (know, .inl (ky 0, 373, .inl g70))] H := hP
            have hD : va_D A [(o, .inr (12, [.int kthrown, .ref ktape, .int (nI ktaped), .int (nI ksize), .int (nI klimit), .int (nI kto), .int (nI kfrom), .int kkind, .int knumber, .int ksign, .int kfault, .int kplace, .long kword, .int ktold, .ref know, .ref kread, .ref kkept, .ref ksnaps, .ref kaside, .ref kname, .ref kreadName, .ref kkeptName, .ref kisKept, .ref konces, .int (nI ksnapMany), .int khasCells, .ref kpoured, .ref kfar, .ref ksides, .int (nI ksideMany), .int kwayDays, .int khasWay, .ref klines, .ref kmet, .int (nI kmetMany), .ref ksunk, .ref ktrying, .int (nI ksunkMany), .int ksending, .int kfleets, .ref ktext, .int (nI ktexts), .int kseed, .ref kline, .ref kwritten, .int (nI klineMany), .int khasWritten, .ref knode, .int (nI knodes), .int (nI konesMany), .int (nI kwithin), .int (nI ktop)])), (know, .inl (ky 0, 373, .inl g70))] := hD
            exact hJ53 g70 nb72 sb73 _ _ _ hP hD hS (lv_sub hl [0, 1] rfl)
        · refine lv_aload_n hx hb dX12_oneDay_20 rfl (lv_at hl 1 rfl) ?_
          refine va_get (D := (dC, dI)) (ci := 12) (v := .ref know) (C := RX12) (T := TX12) (N := 52) hx hb hts hin12 hown hK hP 0 rfl rfl 14 (by decide) (hts (.fieldLink RX12 98 "PorridgeSeaModel" "now" "[I") (List.mem_of_getElem? (i := 1) rfl)) (fun _ h9 => h9) rfl dX12_oneDay_21 ?_
          refine lv_bipush (v := nI 125) hx hb dX12_oneDay_24 (by decide) ?_
          refine lv_iload_n hx hb dX12_oneDay_26 rfl (lv_at hl 0 rfl) ?_
          refine lv_iadd hx hb dX12_oneDay_27 ?_
          refine r_ti (nI (125 + k11)) (nI_add _ _) ?_
          refine lv_iconst (v := nI 0) hx hb dX12_oneDay_28 (by decide) ?_
          refine r_iast (x := (nI 0)) hx hb hK hP hD hS 1 rfl (125 + k11) (lf_x_oneDay_21 k11 f12 n17 y20 j13 j14 j15 hm19 e21 b22 b23 c24) (by decide) dX12_oneDay_29 (fun H locs hP hD hS => ?_)
          obtain ⟨g74, e75⟩ : ∃ z9, z9 = upd f12 (125 + k11) (nI 0) := ⟨_, rfl⟩
          rw [← e75] at hP hD
          have nb76 : NB g74 := by rw [e75]; exact nb_zero j14 _ (by omega) (by omega)
          have sb77 : SB g74 := by rw [e75]; exact SB_zero j15 _
          have hP : va_P (dC, dI) vwCl [(o, .inr (12, [.int kthrown, .ref ktape, .int (nI ktaped), .int (nI ksize), .int (nI klimit), .int (nI kto), .int (nI kfrom), .int kkind, .int knumber, .int ksign, .int kfault, .int kplace, .long kword, .int ktold, .ref know, .ref kread, .ref kkept, .ref ksnaps, .ref kaside, .ref kname, .ref kreadName, .ref kkeptName, .ref kisKept, .ref konces, .int (nI ksnapMany), .int khasCells, .ref kpoured, .ref kfar, .ref ksides, .int (nI ksideMany), .int kwayDays, .int khasWay, .ref klines, .ref kmet, .int (nI kmetMany), .ref ksunk, .ref ktrying, .int (nI ksunkMany), .int ksending, .int kfleets, .ref ktext, .int (nI ktexts), .int kseed, .ref kline, .ref kwritten, .int (nI klineMany), .int khasWritten, .ref knode, .int (nI knodes), .int (nI konesMany), .int (nI kwithin), .int (nI ktop)])), (know, .inl (ky 0, 373, .inl g74))] H := hP
          have hD : va_D A [(o, .inr (12, [.int kthrown, .ref ktape, .int (nI ktaped), .int (nI ksize), .int (nI klimit), .int (nI kto), .int (nI kfrom), .int kkind, .int knumber, .int ksign, .int kfault, .int kplace, .long kword, .int ktold, .ref know, .ref kread, .ref kkept, .ref ksnaps, .ref kaside, .ref kname, .ref kreadName, .ref kkeptName, .ref kisKept, .ref konces, .int (nI ksnapMany), .int khasCells, .ref kpoured, .ref kfar, .ref ksides, .int (nI ksideMany), .int kwayDays, .int khasWay, .ref klines, .ref kmet, .int (nI kmetMany), .ref ksunk, .ref ktrying, .int (nI ksunkMany), .int ksending, .int kfleets, .ref ktext, .int (nI ktexts), .int kseed, .ref kline, .ref kwritten, .int (nI klineMany), .int khasWritten, .ref knode, .int (nI knodes), .int (nI konesMany), .int (nI kwithin), .int (nI ktop)])), (know, .inl (ky 0, 373, .inl g74))] := hD
          refine lv_goto (tgt := 54) hx hb dX12_oneDay_30 (by decide) ?_
          exact hJ53 g74 nb76 sb77 _ _ _ hP hD hS (lv_sub hl [0, 1] rfl)
  exact hL16 ((6 - 0) + 1) 0 knowF (lf_x_oneDay_22) ab_now sb_now (Nat.lt_succ_self _) _ _ _ hP hD hS (lv_sub hl [0, 1] rfl)
set_option maxRecDepth 20000 in
theorem lf_x_passDays_1 (knowF : Nat → Int32) (x : Int32) (y1 : Int32) (y3 : Int32) (r5 : Int32) (k17 : Nat) (n23 : Nat) (ab_now : NB knowF) (sb_now : SB knowF) (e2 : y1 = knowF 67) (e4 : y3 = (nI 400) - y1) (p6 : (r5 = x ∨ r5 = y3) ∧ r5.toInt ≤ x.toInt ∧ r5.toInt ≤ y3.toInt) (j19 : k17 ≤ 2147483647) (hm25 : 2147483647 - k17 < n23 + 1) (c26 : ¬ r5 ≤ nI k17) : (k17 + 1) ≤ 2147483647 := by
  have b_x := ia_b x
  have b_y1 := ia_b y1
  have b_y3 := ia_b y3
  have b_r5 := ia_b r5
  try have k_0 := ia_n 400 (by first | decide | omega)
  try have k_1 := ia_n k17 (by first | decide | omega)
  try simp only [ia_lt, ia_le, ia_eq, ia_m1, ia_0, ia_1, ne_eq, true_and, and_true, false_and, and_false, or_false, false_or, or_true, true_or, not_true_eq_false, not_false_eq_true] at *
  all_goals omega
set_option maxRecDepth 20000 in
theorem lf_x_passDays_2 (knowF : Nat → Int32) (x : Int32) (y1 : Int32) (y3 : Int32) (r5 : Int32) (k17 : Nat) (n23 : Nat) (ab_now : NB knowF) (sb_now : SB knowF) (e2 : y1 = knowF 67) (e4 : y3 = (nI 400) - y1) (p6 : (r5 = x ∨ r5 = y3) ∧ r5.toInt ≤ x.toInt ∧ r5.toInt ≤ y3.toInt) (j19 : k17 ≤ 2147483647) (hm25 : 2147483647 - k17 < n23 + 1) (c26 : ¬ r5 ≤ nI k17) : 2147483647 - (k17 + 1) < n23 := by
  have b_x := ia_b x
  have b_y1 := ia_b y1
  have b_y3 := ia_b y3
  have b_r5 := ia_b r5
  try have k_0 := ia_n 400 (by first | decide | omega)
  try have k_1 := ia_n k17 (by first | decide | omega)
  try simp only [ia_lt, ia_le, ia_eq, ia_m1, ia_0, ia_1, ne_eq, true_and, and_true, false_and, and_false, or_false, false_or, or_true, true_or, not_true_eq_false, not_false_eq_true] at *
  all_goals omega
set_option maxRecDepth 20000 in
theorem lf_x_passDays_3   : 0 ≤ 2147483647 := by
  try simp only [ia_lt, ia_le, ia_eq, ia_m1, ia_0, ia_1, ne_eq, true_and, and_true, false_and, and_false, or_false, false_or, or_true, true_or, not_true_eq_false, not_false_eq_true] at *
  all_goals omega
set_option maxHeartbeats 4000000 in
set_option maxRecDepth 100000 in
theorem c_x_passDays (l : Launch) (dC : Nat → ClassId) (dI : Nat → Nat → Nat) (ky : Nat → ClassId) (sz : Nat) (o : Nat) (kthrown : Int32) (ktape : Nat) (ktaped : Nat) (ksize : Nat) (klimit : Nat) (kto : Nat) (kfrom : Nat) (kkind : Int32) (knumber : Int32) (ksign : Int32) (kfault : Int32) (kplace : Int32) (kword : Int64) (ktold : Int32) (know : Nat) (kread : Nat) (kkept : Nat) (ksnaps : Nat) (kaside : Nat) (kname : Nat) (kreadName : Nat) (kkeptName : Nat) (kisKept : Nat) (konces : Nat) (ksnapMany : Nat) (khasCells : Int32) (kpoured : Nat) (kfar : Nat) (ksides : Nat) (ksideMany : Nat) (kwayDays : Int32) (khasWay : Int32) (klines : Nat) (kmet : Nat) (kmetMany : Nat) (ksunk : Nat) (ktrying : Nat) (ksunkMany : Nat) (ksending : Int32) (kfleets : Int32) (ktext : Nat) (ktexts : Nat) (kseed : Int32) (kline : Nat) (kwritten : Nat) (klineMany : Nat) (khasWritten : Int32) (knode : Nat) (knodes : Nat) (konesMany : Nat) (kwithin : Nat) (ktop : Nat) (knowF : Nat → Int32) (x : Int32) (iv_ko_0 : ktaped ≤ 940) (iv_ko_1 : ksize ≤ 940) (iv_ko_2 : klimit ≤ 900) (iv_ko_3 : kto ≤ ksize) (iv_ko_4 : kfrom ≤ 940) (iv_ko_5 : ksnapMany ≤ 8) (iv_ko_6 : ksideMany ≤ 36) (iv_ko_7 : kmetMany ≤ 3) (iv_ko_8 : ksunkMany ≤ 36) (iv_ko_9 : ktexts ≤ 64) (iv_ko_10 : klineMany ≤ 40) (iv_ko_11 : knodes ≤ 60) (iv_ko_12 : konesMany ≤ 20) (iv_ko_13 : kwithin ≤ 8) (iv_ko_14 : ktop ≤ 59) (ab_now : NB knowF) (sb_now : SB knowF) : Met l yX12_passDays wsX12_passDays ({ frames := 4, cells := 0, slots := 0, locals := 86 }) (PcU dC dI ky [.ref o, .int x] [(o, .inr (12, [.int kthrown, .ref ktape, .int (nI ktaped), .int (nI ksize), .int (nI klimit), .int (nI kto), .int (nI kfrom), .int kkind, .int knumber, .int ksign, .int kfault, .int kplace, .long kword, .int ktold, .ref know, .ref kread, .ref kkept, .ref ksnaps, .ref kaside, .ref kname, .ref kreadName, .ref kkeptName, .ref kisKept, .ref konces, .int (nI ksnapMany), .int khasCells, .ref kpoured, .ref kfar, .ref ksides, .int (nI ksideMany), .int kwayDays, .int khasWay, .ref klines, .ref kmet, .int (nI kmetMany), .ref ksunk, .ref ktrying, .int (nI ksunkMany), .int ksending, .int kfleets, .ref ktext, .int (nI ktexts), .int kseed, .ref kline, .ref kwritten, .int (nI klineMany), .int khasWritten, .ref knode, .int (nI knodes), .int (nI konesMany), .int (nI kwithin), .int (nI ktop)])), (know, .inl (ky 0, 373, .inl knowF))] sz) (va_Qi (fun (r : Int32) (knowG : (Nat → Int32)) => (NB knowG) ∧ (SB knowG)) (BU dC dI ky (fun (knowG : (Nat → Int32)) => [(o, .inr (12, [.int kthrown, .ref ktape, .int (nI ktaped), .int (nI ksize), .int (nI klimit), .int (nI kto), .int (nI kfrom), .int kkind, .int knumber, .int ksign, .int kfault, .int kplace, .long kword, .int ktold, .ref know, .ref kread, .ref kkept, .ref ksnaps, .ref kaside, .ref kname, .ref kreadName, .ref kkeptName, .ref kisKept, .ref konces, .int (nI ksnapMany), .int khasCells, .ref kpoured, .ref kfar, .ref ksides, .int (nI ksideMany), .int kwayDays, .int khasWay, .ref klines, .ref kmet, .int (nI kmetMany), .ref ksunk, .ref ktrying, .int (nI ksunkMany), .int ksending, .int kfleets, .ref ktext, .int (nI ktexts), .int kseed, .ref kline, .ref kwritten, .int (nI klineMany), .int khasWritten, .ref knode, .int (nI knodes), .int (nI konesMany), .int (nI kwithin), .int (nI ktop)])), (know, .inl (ky 0, 373, .inl knowG))]) (va_A [(o, .inr (12, [.int kthrown, .ref ktape, .int (nI ktaped), .int (nI ksize), .int (nI klimit), .int (nI kto), .int (nI kfrom), .int kkind, .int knumber, .int ksign, .int kfault, .int kplace, .long kword, .int ktold, .ref know, .ref kread, .ref kkept, .ref ksnaps, .ref kaside, .ref kname, .ref kreadName, .ref kkeptName, .ref kisKept, .ref konces, .int (nI ksnapMany), .int khasCells, .ref kpoured, .ref kfar, .ref ksides, .int (nI ksideMany), .int kwayDays, .int khasWay, .ref klines, .ref kmet, .int (nI kmetMany), .ref ksunk, .ref ktrying, .int (nI ksunkMany), .int ksending, .int kfleets, .ref ktext, .int (nI ktexts), .int kseed, .ref kline, .ref kwritten, .int (nI klineMany), .int khasWritten, .ref knode, .int (nI knodes), .int (nI konesMany), .int (nI kwithin), .int (nI ktop)])), (know, .inl (ky 0, 373, .inl knowF))] sz)) (va_A [(o, .inr (12, [.int kthrown, .ref ktape, .int (nI ktaped), .int (nI ksize), .int (nI klimit), .int (nI kto), .int (nI kfrom), .int kkind, .int knumber, .int ksign, .int kfault, .int kplace, .long kword, .int ktold, .ref know, .ref kread, .ref kkept, .ref ksnaps, .ref kaside, .ref kname, .ref kreadName, .ref kkeptName, .ref kisKept, .ref konces, .int (nI ksnapMany), .int khasCells, .ref kpoured, .ref kfar, .ref ksides, .int (nI ksideMany), .int kwayDays, .int khasWay, .ref klines, .ref kmet, .int (nI kmetMany), .ref ksunk, .ref ktrying, .int (nI ksunkMany), .int ksending, .int kfleets, .ref ktext, .int (nI ktexts), .int kseed, .ref kline, .ref kwritten, .int (nI klineMany), .int khasWritten, .ref knode, .int (nI knodes), .int (nI konesMany), .int (nI kwithin), .int (nI ktop)])), (know, .inl (ky 0, 373, .inl knowF))] sz)) 0 0 (va_A [(o, .inr (12, [.int kthrown, .ref ktape, .int (nI ktaped), .int (nI ksize), .int (nI klimit), .int (nI kto), .int (nI kfrom), .int kkind, .int knumber, .int ksign, .int kfault, .int kplace, .long kword, .int ktold, .ref know, .ref kread, .ref kkept, .ref ksnaps, .ref kaside, .ref kname, .ref kreadName, .ref kkeptName, .ref kisKept, .ref konces, .int (nI ksnapMany), .int khasCells, .ref kpoured, .ref kfar, .ref ksides, .int (nI ksideMany), .int kwayDays, .int khasWay, .ref klines, .ref kmet, .int (nI kmetMany), .ref ksunk, .ref ktrying, .int (nI ksunkMany), .int ksending, .int kfleets, .ref ktext, .int (nI ktexts), .int kseed, .ref kline, .ref kwritten, .int (nI klineMany), .int khasWritten, .ref knode, .int (nI knodes), .int (nI konesMany), .int (nI kwithin), .int (nI ktop)])), (know, .inl (ky 0, 373, .inl knowF))] sz) := by
  refine Met.ofW (cc := cX12_passDays) (maxL := 4) (ret := (some .int)) (by decide) rfl ?_
  intro p e s m args below meth c s₁ B hml hv
  obtain ⟨rfl, hsz, hP, hK, hD0⟩ := hv
  have hx := B.exec
  have hb := B.bytes
  have hr := B.returns
  have hts := atoms_spec (ws := wsX12_passDays) B.pre
  have hown : s.vm.findClass RX12 = some m.cls := findClass_of_methodNamed B.named
  have hlocks := B.notSynchronized
  have hin12 : ∀ w ∈ u_ws RX12 TX12 52, w ∈ wsX12_passDays := by decide +kernel
  subst hsz
  have hD := hD0.self (sz := s.heap.size)
  generalize hAe : va_A [(o, .inr (12, [.int kthrown, .ref ktape, .int (nI ktaped), .int (nI ksize), .int (nI klimit), .int (nI kto), .int (nI kfrom), .int kkind, .int knumber, .int ksign, .int kfault, .int kplace, .long kword, .int ktold, .ref know, .ref kread, .ref kkept, .ref ksnaps, .ref kaside, .ref kname, .ref kreadName, .ref kkeptName, .ref kisKept, .ref konces, .int (nI ksnapMany), .int khasCells, .ref kpoured, .ref kfar, .ref ksides, .int (nI ksideMany), .int kwayDays, .int khasWay, .ref klines, .ref kmet, .int (nI kmetMany), .ref ksunk, .ref ktrying, .int (nI ksunkMany), .int ksending, .int kfleets, .ref ktext, .int (nI ktexts), .int kseed, .ref kline, .ref kwritten, .int (nI klineMany), .int khasWritten, .ref knode, .int (nI knodes), .int (nI konesMany), .int (nI kwithin), .int (nI ktop)])), (know, .inl (ky 0, 373, .inl knowF))] s.heap.size = A at hD ⊢
  have hA : ∀ q : Nat, s.heap.size ≤ q → A q := fun q h => by rw [← hAe]; exact Or.inr h
  have hS : va_S A s.heap s.heap [] := va_S.rf
  have hl := lv_entry ([.ref o, .int x]) (n := 4) (Nat.le_of_ble_eq_true rfl)
  rw [lg_entry_eq]
  generalize (lg_sl ([.ref o, .int x]) ++ List.replicate (4 - (lg_sl ([.ref o, .int x])).length) Slot.unset).toArray = ls at hl ⊢
  have hl : lv_has ls 4 [(0, .ref o), (1, .int x)] := hl
  refine q_name (fun Q hQ => ?_)
  generalize ([.ref o, .int x] : List Value).toArray = args at hts hQ ⊢
  refine lv_iload_n hx hb dX12_passDays_0 rfl (lv_at hl 1 rfl) ?_
  refine lv_sipush (v := nI 400) hx hb dX12_passDays_1 (by decide) ?_
  refine lv_aload_n hx hb dX12_passDays_4 rfl (lv_at hl 0 rfl) ?_
  refine va_get (D := (dC, dI)) (ci := 12) (v := .ref know) (C := RX12) (T := TX12) (N := 52) hx hb hts hin12 hown hK hP 0 rfl rfl 14 (by decide) (hts (.fieldLink RX12 98 "PorridgeSeaModel" "now" "[I") (List.mem_of_getElem? (i := 1) rfl)) (fun _ h9 => h9) rfl dX12_passDays_5 ?_
  refine lv_bipush (v := nI 67) hx hb dX12_passDays_8 (by decide) ?_
  obtain ⟨y1, e2⟩ : ∃ z9, z9 = knowF 67 := ⟨_, rfl⟩
  refine r_iald hx hb hK hP 1 rfl 67 (by decide) (by decide) y1 e2.symm dX12_passDays_10 ?_
  refine lv_isub hx hb dX12_passDays_11 ?_
  refine lv_topi (fun y3 e4 => ?_)
  refine vp_callSi (W.runS (As := [.int x, .int y3]) (rest := []) ⟨hx, hb, hml, hown, hts⟩ (c_x_least l dC dI ky x y3) (va_cwS 2 hts gX12_passDays_X12_least rfl rfl rfl (by decide +kernel) ⟨(Nat.le_of_ble_eq_true rfl), (Nat.le_of_ble_eq_true rfl)⟩) (pre_PS hK hP [] rfl) rfl rfl hl.1 rfl (lv_room (Nat.le_of_ble_eq_true rfl)) dX12_passDays_12 ⟨(Nat.le_of_ble_eq_true rfl), (Nat.le_of_ble_eq_true rfl)⟩) (fun r5 p6 => ?_)
  refine lv_istore_n (lv' := [(2, .int r5), (0, .ref o), (1, .int x)]) hx hb dX12_passDays_15 rfl hl (by decide) rfl (fun ls hl => ?_)
  refine lv_iconst (v := nI 0) hx hb dX12_passDays_16 (by decide) ?_
  refine lv_istore_n (lv' := [(3, .int (nI 0)), (2, .int r5), (0, .ref o), (1, .int x)]) hx hb dX12_passDays_17 rfl hl (by decide) rfl (fun ls hl => ?_)
  have hL22 : ∀ (n23 : Nat) (k17 : Nat) (f18 : Nat → Int32), (k17 ≤ 2147483647) → (NB f18) → (SB f18) → 2147483647 - k17 < n23 → ∀ (H : Heap) (locs : List Loc) (ls : Array Slot), va_P (dC, dI) vwCl [(o, .inr (12, [.int kthrown, .ref ktape, .int (nI ktaped), .int (nI ksize), .int (nI klimit), .int (nI kto), .int (nI kfrom), .int kkind, .int knumber, .int ksign, .int kfault, .int kplace, .long kword, .int ktold, .ref know, .ref kread, .ref kkept, .ref ksnaps, .ref kaside, .ref kname, .ref kreadName, .ref kkeptName, .ref kisKept, .ref konces, .int (nI ksnapMany), .int khasCells, .ref kpoured, .ref kfar, .ref ksides, .int (nI ksideMany), .int kwayDays, .int khasWay, .ref klines, .ref kmet, .int (nI kmetMany), .ref ksunk, .ref ktrying, .int (nI ksunkMany), .int ksending, .int kfleets, .ref ktext, .int (nI ktexts), .int kseed, .ref kline, .ref kwritten, .int (nI klineMany), .int khasWritten, .ref knode, .int (nI knodes), .int (nI konesMany), .int (nI kwithin), .int (nI ktop)])), (know, .inl (ky 0, 373, .inl f18))] H → va_D A [(o, .inr (12, [.int kthrown, .ref ktape, .int (nI ktaped), .int (nI ksize), .int (nI klimit), .int (nI kto), .int (nI kfrom), .int kkind, .int knumber, .int ksign, .int kfault, .int kplace, .long kword, .int ktold, .ref know, .ref kread, .ref kkept, .ref ksnaps, .ref kaside, .ref kname, .ref kreadName, .ref kkeptName, .ref kisKept, .ref konces, .int (nI ksnapMany), .int khasCells, .ref kpoured, .ref kfar, .ref ksides, .int (nI ksideMany), .int kwayDays, .int khasWay, .ref klines, .ref kmet, .int (nI kmetMany), .ref ksunk, .ref ktrying, .int (nI ksunkMany), .int ksending, .int kfleets, .ref ktext, .int (nI ktexts), .int kseed, .ref kline, .ref kwritten, .int (nI klineMany), .int khasWritten, .ref knode, .int (nI knodes), .int (nI konesMany), .int (nI kwithin), .int (nI ktop)])), (know, .inl (ky 0, 373, .inl f18))] → va_S A s.heap H locs → lv_has ls 4 [(3, .int (nI k17)), (2, .int r5), (0, .ref o)] → W p l e (headSpec wsX12_passDays ({ frames := 4, cells := 0, slots := 0, locals := 86 })).room s m args below meth c H locs 0 0 Q (F0 m 18 ls []) := by
    intro n23
    induction n23 with
    | zero => intro k17 f18 _ _ _ h9; exact absurd h9 (Nat.not_lt_zero _)
    | succ n23 ih24 =>
      intro k17 f18 j19 j20 j21 hm25 H locs ls hP hD hS hl
      refine lv_iload_n hx hb dX12_passDays_18 rfl (lv_at hl 0 rfl) ?_
      refine lv_iload_n hx hb dX12_passDays_19 rfl (lv_at hl 1 rfl) ?_
      refine lv_icmp_ge (tgt := 33) hx hb dX12_passDays_20 (by decide) (fun c26 => ?_) (fun c26 => ?_)
      · refine lv_iload_n hx hb dX12_passDays_33 rfl (lv_at hl 1 rfl) ?_
        rw [hQ]
        exact W.iret (v := r5) hx hb hr (fun t9 ht9 hW9 => ⟨⟨r5, f18, rfl, ⟨j20, j21⟩, by rw [ht9]; exact hP, va_K.moved hW9.alike hK, hD⟩, hS.F ht9⟩) hS.2.2 dX12_passDays_34
      · refine lv_aload_n hx hb dX12_passDays_23 rfl (lv_at hl 2 rfl) ?_
        refine r_call_v (wr := []) (va_runV (As := []) (rest := []) ⟨hx, hb, hml, hown, hts⟩ (c_x_oneDay l dC dI ky H.size o kthrown ktape ktaped ksize klimit kto kfrom kkind knumber ksign kfault kplace kword ktold know kread kkept ksnaps kaside kname kreadName kkeptName kisKept konces ksnapMany khasCells kpoured kfar ksides ksideMany kwayDays khasWay klines kmet kmetMany ksunk ktrying ksunkMany ksending kfleets ktext ktexts kseed kline kwritten klineMany khasWritten knode knodes konesMany kwithin ktop f18 iv_ko_0 iv_ko_1 iv_ko_2 iv_ko_3 iv_ko_4 iv_ko_5 iv_ko_6 iv_ko_7 iv_ko_8 iv_ko_9 iv_ko_10 iv_ko_11 iv_ko_12 iv_ko_13 iv_ko_14 j20 j21) (cwV 0 hts gX12_passDays_X12_oneDay rfl rfl rfl (by decide +kernel) ⟨(Nat.le_of_ble_eq_true rfl), (Nat.le_of_ble_eq_true rfl)⟩) (pre_UV hK hP hD [0, 1] (by decide) rfl (ci := 12) (q0 := 0) rfl rfl) rfl rfl hl.1 rfl (lv_room (Nat.le_of_ble_eq_true rfl)) dX12_passDays_24 ⟨(Nat.le_of_ble_eq_true rfl), (Nat.le_of_ble_eq_true rfl)⟩) hP hD hS hA [0, 1] [] rfl rfl (by decide) (by decide) (fun  u27 H locs p28 hP hD hS => ?_)
        obtain ⟨knowG_29, rfl⟩ : ∃ z, z = u27 := ⟨_, rfl⟩
        try dsimp only at p28
        obtain ⟨p30, p31⟩ := p28
        refine W.widen (k := 0) (n := 0) (Nat.le_of_ble_eq_true rfl) (Nat.le_of_ble_eq_true rfl) ?_
        have hP : va_P (dC, dI) vwCl [(o, .inr (12, [.int kthrown, .ref ktape, .int (nI ktaped), .int (nI ksize), .int (nI klimit), .int (nI kto), .int (nI kfrom), .int kkind, .int knumber, .int ksign, .int kfault, .int kplace, .long kword, .int ktold, .ref know, .ref kread, .ref kkept, .ref ksnaps, .ref kaside, .ref kname, .ref kreadName, .ref kkeptName, .ref kisKept, .ref konces, .int (nI ksnapMany), .int khasCells, .ref kpoured, .ref kfar, .ref ksides, .int (nI ksideMany), .int kwayDays, .int khasWay, .ref klines, .ref kmet, .int (nI kmetMany), .ref ksunk, .ref ktrying, .int (nI ksunkMany), .int ksending, .int kfleets, .ref ktext, .int (nI ktexts), .int kseed, .ref kline, .ref kwritten, .int (nI klineMany), .int khasWritten, .ref knode, .int (nI knodes), .int (nI konesMany), .int (nI kwithin), .int (nI ktop)])), (know, .inl (ky 0, 373, .inl knowG_29))] H := hP
        have hD : va_D A [(o, .inr (12, [.int kthrown, .ref ktape, .int (nI ktaped), .int (nI ksize), .int (nI klimit), .int (nI kto), .int (nI kfrom), .int kkind, .int knumber, .int ksign, .int kfault, .int kplace, .long kword, .int ktold, .ref know, .ref kread, .ref kkept, .ref ksnaps, .ref kaside, .ref kname, .ref kreadName, .ref kkeptName, .ref kisKept, .ref konces, .int (nI ksnapMany), .int khasCells, .ref kpoured, .ref kfar, .ref ksides, .int (nI ksideMany), .int kwayDays, .int khasWay, .ref klines, .ref kmet, .int (nI kmetMany), .ref ksunk, .ref ktrying, .int (nI ksunkMany), .int ksending, .int kfleets, .ref ktext, .int (nI ktexts), .int kseed, .ref kline, .ref kwritten, .int (nI klineMany), .int khasWritten, .ref knode, .int (nI knodes), .int (nI konesMany), .int (nI kwithin), .int (nI ktop)])), (know, .inl (ky 0, 373, .inl knowG_29))] := hD
        refine lv_iinc (v := nI (k17 + 1)) (lv' := [(3, .int (nI (k17 + 1))), (2, .int r5), (0, .ref o)]) hx hb dX12_passDays_27 hl (k := 0) rfl (show nI k17 + nI 1 = nI (k17 + 1) from nI_add _ _) (by decide) rfl (fun ls hl => ?_)
        refine lv_goto (tgt := 18) hx hb dX12_passDays_30 (by decide) ?_
        exact ih24 (k17 + 1) knowG_29 (lf_x_passDays_1 knowF x y1 y3 r5 k17 n23 ab_now sb_now e2 e4 p6 j19 hm25 c26) p30 p31 (lf_x_passDays_2 knowF x y1 y3 r5 k17 n23 ab_now sb_now e2 e4 p6 j19 hm25 c26) _ _ _ hP hD hS (lv_sub hl [0, 1, 2] rfl)
  exact hL22 ((2147483647 - 0) + 1) 0 knowF (lf_x_passDays_3) ab_now sb_now (Nat.lt_succ_self _) _ _ _ hP hD hS (lv_sub hl [0, 1, 2] rfl)
set_option maxHeartbeats 4000000 in
set_option maxRecDepth 100000 in
theorem c_x_days (l : Launch) (dC : Nat → ClassId) (dI : Nat → Nat → Nat) (ky : Nat → ClassId) (sz : Nat) (o : Nat) (kthrown : Int32) (ktape : Nat) (ktaped : Nat) (ksize : Nat) (klimit : Nat) (kto : Nat) (kfrom : Nat) (kkind : Int32) (knumber : Int32) (ksign : Int32) (kfault : Int32) (kplace : Int32) (kword : Int64) (ktold : Int32) (know : Nat) (kread : Nat) (kkept : Nat) (ksnaps : Nat) (kaside : Nat) (kname : Nat) (kreadName : Nat) (kkeptName : Nat) (kisKept : Nat) (konces : Nat) (ksnapMany : Nat) (khasCells : Int32) (kpoured : Nat) (kfar : Nat) (ksides : Nat) (ksideMany : Nat) (kwayDays : Int32) (khasWay : Int32) (klines : Nat) (kmet : Nat) (kmetMany : Nat) (ksunk : Nat) (ktrying : Nat) (ksunkMany : Nat) (ksending : Int32) (kfleets : Int32) (ktext : Nat) (ktexts : Nat) (kseed : Int32) (kline : Nat) (kwritten : Nat) (klineMany : Nat) (khasWritten : Int32) (knode : Nat) (knodes : Nat) (konesMany : Nat) (kwithin : Nat) (ktop : Nat) (knowF : Nat → Int32) (ksnapsF : Nat → Int32) (x : Int32) (iv_ko_0 : ktaped ≤ 940) (iv_ko_1 : ksize ≤ 940) (iv_ko_2 : klimit ≤ 900) (iv_ko_3 : kto ≤ ksize) (iv_ko_4 : kfrom ≤ 940) (iv_ko_5 : ksnapMany ≤ 8) (iv_ko_6 : ksideMany ≤ 36) (iv_ko_7 : kmetMany ≤ 3) (iv_ko_8 : ksunkMany ≤ 36) (iv_ko_9 : ktexts ≤ 64) (iv_ko_10 : klineMany ≤ 40) (iv_ko_11 : knodes ≤ 60) (iv_ko_12 : konesMany ≤ 20) (iv_ko_13 : kwithin ≤ 8) (iv_ko_14 : ktop ≤ 59) (ab_now : NB knowF) (ab_snaps : AB512 ksnapsF) (sb_now : SB knowF) : Met l yX12_days wsX12_days ({ frames := 5, cells := 0, slots := 0, locals := 109 }) (PcU dC dI ky [.ref o, .int x] [(o, .inr (12, [.int kthrown, .ref ktape, .int (nI ktaped), .int (nI ksize), .int (nI klimit), .int (nI kto), .int (nI kfrom), .int kkind, .int knumber, .int ksign, .int kfault, .int kplace, .long kword, .int ktold, .ref know, .ref kread, .ref kkept, .ref ksnaps, .ref kaside, .ref kname, .ref kreadName, .ref kkeptName, .ref kisKept, .ref konces, .int (nI ksnapMany), .int khasCells, .ref kpoured, .ref kfar, .ref ksides, .int (nI ksideMany), .int kwayDays, .int khasWay, .ref klines, .ref kmet, .int (nI kmetMany), .ref ksunk, .ref ktrying, .int (nI ksunkMany), .int ksending, .int kfleets, .ref ktext, .int (nI ktexts), .int kseed, .ref kline, .ref kwritten, .int (nI klineMany), .int khasWritten, .ref knode, .int (nI knodes), .int (nI konesMany), .int (nI kwithin), .int (nI ktop)])), (know, .inl (ky 0, 373, .inl knowF)), (ksnaps, .inl (ky 0, 512, .inl ksnapsF))] sz) (va_Qi (fun (r : Int32) (u : Int32 × Nat × (Nat → Int32) × (Nat → Int32)) => match u with | (kthrownG, ksnapManyG, knowG, ksnapsG) => (ksnapManyG ≤ 8) ∧ (NB knowG) ∧ (SB knowG) ∧ (AB512 ksnapsG)) (BU dC dI ky (fun (u : Int32 × Nat × (Nat → Int32) × (Nat → Int32)) => match u with | (kthrownG, ksnapManyG, knowG, ksnapsG) => [(o, .inr (12, [.int kthrownG, .ref ktape, .int (nI ktaped), .int (nI ksize), .int (nI klimit), .int (nI kto), .int (nI kfrom), .int kkind, .int knumber, .int ksign, .int kfault, .int kplace, .long kword, .int ktold, .ref know, .ref kread, .ref kkept, .ref ksnaps, .ref kaside, .ref kname, .ref kreadName, .ref kkeptName, .ref kisKept, .ref konces, .int (nI ksnapManyG), .int khasCells, .ref kpoured, .ref kfar, .ref ksides, .int (nI ksideMany), .int kwayDays, .int khasWay, .ref klines, .ref kmet, .int (nI kmetMany), .ref ksunk, .ref ktrying, .int (nI ksunkMany), .int ksending, .int kfleets, .ref ktext, .int (nI ktexts), .int kseed, .ref kline, .ref kwritten, .int (nI klineMany), .int khasWritten, .ref knode, .int (nI knodes), .int (nI konesMany), .int (nI kwithin), .int (nI ktop)])), (know, .inl (ky 0, 373, .inl knowG)), (ksnaps, .inl (ky 0, 512, .inl ksnapsG))]) (va_A [(o, .inr (12, [.int kthrown, .ref ktape, .int (nI ktaped), .int (nI ksize), .int (nI klimit), .int (nI kto), .int (nI kfrom), .int kkind, .int knumber, .int ksign, .int kfault, .int kplace, .long kword, .int ktold, .ref know, .ref kread, .ref kkept, .ref ksnaps, .ref kaside, .ref kname, .ref kreadName, .ref kkeptName, .ref kisKept, .ref konces, .int (nI ksnapMany), .int khasCells, .ref kpoured, .ref kfar, .ref ksides, .int (nI ksideMany), .int kwayDays, .int khasWay, .ref klines, .ref kmet, .int (nI kmetMany), .ref ksunk, .ref ktrying, .int (nI ksunkMany), .int ksending, .int kfleets, .ref ktext, .int (nI ktexts), .int kseed, .ref kline, .ref kwritten, .int (nI klineMany), .int khasWritten, .ref knode, .int (nI knodes), .int (nI konesMany), .int (nI kwithin), .int (nI ktop)])), (know, .inl (ky 0, 373, .inl knowF)), (ksnaps, .inl (ky 0, 512, .inl ksnapsF))] sz)) (va_A [(o, .inr (12, [.int kthrown, .ref ktape, .int (nI ktaped), .int (nI ksize), .int (nI klimit), .int (nI kto), .int (nI kfrom), .int kkind, .int knumber, .int ksign, .int kfault, .int kplace, .long kword, .int ktold, .ref know, .ref kread, .ref kkept, .ref ksnaps, .ref kaside, .ref kname, .ref kreadName, .ref kkeptName, .ref kisKept, .ref konces, .int (nI ksnapMany), .int khasCells, .ref kpoured, .ref kfar, .ref ksides, .int (nI ksideMany), .int kwayDays, .int khasWay, .ref klines, .ref kmet, .int (nI kmetMany), .ref ksunk, .ref ktrying, .int (nI ksunkMany), .int ksending, .int kfleets, .ref ktext, .int (nI ktexts), .int kseed, .ref kline, .ref kwritten, .int (nI klineMany), .int khasWritten, .ref knode, .int (nI knodes), .int (nI konesMany), .int (nI kwithin), .int (nI ktop)])), (know, .inl (ky 0, 373, .inl knowF)), (ksnaps, .inl (ky 0, 512, .inl ksnapsF))] sz)) 0 0 (va_A [(o, .inr (12, [.int kthrown, .ref ktape, .int (nI ktaped), .int (nI ksize), .int (nI klimit), .int (nI kto), .int (nI kfrom), .int kkind, .int knumber, .int ksign, .int kfault, .int kplace, .long kword, .int ktold, .ref know, .ref kread, .ref kkept, .ref ksnaps, .ref kaside, .ref kname, .ref kreadName, .ref kkeptName, .ref kisKept, .ref konces, .int (nI ksnapMany), .int khasCells, .ref kpoured, .ref kfar, .ref ksides, .int (nI ksideMany), .int kwayDays, .int khasWay, .ref klines, .ref kmet, .int (nI kmetMany), .ref ksunk, .ref ktrying, .int (nI ksunkMany), .int ksending, .int kfleets, .ref ktext, .int (nI ktexts), .int kseed, .ref kline, .ref kwritten, .int (nI klineMany), .int khasWritten, .ref knode, .int (nI knodes), .int (nI konesMany), .int (nI kwithin), .int (nI ktop)])), (know, .inl (ky 0, 373, .inl knowF)), (ksnaps, .inl (ky 0, 512, .inl ksnapsF))] sz) := by
  refine Met.ofW (cc := cX12_days) (maxL := 2) (ret := (some .int)) (by decide) rfl ?_
  intro p e s m args below meth c s₁ B hml hv
  obtain ⟨rfl, hsz, hP, hK, hD0⟩ := hv
  have hx := B.exec
  have hb := B.bytes
  have hr := B.returns
  have hts := atoms_spec (ws := wsX12_days) B.pre
  have hown : s.vm.findClass RX12 = some m.cls := findClass_of_methodNamed B.named
  have hlocks := B.notSynchronized
  have hin12 : ∀ w ∈ u_ws RX12 TX12 52, w ∈ wsX12_days := by decide +kernel
  subst hsz
  have hD := hD0.self (sz := s.heap.size)
  generalize hAe : va_A [(o, .inr (12, [.int kthrown, .ref ktape, .int (nI ktaped), .int (nI ksize), .int (nI klimit), .int (nI kto), .int (nI kfrom), .int kkind, .int knumber, .int ksign, .int kfault, .int kplace, .long kword, .int ktold, .ref know, .ref kread, .ref kkept, .ref ksnaps, .ref kaside, .ref kname, .ref kreadName, .ref kkeptName, .ref kisKept, .ref konces, .int (nI ksnapMany), .int khasCells, .ref kpoured, .ref kfar, .ref ksides, .int (nI ksideMany), .int kwayDays, .int khasWay, .ref klines, .ref kmet, .int (nI kmetMany), .ref ksunk, .ref ktrying, .int (nI ksunkMany), .int ksending, .int kfleets, .ref ktext, .int (nI ktexts), .int kseed, .ref kline, .ref kwritten, .int (nI klineMany), .int khasWritten, .ref knode, .int (nI knodes), .int (nI konesMany), .int (nI kwithin), .int (nI ktop)])), (know, .inl (ky 0, 373, .inl knowF)), (ksnaps, .inl (ky 0, 512, .inl ksnapsF))] s.heap.size = A at hD ⊢
  have hA : ∀ q : Nat, s.heap.size ≤ q → A q := fun q h => by rw [← hAe]; exact Or.inr h
  have hS : va_S A s.heap s.heap [] := va_S.rf
  have hl := lv_entry ([.ref o, .int x]) (n := 2) (Nat.le_of_ble_eq_true rfl)
  rw [lg_entry_eq]
  generalize (lg_sl ([.ref o, .int x]) ++ List.replicate (2 - (lg_sl ([.ref o, .int x])).length) Slot.unset).toArray = ls at hl ⊢
  have hl : lv_has ls 2 [(0, .ref o), (1, .int x)] := hl
  refine q_name (fun Q hQ => ?_)
  generalize ([.ref o, .int x] : List Value).toArray = args at hts hQ ⊢
  refine lv_aload_n hx hb dX12_days_0 rfl (lv_at hl 0 rfl) ?_
  refine lv_iconst (v := nI 0) hx hb dX12_days_1 (by decide) ?_
  refine va_put (D := (dC, dI)) (ci := 12) (v := .int (nI 0)) (ty := .int) (C := RX12) (T := TX12) (N := 52) hx hb hts hin12 tyX12 tyX12_ok nmX12 hown hK hP hD hS 0 rfl rfl 0 (by decide) (hts (.fieldLink RX12 1 "PorridgeSeaModel" "thrown" "I") (List.mem_of_getElem? (i := 1) rfl)) (fun _ h9 => h9) rfl (by decide +kernel) rfl rfl (Nat.le_of_ble_eq_true rfl) dX12_days_2 (fun H locs hP hD hS => ?_)
  have hP : va_P (dC, dI) vwCl [(o, .inr (12, [.int (nI 0), .ref ktape, .int (nI ktaped), .int (nI ksize), .int (nI klimit), .int (nI kto), .int (nI kfrom), .int kkind, .int knumber, .int ksign, .int kfault, .int kplace, .long kword, .int ktold, .ref know, .ref kread, .ref kkept, .ref ksnaps, .ref kaside, .ref kname, .ref kreadName, .ref kkeptName, .ref kisKept, .ref konces, .int (nI ksnapMany), .int khasCells, .ref kpoured, .ref kfar, .ref ksides, .int (nI ksideMany), .int kwayDays, .int khasWay, .ref klines, .ref kmet, .int (nI kmetMany), .ref ksunk, .ref ktrying, .int (nI ksunkMany), .int ksending, .int kfleets, .ref ktext, .int (nI ktexts), .int kseed, .ref kline, .ref kwritten, .int (nI klineMany), .int khasWritten, .ref knode, .int (nI knodes), .int (nI konesMany), .int (nI kwithin), .int (nI ktop)])), (know, .inl (ky 0, 373, .inl knowF)), (ksnaps, .inl (ky 0, 512, .inl ksnapsF))] H := hP
  have hD : va_D A [(o, .inr (12, [.int (nI 0), .ref ktape, .int (nI ktaped), .int (nI ksize), .int (nI klimit), .int (nI kto), .int (nI kfrom), .int kkind, .int knumber, .int ksign, .int kfault, .int kplace, .long kword, .int ktold, .ref know, .ref kread, .ref kkept, .ref ksnaps, .ref kaside, .ref kname, .ref kreadName, .ref kkeptName, .ref kisKept, .ref konces, .int (nI ksnapMany), .int khasCells, .ref kpoured, .ref kfar, .ref ksides, .int (nI ksideMany), .int kwayDays, .int khasWay, .ref klines, .ref kmet, .int (nI kmetMany), .ref ksunk, .ref ktrying, .int (nI ksunkMany), .int ksending, .int kfleets, .ref ktext, .int (nI ktexts), .int kseed, .ref kline, .ref kwritten, .int (nI klineMany), .int khasWritten, .ref knode, .int (nI knodes), .int (nI konesMany), .int (nI kwithin), .int (nI ktop)])), (know, .inl (ky 0, 373, .inl knowF)), (ksnaps, .inl (ky 0, 512, .inl ksnapsF))] := hD
  refine lv_iload_n hx hb dX12_days_5 rfl (lv_at hl 1 rfl) ?_
  refine lv_iconst (v := nI 1) hx hb dX12_days_6 (by decide) ?_
  refine lv_bipush (v := nI 60) hx hb dX12_days_7 (by decide) ?_
  refine vp_callSi (W.runS (As := [.int x, .int (nI 1), .int (nI 60)]) (rest := []) ⟨hx, hb, hml, hown, hts⟩ (c_x_isIn l dC dI ky x (nI 1) (nI 60)) (va_cwS 3 hts gX12_days_X12_isIn rfl rfl rfl (by decide +kernel) ⟨(Nat.le_of_ble_eq_true rfl), (Nat.le_of_ble_eq_true rfl)⟩) (pre_PS hK hP [] rfl) rfl rfl hl.1 rfl (lv_room (Nat.le_of_ble_eq_true rfl)) dX12_days_9 ⟨(Nat.le_of_ble_eq_true rfl), (Nat.le_of_ble_eq_true rfl)⟩) (fun r1 p2 => ?_)
  rcases p2 with ⟨rfl, t3, t4⟩ | ⟨rfl, t5⟩
  · refine lv_if_ne (tgt := 17) hx hb dX12_days_12 (by decide) (fun c6 => ?_) (fun c6 => absurd c6 (by decide))
    refine lv_aload_n hx hb dX12_days_17 rfl (lv_at hl 0 rfl) ?_
    refine va_get (D := (dC, dI)) (ci := 12) (v := .ref know) (C := RX12) (T := TX12) (N := 52) hx hb hts hin12 hown hK hP 0 rfl rfl 14 (by decide) (hts (.fieldLink RX12 98 "PorridgeSeaModel" "now" "[I") (List.mem_of_getElem? (i := 2) rfl)) (fun _ h9 => h9) rfl dX12_days_18 ?_
    refine lv_bipush (v := nI 67) hx hb dX12_days_21 (by decide) ?_
    obtain ⟨y7, e8⟩ : ∃ z9, z9 = knowF 67 := ⟨_, rfl⟩
    refine r_iald hx hb hK hP 1 rfl 67 (by decide) (by decide) y7 e8.symm dX12_days_23 ?_
    refine lv_sipush (v := nI 400) hx hb dX12_days_24 (by decide) ?_
    refine lv_icmp_ne (tgt := 32) hx hb dX12_days_27 (by decide) (fun c9 => ?_) (fun c9 => ?_)
    · refine lv_aload_n hx hb dX12_days_32 rfl (lv_at hl 0 rfl) ?_
      refine r_call_v (wr := []) (va_runV (As := []) (rest := []) ⟨hx, hb, hml, hown, hts⟩ (c_x_snap l dC dI ky H.size o (nI 0) ktape ktaped ksize klimit kto kfrom kkind knumber ksign kfault kplace kword ktold know kread kkept ksnaps kaside kname kreadName kkeptName kisKept konces ksnapMany khasCells kpoured kfar ksides ksideMany kwayDays khasWay klines kmet kmetMany ksunk ktrying ksunkMany ksending kfleets ktext ktexts kseed kline kwritten klineMany khasWritten knode knodes konesMany kwithin ktop knowF ksnapsF iv_ko_0 iv_ko_1 iv_ko_2 iv_ko_3 iv_ko_4 iv_ko_5 iv_ko_6 iv_ko_7 iv_ko_8 iv_ko_9 iv_ko_10 iv_ko_11 iv_ko_12 iv_ko_13 iv_ko_14 ab_now ab_snaps) (cwV 0 hts gX12_days_X12_snap rfl rfl rfl (by decide +kernel) ⟨(Nat.le_of_ble_eq_true rfl), (Nat.le_of_ble_eq_true rfl)⟩) (pre_UV hK hP hD [0, 1, 2] (by decide) rfl (ci := 12) (q0 := 0) rfl rfl) rfl rfl hl.1 rfl (lv_room (Nat.le_of_ble_eq_true rfl)) dX12_days_33 ⟨(Nat.le_of_ble_eq_true rfl), (Nat.le_of_ble_eq_true rfl)⟩) hP hD hS hA [0, 1, 2] [] rfl rfl (by decide) (by decide) (fun  u10 H locs p11 hP hD hS => ?_)
      obtain ⟨ksnapManyG_12, ksnapsG_13⟩ := u10
      try dsimp only at p11
      obtain ⟨p14, p15⟩ := p11
      refine W.widen (k := 0) (n := 0) (Nat.le_of_ble_eq_true rfl) (Nat.le_of_ble_eq_true rfl) ?_
      have hP : va_P (dC, dI) vwCl [(o, .inr (12, [.int (nI 0), .ref ktape, .int (nI ktaped), .int (nI ksize), .int (nI klimit), .int (nI kto), .int (nI kfrom), .int kkind, .int knumber, .int ksign, .int kfault, .int kplace, .long kword, .int ktold, .ref know, .ref kread, .ref kkept, .ref ksnaps, .ref kaside, .ref kname, .ref kreadName, .ref kkeptName, .ref kisKept, .ref konces, .int (nI ksnapManyG_12), .int khasCells, .ref kpoured, .ref kfar, .ref ksides, .int (nI ksideMany), .int kwayDays, .int khasWay, .ref klines, .ref kmet, .int (nI kmetMany), .ref ksunk, .ref ktrying, .int (nI ksunkMany), .int ksending, .int kfleets, .ref ktext, .int (nI ktexts), .int kseed, .ref kline, .ref kwritten, .int (nI klineMany), .int khasWritten, .ref knode, .int (nI knodes), .int (nI konesMany), .int (nI kwithin), .int (nI ktop)])), (know, .inl (ky 0, 373, .inl knowF)), (ksnaps, .inl (ky 0, 512, .inl ksnapsG_13))] H := hP
      have hD : va_D A [(o, .inr (12, [.int (nI 0), .ref ktape, .int (nI ktaped), .int (nI ksize), .int (nI klimit), .int (nI kto), .int (nI kfrom), .int kkind, .int knumber, .int ksign, .int kfault, .int kplace, .long kword, .int ktold, .ref know, .ref kread, .ref kkept, .ref ksnaps, .ref kaside, .ref kname, .ref kreadName, .ref kkeptName, .ref kisKept, .ref konces, .int (nI ksnapManyG_12), .int khasCells, .ref kpoured, .ref kfar, .ref ksides, .int (nI ksideMany), .int kwayDays, .int khasWay, .ref klines, .ref kmet, .int (nI kmetMany), .ref ksunk, .ref ktrying, .int (nI ksunkMany), .int ksending, .int kfleets, .ref ktext, .int (nI ktexts), .int kseed, .ref kline, .ref kwritten, .int (nI klineMany), .int khasWritten, .ref knode, .int (nI knodes), .int (nI konesMany), .int (nI kwithin), .int (nI ktop)])), (know, .inl (ky 0, 373, .inl knowF)), (ksnaps, .inl (ky 0, 512, .inl ksnapsG_13))] := hD
      refine lv_aload_n hx hb dX12_days_36 rfl (lv_at hl 0 rfl) ?_
      refine lv_iload_n hx hb dX12_days_37 rfl (lv_at hl 1 rfl) ?_
      refine r_call_i (wr := [(ksnaps, .inl (ky 0, 512, .inl ksnapsG_13))]) (va_runV (As := [.int x]) (rest := []) ⟨hx, hb, hml, hown, hts⟩ (c_x_passDays l dC dI ky H.size o (nI 0) ktape ktaped ksize klimit kto kfrom kkind knumber ksign kfault kplace kword ktold know kread kkept ksnaps kaside kname kreadName kkeptName kisKept konces ksnapManyG_12 khasCells kpoured kfar ksides ksideMany kwayDays khasWay klines kmet kmetMany ksunk ktrying ksunkMany ksending kfleets ktext ktexts kseed kline kwritten klineMany khasWritten knode knodes konesMany kwithin ktop knowF x iv_ko_0 iv_ko_1 iv_ko_2 iv_ko_3 iv_ko_4 p14 iv_ko_6 iv_ko_7 iv_ko_8 iv_ko_9 iv_ko_10 iv_ko_11 iv_ko_12 iv_ko_13 iv_ko_14 ab_now sb_now) (cwV 1 hts gX12_days_X12_passDays rfl rfl rfl (by decide +kernel) ⟨(Nat.le_of_ble_eq_true rfl), (Nat.le_of_ble_eq_true rfl)⟩) (pre_UV hK hP hD [0, 1] (by decide) rfl (ci := 12) (q0 := 0) rfl rfl) rfl rfl hl.1 rfl (lv_room (Nat.le_of_ble_eq_true rfl)) dX12_days_38 ⟨(Nat.le_of_ble_eq_true rfl), (Nat.le_of_ble_eq_true rfl)⟩) hP hD hS hA [0, 1] [2] rfl rfl (by decide) (by decide) (fun r18 u16 H locs p17 hP hD hS => ?_)
      obtain ⟨knowG_19, rfl⟩ : ∃ z, z = u16 := ⟨_, rfl⟩
      try dsimp only at p17
      obtain ⟨p20, p21⟩ := p17
      refine W.widen (k := 0) (n := 0) (Nat.le_of_ble_eq_true rfl) (Nat.le_of_ble_eq_true rfl) ?_
      have hP : va_P (dC, dI) vwCl [(ksnaps, .inl (ky 0, 512, .inl ksnapsG_13)), (o, .inr (12, [.int (nI 0), .ref ktape, .int (nI ktaped), .int (nI ksize), .int (nI klimit), .int (nI kto), .int (nI kfrom), .int kkind, .int knumber, .int ksign, .int kfault, .int kplace, .long kword, .int ktold, .ref know, .ref kread, .ref kkept, .ref ksnaps, .ref kaside, .ref kname, .ref kreadName, .ref kkeptName, .ref kisKept, .ref konces, .int (nI ksnapManyG_12), .int khasCells, .ref kpoured, .ref kfar, .ref ksides, .int (nI ksideMany), .int kwayDays, .int khasWay, .ref klines, .ref kmet, .int (nI kmetMany), .ref ksunk, .ref ktrying, .int (nI ksunkMany), .int ksending, .int kfleets, .ref ktext, .int (nI ktexts), .int kseed, .ref kline, .ref kwritten, .int (nI klineMany), .int khasWritten, .ref knode, .int (nI knodes), .int (nI konesMany), .int (nI kwithin), .int (nI ktop)])), (know, .inl (ky 0, 373, .inl knowG_19))] H := hP
      have hD : va_D A [(ksnaps, .inl (ky 0, 512, .inl ksnapsG_13)), (o, .inr (12, [.int (nI 0), .ref ktape, .int (nI ktaped), .int (nI ksize), .int (nI klimit), .int (nI kto), .int (nI kfrom), .int kkind, .int knumber, .int ksign, .int kfault, .int kplace, .long kword, .int ktold, .ref know, .ref kread, .ref kkept, .ref ksnaps, .ref kaside, .ref kname, .ref kreadName, .ref kkeptName, .ref kisKept, .ref konces, .int (nI ksnapManyG_12), .int khasCells, .ref kpoured, .ref kfar, .ref ksides, .int (nI ksideMany), .int kwayDays, .int khasWay, .ref klines, .ref kmet, .int (nI kmetMany), .ref ksunk, .ref ktrying, .int (nI ksunkMany), .int ksending, .int kfleets, .ref ktext, .int (nI ktexts), .int kseed, .ref kline, .ref kwritten, .int (nI klineMany), .int khasWritten, .ref knode, .int (nI knodes), .int (nI konesMany), .int (nI kwithin), .int (nI ktop)])), (know, .inl (ky 0, 373, .inl knowG_19))] := hD
      rw [hQ]
      have hP9 := hP.sub (ws' := [(o, .inr (12, [.int (nI 0), .ref ktape, .int (nI ktaped), .int (nI ksize), .int (nI klimit), .int (nI kto), .int (nI kfrom), .int kkind, .int knumber, .int ksign, .int kfault, .int kplace, .long kword, .int ktold, .ref know, .ref kread, .ref kkept, .ref ksnaps, .ref kaside, .ref kname, .ref kreadName, .ref kkeptName, .ref kisKept, .ref konces, .int (nI ksnapManyG_12), .int khasCells, .ref kpoured, .ref kfar, .ref ksides, .int (nI ksideMany), .int kwayDays, .int khasWay, .ref klines, .ref kmet, .int (nI kmetMany), .ref ksunk, .ref ktrying, .int (nI ksunkMany), .int ksending, .int kfleets, .ref ktext, .int (nI ktexts), .int kseed, .ref kline, .ref kwritten, .int (nI klineMany), .int khasWritten, .ref knode, .int (nI knodes), .int (nI konesMany), .int (nI kwithin), .int (nI ktop)])), (know, .inl (ky 0, 373, .inl knowG_19)), (ksnaps, .inl (ky 0, 512, .inl ksnapsG_13))]) [1, 2, 0] rfl
      have hD9 := hD.sub (ws' := [(o, .inr (12, [.int (nI 0), .ref ktape, .int (nI ktaped), .int (nI ksize), .int (nI klimit), .int (nI kto), .int (nI kfrom), .int kkind, .int knumber, .int ksign, .int kfault, .int kplace, .long kword, .int ktold, .ref know, .ref kread, .ref kkept, .ref ksnaps, .ref kaside, .ref kname, .ref kreadName, .ref kkeptName, .ref kisKept, .ref konces, .int (nI ksnapManyG_12), .int khasCells, .ref kpoured, .ref kfar, .ref ksides, .int (nI ksideMany), .int kwayDays, .int khasWay, .ref klines, .ref kmet, .int (nI kmetMany), .ref ksunk, .ref ktrying, .int (nI ksunkMany), .int ksending, .int kfleets, .ref ktext, .int (nI ktexts), .int kseed, .ref kline, .ref kwritten, .int (nI klineMany), .int khasWritten, .ref knode, .int (nI knodes), .int (nI konesMany), .int (nI kwithin), .int (nI ktop)])), (know, .inl (ky 0, 373, .inl knowG_19)), (ksnaps, .inl (ky 0, 512, .inl ksnapsG_13))]) [1, 2, 0] (by decide) rfl
      exact W.iret (v := r18) hx hb hr (fun t9 ht9 hW9 => ⟨⟨r18, (nI 0, ksnapManyG_12, knowG_19, ksnapsG_13), rfl, ⟨p14, p20, p21, p15⟩, by rw [ht9]; exact hP9, va_K.moved hW9.alike hK, hD9⟩, hS.F ht9⟩) hS.2.2 dX12_days_41
    · refine lv_iconst (v := nI 0) hx hb dX12_days_30 (by decide) ?_
      rw [hQ]
      exact W.iret (v := nI 0) hx hb hr (fun t9 ht9 hW9 => ⟨⟨nI 0, (nI 0, ksnapMany, knowF, ksnapsF), rfl, ⟨iv_ko_5, ab_now, sb_now, ab_snaps⟩, by rw [ht9]; exact hP, va_K.moved hW9.alike hK, hD⟩, hS.F ht9⟩) hS.2.2 dX12_days_31
  · refine lv_if_ne (tgt := 17) hx hb dX12_days_12 (by decide) (fun c22 => absurd c22 (by decide)) (fun c22 => ?_)
    refine lv_iconst (v := (-1 : Int32)) hx hb dX12_days_15 (by decide) ?_
    rw [hQ]
    exact W.iret (v := (-1 : Int32)) hx hb hr (fun t9 ht9 hW9 => ⟨⟨(-1 : Int32), (nI 0, ksnapMany, knowF, ksnapsF), rfl, ⟨iv_ko_5, ab_now, sb_now, ab_snaps⟩, by rw [ht9]; exact hP, va_K.moved hW9.alike hK, hD⟩, hS.F ht9⟩) hS.2.2 dX12_days_16
