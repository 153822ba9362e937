theorem dX12_doStir_0 : decode cX12_doStir 0 = .ok (.iconst 0, 1) := by decide +kernel
theorem dX12_doStir_1 : decode cX12_doStir 1 = .ok (.istore_n 2, 1) := by decide +kernel
theorem dX12_doStir_2 : decode cX12_doStir 2 = .ok (.iload_n 2, 1) := by decide +kernel
theorem dX12_doStir_3 : decode cX12_doStir 3 = .ok (.bipush 36, 2) := by decide +kernel
theorem dX12_doStir_5 : decode cX12_doStir 5 = .ok (.if_icmp .ge 16, 3) := by decide +kernel
theorem dX12_doStir_8 : decode cX12_doStir 8 = .ok (.aload_n 0, 1) := by decide +kernel
theorem dX12_doStir_9 : decode cX12_doStir 9 = .ok (.getfield 130, 3) := by decide +kernel
theorem dX12_doStir_12 : decode cX12_doStir 12 = .ok (.iload_n 2, 1) := by decide +kernel
theorem dX12_doStir_13 : decode cX12_doStir 13 = .ok (.iconst 0, 1) := by decide +kernel
theorem dX12_doStir_14 : decode cX12_doStir 14 = .ok (.iastore, 1) := by decide +kernel
theorem dX12_doStir_15 : decode cX12_doStir 15 = .ok (.iinc 2 1, 3) := by decide +kernel
theorem dX12_doStir_18 : decode cX12_doStir 18 = .ok (.goto (-16), 3) := by decide +kernel
theorem dX12_doStir_21 : decode cX12_doStir 21 = .ok (.iconst 0, 1) := by decide +kernel
theorem dX12_doStir_22 : decode cX12_doStir 22 = .ok (.istore_n 2, 1) := by decide +kernel
theorem dX12_doStir_23 : decode cX12_doStir 23 = .ok (.iload_n 2, 1) := by decide +kernel
theorem dX12_doStir_24 : decode cX12_doStir 24 = .ok (.bipush 36, 2) := by decide +kernel
theorem dX12_doStir_26 : decode cX12_doStir 26 = .ok (.if_icmp .ge 37, 3) := by decide +kernel
theorem dX12_doStir_29 : decode cX12_doStir 29 = .ok (.aload_n 0, 1) := by decide +kernel
theorem dX12_doStir_30 : decode cX12_doStir 30 = .ok (.iload_n 2, 1) := by decide +kernel
theorem dX12_doStir_31 : decode cX12_doStir 31 = .ok (.invokevirtual 279, 3) := by decide +kernel
theorem dX12_doStir_34 : decode cX12_doStir 34 = .ok (.ifCond .eq 23, 3) := by decide +kernel
theorem dX12_doStir_57 : decode cX12_doStir 57 = .ok (.iinc 2 1, 3) := by decide +kernel
theorem dX12_doStir_60 : decode cX12_doStir 60 = .ok (.goto (-37), 3) := by decide +kernel
theorem dX12_doStir_37 : decode cX12_doStir 37 = .ok (.aload_n 0, 1) := by decide +kernel
theorem dX12_doStir_38 : decode cX12_doStir 38 = .ok (.getfield 130, 3) := by decide +kernel
theorem dX12_doStir_41 : decode cX12_doStir 41 = .ok (.aload_n 0, 1) := by decide +kernel
theorem dX12_doStir_42 : decode cX12_doStir 42 = .ok (.iload_n 2, 1) := by decide +kernel
theorem dX12_doStir_43 : decode cX12_doStir 43 = .ok (.iload_n 1, 1) := by decide +kernel
theorem dX12_doStir_44 : decode cX12_doStir 44 = .ok (.invokevirtual 282, 3) := by decide +kernel
theorem dX12_doStir_47 : decode cX12_doStir 47 = .ok (.aload_n 0, 1) := by decide +kernel
theorem dX12_doStir_48 : decode cX12_doStir 48 = .ok (.getfield 98, 3) := by decide +kernel
theorem dX12_doStir_51 : decode cX12_doStir 51 = .ok (.bipush 71, 2) := by decide +kernel
theorem dX12_doStir_53 : decode cX12_doStir 53 = .ok (.iload_n 2, 1) := by decide +kernel
theorem dX12_doStir_54 : decode cX12_doStir 54 = .ok (.iadd, 1) := by decide +kernel
theorem dX12_doStir_55 : decode cX12_doStir 55 = .ok (.iaload, 1) := by decide +kernel
theorem dX12_doStir_56 : decode cX12_doStir 56 = .ok (.iastore, 1) := by decide +kernel
theorem dX12_doStir_63 : decode cX12_doStir 63 = .ok (.iconst 0, 1) := by decide +kernel
theorem dX12_doStir_64 : decode cX12_doStir 64 = .ok (.istore_n 2, 1) := by decide +kernel
theorem dX12_doStir_65 : decode cX12_doStir 65 = .ok (.iload_n 2, 1) := by decide +kernel
theorem dX12_doStir_66 : decode cX12_doStir 66 = .ok (.bipush 36, 2) := by decide +kernel
theorem dX12_doStir_68 : decode cX12_doStir 68 = .ok (.if_icmp .ge 24, 3) := by decide +kernel
theorem dX12_doStir_71 : decode cX12_doStir 71 = .ok (.aload_n 0, 1) := by decide +kernel
theorem dX12_doStir_72 : decode cX12_doStir 72 = .ok (.getfield 98, 3) := by decide +kernel
theorem dX12_doStir_75 : decode cX12_doStir 75 = .ok (.bipush 71, 2) := by decide +kernel
theorem dX12_doStir_77 : decode cX12_doStir 77 = .ok (.iload_n 2, 1) := by decide +kernel
theorem dX12_doStir_78 : decode cX12_doStir 78 = .ok (.iadd, 1) := by decide +kernel
theorem dX12_doStir_79 : decode cX12_doStir 79 = .ok (.aload_n 0, 1) := by decide +kernel
theorem dX12_doStir_80 : decode cX12_doStir 80 = .ok (.getfield 130, 3) := by decide +kernel
theorem dX12_doStir_83 : decode cX12_doStir 83 = .ok (.iload_n 2, 1) := by decide +kernel
theorem dX12_doStir_84 : decode cX12_doStir 84 = .ok (.iaload, 1) := by decide +kernel
theorem dX12_doStir_85 : decode cX12_doStir 85 = .ok (.iastore, 1) := by decide +kernel
theorem dX12_doStir_86 : decode cX12_doStir 86 = .ok (.iinc 2 1, 3) := by decide +kernel
theorem dX12_doStir_89 : decode cX12_doStir 89 = .ok (.goto (-24), 3) := by decide +kernel
theorem dX12_doStir_92 : decode cX12_doStir 92 = .ok (.iconst 0, 1) := by decide +kernel
theorem dX12_doStir_93 : decode cX12_doStir 93 = .ok (.istore_n 2, 1) := by decide +kernel
theorem dX12_doStir_94 : decode cX12_doStir 94 = .ok (.iload_n 2, 1) := by decide +kernel
theorem dX12_doStir_95 : decode cX12_doStir 95 = .ok (.aload_n 0, 1) := by decide +kernel
theorem dX12_doStir_96 : decode cX12_doStir 96 = .ok (.getfield 98, 3) := by decide +kernel
theorem dX12_doStir_99 : decode cX12_doStir 99 = .ok (.iconst 2, 1) := by decide +kernel
theorem dX12_doStir_100 : decode cX12_doStir 100 = .ok (.iaload, 1) := by decide +kernel
theorem dX12_doStir_101 : decode cX12_doStir 101 = .ok (.if_icmp .ge 32, 3) := by decide +kernel
theorem dX12_doStir_104 : decode cX12_doStir 104 = .ok (.aload_n 0, 1) := by decide +kernel
theorem dX12_doStir_105 : decode cX12_doStir 105 = .ok (.getfield 98, 3) := by decide +kernel
theorem dX12_doStir_108 : decode cX12_doStir 108 = .ok (.bipush 107, 2) := by decide +kernel
theorem dX12_doStir_110 : decode cX12_doStir 110 = .ok (.iload_n 2, 1) := by decide +kernel
theorem dX12_doStir_111 : decode cX12_doStir 111 = .ok (.iadd, 1) := by decide +kernel
theorem dX12_doStir_112 : decode cX12_doStir 112 = .ok (.aload_n 0, 1) := by decide +kernel
theorem dX12_doStir_113 : decode cX12_doStir 113 = .ok (.aload_n 0, 1) := by decide +kernel
theorem dX12_doStir_114 : decode cX12_doStir 114 = .ok (.getfield 98, 3) := by decide +kernel
theorem dX12_doStir_117 : decode cX12_doStir 117 = .ok (.bipush 107, 2) := by decide +kernel
theorem dX12_doStir_119 : decode cX12_doStir 119 = .ok (.iload_n 2, 1) := by decide +kernel
theorem dX12_doStir_120 : decode cX12_doStir 120 = .ok (.iadd, 1) := by decide +kernel
theorem dX12_doStir_121 : decode cX12_doStir 121 = .ok (.iaload, 1) := by decide +kernel
theorem dX12_doStir_122 : decode cX12_doStir 122 = .ok (.iload_n 1, 1) := by decide +kernel
theorem dX12_doStir_123 : decode cX12_doStir 123 = .ok (.invokevirtual 282, 3) := by decide +kernel
theorem dX12_doStir_126 : decode cX12_doStir 126 = .ok (.iastore, 1) := by decide +kernel
theorem dX12_doStir_127 : decode cX12_doStir 127 = .ok (.iinc 2 1, 3) := by decide +kernel
theorem dX12_doStir_130 : decode cX12_doStir 130 = .ok (.goto (-36), 3) := by decide +kernel
theorem dX12_doStir_133 : decode cX12_doStir 133 = .ok (.iconst 0, 1) := by decide +kernel
theorem dX12_doStir_134 : decode cX12_doStir 134 = .ok (.istore_n 2, 1) := by decide +kernel
theorem dX12_doStir_135 : decode cX12_doStir 135 = .ok (.iload_n 2, 1) := by decide +kernel
theorem dX12_doStir_136 : decode cX12_doStir 136 = .ok (.aload_n 0, 1) := by decide +kernel
theorem dX12_doStir_137 : decode cX12_doStir 137 = .ok (.getfield 98, 3) := by decide +kernel
theorem dX12_doStir_140 : decode cX12_doStir 140 = .ok (.iconst 3, 1) := by decide +kernel
theorem dX12_doStir_141 : decode cX12_doStir 141 = .ok (.iaload, 1) := by decide +kernel
theorem dX12_doStir_142 : decode cX12_doStir 142 = .ok (.if_icmp .ge 40, 3) := by decide +kernel
theorem dX12_doStir_182 : decode cX12_doStir 182 = .ok (.aload_n 0, 1) := by decide +kernel
theorem dX12_doStir_183 : decode cX12_doStir 183 = .ok (.getfield 98, 3) := by decide +kernel
theorem dX12_doStir_186 : decode cX12_doStir 186 = .ok (.bipush 69, 2) := by decide +kernel
theorem dX12_doStir_188 : decode cX12_doStir 188 = .ok (.dup2, 1) := by decide +kernel
theorem dX12_doStir_189 : decode cX12_doStir 189 = .ok (.iaload, 1) := by decide +kernel
theorem dX12_doStir_190 : decode cX12_doStir 190 = .ok (.iconst 1, 1) := by decide +kernel
theorem dX12_doStir_191 : decode cX12_doStir 191 = .ok (.iadd, 1) := by decide +kernel
theorem dX12_doStir_192 : decode cX12_doStir 192 = .ok (.iastore, 1) := by decide +kernel
theorem dX12_doStir_193 : decode cX12_doStir 193 = .ok (.return_, 1) := by decide +kernel
theorem dX12_doStir_145 : decode cX12_doStir 145 = .ok (.aload_n 0, 1) := by decide +kernel
theorem dX12_doStir_146 : decode cX12_doStir 146 = .ok (.iload_n 2, 1) := by decide +kernel
theorem dX12_doStir_147 : decode cX12_doStir 147 = .ok (.invokevirtual 246, 3) := by decide +kernel
theorem dX12_doStir_150 : decode cX12_doStir 150 = .ok (.ifCond .ne 26, 3) := by decide +kernel
theorem dX12_doStir_176 : decode cX12_doStir 176 = .ok (.iinc 2 1, 3) := by decide +kernel
theorem dX12_doStir_179 : decode cX12_doStir 179 = .ok (.goto (-44), 3) := by decide +kernel
theorem dX12_doStir_153 : decode cX12_doStir 153 = .ok (.aload_n 0, 1) := by decide +kernel
theorem dX12_doStir_154 : decode cX12_doStir 154 = .ok (.getfield 98, 3) := by decide +kernel
theorem dX12_doStir_157 : decode cX12_doStir 157 = .ok (.bipush 113, 2) := by decide +kernel
theorem dX12_doStir_159 : decode cX12_doStir 159 = .ok (.iload_n 2, 1) := by decide +kernel
theorem dX12_doStir_160 : decode cX12_doStir 160 = .ok (.iadd, 1) := by decide +kernel
theorem dX12_doStir_161 : decode cX12_doStir 161 = .ok (.aload_n 0, 1) := by decide +kernel
theorem dX12_doStir_162 : decode cX12_doStir 162 = .ok (.aload_n 0, 1) := by decide +kernel
theorem dX12_doStir_163 : decode cX12_doStir 163 = .ok (.getfield 98, 3) := by decide +kernel
theorem dX12_doStir_166 : decode cX12_doStir 166 = .ok (.bipush 113, 2) := by decide +kernel
theorem dX12_doStir_168 : decode cX12_doStir 168 = .ok (.iload_n 2, 1) := by decide +kernel
theorem dX12_doStir_169 : decode cX12_doStir 169 = .ok (.iadd, 1) := by decide +kernel
theorem dX12_doStir_170 : decode cX12_doStir 170 = .ok (.iaload, 1) := by decide +kernel
theorem dX12_doStir_171 : decode cX12_doStir 171 = .ok (.iload_n 1, 1) := by decide +kernel
theorem dX12_doStir_172 : decode cX12_doStir 172 = .ok (.invokevirtual 282, 3) := by decide +kernel
theorem dX12_doStir_175 : decode cX12_doStir 175 = .ok (.iastore, 1) := by decide +kernel
theorem dX12_oneDay_0 : decode cX12_oneDay 0 = .ok (.iconst 0, 1) := by decide +kernel
theorem dX12_oneDay_1 : decode cX12_oneDay 1 = .ok (.istore_n 1, 1) := by decide +kernel
theorem dX12_oneDay_2 : decode cX12_oneDay 2 = .ok (.iload_n 1, 1) := by decide +kernel
theorem dX12_oneDay_3 : decode cX12_oneDay 3 = .ok (.aload_n 0, 1) := by decide +kernel
theorem dX12_oneDay_4 : decode cX12_oneDay 4 = .ok (.getfield 98, 3) := by decide +kernel
theorem dX12_oneDay_7 : decode cX12_oneDay 7 = .ok (.iconst 3, 1) := by decide +kernel
theorem dX12_oneDay_8 : decode cX12_oneDay 8 = .ok (.iaload, 1) := by decide +kernel
theorem dX12_oneDay_9 : decode cX12_oneDay 9 = .ok (.if_icmp .ge 69, 3) := by decide +kernel
theorem dX12_oneDay_12 : decode cX12_oneDay 12 = .ok (.aload_n 0, 1) := by decide +kernel
theorem dX12_oneDay_13 : decode cX12_oneDay 13 = .ok (.iload_n 1, 1) := by decide +kernel
theorem dX12_oneDay_14 : decode cX12_oneDay 14 = .ok (.invokevirtual 266, 3) := by decide +kernel
theorem dX12_oneDay_17 : decode cX12_oneDay 17 = .ok (.ifCond .eq 16, 3) := by decide +kernel
theorem dX12_oneDay_33 : decode cX12_oneDay 33 = .ok (.aload_n 0, 1) := by decide +kernel
theorem dX12_oneDay_34 : decode cX12_oneDay 34 = .ok (.iload_n 1, 1) := by decide +kernel
theorem dX12_oneDay_35 : decode cX12_oneDay 35 = .ok (.invokevirtual 246, 3) := by decide +kernel
theorem dX12_oneDay_38 : decode cX12_oneDay 38 = .ok (.ifCond .ne 16, 3) := by decide +kernel
theorem dX12_oneDay_41 : decode cX12_oneDay 41 = .ok (.aload_n 0, 1) := by decide +kernel
theorem dX12_oneDay_42 : decode cX12_oneDay 42 = .ok (.getfield 98, 3) := by decide +kernel
theorem dX12_oneDay_45 : decode cX12_oneDay 45 = .ok (.bipush 125, 2) := by decide +kernel
theorem dX12_oneDay_47 : decode cX12_oneDay 47 = .ok (.iload_n 1, 1) := by decide +kernel
theorem dX12_oneDay_48 : decode cX12_oneDay 48 = .ok (.iadd, 1) := by decide +kernel
theorem dX12_oneDay_49 : decode cX12_oneDay 49 = .ok (.dup2, 1) := by decide +kernel
theorem dX12_oneDay_50 : decode cX12_oneDay 50 = .ok (.iaload, 1) := by decide +kernel
theorem dX12_oneDay_51 : decode cX12_oneDay 51 = .ok (.iconst 1, 1) := by decide +kernel
theorem dX12_oneDay_52 : decode cX12_oneDay 52 = .ok (.iadd, 1) := by decide +kernel
theorem dX12_oneDay_53 : decode cX12_oneDay 53 = .ok (.iastore, 1) := by decide +kernel
theorem dX12_oneDay_20 : decode cX12_oneDay 20 = .ok (.aload_n 0, 1) := by decide +kernel
theorem dX12_oneDay_21 : decode cX12_oneDay 21 = .ok (.getfield 98, 3) := by decide +kernel
theorem dX12_oneDay_24 : decode cX12_oneDay 24 = .ok (.bipush 125, 2) := by decide +kernel
theorem dX12_oneDay_26 : decode cX12_oneDay 26 = .ok (.iload_n 1, 1) := by decide +kernel
theorem dX12_oneDay_27 : decode cX12_oneDay 27 = .ok (.iadd, 1) := by decide +kernel
theorem dX12_oneDay_28 : decode cX12_oneDay 28 = .ok (.iconst 0, 1) := by decide +kernel
theorem dX12_oneDay_29 : decode cX12_oneDay 29 = .ok (.iastore, 1) := by decide +kernel
theorem dX12_oneDay_30 : decode cX12_oneDay 30 = .ok (.goto 24, 3) := by decide +kernel
theorem dX12_oneDay_54 : decode cX12_oneDay 54 = .ok (.aload_n 0, 1) := by decide +kernel
theorem dX12_oneDay_55 : decode cX12_oneDay 55 = .ok (.getfield 98, 3) := by decide +kernel
theorem dX12_oneDay_58 : decode cX12_oneDay 58 = .ok (.bipush 119, 2) := by decide +kernel
theorem dX12_oneDay_60 : decode cX12_oneDay 60 = .ok (.iload_n 1, 1) := by decide +kernel
theorem dX12_oneDay_61 : decode cX12_oneDay 61 = .ok (.iadd, 1) := by decide +kernel
theorem dX12_oneDay_62 : decode cX12_oneDay 62 = .ok (.aload_n 0, 1) := by decide +kernel
theorem dX12_oneDay_63 : decode cX12_oneDay 63 = .ok (.getfield 98, 3) := by decide +kernel
theorem dX12_oneDay_66 : decode cX12_oneDay 66 = .ok (.bipush 61, 2) := by decide +kernel
theorem dX12_oneDay_68 : decode cX12_oneDay 68 = .ok (.iload_n 1, 1) := by decide +kernel
theorem dX12_oneDay_69 : decode cX12_oneDay 69 = .ok (.iadd, 1) := by decide +kernel
theorem dX12_oneDay_70 : decode cX12_oneDay 70 = .ok (.iaload, 1) := by decide +kernel
theorem dX12_oneDay_71 : decode cX12_oneDay 71 = .ok (.iastore, 1) := by decide +kernel
theorem dX12_oneDay_72 : decode cX12_oneDay 72 = .ok (.iinc 1 1, 3) := by decide +kernel
theorem dX12_oneDay_75 : decode cX12_oneDay 75 = .ok (.goto (-73), 3) := by decide +kernel
theorem dX12_oneDay_78 : decode cX12_oneDay 78 = .ok (.aload_n 0, 1) := by decide +kernel
theorem dX12_oneDay_79 : decode cX12_oneDay 79 = .ok (.getfield 98, 3) := by decide +kernel
theorem dX12_oneDay_82 : decode cX12_oneDay 82 = .ok (.bipush 68, 2) := by decide +kernel
theorem dX12_oneDay_84 : decode cX12_oneDay 84 = .ok (.dup2, 1) := by decide +kernel
theorem dX12_oneDay_85 : decode cX12_oneDay 85 = .ok (.iaload, 1) := by decide +kernel
theorem dX12_oneDay_86 : decode cX12_oneDay 86 = .ok (.aload_n 0, 1) := by decide +kernel
theorem dX12_oneDay_87 : decode cX12_oneDay 87 = .ok (.getfield 98, 3) := by decide +kernel
theorem dX12_oneDay_90 : decode cX12_oneDay 90 = .ok (.iconst 5, 1) := by decide +kernel
theorem dX12_oneDay_91 : decode cX12_oneDay 91 = .ok (.iaload, 1) := by decide +kernel
theorem dX12_oneDay_92 : decode cX12_oneDay 92 = .ok (.aload_n 0, 1) := by decide +kernel
theorem dX12_oneDay_93 : decode cX12_oneDay 93 = .ok (.getfield 98, 3) := by decide +kernel
theorem dX12_oneDay_96 : decode cX12_oneDay 96 = .ok (.bipush 68, 2) := by decide +kernel
theorem dX12_oneDay_98 : decode cX12_oneDay 98 = .ok (.iaload, 1) := by decide +kernel
theorem dX12_oneDay_99 : decode cX12_oneDay 99 = .ok (.invokestatic 288, 3) := by decide +kernel
theorem dX12_oneDay_102 : decode cX12_oneDay 102 = .ok (.isub, 1) := by decide +kernel
theorem dX12_oneDay_103 : decode cX12_oneDay 103 = .ok (.iastore, 1) := by decide +kernel
theorem dX12_oneDay_104 : decode cX12_oneDay 104 = .ok (.aload_n 0, 1) := by decide +kernel
theorem dX12_oneDay_105 : decode cX12_oneDay 105 = .ok (.getfield 98, 3) := by decide +kernel
theorem dX12_oneDay_108 : decode cX12_oneDay 108 = .ok (.bipush 67, 2) := by decide +kernel
theorem dX12_oneDay_110 : decode cX12_oneDay 110 = .ok (.dup2, 1) := by decide +kernel
theorem dX12_oneDay_111 : decode cX12_oneDay 111 = .ok (.iaload, 1) := by decide +kernel
theorem dX12_oneDay_112 : decode cX12_oneDay 112 = .ok (.iconst 1, 1) := by decide +kernel
theorem dX12_oneDay_113 : decode cX12_oneDay 113 = .ok (.iadd, 1) := by decide +kernel
theorem dX12_oneDay_114 : decode cX12_oneDay 114 = .ok (.iastore, 1) := by decide +kernel
theorem dX12_oneDay_115 : decode cX12_oneDay 115 = .ok (.return_, 1) := by decide +kernel
theorem dX12_passDays_0 : decode cX12_passDays 0 = .ok (.iload_n 1, 1) := by decide +kernel
theorem dX12_passDays_1 : decode cX12_passDays 1 = .ok (.sipush 400, 3) := by decide +kernel
theorem dX12_passDays_4 : decode cX12_passDays 4 = .ok (.aload_n 0, 1) := by decide +kernel
theorem dX12_passDays_5 : decode cX12_passDays 5 = .ok (.getfield 98, 3) := by decide +kernel
theorem dX12_passDays_8 : decode cX12_passDays 8 = .ok (.bipush 67, 2) := by decide +kernel
theorem dX12_passDays_10 : decode cX12_passDays 10 = .ok (.iaload, 1) := by decide +kernel
theorem dX12_passDays_11 : decode cX12_passDays 11 = .ok (.isub, 1) := by decide +kernel
theorem dX12_passDays_12 : decode cX12_passDays 12 = .ok (.invokestatic 288, 3) := by decide +kernel
theorem dX12_passDays_15 : decode cX12_passDays 15 = .ok (.istore_n 2, 1) := by decide +kernel
theorem dX12_passDays_16 : decode cX12_passDays 16 = .ok (.iconst 0, 1) := by decide +kernel
theorem dX12_passDays_17 : decode cX12_passDays 17 = .ok (.istore_n 3, 1) := by decide +kernel
theorem dX12_passDays_18 : decode cX12_passDays 18 = .ok (.iload_n 3, 1) := by decide +kernel
theorem dX12_passDays_19 : decode cX12_passDays 19 = .ok (.iload_n 2, 1) := by decide +kernel
theorem dX12_passDays_20 : decode cX12_passDays 20 = .ok (.if_icmp .ge 13, 3) := by decide +kernel
theorem dX12_passDays_33 : decode cX12_passDays 33 = .ok (.iload_n 2, 1) := by decide +kernel
theorem dX12_passDays_34 : decode cX12_passDays 34 = .ok (.ireturn, 1) := by decide +kernel
theorem dX12_passDays_23 : decode cX12_passDays 23 = .ok (.aload_n 0, 1) := by decide +kernel
theorem dX12_passDays_24 : decode cX12_passDays 24 = .ok (.invokevirtual 309, 3) := by decide +kernel
theorem dX12_passDays_27 : decode cX12_passDays 27 = .ok (.iinc 3 1, 3) := by decide +kernel
theorem dX12_passDays_30 : decode cX12_passDays 30 = .ok (.goto (-12), 3) := by decide +kernel
theorem dX12_days_0 : decode cX12_days 0 = .ok (.aload_n 0, 1) := by decide +kernel
theorem dX12_days_1 : decode cX12_days 1 = .ok (.iconst 0, 1) := by decide +kernel
theorem dX12_days_2 : decode cX12_days 2 = .ok (.putfield 1, 3) := by decide +kernel
theorem dX12_days_5 : decode cX12_days 5 = .ok (.iload_n 1, 1) := by decide +kernel
theorem dX12_days_6 : decode cX12_days 6 = .ok (.iconst 1, 1) := by decide +kernel
theorem dX12_days_7 : decode cX12_days 7 = .ok (.bipush 60, 2) := by decide +kernel
theorem dX12_days_9 : decode cX12_days 9 = .ok (.invokestatic 75, 3) := by decide +kernel
theorem dX12_days_12 : decode cX12_days 12 = .ok (.ifCond .ne 5, 3) := by decide +kernel
theorem dX12_days_17 : decode cX12_days 17 = .ok (.aload_n 0, 1) := by decide +kernel
theorem dX12_days_18 : decode cX12_days 18 = .ok (.getfield 98, 3) := by decide +kernel
theorem dX12_days_21 : decode cX12_days 21 = .ok (.bipush 67, 2) := by decide +kernel
theorem dX12_days_23 : decode cX12_days 23 = .ok (.iaload, 1) := by decide +kernel
theorem dX12_days_24 : decode cX12_days 24 = .ok (.sipush 400, 3) := by decide +kernel
theorem dX12_days_27 : decode cX12_days 27 = .ok (.if_icmp .ne 5, 3) := by decide +kernel
theorem dX12_days_32 : decode cX12_days 32 = .ok (.aload_n 0, 1) := by decide +kernel
theorem dX12_days_33 : decode cX12_days 33 = .ok (.invokevirtual 295, 3) := by decide +kernel
theorem dX12_days_36 : decode cX12_days 36 = .ok (.aload_n 0, 1) := by decide +kernel
theorem dX12_days_37 : decode cX12_days 37 = .ok (.iload_n 1, 1) := by decide +kernel
theorem dX12_days_38 : decode cX12_days 38 = .ok (.invokevirtual 312, 3) := by decide +kernel
theorem dX12_days_41 : decode cX12_days 41 = .ok (.ireturn, 1) := by decide +kernel
theorem dX12_days_30 : decode cX12_days 30 = .ok (.iconst 0, 1) := by decide +kernel
theorem dX12_days_31 : decode cX12_days 31 = .ok (.ireturn, 1) := by decide +kernel
theorem dX12_days_15 : decode cX12_days 15 = .ok (.iconst (-1), 1) := by decide +kernel
theorem dX12_days_16 : decode cX12_days 16 = .ok (.ireturn, 1) := by decide +kernel
set_option maxRecDepth 100000 in
theorem ggX12_doStir_X12_isInSea : GoodIn wsX12_doStir wsX12_isInSea := goodIn_r _ [7, 2, 16, 17, 18, 19, 20, 21, 22, 23, 24, 25, 26, 27, 28, 29, 30, 31, 32, 33, 34, 35, 36, 37, 38, 39, 40, 41, 42, 43, 44, 45, 46, 47, 48, 49, 50, 51, 52, 53, 54, 55, 56, 57, 58, 59, 60, 61, 62, 63, 64, 65, 66, 67] rfl (by decide +kernel)
set_option maxRecDepth 100000 in
theorem ggX12_doStir_X12_stirred : GoodIn wsX12_doStir wsX12_stirred := goodIn_r _ [11, 2, 16, 17, 18, 19, 20, 21, 22, 23, 24, 25, 26, 27, 28, 29, 30, 31, 32, 33, 34, 35, 36, 37, 38, 39, 40, 41, 42, 43, 44, 45, 46, 47, 48, 49, 50, 51, 52, 53, 54, 55, 56, 57, 58, 59, 60, 61, 62, 63, 64, 65, 66, 67] rfl (by decide +kernel)
set_option maxRecDepth 100000 in
theorem ggX12_doStir_X12_isEaten : GoodIn wsX12_doStir wsX12_isEaten := goodIn_r _ [15, 2, 16, 17, 18, 19, 20, 21, 22, 23, 24, 25, 26, 27, 28, 29, 30, 31, 32, 33, 34, 35, 36, 37, 38, 39, 40, 41, 42, 43, 44, 45, 46, 47, 48, 49, 50, 51, 52, 53, 54, 55, 56, 57, 58, 59, 60, 61, 62, 63, 64, 65, 66, 67] rfl (by decide +kernel)
set_option maxRecDepth 100000 in
theorem ggX12_oneDay_X12_isAfloat : GoodIn wsX12_oneDay wsX12_isAfloat := goodIn_r _ [6, 1, 7, 8, 9, 5, 10, 11, 12, 13, 14, 15, 16, 17, 18, 19, 20, 21, 22, 26, 27, 28, 29, 30, 31, 32, 33, 34, 35, 36, 37, 38, 39, 40, 41, 42, 43, 44, 45, 46, 47, 48, 49, 50, 51, 52, 53, 54, 55, 56, 57, 58, 59, 60, 61, 62, 63, 64, 65, 66, 67, 68, 69, 70, 71, 72, 73, 74, 75, 76, 77] rfl (by decide +kernel)
set_option maxRecDepth 100000 in
theorem ggX12_oneDay_X12_isEaten : GoodIn wsX12_oneDay wsX12_isEaten := goodIn_r _ [10, 1, 26, 27, 28, 29, 30, 31, 32, 33, 34, 35, 36, 37, 38, 39, 40, 41, 42, 43, 44, 45, 46, 47, 48, 49, 50, 51, 52, 53, 54, 55, 56, 57, 58, 59, 60, 61, 62, 63, 64, 65, 66, 67, 68, 69, 70, 71, 72, 73, 74, 75, 76, 77] rfl (by decide +kernel)
set_option maxRecDepth 100000 in
theorem ggX12_oneDay_X12_least : GoodIn wsX12_oneDay wsX12_least := goodIn_r _ [25] rfl (by decide +kernel)
set_option maxRecDepth 100000 in
theorem ggX12_passDays_X12_least : GoodIn wsX12_passDays wsX12_least := goodIn_r _ [5] rfl (by decide +kernel)
set_option maxRecDepth 100000 in
theorem ggX12_passDays_X12_oneDay : GoodIn wsX12_passDays wsX12_oneDay := goodIn_r _ [9, 1, 10, 11, 12, 4, 13, 14, 15, 16, 17, 18, 19, 20, 21, 22, 23, 24, 25, 26, 27, 28, 29, 2, 3, 5, 30, 31, 32, 33, 34, 35, 36, 37, 38, 39, 40, 41, 42, 43, 44, 45, 46, 47, 48, 49, 50, 51, 52, 53, 54, 55, 56, 57, 58, 59, 60, 61, 62, 63, 64, 65, 66, 67, 68, 69, 70, 71, 72, 73, 74, 75, 76, 77, 78, 79, 80, 81] rfl (by decide +kernel)
set_option maxRecDepth 100000 in
theorem ggX12_days_X12_isIn : GoodIn wsX12_days wsX12_isIn := goodIn_r _ [6] rfl (by decide +kernel)
set_option maxRecDepth 100000 in
theorem ggX12_days_X12_snap : GoodIn wsX12_days wsX12_snap := goodIn_r _ [10, 11, 12, 2, 44, 45, 46, 47, 48, 49, 50, 51, 52, 53, 54, 55, 56, 57, 58, 59, 60, 61, 62, 63, 64, 65, 66, 67, 68, 69, 70, 71, 72, 73, 74, 75, 76, 77, 78, 79, 80, 81, 82, 83, 84, 85, 86, 87, 88, 89, 90, 91, 92, 93, 94, 95] rfl (by decide +kernel)
set_option maxRecDepth 100000 in
theorem ggX12_days_X12_passDays : GoodIn wsX12_days wsX12_passDays := goodIn_r _ [16, 2, 17, 18, 5, 19, 20, 21, 22, 23, 24, 25, 26, 27, 28, 29, 30, 31, 32, 33, 34, 35, 36, 37, 38, 39, 40, 41, 42, 43, 44, 45, 46, 47, 48, 49, 50, 51, 52, 53, 54, 55, 56, 57, 58, 59, 60, 61, 62, 63, 64, 65, 66, 67, 68, 69, 70, 71, 72, 73, 74, 75, 76, 77, 78, 79, 80, 81, 82, 83, 84, 85, 86, 87, 88, 89, 90, 91, 92, 93, 94, 95] rfl (by decide +kernel)
set_option maxRecDepth 100000 in
theorem gX12_doStir_X12_isInSea : GoodIn wsX12_doStir (wsV RX12 279 RX12 yX12_isInSea wsX12_isInSea) := goodIn_app (goodIn_of _ (by decide +kernel)) ggX12_doStir_X12_isInSea
set_option maxRecDepth 100000 in
theorem gX12_doStir_X12_stirred : GoodIn wsX12_doStir (wsV RX12 282 RX12 yX12_stirred wsX12_stirred) := goodIn_app (goodIn_of _ (by decide +kernel)) ggX12_doStir_X12_stirred
set_option maxRecDepth 100000 in
theorem gX12_doStir_X12_isEaten : GoodIn wsX12_doStir (wsV RX12 246 RX12 yX12_isEaten wsX12_isEaten) := goodIn_app (goodIn_of _ (by decide +kernel)) ggX12_doStir_X12_isEaten
set_option maxRecDepth 100000 in
theorem gX12_oneDay_X12_isAfloat : GoodIn wsX12_oneDay (wsV RX12 266 RX12 yX12_isAfloat wsX12_isAfloat) := goodIn_app (goodIn_of _ (by decide +kernel)) ggX12_oneDay_X12_isAfloat
set_option maxRecDepth 100000 in
theorem gX12_oneDay_X12_isEaten : GoodIn wsX12_oneDay (wsV RX12 246 RX12 yX12_isEaten wsX12_isEaten) := goodIn_app (goodIn_of _ (by decide +kernel)) ggX12_oneDay_X12_isEaten
set_option maxRecDepth 100000 in
theorem gX12_oneDay_X12_least : GoodIn wsX12_oneDay (va_wsS RX12 288 yX12_least wsX12_least) := goodIn_app (goodIn_of _ (by decide +kernel)) ggX12_oneDay_X12_least
set_option maxRecDepth 100000 in
theorem gX12_passDays_X12_least : GoodIn wsX12_passDays (va_wsS RX12 288 yX12_least wsX12_least) := goodIn_app (goodIn_of _ (by decide +kernel)) ggX12_passDays_X12_least
set_option maxRecDepth 100000 in
theorem gX12_passDays_X12_oneDay : GoodIn wsX12_passDays (wsV RX12 309 RX12 yX12_oneDay wsX12_oneDay) := goodIn_app (goodIn_of _ (by decide +kernel)) ggX12_passDays_X12_oneDay
set_option maxRecDepth 100000 in
theorem gX12_days_X12_isIn : GoodIn wsX12_days (va_wsS RX12 75 yX12_isIn wsX12_isIn) := goodIn_app (goodIn_of _ (by decide +kernel)) ggX12_days_X12_isIn
set_option maxRecDepth 100000 in
theorem gX12_days_X12_snap : GoodIn wsX12_days (wsV RX12 295 RX12 yX12_snap wsX12_snap) := goodIn_app (goodIn_of _ (by decide +kernel)) ggX12_days_X12_snap
set_option maxRecDepth 100000 in
theorem gX12_days_X12_passDays : GoodIn wsX12_days (wsV RX12 312 RX12 yX12_passDays wsX12_passDays) := goodIn_app (goodIn_of _ (by decide +kernel)) ggX12_days_X12_passDays
set_option maxRecDepth 20000 in
theorem lf_x_isEatenN_1 (knowF : Nat → Int32) (bq : Nat) (y1 : Int32) (ab_now : NB knowF) (hb6 : bq < 6) (e2 : y1 = knowF (125 + bq)) : (125 + bq) < 373 := by
  have b_y1 := ia_b y1
  try simp only [ia_lt, ia_le, ia_eq, ia_m1, ia_0, ia_1, ne_eq, true_and, and_true, false_and, and_false, or_false, false_or, or_true, true_or, not_true_eq_false, not_false_eq_true] at *
  all_goals omega
set_option maxRecDepth 20000 in
theorem lf_x_isEatenN_2 (knowF : Nat → Int32) (bq : Nat) (y1 : Int32) (ab_now : NB knowF) (hb6 : bq < 6) (e2 : y1 = knowF (125 + bq)) (c3 : y1 ≠ nI 3) : ((nI 0) = nI 1 ∧ (knowF (125 + bq) = nI 3)) ∨ ((nI 0) = nI 0 ∧ (¬ knowF (125 + bq) = nI 3)) := by
  have b_y1 := ia_b y1
  try have k_0 := ia_n 3 (by first | decide | omega)
  try have k_1 := ia_n 0 (by first | decide | omega)
  try have k_2 := ia_n 1 (by first | decide | omega)
  try simp only [ia_lt, ia_le, ia_eq, ia_m1, ia_0, ia_1, ne_eq, true_and, and_true, false_and, and_false, or_false, false_or, or_true, true_or, not_true_eq_false, not_false_eq_true] at *
  all_goals omega
set_option maxRecDepth 20000 in
theorem lf_x_isEatenN_3 (knowF : Nat → Int32) (bq : Nat) (y1 : Int32) (ab_now : NB knowF) (hb6 : bq < 6) (e2 : y1 = knowF (125 + bq)) (c3 : y1 = nI 3) : ((nI 1) = nI 1 ∧ (knowF (125 + bq) = nI 3)) ∨ ((nI 1) = nI 0 ∧ (¬ knowF (125 + bq) = nI 3)) := by
  have b_y1 := ia_b y1
  try have k_0 := ia_n 3 (by first | decide | omega)
  try have k_1 := ia_n 1 (by first | decide | omega)
  try have k_2 := ia_n 0 (by first | decide | omega)
  try simp only [ia_lt, ia_le, ia_eq, ia_m1, ia_0, ia_1, ne_eq, true_and, and_true, false_and, and_false, or_false, false_or, or_true, true_or, not_true_eq_false, not_false_eq_true] at *
  all_goals omega
set_option maxHeartbeats 4000000 in
set_option maxRecDepth 100000 in
theorem c_x_isEatenN (l : Launch) (dC : Nat → ClassId) (dI : Nat → Nat → Nat) (ky : Nat → ClassId) (o : Nat) (kthrown : Int32) (ktape : Nat) (ktaped : Nat) (ksize : Nat) (klimit : Nat) (kto : Nat) (kfrom : Nat) (kkind : Int32) (knumber : Int32) (ksign : Int32) (kfault : Int32) (kplace : Int32) (kword : Int64) (ktold : Int32) (know : Nat) (kread : Nat) (kkept : Nat) (ksnaps : Nat) (kaside : Nat) (kname : Nat) (kreadName : Nat) (kkeptName : Nat) (kisKept : Nat) (konces : Nat) (ksnapMany : Nat) (khasCells : Int32) (kpoured : Nat) (kfar : Nat) (ksides : Nat) (ksideMany : Nat) (kwayDays : Int32) (khasWay : Int32) (klines : Nat) (kmet : Nat) (kmetMany : Nat) (ksunk : Nat) (ktrying : Nat) (ksunkMany : Nat) (ksending : Int32) (kfleets : Int32) (ktext : Nat) (ktexts : Nat) (kseed : Int32) (kline : Nat) (kwritten : Nat) (klineMany : Nat) (khasWritten : Int32) (knode : Nat) (knodes : Nat) (konesMany : Nat) (kwithin : Nat) (ktop : Nat) (knowF : Nat → Int32) (bq : Nat) (iv_ko_0 : ktaped ≤ 940) (iv_ko_1 : ksize ≤ 940) (iv_ko_2 : klimit ≤ 900) (iv_ko_3 : kto ≤ ksize) (iv_ko_4 : kfrom ≤ 940) (iv_ko_5 : ksnapMany ≤ 8) (iv_ko_6 : ksideMany ≤ 36) (iv_ko_7 : kmetMany ≤ 3) (iv_ko_8 : ksunkMany ≤ 36) (iv_ko_9 : ktexts ≤ 64) (iv_ko_10 : klineMany ≤ 40) (iv_ko_11 : knodes ≤ 60) (iv_ko_12 : konesMany ≤ 20) (iv_ko_13 : kwithin ≤ 8) (iv_ko_14 : ktop ≤ 59) (ab_now : NB knowF) (hb6 : bq < 6) : Met l yX12_isEaten wsX12_isEaten ({ frames := 0, cells := 0, slots := 0, locals := 0 }) (PcP dC dI ky [.ref o, .int (nI bq)] [(o, .inr (12, [.int kthrown, .ref ktape, .int (nI ktaped), .int (nI ksize), .int (nI klimit), .int (nI kto), .int (nI kfrom), .int kkind, .int knumber, .int ksign, .int kfault, .int kplace, .long kword, .int ktold, .ref know, .ref kread, .ref kkept, .ref ksnaps, .ref kaside, .ref kname, .ref kreadName, .ref kkeptName, .ref kisKept, .ref konces, .int (nI ksnapMany), .int khasCells, .ref kpoured, .ref kfar, .ref ksides, .int (nI ksideMany), .int kwayDays, .int khasWay, .ref klines, .ref kmet, .int (nI kmetMany), .ref ksunk, .ref ktrying, .int (nI ksunkMany), .int ksending, .int kfleets, .ref ktext, .int (nI ktexts), .int kseed, .ref kline, .ref kwritten, .int (nI klineMany), .int khasWritten, .ref knode, .int (nI knodes), .int (nI konesMany), .int (nI kwithin), .int (nI ktop)])), (know, .inl (ky 0, 373, .inl knowF))]) (vp_Si (fun r : Int32 => (r = nI 1 ∧ (knowF (125 + bq) = nI 3)) ∨ (r = nI 0 ∧ (¬ knowF (125 + bq) = nI 3)))) 0 0 (fun _ => False) := by
  refine Met.ofW (cc := cX12_isEaten) (maxL := 2) (ret := (some .boolean)) (by decide) rfl ?_
  intro p e s m args below meth c s₁ B hml hv
  obtain ⟨rfl, hP, hK⟩ := hv
  have hx := B.exec
  have hb := B.bytes
  have hr := B.returns
  have hts := atoms_spec (ws := wsX12_isEaten) B.pre
  have hown : s.vm.findClass RX12 = some m.cls := findClass_of_methodNamed B.named
  have hlocks := B.notSynchronized
  have hin12 : ∀ w ∈ u_ws RX12 TX12 52, w ∈ wsX12_isEaten := by decide +kernel
  have hl := lv_entry ([.ref o, .int (nI bq)]) (n := 2) (Nat.le_of_ble_eq_true rfl)
  rw [lg_entry_eq]
  generalize (lg_sl ([.ref o, .int (nI bq)]) ++ List.replicate (2 - (lg_sl ([.ref o, .int (nI bq)])).length) Slot.unset).toArray = ls at hl ⊢
  have hl : lv_has ls 2 [(0, .ref o), (1, .int (nI bq))] := hl
  refine q_name (fun Q hQ => ?_)
  generalize ([.ref o, .int (nI bq)] : List Value).toArray = args at hts hQ ⊢
  refine lv_aload_n hx hb dX12_isEaten_0 rfl (lv_at hl 0 rfl) ?_
  refine va_get (D := (dC, dI)) (ci := 12) (v := .ref know) (C := RX12) (T := TX12) (N := 52) hx hb hts hin12 hown hK hP 0 rfl rfl 14 (by decide) (hts (.fieldLink RX12 98 "PorridgeSeaModel" "now" "[I") (List.mem_of_getElem? (i := 1) rfl)) (fun _ h9 => h9) rfl dX12_isEaten_1 ?_
  refine lv_bipush (v := nI 125) hx hb dX12_isEaten_4 (by decide) ?_
  refine lv_iload_n hx hb dX12_isEaten_6 rfl (lv_at hl 1 rfl) ?_
  refine lv_iadd hx hb dX12_isEaten_7 ?_
  refine r_ti (nI (125 + bq)) (nI_add _ _) ?_
  obtain ⟨y1, e2⟩ : ∃ z9, z9 = knowF (125 + bq) := ⟨_, rfl⟩
  refine r_iald hx hb hK hP 1 rfl (125 + bq) (lf_x_isEatenN_1 knowF bq y1 ab_now hb6 e2) (by decide) y1 e2.symm dX12_isEaten_8 ?_
  refine lv_iconst (v := nI 3) hx hb dX12_isEaten_9 (by decide) ?_
  refine lv_icmp_ne (tgt := 17) hx hb dX12_isEaten_10 (by decide) (fun c3 => ?_) (fun c3 => ?_)
  · refine lv_iconst (v := nI 0) hx hb dX12_isEaten_17 (by decide) ?_
    rw [hQ]
    exact W.zret (v := nI 0) hx hb hr (by decide) (fun t9 ht9 hW9 => ⟨nI 0, rfl, (lf_x_isEatenN_2 knowF bq y1 ab_now hb6 e2 c3), ht9⟩) (fun _ h => absurd h List.not_mem_nil) dX12_isEaten_18
  · refine lv_iconst (v := nI 1) hx hb dX12_isEaten_13 (by decide) ?_
    refine lv_goto (tgt := 18) hx hb dX12_isEaten_14 (by decide) ?_
    rw [hQ]
    exact W.zret (v := nI 1) hx hb hr (by decide) (fun t9 ht9 hW9 => ⟨nI 1, rfl, (lf_x_isEatenN_3 knowF bq y1 ab_now hb6 e2 c3), ht9⟩) (fun _ h => absurd h List.not_mem_nil) dX12_isEaten_18
