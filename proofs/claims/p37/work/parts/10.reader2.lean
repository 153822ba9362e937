theorem dX5_wordIn_0 : decode cX5_wordIn 0 = .ok (.aload_n 1, 1) := by decide +kernel
theorem dX5_wordIn_1 : decode cX5_wordIn 1 = .ok (.invokevirtual 79, 3) := by decide +kernel
theorem dX5_wordIn_4 : decode cX5_wordIn 4 = .ok (.bipush 7, 2) := by decide +kernel
theorem dX5_wordIn_6 : decode cX5_wordIn 6 = .ok (.idiv, 1) := by decide +kernel
theorem dX5_wordIn_7 : decode cX5_wordIn 7 = .ok (.istore_n 3, 1) := by decide +kernel
theorem dX5_wordIn_8 : decode cX5_wordIn 8 = .ok (.aload_n 0, 1) := by decide +kernel
theorem dX5_wordIn_9 : decode cX5_wordIn 9 = .ok (.getfield 28, 3) := by decide +kernel
theorem dX5_wordIn_12 : decode cX5_wordIn 12 = .ok (.aload_n 0, 1) := by decide +kernel
theorem dX5_wordIn_13 : decode cX5_wordIn 13 = .ok (.getfield 40, 3) := by decide +kernel
theorem dX5_wordIn_16 : decode cX5_wordIn 16 = .ok (.isub, 1) := by decide +kernel
theorem dX5_wordIn_17 : decode cX5_wordIn 17 = .ok (.istore 4, 2) := by decide +kernel
theorem dX5_wordIn_19 : decode cX5_wordIn 19 = .ok (.iconst 0, 1) := by decide +kernel
theorem dX5_wordIn_20 : decode cX5_wordIn 20 = .ok (.istore 5, 2) := by decide +kernel
theorem dX5_wordIn_22 : decode cX5_wordIn 22 = .ok (.iload 5, 2) := by decide +kernel
theorem dX5_wordIn_24 : decode cX5_wordIn 24 = .ok (.iload_n 3, 1) := by decide +kernel
theorem dX5_wordIn_25 : decode cX5_wordIn 25 = .ok (.if_icmp .ge 76, 3) := by decide +kernel
theorem dX5_wordIn_28 : decode cX5_wordIn 28 = .ok (.iconst 0, 1) := by decide +kernel
theorem dX5_wordIn_29 : decode cX5_wordIn 29 = .ok (.istore 6, 2) := by decide +kernel
theorem dX5_wordIn_31 : decode cX5_wordIn 31 = .ok (.iload 6, 2) := by decide +kernel
theorem dX5_wordIn_33 : decode cX5_wordIn 33 = .ok (.bipush 7, 2) := by decide +kernel
theorem dX5_wordIn_35 : decode cX5_wordIn 35 = .ok (.if_icmp .ge 48, 3) := by decide +kernel
theorem dX5_wordIn_38 : decode cX5_wordIn 38 = .ok (.aload_n 1, 1) := by decide +kernel
theorem dX5_wordIn_39 : decode cX5_wordIn 39 = .ok (.bipush 7, 2) := by decide +kernel
theorem dX5_wordIn_41 : decode cX5_wordIn 41 = .ok (.iload 5, 2) := by decide +kernel
theorem dX5_wordIn_43 : decode cX5_wordIn 43 = .ok (.imul, 1) := by decide +kernel
theorem dX5_wordIn_44 : decode cX5_wordIn 44 = .ok (.iload 6, 2) := by decide +kernel
theorem dX5_wordIn_46 : decode cX5_wordIn 46 = .ok (.iadd, 1) := by decide +kernel
theorem dX5_wordIn_47 : decode cX5_wordIn 47 = .ok (.invokevirtual 84, 3) := by decide +kernel
theorem dX5_wordIn_50 : decode cX5_wordIn 50 = .ok (.iload 6, 2) := by decide +kernel
theorem dX5_wordIn_52 : decode cX5_wordIn 52 = .ok (.iload 4, 2) := by decide +kernel
theorem dX5_wordIn_54 : decode cX5_wordIn 54 = .ok (.if_icmp .ge 18, 3) := by decide +kernel
theorem dX5_wordIn_72 : decode cX5_wordIn 72 = .ok (.bipush 32, 2) := by decide +kernel
theorem dX5_wordIn_57 : decode cX5_wordIn 57 = .ok (.aload_n 0, 1) := by decide +kernel
theorem dX5_wordIn_58 : decode cX5_wordIn 58 = .ok (.getfield 9, 3) := by decide +kernel
theorem dX5_wordIn_61 : decode cX5_wordIn 61 = .ok (.aload_n 0, 1) := by decide +kernel
theorem dX5_wordIn_62 : decode cX5_wordIn 62 = .ok (.getfield 40, 3) := by decide +kernel
theorem dX5_wordIn_65 : decode cX5_wordIn 65 = .ok (.iload 6, 2) := by decide +kernel
theorem dX5_wordIn_67 : decode cX5_wordIn 67 = .ok (.iadd, 1) := by decide +kernel
theorem dX5_wordIn_68 : decode cX5_wordIn 68 = .ok (.baload, 1) := by decide +kernel
theorem dX5_wordIn_69 : decode cX5_wordIn 69 = .ok (.goto 5, 3) := by decide +kernel
theorem dX5_wordIn_74 : decode cX5_wordIn 74 = .ok (.if_icmp .ne 9, 3) := by decide +kernel
theorem dX5_wordIn_83 : decode cX5_wordIn 83 = .ok (.iload 6, 2) := by decide +kernel
theorem dX5_wordIn_85 : decode cX5_wordIn 85 = .ok (.bipush 7, 2) := by decide +kernel
theorem dX5_wordIn_87 : decode cX5_wordIn 87 = .ok (.if_icmp .ne 8, 3) := by decide +kernel
theorem dX5_wordIn_95 : decode cX5_wordIn 95 = .ok (.iinc 5 1, 3) := by decide +kernel
theorem dX5_wordIn_98 : decode cX5_wordIn 98 = .ok (.goto (-76), 3) := by decide +kernel
theorem dX5_wordIn_77 : decode cX5_wordIn 77 = .ok (.iinc 6 1, 3) := by decide +kernel
theorem dX5_wordIn_80 : decode cX5_wordIn 80 = .ok (.goto (-49), 3) := by decide +kernel
theorem dX5_wordIn_90 : decode cX5_wordIn 90 = .ok (.iload_n 2, 1) := by decide +kernel
theorem dX5_wordIn_91 : decode cX5_wordIn 91 = .ok (.iload 5, 2) := by decide +kernel
theorem dX5_wordIn_93 : decode cX5_wordIn 93 = .ok (.iadd, 1) := by decide +kernel
theorem dX5_wordIn_94 : decode cX5_wordIn 94 = .ok (.ireturn, 1) := by decide +kernel
theorem dX5_wordIn_101 : decode cX5_wordIn 101 = .ok (.bipush 31, 2) := by decide +kernel
theorem dX5_wordIn_103 : decode cX5_wordIn 103 = .ok (.ireturn, 1) := by decide +kernel
theorem dX5_advance_0 : decode cX5_advance 0 = .ok (.aload_n 0, 1) := by decide +kernel
theorem dX5_advance_1 : decode cX5_advance 1 = .ok (.getfield 28, 3) := by decide +kernel
theorem dX5_advance_4 : decode cX5_advance 4 = .ok (.aload_n 0, 1) := by decide +kernel
theorem dX5_advance_5 : decode cX5_advance 5 = .ok (.getfield 21, 3) := by decide +kernel
theorem dX5_advance_8 : decode cX5_advance 8 = .ok (.if_icmp .ge 44, 3) := by decide +kernel
theorem dX5_advance_11 : decode cX5_advance 11 = .ok (.aload_n 0, 1) := by decide +kernel
theorem dX5_advance_12 : decode cX5_advance 12 = .ok (.getfield 9, 3) := by decide +kernel
theorem dX5_advance_15 : decode cX5_advance 15 = .ok (.aload_n 0, 1) := by decide +kernel
theorem dX5_advance_16 : decode cX5_advance 16 = .ok (.getfield 28, 3) := by decide +kernel
theorem dX5_advance_19 : decode cX5_advance 19 = .ok (.baload, 1) := by decide +kernel
theorem dX5_advance_20 : decode cX5_advance 20 = .ok (.bipush 32, 2) := by decide +kernel
theorem dX5_advance_22 : decode cX5_advance 22 = .ok (.if_icmp .eq 17, 3) := by decide +kernel
theorem dX5_advance_39 : decode cX5_advance 39 = .ok (.aload_n 0, 1) := by decide +kernel
theorem dX5_advance_40 : decode cX5_advance 40 = .ok (.dup, 1) := by decide +kernel
theorem dX5_advance_41 : decode cX5_advance 41 = .ok (.getfield 28, 3) := by decide +kernel
theorem dX5_advance_44 : decode cX5_advance 44 = .ok (.iconst 1, 1) := by decide +kernel
theorem dX5_advance_45 : decode cX5_advance 45 = .ok (.iadd, 1) := by decide +kernel
theorem dX5_advance_46 : decode cX5_advance 46 = .ok (.putfield 28, 3) := by decide +kernel
theorem dX5_advance_49 : decode cX5_advance 49 = .ok (.goto (-49), 3) := by decide +kernel
theorem dX5_advance_25 : decode cX5_advance 25 = .ok (.aload_n 0, 1) := by decide +kernel
theorem dX5_advance_26 : decode cX5_advance 26 = .ok (.getfield 9, 3) := by decide +kernel
theorem dX5_advance_29 : decode cX5_advance 29 = .ok (.aload_n 0, 1) := by decide +kernel
theorem dX5_advance_30 : decode cX5_advance 30 = .ok (.getfield 28, 3) := by decide +kernel
theorem dX5_advance_33 : decode cX5_advance 33 = .ok (.baload, 1) := by decide +kernel
theorem dX5_advance_34 : decode cX5_advance 34 = .ok (.bipush 10, 2) := by decide +kernel
theorem dX5_advance_36 : decode cX5_advance 36 = .ok (.if_icmp .ne 16, 3) := by decide +kernel
theorem dX5_advance_52 : decode cX5_advance 52 = .ok (.aload_n 0, 1) := by decide +kernel
theorem dX5_advance_53 : decode cX5_advance 53 = .ok (.aload_n 0, 1) := by decide +kernel
theorem dX5_advance_54 : decode cX5_advance 54 = .ok (.getfield 28, 3) := by decide +kernel
theorem dX5_advance_57 : decode cX5_advance 57 = .ok (.putfield 40, 3) := by decide +kernel
theorem dX5_advance_60 : decode cX5_advance 60 = .ok (.aload_n 0, 1) := by decide +kernel
theorem dX5_advance_61 : decode cX5_advance 61 = .ok (.iconst (-1), 1) := by decide +kernel
theorem dX5_advance_62 : decode cX5_advance 62 = .ok (.putfield 43, 3) := by decide +kernel
theorem dX5_advance_65 : decode cX5_advance 65 = .ok (.aload_n 0, 1) := by decide +kernel
theorem dX5_advance_66 : decode cX5_advance 66 = .ok (.getfield 21, 3) := by decide +kernel
theorem dX5_advance_69 : decode cX5_advance 69 = .ok (.aload_n 0, 1) := by decide +kernel
theorem dX5_advance_70 : decode cX5_advance 70 = .ok (.getfield 25, 3) := by decide +kernel
theorem dX5_advance_73 : decode cX5_advance 73 = .ok (.if_icmp .le 30, 3) := by decide +kernel
theorem dX5_advance_103 : decode cX5_advance 103 = .ok (.aload_n 0, 1) := by decide +kernel
theorem dX5_advance_104 : decode cX5_advance 104 = .ok (.getfield 28, 3) := by decide +kernel
theorem dX5_advance_107 : decode cX5_advance 107 = .ok (.aload_n 0, 1) := by decide +kernel
theorem dX5_advance_108 : decode cX5_advance 108 = .ok (.getfield 21, 3) := by decide +kernel
theorem dX5_advance_111 : decode cX5_advance 111 = .ok (.if_icmp .lt 11, 3) := by decide +kernel
theorem dX5_advance_122 : decode cX5_advance 122 = .ok (.aload_n 0, 1) := by decide +kernel
theorem dX5_advance_123 : decode cX5_advance 123 = .ok (.getfield 9, 3) := by decide +kernel
theorem dX5_advance_126 : decode cX5_advance 126 = .ok (.aload_n 0, 1) := by decide +kernel
theorem dX5_advance_127 : decode cX5_advance 127 = .ok (.getfield 28, 3) := by decide +kernel
theorem dX5_advance_130 : decode cX5_advance 130 = .ok (.baload, 1) := by decide +kernel
theorem dX5_advance_131 : decode cX5_advance 131 = .ok (.invokestatic 49, 3) := by decide +kernel
theorem dX5_advance_134 : decode cX5_advance 134 = .ok (.ifCond .ne 18, 3) := by decide +kernel
theorem dX5_advance_152 : decode cX5_advance 152 = .ok (.aload_n 0, 1) := by decide +kernel
theorem dX5_advance_153 : decode cX5_advance 153 = .ok (.invokevirtual 56, 3) := by decide +kernel
theorem dX5_advance_156 : decode cX5_advance 156 = .ok (.goto 7, 3) := by decide +kernel
theorem dX5_advance_137 : decode cX5_advance 137 = .ok (.aload_n 0, 1) := by decide +kernel
theorem dX5_advance_138 : decode cX5_advance 138 = .ok (.getfield 9, 3) := by decide +kernel
theorem dX5_advance_141 : decode cX5_advance 141 = .ok (.aload_n 0, 1) := by decide +kernel
theorem dX5_advance_142 : decode cX5_advance 142 = .ok (.getfield 28, 3) := by decide +kernel
theorem dX5_advance_145 : decode cX5_advance 145 = .ok (.baload, 1) := by decide +kernel
theorem dX5_advance_146 : decode cX5_advance 146 = .ok (.invokestatic 53, 3) := by decide +kernel
theorem dX5_advance_149 : decode cX5_advance 149 = .ok (.ifCond .eq 10, 3) := by decide +kernel
theorem dX5_advance_159 : decode cX5_advance 159 = .ok (.aload_n 0, 1) := by decide +kernel
theorem dX5_advance_160 : decode cX5_advance 160 = .ok (.invokevirtual 59, 3) := by decide +kernel
theorem dX5_advance_114 : decode cX5_advance 114 = .ok (.aload_n 0, 1) := by decide +kernel
theorem dX5_advance_115 : decode cX5_advance 115 = .ok (.iconst 0, 1) := by decide +kernel
theorem dX5_advance_116 : decode cX5_advance 116 = .ok (.putfield 46, 3) := by decide +kernel
theorem dX5_advance_119 : decode cX5_advance 119 = .ok (.goto 44, 3) := by decide +kernel
theorem dX5_advance_76 : decode cX5_advance 76 = .ok (.aload_n 0, 1) := by decide +kernel
theorem dX5_advance_77 : decode cX5_advance 77 = .ok (.getfield 28, 3) := by decide +kernel
theorem dX5_advance_80 : decode cX5_advance 80 = .ok (.aload_n 0, 1) := by decide +kernel
theorem dX5_advance_81 : decode cX5_advance 81 = .ok (.getfield 25, 3) := by decide +kernel
theorem dX5_advance_84 : decode cX5_advance 84 = .ok (.if_icmp .lt 19, 3) := by decide +kernel
theorem dX5_advance_87 : decode cX5_advance 87 = .ok (.aload_n 0, 1) := by decide +kernel
theorem dX5_advance_88 : decode cX5_advance 88 = .ok (.iconst 1, 1) := by decide +kernel
theorem dX5_advance_89 : decode cX5_advance 89 = .ok (.putfield 46, 3) := by decide +kernel
theorem dX5_advance_92 : decode cX5_advance 92 = .ok (.aload_n 0, 1) := by decide +kernel
theorem dX5_advance_93 : decode cX5_advance 93 = .ok (.aload_n 0, 1) := by decide +kernel
theorem dX5_advance_94 : decode cX5_advance 94 = .ok (.getfield 25, 3) := by decide +kernel
theorem dX5_advance_97 : decode cX5_advance 97 = .ok (.putfield 40, 3) := by decide +kernel
theorem dX5_advance_100 : decode cX5_advance 100 = .ok (.goto 63, 3) := by decide +kernel
theorem dX5_advance_163 : decode cX5_advance 163 = .ok (.aload_n 0, 1) := by decide +kernel
theorem dX5_advance_164 : decode cX5_advance 164 = .ok (.getfield 46, 3) := by decide +kernel
theorem dX5_advance_167 : decode cX5_advance 167 = .ok (.iconst 2, 1) := by decide +kernel
theorem dX5_advance_168 : decode cX5_advance 168 = .ok (.if_icmp .ne 70, 3) := by decide +kernel
theorem dX5_advance_238 : decode cX5_advance 238 = .ok (.return_, 1) := by decide +kernel
theorem dX5_advance_171 : decode cX5_advance 171 = .ok (.aload_n 0, 1) := by decide +kernel
theorem dX5_advance_172 : decode cX5_advance 172 = .ok (.aload_n 0, 1) := by decide +kernel
theorem dX5_advance_173 : decode cX5_advance 173 = .ok (.ldc 62, 2) := by decide +kernel
theorem dX5_advance_175 : decode cX5_advance 175 = .ok (.iconst 0, 1) := by decide +kernel
theorem dX5_advance_176 : decode cX5_advance 176 = .ok (.invokevirtual 64, 3) := by decide +kernel
theorem dX5_advance_179 : decode cX5_advance 179 = .ok (.putfield 43, 3) := by decide +kernel
theorem dX5_advance_182 : decode cX5_advance 182 = .ok (.aload_n 0, 1) := by decide +kernel
theorem dX5_advance_183 : decode cX5_advance 183 = .ok (.aload_n 0, 1) := by decide +kernel
theorem dX5_advance_184 : decode cX5_advance 184 = .ok (.getfield 43, 3) := by decide +kernel
theorem dX5_advance_187 : decode cX5_advance 187 = .ok (.bipush 31, 2) := by decide +kernel
theorem dX5_advance_189 : decode cX5_advance 189 = .ok (.if_icmp .ne 14, 3) := by decide +kernel
theorem dX5_advance_203 : decode cX5_advance 203 = .ok (.aload_n 0, 1) := by decide +kernel
theorem dX5_advance_204 : decode cX5_advance 204 = .ok (.getfield 43, 3) := by decide +kernel
theorem dX5_advance_192 : decode cX5_advance 192 = .ok (.aload_n 0, 1) := by decide +kernel
theorem dX5_advance_193 : decode cX5_advance 193 = .ok (.ldc 68, 2) := by decide +kernel
theorem dX5_advance_195 : decode cX5_advance 195 = .ok (.bipush 7, 2) := by decide +kernel
theorem dX5_advance_197 : decode cX5_advance 197 = .ok (.invokevirtual 64, 3) := by decide +kernel
theorem dX5_advance_200 : decode cX5_advance 200 = .ok (.goto 7, 3) := by decide +kernel
theorem dX5_advance_207 : decode cX5_advance 207 = .ok (.putfield 43, 3) := by decide +kernel
theorem dX5_advance_210 : decode cX5_advance 210 = .ok (.aload_n 0, 1) := by decide +kernel
theorem dX5_advance_211 : decode cX5_advance 211 = .ok (.aload_n 0, 1) := by decide +kernel
theorem dX5_advance_212 : decode cX5_advance 212 = .ok (.getfield 43, 3) := by decide +kernel
theorem dX5_advance_215 : decode cX5_advance 215 = .ok (.bipush 31, 2) := by decide +kernel
theorem dX5_advance_217 : decode cX5_advance 217 = .ok (.if_icmp .ne 14, 3) := by decide +kernel
theorem dX5_advance_231 : decode cX5_advance 231 = .ok (.aload_n 0, 1) := by decide +kernel
theorem dX5_advance_232 : decode cX5_advance 232 = .ok (.getfield 43, 3) := by decide +kernel
theorem dX5_advance_235 : decode cX5_advance 235 = .ok (.putfield 43, 3) := by decide +kernel
theorem dX5_advance_220 : decode cX5_advance 220 = .ok (.aload_n 0, 1) := by decide +kernel
theorem dX5_advance_221 : decode cX5_advance 221 = .ok (.ldc 70, 2) := by decide +kernel
theorem dX5_advance_223 : decode cX5_advance 223 = .ok (.bipush 20, 2) := by decide +kernel
theorem dX5_advance_225 : decode cX5_advance 225 = .ok (.invokevirtual 64, 3) := by decide +kernel
theorem dX5_advance_228 : decode cX5_advance 228 = .ok (.goto 7, 3) := by decide +kernel
theorem dX5_open_0 : decode cX5_open 0 = .ok (.aload_n 0, 1) := by decide +kernel
theorem dX5_open_1 : decode cX5_open 1 = .ok (.iload_n 1, 1) := by decide +kernel
theorem dX5_open_2 : decode cX5_open 2 = .ok (.sipush 940, 3) := by decide +kernel
theorem dX5_open_5 : decode cX5_open 5 = .ok (.invokestatic 15, 3) := by decide +kernel
theorem dX5_open_8 : decode cX5_open 8 = .ok (.putfield 21, 3) := by decide +kernel
theorem dX5_open_11 : decode cX5_open 11 = .ok (.aload_n 0, 1) := by decide +kernel
theorem dX5_open_12 : decode cX5_open 12 = .ok (.iload_n 2, 1) := by decide +kernel
theorem dX5_open_13 : decode cX5_open 13 = .ok (.putfield 25, 3) := by decide +kernel
theorem dX5_open_16 : decode cX5_open 16 = .ok (.aload_n 0, 1) := by decide +kernel
theorem dX5_open_17 : decode cX5_open 17 = .ok (.iconst 0, 1) := by decide +kernel
theorem dX5_open_18 : decode cX5_open 18 = .ok (.putfield 28, 3) := by decide +kernel
theorem dX5_open_21 : decode cX5_open 21 = .ok (.aload_n 0, 1) := by decide +kernel
theorem dX5_open_22 : decode cX5_open 22 = .ok (.iconst 0, 1) := by decide +kernel
theorem dX5_open_23 : decode cX5_open 23 = .ok (.putfield 31, 3) := by decide +kernel
theorem dX5_open_26 : decode cX5_open 26 = .ok (.aload_n 0, 1) := by decide +kernel
theorem dX5_open_27 : decode cX5_open 27 = .ok (.iconst 0, 1) := by decide +kernel
theorem dX5_open_28 : decode cX5_open 28 = .ok (.putfield 34, 3) := by decide +kernel
theorem dX5_open_31 : decode cX5_open 31 = .ok (.aload_n 0, 1) := by decide +kernel
theorem dX5_open_32 : decode cX5_open 32 = .ok (.invokevirtual 37, 3) := by decide +kernel
theorem dX5_open_35 : decode cX5_open 35 = .ok (.return_, 1) := by decide +kernel
theorem dX5_takeNumber_0 : decode cX5_takeNumber 0 = .ok (.aload_n 0, 1) := by decide +kernel
theorem dX5_takeNumber_1 : decode cX5_takeNumber 1 = .ok (.getfield 46, 3) := by decide +kernel
theorem dX5_takeNumber_4 : decode cX5_takeNumber 4 = .ok (.iconst 3, 1) := by decide +kernel
theorem dX5_takeNumber_5 : decode cX5_takeNumber 5 = .ok (.if_icmp .eq 11, 3) := by decide +kernel
theorem dX5_takeNumber_16 : decode cX5_takeNumber 16 = .ok (.aload_n 0, 1) := by decide +kernel
theorem dX5_takeNumber_17 : decode cX5_takeNumber 17 = .ok (.getfield 76, 3) := by decide +kernel
theorem dX5_takeNumber_20 : decode cX5_takeNumber 20 = .ok (.iload_n 1, 1) := by decide +kernel
theorem dX5_takeNumber_21 : decode cX5_takeNumber 21 = .ok (.if_icmp .lt 11, 3) := by decide +kernel
theorem dX5_takeNumber_32 : decode cX5_takeNumber 32 = .ok (.aload_n 0, 1) := by decide +kernel
theorem dX5_takeNumber_33 : decode cX5_takeNumber 33 = .ok (.iconst 2, 1) := by decide +kernel
theorem dX5_takeNumber_34 : decode cX5_takeNumber 34 = .ok (.invokevirtual 92, 3) := by decide +kernel
theorem dX5_takeNumber_37 : decode cX5_takeNumber 37 = .ok (.pop, 1) := by decide +kernel
theorem dX5_takeNumber_38 : decode cX5_takeNumber 38 = .ok (.iconst (-1), 1) := by decide +kernel
theorem dX5_takeNumber_39 : decode cX5_takeNumber 39 = .ok (.ireturn, 1) := by decide +kernel
theorem dX5_takeNumber_24 : decode cX5_takeNumber 24 = .ok (.aload_n 0, 1) := by decide +kernel
theorem dX5_takeNumber_25 : decode cX5_takeNumber 25 = .ok (.getfield 76, 3) := by decide +kernel
theorem dX5_takeNumber_28 : decode cX5_takeNumber 28 = .ok (.iload_n 2, 1) := by decide +kernel
theorem dX5_takeNumber_29 : decode cX5_takeNumber 29 = .ok (.if_icmp .le 11, 3) := by decide +kernel
theorem dX5_takeNumber_40 : decode cX5_takeNumber 40 = .ok (.aload_n 0, 1) := by decide +kernel
theorem dX5_takeNumber_41 : decode cX5_takeNumber 41 = .ok (.getfield 76, 3) := by decide +kernel
theorem dX5_takeNumber_44 : decode cX5_takeNumber 44 = .ok (.istore_n 3, 1) := by decide +kernel
theorem dX5_takeNumber_45 : decode cX5_takeNumber 45 = .ok (.aload_n 0, 1) := by decide +kernel
theorem dX5_takeNumber_46 : decode cX5_takeNumber 46 = .ok (.invokevirtual 37, 3) := by decide +kernel
theorem dX5_takeNumber_49 : decode cX5_takeNumber 49 = .ok (.iload_n 3, 1) := by decide +kernel
theorem dX5_takeNumber_50 : decode cX5_takeNumber 50 = .ok (.ireturn, 1) := by decide +kernel
theorem dX5_takeNumber_8 : decode cX5_takeNumber 8 = .ok (.aload_n 0, 1) := by decide +kernel
theorem dX5_takeNumber_9 : decode cX5_takeNumber 9 = .ok (.iconst 1, 1) := by decide +kernel
theorem dX5_takeNumber_10 : decode cX5_takeNumber 10 = .ok (.invokevirtual 92, 3) := by decide +kernel
theorem dX5_takeNumber_13 : decode cX5_takeNumber 13 = .ok (.pop, 1) := by decide +kernel
theorem dX5_takeNumber_14 : decode cX5_takeNumber 14 = .ok (.iconst (-1), 1) := by decide +kernel
theorem dX5_takeNumber_15 : decode cX5_takeNumber 15 = .ok (.ireturn, 1) := by decide +kernel
theorem dX5_takeWord_0 : decode cX5_takeWord 0 = .ok (.aload_n 0, 1) := by decide +kernel
theorem dX5_takeWord_1 : decode cX5_takeWord 1 = .ok (.getfield 43, 3) := by decide +kernel
theorem dX5_takeWord_4 : decode cX5_takeWord 4 = .ok (.iload_n 1, 1) := by decide +kernel
theorem dX5_takeWord_5 : decode cX5_takeWord 5 = .ok (.if_icmp .lt 11, 3) := by decide +kernel
theorem dX5_takeWord_16 : decode cX5_takeWord 16 = .ok (.aload_n 0, 1) := by decide +kernel
theorem dX5_takeWord_17 : decode cX5_takeWord 17 = .ok (.iconst 1, 1) := by decide +kernel
theorem dX5_takeWord_18 : decode cX5_takeWord 18 = .ok (.invokevirtual 92, 3) := by decide +kernel
theorem dX5_takeWord_21 : decode cX5_takeWord 21 = .ok (.pop, 1) := by decide +kernel
theorem dX5_takeWord_22 : decode cX5_takeWord 22 = .ok (.iconst (-1), 1) := by decide +kernel
theorem dX5_takeWord_23 : decode cX5_takeWord 23 = .ok (.ireturn, 1) := by decide +kernel
theorem dX5_takeWord_8 : decode cX5_takeWord 8 = .ok (.aload_n 0, 1) := by decide +kernel
theorem dX5_takeWord_9 : decode cX5_takeWord 9 = .ok (.getfield 43, 3) := by decide +kernel
theorem dX5_takeWord_12 : decode cX5_takeWord 12 = .ok (.iload_n 2, 1) := by decide +kernel
theorem dX5_takeWord_13 : decode cX5_takeWord 13 = .ok (.if_icmp .le 11, 3) := by decide +kernel
theorem dX5_takeWord_24 : decode cX5_takeWord 24 = .ok (.aload_n 0, 1) := by decide +kernel
theorem dX5_takeWord_25 : decode cX5_takeWord 25 = .ok (.getfield 43, 3) := by decide +kernel
theorem dX5_takeWord_28 : decode cX5_takeWord 28 = .ok (.iload_n 1, 1) := by decide +kernel
theorem dX5_takeWord_29 : decode cX5_takeWord 29 = .ok (.isub, 1) := by decide +kernel
theorem dX5_takeWord_30 : decode cX5_takeWord 30 = .ok (.istore_n 3, 1) := by decide +kernel
theorem dX5_takeWord_31 : decode cX5_takeWord 31 = .ok (.aload_n 0, 1) := by decide +kernel
theorem dX5_takeWord_32 : decode cX5_takeWord 32 = .ok (.invokevirtual 37, 3) := by decide +kernel
theorem dX5_takeWord_35 : decode cX5_takeWord 35 = .ok (.iload_n 3, 1) := by decide +kernel
theorem dX5_takeWord_36 : decode cX5_takeWord 36 = .ok (.ireturn, 1) := by decide +kernel
theorem dX5_takeSign_0 : decode cX5_takeSign 0 = .ok (.aload_n 0, 1) := by decide +kernel
theorem dX5_takeSign_1 : decode cX5_takeSign 1 = .ok (.getfield 46, 3) := by decide +kernel
theorem dX5_takeSign_4 : decode cX5_takeSign 4 = .ok (.iload_n 1, 1) := by decide +kernel
theorem dX5_takeSign_5 : decode cX5_takeSign 5 = .ok (.if_icmp .eq 9, 3) := by decide +kernel
theorem dX5_takeSign_14 : decode cX5_takeSign 14 = .ok (.aload_n 0, 1) := by decide +kernel
theorem dX5_takeSign_15 : decode cX5_takeSign 15 = .ok (.invokevirtual 37, 3) := by decide +kernel
theorem dX5_takeSign_18 : decode cX5_takeSign 18 = .ok (.iconst 1, 1) := by decide +kernel
theorem dX5_takeSign_19 : decode cX5_takeSign 19 = .ok (.ireturn, 1) := by decide +kernel
theorem dX5_takeSign_8 : decode cX5_takeSign 8 = .ok (.aload_n 0, 1) := by decide +kernel
theorem dX5_takeSign_9 : decode cX5_takeSign 9 = .ok (.iconst 1, 1) := by decide +kernel
theorem dX5_takeSign_10 : decode cX5_takeSign 10 = .ok (.invokevirtual 92, 3) := by decide +kernel
theorem dX5_takeSign_13 : decode cX5_takeSign 13 = .ok (.ireturn, 1) := by decide +kernel
set_option maxRecDepth 100000 in
theorem ggX5_wordIn_J0_length_8abf5 : GoodIn wsX5_wordIn wsJ0_length_8abf5 := goodIn_r _ [8, 9, 10, 11, 12, 7, 13, 14, 15] rfl (by decide +kernel)
set_option maxRecDepth 100000 in
theorem ggX5_wordIn_J0_charAt_5068e : GoodIn wsX5_wordIn wsJ0_charAt_5068e := goodIn_r _ [19, 9, 20, 21, 22, 7, 23, 14, 15, 24, 25, 26, 27, 28, 29, 30, 31, 32, 33, 34, 35, 36, 37, 38, 39, 40, 41, 42, 43, 44, 45, 46, 47, 48, 49, 50, 51, 52] rfl (by decide +kernel)
set_option maxRecDepth 100000 in
theorem ggX5_advance_X5_isLetter : GoodIn wsX5_advance wsX5_isLetter := goodIn_r _ [11] rfl (by decide +kernel)
set_option maxRecDepth 100000 in
theorem ggX5_advance_X5_readRun : GoodIn wsX5_advance wsX5_readRun := goodIn_r _ [18, 19, 20, 1, 2, 3, 4, 7, 8, 9, 10, 11, 12, 13, 14, 78, 79, 80, 81, 82, 83, 84, 85, 86, 87, 88] rfl (by decide +kernel)
set_option maxRecDepth 100000 in
theorem ggX5_advance_X5_isDigit : GoodIn wsX5_advance wsX5_isDigit := goodIn_r _ [14] rfl (by decide +kernel)
set_option maxRecDepth 100000 in
theorem ggX5_advance_X5_readSign : GoodIn wsX5_advance wsX5_readSign := goodIn_r _ [24, 3, 1, 7, 78, 79, 80, 81, 82, 83, 84, 85, 86, 87, 88] rfl (by decide +kernel)
set_option maxRecDepth 100000 in
theorem ggX5_advance_X5_wordIn : GoodIn wsX5_advance wsX5_wordIn := goodIn_r _ [28, 1, 4, 3, 29, 30, 31, 32, 33, 34, 35, 36, 37, 38, 39, 40, 41, 42, 43, 44, 45, 46, 47, 48, 49, 50, 51, 52, 53, 54, 55, 56, 57, 58, 59, 60, 61, 62, 63, 64, 65, 66, 67, 68, 69, 70, 71, 72, 73, 74, 75, 76, 77, 78, 79, 80, 81, 82, 83, 84, 85, 86, 87, 88] rfl (by decide +kernel)
set_option maxRecDepth 100000 in
theorem ggX5_open_X5_advance : GoodIn wsX5_open wsX5_advance := goodIn_r _ [14, 7, 5, 15, 16, 17, 6, 18, 19, 20, 13, 21, 22, 23, 24, 25, 26, 27, 28, 29, 30, 31, 32, 33, 34, 35, 36, 37, 38, 39, 40, 41, 42, 43, 44, 45, 46, 47, 48, 49, 50, 51, 52, 53, 54, 55, 56, 57, 58, 59, 60, 61, 62, 63, 64, 65, 66, 67, 68, 69, 70, 71, 72, 73, 74, 75, 76, 77, 78, 79, 80, 81, 82, 83, 84, 85, 86, 87, 88, 89, 90, 91, 92, 93, 94, 95, 96, 97, 98] rfl (by decide +kernel)
set_option maxRecDepth 100000 in
theorem ggX5_takeNumber_X5_refuse : GoodIn wsX5_takeNumber wsX5_refuse := goodIn_r _ [7, 8, 9, 10, 11, 6, 12, 13, 14, 92, 93, 94, 95, 96, 97, 98, 99, 100, 101, 102] rfl (by decide +kernel)
set_option maxRecDepth 100000 in
theorem ggX5_takeNumber_X5_advance : GoodIn wsX5_takeNumber wsX5_advance := goodIn_r _ [18, 19, 20, 21, 8, 22, 23, 1, 24, 25, 6, 26, 27, 28, 29, 30, 31, 32, 33, 34, 2, 35, 36, 37, 38, 39, 40, 41, 42, 43, 44, 45, 46, 47, 48, 49, 50, 51, 52, 53, 54, 55, 56, 57, 58, 59, 60, 61, 62, 63, 64, 65, 66, 67, 68, 69, 70, 71, 72, 73, 74, 75, 76, 77, 78, 79, 80, 81, 82, 83, 84, 85, 86, 87, 88, 89, 90, 91, 92, 93, 94, 95, 96, 97, 98, 99, 100, 101, 102] rfl (by decide +kernel)
set_option maxRecDepth 100000 in
theorem ggX5_takeWord_X5_refuse : GoodIn wsX5_takeWord wsX5_refuse := goodIn_r _ [6, 7, 8, 9, 10, 5, 11, 12, 13, 92, 93, 94, 95, 96, 97, 98, 99, 100, 101, 102] rfl (by decide +kernel)
set_option maxRecDepth 100000 in
theorem ggX5_takeWord_X5_advance : GoodIn wsX5_takeWord wsX5_advance := goodIn_r _ [17, 18, 19, 20, 7, 1, 21, 22, 23, 24, 5, 25, 26, 27, 28, 29, 30, 31, 32, 33, 34, 35, 36, 37, 38, 39, 40, 41, 42, 43, 44, 45, 46, 47, 48, 49, 50, 51, 52, 53, 54, 55, 56, 57, 58, 59, 60, 61, 62, 63, 64, 65, 66, 67, 68, 69, 70, 71, 72, 73, 74, 75, 76, 77, 78, 79, 80, 81, 82, 83, 84, 85, 86, 87, 88, 89, 90, 91, 92, 93, 94, 95, 96, 97, 98, 99, 100, 101, 102] rfl (by decide +kernel)
set_option maxRecDepth 100000 in
theorem ggX5_takeSign_X5_advance : GoodIn wsX5_takeSign wsX5_advance := goodIn_r _ [17, 18, 19, 20, 7, 21, 22, 1, 23, 24, 5, 25, 26, 27, 28, 29, 30, 31, 32, 33, 34, 35, 36, 37, 38, 39, 40, 41, 42, 43, 44, 45, 46, 47, 48, 49, 50, 51, 52, 53, 54, 55, 56, 57, 58, 59, 60, 61, 62, 63, 64, 65, 66, 67, 68, 69, 70, 71, 72, 73, 74, 75, 76, 77, 78, 79, 80, 81, 82, 83, 84, 85, 86, 87, 88, 89, 90, 91, 92, 93, 94, 95, 96, 97, 98, 99, 100, 101, 102] rfl (by decide +kernel)
set_option maxRecDepth 100000 in
theorem ggX5_takeSign_X5_refuse : GoodIn wsX5_takeSign wsX5_refuse := goodIn_r _ [6, 7, 8, 9, 10, 5, 11, 12, 13, 92, 93, 94, 95, 96, 97, 98, 99, 100, 101, 102] rfl (by decide +kernel)
set_option maxRecDepth 100000 in
theorem gX5_wordIn_J0_length_8abf5 : GoodIn wsX5_wordIn (wsV RX5 79 RJ0 yJ0_length_8abf5 wsJ0_length_8abf5) := goodIn_app (goodIn_of _ (by decide +kernel)) ggX5_wordIn_J0_length_8abf5
set_option maxRecDepth 100000 in
theorem gX5_wordIn_J0_charAt_5068e : GoodIn wsX5_wordIn (wsV RX5 84 RJ0 yJ0_charAt_5068e wsJ0_charAt_5068e) := goodIn_app (goodIn_of _ (by decide +kernel)) ggX5_wordIn_J0_charAt_5068e
set_option maxRecDepth 100000 in
theorem gX5_advance_X5_isLetter : GoodIn wsX5_advance (va_wsS RX5 49 yX5_isLetter wsX5_isLetter) := goodIn_app (goodIn_of _ (by decide +kernel)) ggX5_advance_X5_isLetter
set_option maxRecDepth 100000 in
theorem gX5_advance_X5_readRun : GoodIn wsX5_advance (wsV RX5 56 RX5 yX5_readRun wsX5_readRun) := goodIn_app (goodIn_of _ (by decide +kernel)) ggX5_advance_X5_readRun
set_option maxRecDepth 100000 in
theorem gX5_advance_X5_isDigit : GoodIn wsX5_advance (va_wsS RX5 53 yX5_isDigit wsX5_isDigit) := goodIn_app (goodIn_of _ (by decide +kernel)) ggX5_advance_X5_isDigit
set_option maxRecDepth 100000 in
theorem gX5_advance_X5_readSign : GoodIn wsX5_advance (wsV RX5 59 RX5 yX5_readSign wsX5_readSign) := goodIn_app (goodIn_of _ (by decide +kernel)) ggX5_advance_X5_readSign
set_option maxRecDepth 100000 in
theorem gX5_advance_X5_wordIn : GoodIn wsX5_advance (wsV RX5 64 RX5 yX5_wordIn wsX5_wordIn) := goodIn_app (goodIn_of _ (by decide +kernel)) ggX5_advance_X5_wordIn
set_option maxRecDepth 100000 in
theorem gX5_open_X5_advance : GoodIn wsX5_open (wsV RX5 37 RX5 yX5_advance wsX5_advance) := goodIn_app (goodIn_of _ (by decide +kernel)) ggX5_open_X5_advance
set_option maxRecDepth 100000 in
theorem gX5_takeNumber_X5_refuse : GoodIn wsX5_takeNumber (wsV RX5 92 RX5 yX5_refuse wsX5_refuse) := goodIn_app (goodIn_of _ (by decide +kernel)) ggX5_takeNumber_X5_refuse
set_option maxRecDepth 100000 in
theorem gX5_takeNumber_X5_advance : GoodIn wsX5_takeNumber (wsV RX5 37 RX5 yX5_advance wsX5_advance) := goodIn_app (goodIn_of _ (by decide +kernel)) ggX5_takeNumber_X5_advance
set_option maxRecDepth 100000 in
theorem gX5_takeWord_X5_refuse : GoodIn wsX5_takeWord (wsV RX5 92 RX5 yX5_refuse wsX5_refuse) := goodIn_app (goodIn_of _ (by decide +kernel)) ggX5_takeWord_X5_refuse
set_option maxRecDepth 100000 in
theorem gX5_takeWord_X5_advance : GoodIn wsX5_takeWord (wsV RX5 37 RX5 yX5_advance wsX5_advance) := goodIn_app (goodIn_of _ (by decide +kernel)) ggX5_takeWord_X5_advance
set_option maxRecDepth 100000 in
theorem gX5_takeSign_X5_advance : GoodIn wsX5_takeSign (wsV RX5 37 RX5 yX5_advance wsX5_advance) := goodIn_app (goodIn_of _ (by decide +kernel)) ggX5_takeSign_X5_advance
set_option maxRecDepth 100000 in
theorem gX5_takeSign_X5_refuse : GoodIn wsX5_takeSign (wsV RX5 92 RX5 yX5_refuse wsX5_refuse) := goodIn_app (goodIn_of _ (by decide +kernel)) ggX5_takeSign_X5_refuse
set_option maxRecDepth 20000 in
theorem lf_r_wordIn0_1 (rlength : Nat) (rplace : Nat) (rbegin : Nat) (iv_rreader_0 : rlength ≤ 940) (iv_rreader_1 : rplace ≤ rlength) (iv_rreader_3 : rbegin ≤ 940) (hbp : rbegin ≤ rplace) : rbegin ≤ rplace := by
  try simp only [ia_lt, ia_le, ia_eq, ia_m1, ia_0, ia_1, ne_eq, true_and, and_true, false_and, and_false, or_false, false_or, or_true, true_or, not_true_eq_false, not_false_eq_true] at *
  all_goals omega
set_option maxRecDepth 20000 in
theorem lf_r_wordIn0_2 (k7 : Nat) (n10 : Nat) (j8 : k7 ≤ 7) (hm12 : 7 - k7 < n10 + 1) (c13 : k7 < 7) : (k7 + 1) ≤ 7 := by
  try simp only [ia_lt, ia_le, ia_eq, ia_m1, ia_0, ia_1, ne_eq, true_and, and_true, false_and, and_false, or_false, false_or, or_true, true_or, not_true_eq_false, not_false_eq_true] at *
  all_goals omega
set_option maxRecDepth 20000 in
theorem lf_r_wordIn0_3 (k7 : Nat) (n10 : Nat) (j8 : k7 ≤ 7) (hm12 : 7 - k7 < n10 + 1) (c13 : k7 < 7) : 7 - (k7 + 1) < n10 := by
  try simp only [ia_lt, ia_le, ia_eq, ia_m1, ia_0, ia_1, ne_eq, true_and, and_true, false_and, and_false, or_false, false_or, or_true, true_or, not_true_eq_false, not_false_eq_true] at *
  all_goals omega
set_option maxRecDepth 20000 in
theorem lf_r_wordIn0_4 (k7 : Nat) (n10 : Nat) (k18 : Nat) (n21 : Nat) (j8 : k7 ≤ 7) (hm12 : 7 - k7 < n10 + 1) (c13 : k7 < 7) (j19 : k18 ≤ 7) (hm23 : 7 - k18 < n21 + 1) (c24 : k18 < 7) : ((7 * k7) + k18) < 49 := by
  try simp only [ia_lt, ia_le, ia_eq, ia_m1, ia_0, ia_1, ne_eq, true_and, and_true, false_and, and_false, or_false, false_or, or_true, true_or, not_true_eq_false, not_false_eq_true] at *
  all_goals omega
set_option maxRecDepth 20000 in
theorem lf_r_wordIn0_5 (k7 : Nat) (n10 : Nat) (j8 : k7 ≤ 7) (hm12 : 7 - k7 < n10 + 1) (c13 : k7 < 7) : (k7 + 1) ≤ 7 := by
  try simp only [ia_lt, ia_le, ia_eq, ia_m1, ia_0, ia_1, ne_eq, true_and, and_true, false_and, and_false, or_false, false_or, or_true, true_or, not_true_eq_false, not_false_eq_true] at *
  all_goals omega
set_option maxRecDepth 20000 in
theorem lf_r_wordIn0_6 (k7 : Nat) (n10 : Nat) (j8 : k7 ≤ 7) (hm12 : 7 - k7 < n10 + 1) (c13 : k7 < 7) : 7 - (k7 + 1) < n10 := by
  try simp only [ia_lt, ia_le, ia_eq, ia_m1, ia_0, ia_1, ne_eq, true_and, and_true, false_and, and_false, or_false, false_or, or_true, true_or, not_true_eq_false, not_false_eq_true] at *
  all_goals omega
set_option maxRecDepth 20000 in
theorem lf_r_wordIn0_7 (k18 : Nat) (n21 : Nat) (j19 : k18 ≤ 7) (hm23 : 7 - k18 < n21 + 1) (c24 : k18 < 7) : (k18 + 1) ≤ 7 := by
  try simp only [ia_lt, ia_le, ia_eq, ia_m1, ia_0, ia_1, ne_eq, true_and, and_true, false_and, and_false, or_false, false_or, or_true, true_or, not_true_eq_false, not_false_eq_true] at *
  all_goals omega
set_option maxRecDepth 20000 in
theorem lf_r_wordIn0_8 (k18 : Nat) (n21 : Nat) (j19 : k18 ≤ 7) (hm23 : 7 - k18 < n21 + 1) (c24 : k18 < 7) : 7 - (k18 + 1) < n21 := by
  try simp only [ia_lt, ia_le, ia_eq, ia_m1, ia_0, ia_1, ne_eq, true_and, and_true, false_and, and_false, or_false, false_or, or_true, true_or, not_true_eq_false, not_false_eq_true] at *
  all_goals omega
set_option maxRecDepth 20000 in
theorem lf_r_wordIn0_9   : 0 ≤ 7 := by
  try simp only [ia_lt, ia_le, ia_eq, ia_m1, ia_0, ia_1, ne_eq, true_and, and_true, false_and, and_false, or_false, false_or, or_true, true_or, not_true_eq_false, not_false_eq_true] at *
  all_goals omega
set_option maxRecDepth 20000 in
theorem lf_r_wordIn0_10   : 0 ≤ 7 := by
  try simp only [ia_lt, ia_le, ia_eq, ia_m1, ia_0, ia_1, ne_eq, true_and, and_true, false_and, and_false, or_false, false_or, or_true, true_or, not_true_eq_false, not_false_eq_true] at *
  all_goals omega
set_option maxHeartbeats 4000000 in
set_option maxRecDepth 100000 in
theorem c_r_wordIn0 (l : Launch) (dC : Nat → ClassId) (dI : Nat → Nat → Nat) (ky : Nat → ClassId) (sz : Nat) (adK : Nat → Nat) (adV : Nat → Nat) (reader : Nat) (rtape : Nat) (rlength : Nat) (rmostBytes : Nat) (rplace : Nat) (rkind : Int32) (rbegin : Nat) (rword : Int32) (rnumber : Int32) (rletters : Int64) (rfaultKind : Int32) (rfaultPlace : Int32) (rtapeF : Nat → Int32) (first : Int32) (iv_rreader_0 : rlength ≤ 940) (iv_rreader_1 : rplace ≤ rlength) (iv_rreader_2 : rmostBytes ≤ 900) (iv_rreader_3 : rbegin ≤ 940) (hbp : rbegin ≤ rplace) : Met l yX5_wordIn wsX5_wordIn ({ frames := 4, cells := 0, slots := 0, locals := 85 }) (PcUE dC dI ky adK adV [.ref reader, .ref (adK 0), .int first] [(reader, .inr (5, [.ref rtape, .int (nI rlength), .int (nI rmostBytes), .int (nI rplace), .int rkind, .int (nI rbegin), .int rword, .int rnumber, .long rletters, .int rfaultKind, .int rfaultPlace])), (rtape, .inl (ky 2, 940, .inl rtapeF))] sz) (va_Qi (fun (r : Int32) (_ : Unit) => True) (BU dC dI ky (fun (_ : Unit) => [(reader, .inr (5, [.ref rtape, .int (nI rlength), .int (nI rmostBytes), .int (nI rplace), .int rkind, .int (nI rbegin), .int rword, .int rnumber, .long rletters, .int rfaultKind, .int rfaultPlace])), (rtape, .inl (ky 2, 940, .inl rtapeF))]) (va_A [(reader, .inr (5, [.ref rtape, .int (nI rlength), .int (nI rmostBytes), .int (nI rplace), .int rkind, .int (nI rbegin), .int rword, .int rnumber, .long rletters, .int rfaultKind, .int rfaultPlace])), (rtape, .inl (ky 2, 940, .inl rtapeF))] sz)) (va_A [(reader, .inr (5, [.ref rtape, .int (nI rlength), .int (nI rmostBytes), .int (nI rplace), .int rkind, .int (nI rbegin), .int rword, .int rnumber, .long rletters, .int rfaultKind, .int rfaultPlace])), (rtape, .inl (ky 2, 940, .inl rtapeF))] sz)) 0 0 (va_A [(reader, .inr (5, [.ref rtape, .int (nI rlength), .int (nI rmostBytes), .int (nI rplace), .int rkind, .int (nI rbegin), .int rword, .int rnumber, .long rletters, .int rfaultKind, .int rfaultPlace])), (rtape, .inl (ky 2, 940, .inl rtapeF))] sz) := by
  refine Met.ofW (cc := cX5_wordIn) (maxL := 7) (ret := (some .int)) (by decide) rfl ?_
  intro p e s m args below meth c s₁ B hml hv
  obtain ⟨rfl, hsz, hP, hK, hD0, hE⟩ := hv
  have hx := B.exec
  have hb := B.bytes
  have hr := B.returns
  have hts := atoms_spec (ws := wsX5_wordIn) B.pre
  have hown : s.vm.findClass RX5 = some m.cls := findClass_of_methodNamed B.named
  have hlocks := B.notSynchronized
  have hin5 : ∀ w ∈ u_ws RX5 TX5 11, w ∈ wsX5_wordIn := by decide +kernel
  subst hsz
  have hD := hD0.self (sz := s.heap.size)
  generalize hAe : va_A [(reader, .inr (5, [.ref rtape, .int (nI rlength), .int (nI rmostBytes), .int (nI rplace), .int rkind, .int (nI rbegin), .int rword, .int rnumber, .long rletters, .int rfaultKind, .int rfaultPlace])), (rtape, .inl (ky 2, 940, .inl rtapeF))] s.heap.size = A at hD hE ⊢
  have hA : ∀ q : Nat, s.heap.size ≤ q → A q := fun q h => by rw [← hAe]; exact Or.inr h
  have hS : va_S A s.heap s.heap [] := va_S.rf
  have hl := lv_entry ([.ref reader, .ref (adK 0), .int first]) (n := 7) (Nat.le_of_ble_eq_true rfl)
  rw [lg_entry_eq]
  generalize (lg_sl ([.ref reader, .ref (adK 0), .int first]) ++ List.replicate (7 - (lg_sl ([.ref reader, .ref (adK 0), .int first])).length) Slot.unset).toArray = ls at hl ⊢
  have hl : lv_has ls 7 [(0, .ref reader), (1, .ref (adK 0)), (2, .int first)] := hl
  refine q_name (fun Q hQ => ?_)
  generalize ([.ref reader, .ref (adK 0), .int first] : List Value).toArray = args at hts hQ ⊢
  refine lv_aload_n hx hb dX5_wordIn_0 rfl (lv_at hl 1 rfl) ?_
  refine vp_callSi (W.runV (As := []) (rest := []) ⟨hx, hb, hml, hown, hts⟩ (c_j_length0 l dC dI ky adK adV) (cwV 0 hts gX5_wordIn_J0_length_8abf5 rfl rfl rfl (by decide +kernel) ⟨(Nat.le_of_ble_eq_true rfl), (Nat.le_of_ble_eq_true rfl)⟩) (pre_PEV hE hS hK hP [] rfl (vk_recv hE.1 (i := 0) (by decide) hS)) rfl rfl hl.1 rfl (lv_room (Nat.le_of_ble_eq_true rfl)) dX5_wordIn_1 ⟨(Nat.le_of_ble_eq_true rfl), (Nat.le_of_ble_eq_true rfl)⟩) (fun r1 p2 => ?_)
  subst p2
  refine lv_bipush (v := nI 7) hx hb dX5_wordIn_4 (by decide) ?_
  refine lv_idiv hx hb dX5_wordIn_6 (by decide) ?_
  refine r_ti (nI 7) (by decide) ?_
  refine lv_istore_n (lv' := [(3, .int (nI 7)), (0, .ref reader), (1, .ref (adK 0)), (2, .int first)]) hx hb dX5_wordIn_7 rfl hl (by decide) rfl (fun ls hl => ?_)
  refine lv_aload_n hx hb dX5_wordIn_8 rfl (lv_at hl 1 rfl) ?_
  refine va_get (D := (dC, dI)) (ci := 5) (v := .int (nI rplace)) (C := RX5) (T := TX5) (N := 11) hx hb hts hin5 hown hK hP 0 rfl rfl 3 (by decide) (hts (.fieldLink RX5 28 "PorridgeSea$Reader" "place" "I") (List.mem_of_getElem? (i := 1) rfl)) (fun _ h9 => h9) rfl dX5_wordIn_9 ?_
  refine lv_aload_n hx hb dX5_wordIn_12 rfl (lv_at hl 1 rfl) ?_
  refine va_get (D := (dC, dI)) (ci := 5) (v := .int (nI rbegin)) (C := RX5) (T := TX5) (N := 11) hx hb hts hin5 hown hK hP 0 rfl rfl 5 (by decide) (hts (.fieldLink RX5 40 "PorridgeSea$Reader" "begin" "I") (List.mem_of_getElem? (i := 2) rfl)) (fun _ h9 => h9) rfl dX5_wordIn_13 ?_
  refine lv_isub hx hb dX5_wordIn_16 ?_
  refine r_ti (nI (rplace - rbegin)) (pk_sub (lf_r_wordIn0_1 rlength rplace rbegin iv_rreader_0 iv_rreader_1 iv_rreader_3 hbp)) ?_
  refine lv_istore (lv' := [(4, .int (nI (rplace - rbegin))), (3, .int (nI 7)), (0, .ref reader), (1, .ref (adK 0)), (2, .int first)]) hx hb dX5_wordIn_17 hl (by decide) rfl (fun ls hl => ?_)
  refine lv_iconst (v := nI 0) hx hb dX5_wordIn_19 (by decide) ?_
  refine lv_istore (lv' := [(5, .int (nI 0)), (4, .int (nI (rplace - rbegin))), (3, .int (nI 7)), (0, .ref reader), (1, .ref (adK 0)), (2, .int first)]) hx hb dX5_wordIn_20 hl (by decide) rfl (fun ls hl => ?_)
  have hL9 : ∀ (n10 : Nat) (k7 : Nat), (k7 ≤ 7) → 7 - k7 < n10 → ∀ (H : Heap) (locs : List Loc) (ls : Array Slot), va_P (dC, dI) vwCl [(reader, .inr (5, [.ref rtape, .int (nI rlength), .int (nI rmostBytes), .int (nI rplace), .int rkind, .int (nI rbegin), .int rword, .int rnumber, .long rletters, .int rfaultKind, .int rfaultPlace])), (rtape, .inl (ky 2, 940, .inl rtapeF))] H → va_D A [(reader, .inr (5, [.ref rtape, .int (nI rlength), .int (nI rmostBytes), .int (nI rplace), .int rkind, .int (nI rbegin), .int rword, .int rnumber, .long rletters, .int rfaultKind, .int rfaultPlace])), (rtape, .inl (ky 2, 940, .inl rtapeF))] → va_S A s.heap H locs → lv_has ls 7 [(5, .int (nI k7)), (4, .int (nI (rplace - rbegin))), (3, .int (nI 7)), (0, .ref reader), (1, .ref (adK 0)), (2, .int first)] → W p l e (headSpec wsX5_wordIn ({ frames := 4, cells := 0, slots := 0, locals := 85 })).room s m args below meth c H locs 0 0 Q (F0 m 22 ls []) := by
    intro n10
    induction n10 with
    | zero => intro k7 _ h9; exact absurd h9 (Nat.not_lt_zero _)
    | succ n10 ih11 =>
      intro k7 j8 hm12 H locs ls hP hD hS hl
      refine lv_iload hx hb dX5_wordIn_22 (lv_at hl 0 rfl) ?_
      refine lv_iload_n hx hb dX5_wordIn_24 rfl (lv_at hl 2 rfl) ?_
      refine n_icmp_ge (x := k7) (y := 7) (tgt := 101) hx hb (by omega) (by omega) dX5_wordIn_25 (by decide) (fun c13 => ?_) (fun c13 => ?_)
      · refine lv_bipush (v := nI 31) hx hb dX5_wordIn_101 (by decide) ?_
        rw [hQ]
        exact W.iret (v := nI 31) hx hb hr (fun t9 ht9 hW9 => ⟨⟨nI 31, (), rfl, trivial, by rw [ht9]; exact hP, va_K.moved hW9.alike hK, hD⟩, hS.F ht9⟩) hS.2.2 dX5_wordIn_103
      · refine lv_iconst (v := nI 0) hx hb dX5_wordIn_28 (by decide) ?_
        refine lv_istore (lv' := [(6, .int (nI 0)), (5, .int (nI k7)), (4, .int (nI (rplace - rbegin))), (3, .int (nI 7)), (0, .ref reader), (1, .ref (adK 0)), (2, .int first)]) hx hb dX5_wordIn_29 hl (by decide) rfl (fun ls hl => ?_)
        have hL20 : ∀ (n21 : Nat) (k18 : Nat), (k18 ≤ 7) → 7 - k18 < n21 → ∀ (H : Heap) (locs : List Loc) (ls : Array Slot), va_P (dC, dI) vwCl [(reader, .inr (5, [.ref rtape, .int (nI rlength), .int (nI rmostBytes), .int (nI rplace), .int rkind, .int (nI rbegin), .int rword, .int rnumber, .long rletters, .int rfaultKind, .int rfaultPlace])), (rtape, .inl (ky 2, 940, .inl rtapeF))] H → va_D A [(reader, .inr (5, [.ref rtape, .int (nI rlength), .int (nI rmostBytes), .int (nI rplace), .int rkind, .int (nI rbegin), .int rword, .int rnumber, .long rletters, .int rfaultKind, .int rfaultPlace])), (rtape, .inl (ky 2, 940, .inl rtapeF))] → va_S A s.heap H locs → lv_has ls 7 [(6, .int (nI k18)), (5, .int (nI k7)), (4, .int (nI (rplace - rbegin))), (3, .int (nI 7)), (0, .ref reader), (1, .ref (adK 0)), (2, .int first)] → W p l e (headSpec wsX5_wordIn ({ frames := 4, cells := 0, slots := 0, locals := 85 })).room s m args below meth c H locs 0 0 Q (F0 m 31 ls []) := by
          intro n21
          induction n21 with
          | zero => intro k18 _ h9; exact absurd h9 (Nat.not_lt_zero _)
          | succ n21 ih22 =>
            intro k18 j19 hm23 H locs ls hP hD hS hl
            refine lv_iload hx hb dX5_wordIn_31 (lv_at hl 0 rfl) ?_
            refine lv_bipush (v := nI 7) hx hb dX5_wordIn_33 (by decide) ?_
            refine n_icmp_ge (x := k18) (y := 7) (tgt := 83) hx hb (by omega) (by omega) dX5_wordIn_35 (by decide) (fun c24 => ?_) (fun c24 => ?_)
            · refine lv_iload hx hb dX5_wordIn_83 (lv_at hl 0 rfl) ?_
              refine lv_bipush (v := nI 7) hx hb dX5_wordIn_85 (by decide) ?_
              refine n_icmp_ne (x := k18) (y := 7) (tgt := 95) hx hb (by omega) (by omega) dX5_wordIn_87 (by decide) (fun c25 => ?_) (fun c25 => ?_)
              · refine lv_iinc (v := nI (k7 + 1)) (lv' := [(5, .int (nI (k7 + 1))), (6, .int (nI k18)), (4, .int (nI (rplace - rbegin))), (3, .int (nI 7)), (0, .ref reader), (1, .ref (adK 0)), (2, .int first)]) hx hb dX5_wordIn_95 hl (k := 1) rfl (show nI k7 + nI 1 = nI (k7 + 1) from nI_add _ _) (by decide) rfl (fun ls hl => ?_)
                refine lv_goto (tgt := 22) hx hb dX5_wordIn_98 (by decide) ?_
                exact ih11 (k7 + 1) (lf_r_wordIn0_2 k7 n10 j8 hm12 c13) (lf_r_wordIn0_3 k7 n10 j8 hm12 c13) _ _ _ hP hD hS (lv_sub hl [0, 2, 3, 4, 5, 6] rfl)
              · refine lv_iload_n hx hb dX5_wordIn_90 rfl (lv_at hl 6 rfl) ?_
                refine lv_iload hx hb dX5_wordIn_91 (lv_at hl 1 rfl) ?_
                refine lv_iadd hx hb dX5_wordIn_93 ?_
                refine lv_topi (fun y26 e27 => ?_)
                rw [hQ]
                exact W.iret (v := y26) hx hb hr (fun t9 ht9 hW9 => ⟨⟨y26, (), rfl, trivial, by rw [ht9]; exact hP, va_K.moved hW9.alike hK, hD⟩, hS.F ht9⟩) hS.2.2 dX5_wordIn_94
            · refine lv_aload_n hx hb dX5_wordIn_38 rfl (lv_at hl 5 rfl) ?_
              refine lv_bipush (v := nI 7) hx hb dX5_wordIn_39 (by decide) ?_
              refine lv_iload hx hb dX5_wordIn_41 (lv_at hl 1 rfl) ?_
              refine lv_imul hx hb dX5_wordIn_43 ?_
              refine r_ti (nI (7 * k7)) (pk_mul _ _) ?_
              refine lv_iload hx hb dX5_wordIn_44 (lv_at hl 0 rfl) ?_
              refine lv_iadd hx hb dX5_wordIn_46 ?_
              refine r_ti (nI ((7 * k7) + k18)) (nI_add _ _) ?_
              refine r_call_i (wr := [(reader, .inr (5, [.ref rtape, .int (nI rlength), .int (nI rmostBytes), .int (nI rplace), .int rkind, .int (nI rbegin), .int rword, .int rnumber, .long rletters, .int rfaultKind, .int rfaultPlace])), (rtape, .inl (ky 2, 940, .inl rtapeF))]) (va_runV (As := [.int (nI ((7 * k7) + k18))]) (rest := []) ⟨hx, hb, hml, hown, hts⟩ (c_j_ch0 l dC dI ky H.size adK adV ((7 * k7) + k18) (lf_r_wordIn0_4 k7 n10 k18 n21 j8 hm12 c13 j19 hm23 c24)) (cwV 1 hts gX5_wordIn_J0_charAt_5068e rfl rfl rfl (by decide +kernel) ⟨(Nat.le_of_ble_eq_true rfl), (Nat.le_of_ble_eq_true rfl)⟩) (pre_UEV hE hS hA hK hP hD [] (by decide) rfl (vk_recv hE.1 (i := 0) (by decide) hS)) rfl rfl hl.1 rfl (lv_room (Nat.le_of_ble_eq_true rfl)) dX5_wordIn_47 ⟨(Nat.le_of_ble_eq_true rfl), (Nat.le_of_ble_eq_true rfl)⟩) hP hD hS hA [] [0, 1] rfl rfl (by decide) (by decide) (fun r30 u28 H locs p29 hP hD hS => ?_)
              try dsimp only at p29
              have p31 := p29
              refine W.widen (k := 0) (n := 0) (Nat.le_of_ble_eq_true rfl) (Nat.le_of_ble_eq_true rfl) ?_
              have hP : va_P (dC, dI) vwCl [(reader, .inr (5, [.ref rtape, .int (nI rlength), .int (nI rmostBytes), .int (nI rplace), .int rkind, .int (nI rbegin), .int rword, .int rnumber, .long rletters, .int rfaultKind, .int rfaultPlace])), (rtape, .inl (ky 2, 940, .inl rtapeF))] H := hP
              have hD : va_D A [(reader, .inr (5, [.ref rtape, .int (nI rlength), .int (nI rmostBytes), .int (nI rplace), .int rkind, .int (nI rbegin), .int rword, .int rnumber, .long rletters, .int rfaultKind, .int rfaultPlace])), (rtape, .inl (ky 2, 940, .inl rtapeF))] := hD
              refine lv_iload hx hb dX5_wordIn_50 (lv_at hl 0 rfl) ?_
              refine lv_iload hx hb dX5_wordIn_52 (lv_at hl 2 rfl) ?_
              have hJ34 : ∀ (x33 : Int32), ∀ (H : Heap) (locs : List Loc) (ls : Array Slot), va_P (dC, dI) vwCl [(reader, .inr (5, [.ref rtape, .int (nI rlength), .int (nI rmostBytes), .int (nI rplace), .int rkind, .int (nI rbegin), .int rword, .int rnumber, .long rletters, .int rfaultKind, .int rfaultPlace])), (rtape, .inl (ky 2, 940, .inl rtapeF))] H → va_D A [(reader, .inr (5, [.ref rtape, .int (nI rlength), .int (nI rmostBytes), .int (nI rplace), .int rkind, .int (nI rbegin), .int rword, .int rnumber, .long rletters, .int rfaultKind, .int rfaultPlace])), (rtape, .inl (ky 2, 940, .inl rtapeF))] → va_S A s.heap H locs → lv_has ls 7 [(6, .int (nI k18)), (5, .int (nI k7)), (4, .int (nI (rplace - rbegin))), (3, .int (nI 7)), (0, .ref reader), (1, .ref (adK 0)), (2, .int first)] → W p l e (headSpec wsX5_wordIn ({ frames := 4, cells := 0, slots := 0, locals := 85 })).room s m args below meth c H locs 0 0 Q (F0 m 74 ls [.int x33, .int r30]) := by
                intro x33 H locs ls hP hD hS hl
                refine lv_icmp_ne (tgt := 83) hx hb dX5_wordIn_74 (by decide) (fun c35 => ?_) (fun c35 => ?_)
                · refine lv_iload hx hb dX5_wordIn_83 (lv_at hl 0 rfl) ?_
                  refine lv_bipush (v := nI 7) hx hb dX5_wordIn_85 (by decide) ?_
                  refine n_icmp_ne (x := k18) (y := 7) (tgt := 95) hx hb (by omega) (by omega) dX5_wordIn_87 (by decide) (fun c36 => ?_) (fun c36 => ?_)
                  · refine lv_iinc (v := nI (k7 + 1)) (lv' := [(5, .int (nI (k7 + 1))), (6, .int (nI k18)), (4, .int (nI (rplace - rbegin))), (3, .int (nI 7)), (0, .ref reader), (1, .ref (adK 0)), (2, .int first)]) hx hb dX5_wordIn_95 hl (k := 1) rfl (show nI k7 + nI 1 = nI (k7 + 1) from nI_add _ _) (by decide) rfl (fun ls hl => ?_)
                    refine lv_goto (tgt := 22) hx hb dX5_wordIn_98 (by decide) ?_
                    exact ih11 (k7 + 1) (lf_r_wordIn0_5 k7 n10 j8 hm12 c13) (lf_r_wordIn0_6 k7 n10 j8 hm12 c13) _ _ _ hP hD hS (lv_sub hl [0, 2, 3, 4, 5, 6] rfl)
                  · refine lv_iload_n hx hb dX5_wordIn_90 rfl (lv_at hl 6 rfl) ?_
                    refine lv_iload hx hb dX5_wordIn_91 (lv_at hl 1 rfl) ?_
                    refine lv_iadd hx hb dX5_wordIn_93 ?_
                    refine lv_topi (fun y37 e38 => ?_)
                    rw [hQ]
                    exact W.iret (v := y37) hx hb hr (fun t9 ht9 hW9 => ⟨⟨y37, (), rfl, trivial, by rw [ht9]; exact hP, va_K.moved hW9.alike hK, hD⟩, hS.F ht9⟩) hS.2.2 dX5_wordIn_94
                · refine lv_iinc (v := nI (k18 + 1)) (lv' := [(6, .int (nI (k18 + 1))), (5, .int (nI k7)), (4, .int (nI (rplace - rbegin))), (3, .int (nI 7)), (0, .ref reader), (1, .ref (adK 0)), (2, .int first)]) hx hb dX5_wordIn_77 hl (k := 0) rfl (show nI k18 + nI 1 = nI (k18 + 1) from nI_add _ _) (by decide) rfl (fun ls hl => ?_)
                  refine lv_goto (tgt := 31) hx hb dX5_wordIn_80 (by decide) ?_
                  exact ih22 (k18 + 1) (lf_r_wordIn0_7 k18 n21 j19 hm23 c24) (lf_r_wordIn0_8 k18 n21 j19 hm23 c24) _ _ _ hP hD hS (lv_sub hl [0, 1, 2, 3, 4, 5, 6] rfl)
              refine n_icmp_ge (x := k18) (y := (rplace - rbegin)) (tgt := 72) hx hb (by omega) (by omega) dX5_wordIn_54 (by decide) (fun c32 => ?_) (fun c32 => ?_)
              · refine lv_bipush (v := nI 32) hx hb dX5_wordIn_72 (by decide) ?_
                exact hJ34 (nI 32)  _ _ _ hP hD hS (lv_sub hl [0, 1, 2, 3, 4, 5, 6] rfl)
              · refine lv_aload_n hx hb dX5_wordIn_57 rfl (lv_at hl 4 rfl) ?_
                refine va_get (D := (dC, dI)) (ci := 5) (v := .ref rtape) (C := RX5) (T := TX5) (N := 11) hx hb hts hin5 hown hK hP 0 rfl rfl 0 (by decide) (hts (.fieldLink RX5 9 "PorridgeSea$Reader" "tape" "[B") (List.mem_of_getElem? (i := 3) rfl)) (fun _ h9 => h9) rfl dX5_wordIn_58 ?_
                refine lv_aload_n hx hb dX5_wordIn_61 rfl (lv_at hl 4 rfl) ?_
                refine va_get (D := (dC, dI)) (ci := 5) (v := .int (nI rbegin)) (C := RX5) (T := TX5) (N := 11) hx hb hts hin5 hown hK hP 0 rfl rfl 5 (by decide) (hts (.fieldLink RX5 40 "PorridgeSea$Reader" "begin" "I") (List.mem_of_getElem? (i := 2) rfl)) (fun _ h9 => h9) rfl dX5_wordIn_62 ?_
                refine lv_iload hx hb dX5_wordIn_65 (lv_at hl 0 rfl) ?_
                refine lv_iadd hx hb dX5_wordIn_67 ?_
                refine r_ti (nI (rbegin + k18)) (nI_add _ _) ?_
                obtain ⟨y39, e40⟩ : ∃ z9, z9 = rtapeF (rbegin + k18) := ⟨_, rfl⟩
                refine r_bald hx hb hK hP 1 rfl (rbegin + k18) (by omega) (by decide) y39 e40.symm dX5_wordIn_68 ?_
                refine lv_goto (tgt := 74) hx hb dX5_wordIn_69 (by decide) ?_
                exact hJ34 y39  _ _ _ hP hD hS (lv_sub hl [0, 1, 2, 3, 4, 5, 6] rfl)
        exact hL20 ((7 - 0) + 1) 0 (lf_r_wordIn0_9) (Nat.lt_succ_self _) _ _ _ hP hD hS (lv_sub hl [0, 1, 2, 3, 4, 5, 6] rfl)
  exact hL9 ((7 - 0) + 1) 0 (lf_r_wordIn0_10) (Nat.lt_succ_self _) _ _ _ hP hD hS (lv_sub hl [0, 1, 2, 3, 4, 5] rfl)
set_option maxRecDepth 20000 in
theorem lf_r_wordIn1_1 (rlength : Nat) (rplace : Nat) (rbegin : Nat) (iv_rreader_0 : rlength ≤ 940) (iv_rreader_1 : rplace ≤ rlength) (iv_rreader_3 : rbegin ≤ 940) (hbp : rbegin ≤ rplace) : rbegin ≤ rplace := by
  try simp only [ia_lt, ia_le, ia_eq, ia_m1, ia_0, ia_1, ne_eq, true_and, and_true, false_and, and_false, or_false, false_or, or_true, true_or, not_true_eq_false, not_false_eq_true] at *
  all_goals omega
set_option maxRecDepth 20000 in
theorem lf_r_wordIn1_2 (k7 : Nat) (n10 : Nat) (j8 : k7 ≤ 13) (hm12 : 13 - k7 < n10 + 1) (c13 : k7 < 13) : (k7 + 1) ≤ 13 := by
  try simp only [ia_lt, ia_le, ia_eq, ia_m1, ia_0, ia_1, ne_eq, true_and, and_true, false_and, and_false, or_false, false_or, or_true, true_or, not_true_eq_false, not_false_eq_true] at *
  all_goals omega
set_option maxRecDepth 20000 in
theorem lf_r_wordIn1_3 (k7 : Nat) (n10 : Nat) (j8 : k7 ≤ 13) (hm12 : 13 - k7 < n10 + 1) (c13 : k7 < 13) : 13 - (k7 + 1) < n10 := by
  try simp only [ia_lt, ia_le, ia_eq, ia_m1, ia_0, ia_1, ne_eq, true_and, and_true, false_and, and_false, or_false, false_or, or_true, true_or, not_true_eq_false, not_false_eq_true] at *
  all_goals omega
set_option maxRecDepth 20000 in
theorem lf_r_wordIn1_4 (k7 : Nat) (n10 : Nat) (k18 : Nat) (n21 : Nat) (j8 : k7 ≤ 13) (hm12 : 13 - k7 < n10 + 1) (c13 : k7 < 13) (j19 : k18 ≤ 7) (hm23 : 7 - k18 < n21 + 1) (c24 : k18 < 7) : ((7 * k7) + k18) < 91 := by
  try simp only [ia_lt, ia_le, ia_eq, ia_m1, ia_0, ia_1, ne_eq, true_and, and_true, false_and, and_false, or_false, false_or, or_true, true_or, not_true_eq_false, not_false_eq_true] at *
  all_goals omega
set_option maxRecDepth 20000 in
theorem lf_r_wordIn1_5 (k7 : Nat) (n10 : Nat) (j8 : k7 ≤ 13) (hm12 : 13 - k7 < n10 + 1) (c13 : k7 < 13) : (k7 + 1) ≤ 13 := by
  try simp only [ia_lt, ia_le, ia_eq, ia_m1, ia_0, ia_1, ne_eq, true_and, and_true, false_and, and_false, or_false, false_or, or_true, true_or, not_true_eq_false, not_false_eq_true] at *
  all_goals omega
set_option maxRecDepth 20000 in
theorem lf_r_wordIn1_6 (k7 : Nat) (n10 : Nat) (j8 : k7 ≤ 13) (hm12 : 13 - k7 < n10 + 1) (c13 : k7 < 13) : 13 - (k7 + 1) < n10 := by
  try simp only [ia_lt, ia_le, ia_eq, ia_m1, ia_0, ia_1, ne_eq, true_and, and_true, false_and, and_false, or_false, false_or, or_true, true_or, not_true_eq_false, not_false_eq_true] at *
  all_goals omega
set_option maxRecDepth 20000 in
theorem lf_r_wordIn1_7 (k18 : Nat) (n21 : Nat) (j19 : k18 ≤ 7) (hm23 : 7 - k18 < n21 + 1) (c24 : k18 < 7) : (k18 + 1) ≤ 7 := by
  try simp only [ia_lt, ia_le, ia_eq, ia_m1, ia_0, ia_1, ne_eq, true_and, and_true, false_and, and_false, or_false, false_or, or_true, true_or, not_true_eq_false, not_false_eq_true] at *
  all_goals omega
set_option maxRecDepth 20000 in
theorem lf_r_wordIn1_8 (k18 : Nat) (n21 : Nat) (j19 : k18 ≤ 7) (hm23 : 7 - k18 < n21 + 1) (c24 : k18 < 7) : 7 - (k18 + 1) < n21 := by
  try simp only [ia_lt, ia_le, ia_eq, ia_m1, ia_0, ia_1, ne_eq, true_and, and_true, false_and, and_false, or_false, false_or, or_true, true_or, not_true_eq_false, not_false_eq_true] at *
  all_goals omega
set_option maxRecDepth 20000 in
theorem lf_r_wordIn1_9   : 0 ≤ 7 := by
  try simp only [ia_lt, ia_le, ia_eq, ia_m1, ia_0, ia_1, ne_eq, true_and, and_true, false_and, and_false, or_false, false_or, or_true, true_or, not_true_eq_false, not_false_eq_true] at *
  all_goals omega
set_option maxRecDepth 20000 in
theorem lf_r_wordIn1_10   : 0 ≤ 13 := by
  try simp only [ia_lt, ia_le, ia_eq, ia_m1, ia_0, ia_1, ne_eq, true_and, and_true, false_and, and_false, or_false, false_or, or_true, true_or, not_true_eq_false, not_false_eq_true] at *
  all_goals omega
set_option maxHeartbeats 4000000 in
set_option maxRecDepth 100000 in
theorem c_r_wordIn1 (l : Launch) (dC : Nat → ClassId) (dI : Nat → Nat → Nat) (ky : Nat → ClassId) (sz : Nat) (adK : Nat → Nat) (adV : Nat → Nat) (reader : Nat) (rtape : Nat) (rlength : Nat) (rmostBytes : Nat) (rplace : Nat) (rkind : Int32) (rbegin : Nat) (rword : Int32) (rnumber : Int32) (rletters : Int64) (rfaultKind : Int32) (rfaultPlace : Int32) (rtapeF : Nat → Int32) (first : Int32) (iv_rreader_0 : rlength ≤ 940) (iv_rreader_1 : rplace ≤ rlength) (iv_rreader_2 : rmostBytes ≤ 900) (iv_rreader_3 : rbegin ≤ 940) (hbp : rbegin ≤ rplace) : Met l yX5_wordIn wsX5_wordIn ({ frames := 4, cells := 0, slots := 0, locals := 85 }) (PcUE dC dI ky adK adV [.ref reader, .ref (adK 1), .int first] [(reader, .inr (5, [.ref rtape, .int (nI rlength), .int (nI rmostBytes), .int (nI rplace), .int rkind, .int (nI rbegin), .int rword, .int rnumber, .long rletters, .int rfaultKind, .int rfaultPlace])), (rtape, .inl (ky 2, 940, .inl rtapeF))] sz) (va_Qi (fun (r : Int32) (_ : Unit) => True) (BU dC dI ky (fun (_ : Unit) => [(reader, .inr (5, [.ref rtape, .int (nI rlength), .int (nI rmostBytes), .int (nI rplace), .int rkind, .int (nI rbegin), .int rword, .int rnumber, .long rletters, .int rfaultKind, .int rfaultPlace])), (rtape, .inl (ky 2, 940, .inl rtapeF))]) (va_A [(reader, .inr (5, [.ref rtape, .int (nI rlength), .int (nI rmostBytes), .int (nI rplace), .int rkind, .int (nI rbegin), .int rword, .int rnumber, .long rletters, .int rfaultKind, .int rfaultPlace])), (rtape, .inl (ky 2, 940, .inl rtapeF))] sz)) (va_A [(reader, .inr (5, [.ref rtape, .int (nI rlength), .int (nI rmostBytes), .int (nI rplace), .int rkind, .int (nI rbegin), .int rword, .int rnumber, .long rletters, .int rfaultKind, .int rfaultPlace])), (rtape, .inl (ky 2, 940, .inl rtapeF))] sz)) 0 0 (va_A [(reader, .inr (5, [.ref rtape, .int (nI rlength), .int (nI rmostBytes), .int (nI rplace), .int rkind, .int (nI rbegin), .int rword, .int rnumber, .long rletters, .int rfaultKind, .int rfaultPlace])), (rtape, .inl (ky 2, 940, .inl rtapeF))] sz) := by
  refine Met.ofW (cc := cX5_wordIn) (maxL := 7) (ret := (some .int)) (by decide) rfl ?_
  intro p e s m args below meth c s₁ B hml hv
  obtain ⟨rfl, hsz, hP, hK, hD0, hE⟩ := hv
  have hx := B.exec
  have hb := B.bytes
  have hr := B.returns
  have hts := atoms_spec (ws := wsX5_wordIn) B.pre
  have hown : s.vm.findClass RX5 = some m.cls := findClass_of_methodNamed B.named
  have hlocks := B.notSynchronized
  have hin5 : ∀ w ∈ u_ws RX5 TX5 11, w ∈ wsX5_wordIn := by decide +kernel
  subst hsz
  have hD := hD0.self (sz := s.heap.size)
  generalize hAe : va_A [(reader, .inr (5, [.ref rtape, .int (nI rlength), .int (nI rmostBytes), .int (nI rplace), .int rkind, .int (nI rbegin), .int rword, .int rnumber, .long rletters, .int rfaultKind, .int rfaultPlace])), (rtape, .inl (ky 2, 940, .inl rtapeF))] s.heap.size = A at hD hE ⊢
  have hA : ∀ q : Nat, s.heap.size ≤ q → A q := fun q h => by rw [← hAe]; exact Or.inr h
  have hS : va_S A s.heap s.heap [] := va_S.rf
  have hl := lv_entry ([.ref reader, .ref (adK 1), .int first]) (n := 7) (Nat.le_of_ble_eq_true rfl)
  rw [lg_entry_eq]
  generalize (lg_sl ([.ref reader, .ref (adK 1), .int first]) ++ List.replicate (7 - (lg_sl ([.ref reader, .ref (adK 1), .int first])).length) Slot.unset).toArray = ls at hl ⊢
  have hl : lv_has ls 7 [(0, .ref reader), (1, .ref (adK 1)), (2, .int first)] := hl
  refine q_name (fun Q hQ => ?_)
  generalize ([.ref reader, .ref (adK 1), .int first] : List Value).toArray = args at hts hQ ⊢
  refine lv_aload_n hx hb dX5_wordIn_0 rfl (lv_at hl 1 rfl) ?_
  refine vp_callSi (W.runV (As := []) (rest := []) ⟨hx, hb, hml, hown, hts⟩ (c_j_length1 l dC dI ky adK adV) (cwV 0 hts gX5_wordIn_J0_length_8abf5 rfl rfl rfl (by decide +kernel) ⟨(Nat.le_of_ble_eq_true rfl), (Nat.le_of_ble_eq_true rfl)⟩) (pre_PEV hE hS hK hP [] rfl (vk_recv hE.1 (i := 1) (by decide) hS)) rfl rfl hl.1 rfl (lv_room (Nat.le_of_ble_eq_true rfl)) dX5_wordIn_1 ⟨(Nat.le_of_ble_eq_true rfl), (Nat.le_of_ble_eq_true rfl)⟩) (fun r1 p2 => ?_)
  subst p2
  refine lv_bipush (v := nI 7) hx hb dX5_wordIn_4 (by decide) ?_
  refine lv_idiv hx hb dX5_wordIn_6 (by decide) ?_
  refine r_ti (nI 13) (by decide) ?_
  refine lv_istore_n (lv' := [(3, .int (nI 13)), (0, .ref reader), (1, .ref (adK 1)), (2, .int first)]) hx hb dX5_wordIn_7 rfl hl (by decide) rfl (fun ls hl => ?_)
  refine lv_aload_n hx hb dX5_wordIn_8 rfl (lv_at hl 1 rfl) ?_
  refine va_get (D := (dC, dI)) (ci := 5) (v := .int (nI rplace)) (C := RX5) (T := TX5) (N := 11) hx hb hts hin5 hown hK hP 0 rfl rfl 3 (by decide) (hts (.fieldLink RX5 28 "PorridgeSea$Reader" "place" "I") (List.mem_of_getElem? (i := 1) rfl)) (fun _ h9 => h9) rfl dX5_wordIn_9 ?_
  refine lv_aload_n hx hb dX5_wordIn_12 rfl (lv_at hl 1 rfl) ?_
  refine va_get (D := (dC, dI)) (ci := 5) (v := .int (nI rbegin)) (C := RX5) (T := TX5) (N := 11) hx hb hts hin5 hown hK hP 0 rfl rfl 5 (by decide) (hts (.fieldLink RX5 40 "PorridgeSea$Reader" "begin" "I") (List.mem_of_getElem? (i := 2) rfl)) (fun _ h9 => h9) rfl dX5_wordIn_13 ?_
  refine lv_isub hx hb dX5_wordIn_16 ?_
  refine r_ti (nI (rplace - rbegin)) (pk_sub (lf_r_wordIn1_1 rlength rplace rbegin iv_rreader_0 iv_rreader_1 iv_rreader_3 hbp)) ?_
  refine lv_istore (lv' := [(4, .int (nI (rplace - rbegin))), (3, .int (nI 13)), (0, .ref reader), (1, .ref (adK 1)), (2, .int first)]) hx hb dX5_wordIn_17 hl (by decide) rfl (fun ls hl => ?_)
  refine lv_iconst (v := nI 0) hx hb dX5_wordIn_19 (by decide) ?_
  refine lv_istore (lv' := [(5, .int (nI 0)), (4, .int (nI (rplace - rbegin))), (3, .int (nI 13)), (0, .ref reader), (1, .ref (adK 1)), (2, .int first)]) hx hb dX5_wordIn_20 hl (by decide) rfl (fun ls hl => ?_)
  have hL9 : ∀ (n10 : Nat) (k7 : Nat), (k7 ≤ 13) → 13 - k7 < n10 → ∀ (H : Heap) (locs : List Loc) (ls : Array Slot), va_P (dC, dI) vwCl [(reader, .inr (5, [.ref rtape, .int (nI rlength), .int (nI rmostBytes), .int (nI rplace), .int rkind, .int (nI rbegin), .int rword, .int rnumber, .long rletters, .int rfaultKind, .int rfaultPlace])), (rtape, .inl (ky 2, 940, .inl rtapeF))] H → va_D A [(reader, .inr (5, [.ref rtape, .int (nI rlength), .int (nI rmostBytes), .int (nI rplace), .int rkind, .int (nI rbegin), .int rword, .int rnumber, .long rletters, .int rfaultKind, .int rfaultPlace])), (rtape, .inl (ky 2, 940, .inl rtapeF))] → va_S A s.heap H locs → lv_has ls 7 [(5, .int (nI k7)), (4, .int (nI (rplace - rbegin))), (3, .int (nI 13)), (0, .ref reader), (1, .ref (adK 1)), (2, .int first)] → W p l e (headSpec wsX5_wordIn ({ frames := 4, cells := 0, slots := 0, locals := 85 })).room s m args below meth c H locs 0 0 Q (F0 m 22 ls []) := by
    intro n10
    induction n10 with
    | zero => intro k7 _ h9; exact absurd h9 (Nat.not_lt_zero _)
    | succ n10 ih11 =>
      intro k7 j8 hm12 H locs ls hP hD hS hl
      refine lv_iload hx hb dX5_wordIn_22 (lv_at hl 0 rfl) ?_
      refine lv_iload_n hx hb dX5_wordIn_24 rfl (lv_at hl 2 rfl) ?_
      refine n_icmp_ge (x := k7) (y := 13) (tgt := 101) hx hb (by omega) (by omega) dX5_wordIn_25 (by decide) (fun c13 => ?_) (fun c13 => ?_)
      · refine lv_bipush (v := nI 31) hx hb dX5_wordIn_101 (by decide) ?_
        rw [hQ]
        exact W.iret (v := nI 31) hx hb hr (fun t9 ht9 hW9 => ⟨⟨nI 31, (), rfl, trivial, by rw [ht9]; exact hP, va_K.moved hW9.alike hK, hD⟩, hS.F ht9⟩) hS.2.2 dX5_wordIn_103
      · refine lv_iconst (v := nI 0) hx hb dX5_wordIn_28 (by decide) ?_
        refine lv_istore (lv' := [(6, .int (nI 0)), (5, .int (nI k7)), (4, .int (nI (rplace - rbegin))), (3, .int (nI 13)), (0, .ref reader), (1, .ref (adK 1)), (2, .int first)]) hx hb dX5_wordIn_29 hl (by decide) rfl (fun ls hl => ?_)
        have hL20 : ∀ (n21 : Nat) (k18 : Nat), (k18 ≤ 7) → 7 - k18 < n21 → ∀ (H : Heap) (locs : List Loc) (ls : Array Slot), va_P (dC, dI) vwCl [(reader, .inr (5, [.ref rtape, .int (nI rlength), .int (nI rmostBytes), .int (nI rplace), .int rkind, .int (nI rbegin), .int rword, .int rnumber, .long rletters, .int rfaultKind, .int rfaultPlace])), (rtape, .inl (ky 2, 940, .inl rtapeF))] H → va_D A [(reader, .inr (5, [.ref rtape, .int (nI rlength), .int (nI rmostBytes), .int (nI rplace), .int rkind, .int (nI rbegin), .int rword, .int rnumber, .long rletters, .int rfaultKind, .int rfaultPlace])), (rtape, .inl (ky 2, 940, .inl rtapeF))] → va_S A s.heap H locs → lv_has ls 7 [(6, .int (nI k18)), (5, .int (nI k7)), (4, .int (nI (rplace - rbegin))), (3, .int (nI 13)), (0, .ref reader), (1, .ref (adK 1)), (2, .int first)] → W p l e (headSpec wsX5_wordIn ({ frames := 4, cells := 0, slots := 0, locals := 85 })).room s m args below meth c H locs 0 0 Q (F0 m 31 ls []) := by
          intro n21
          induction n21 with
          | zero => intro k18 _ h9; exact absurd h9 (Nat.not_lt_zero _)
          | succ n21 ih22 =>
            intro k18 j19 hm23 H locs ls hP hD hS hl
            refine lv_iload hx hb dX5_wordIn_31 (lv_at hl 0 rfl) ?_
            refine lv_bipush (v := nI 7) hx hb dX5_wordIn_33 (by decide) ?_
            refine n_icmp_ge (x := k18) (y := 7) (tgt := 83) hx hb (by omega) (by omega) dX5_wordIn_35 (by decide) (fun c24 => ?_) (fun c24 => ?_)
            · refine lv_iload hx hb dX5_wordIn_83 (lv_at hl 0 rfl) ?_
              refine lv_bipush (v := nI 7) hx hb dX5_wordIn_85 (by decide) ?_
              refine n_icmp_ne (x := k18) (y := 7) (tgt := 95) hx hb (by omega) (by omega) dX5_wordIn_87 (by decide) (fun c25 => ?_) (fun c25 => ?_)
              · refine lv_iinc (v := nI (k7 + 1)) (lv' := [(5, .int (nI (k7 + 1))), (6, .int (nI k18)), (4, .int (nI (rplace - rbegin))), (3, .int (nI 13)), (0, .ref reader), (1, .ref (adK 1)), (2, .int first)]) hx hb dX5_wordIn_95 hl (k := 1) rfl (show nI k7 + nI 1 = nI (k7 + 1) from nI_add _ _) (by decide) rfl (fun ls hl => ?_)
                refine lv_goto (tgt := 22) hx hb dX5_wordIn_98 (by decide) ?_
                exact ih11 (k7 + 1) (lf_r_wordIn1_2 k7 n10 j8 hm12 c13) (lf_r_wordIn1_3 k7 n10 j8 hm12 c13) _ _ _ hP hD hS (lv_sub hl [0, 2, 3, 4, 5, 6] rfl)
              · refine lv_iload_n hx hb dX5_wordIn_90 rfl (lv_at hl 6 rfl) ?_
                refine lv_iload hx hb dX5_wordIn_91 (lv_at hl 1 rfl) ?_
                refine lv_iadd hx hb dX5_wordIn_93 ?_
                refine lv_topi (fun y26 e27 => ?_)
                rw [hQ]
                exact W.iret (v := y26) hx hb hr (fun t9 ht9 hW9 => ⟨⟨y26, (), rfl, trivial, by rw [ht9]; exact hP, va_K.moved hW9.alike hK, hD⟩, hS.F ht9⟩) hS.2.2 dX5_wordIn_94
            · refine lv_aload_n hx hb dX5_wordIn_38 rfl (lv_at hl 5 rfl) ?_
              refine lv_bipush (v := nI 7) hx hb dX5_wordIn_39 (by decide) ?_
              refine lv_iload hx hb dX5_wordIn_41 (lv_at hl 1 rfl) ?_
              refine lv_imul hx hb dX5_wordIn_43 ?_
              refine r_ti (nI (7 * k7)) (pk_mul _ _) ?_
              refine lv_iload hx hb dX5_wordIn_44 (lv_at hl 0 rfl) ?_
              refine lv_iadd hx hb dX5_wordIn_46 ?_
              refine r_ti (nI ((7 * k7) + k18)) (nI_add _ _) ?_
              refine r_call_i (wr := [(reader, .inr (5, [.ref rtape, .int (nI rlength), .int (nI rmostBytes), .int (nI rplace), .int rkind, .int (nI rbegin), .int rword, .int rnumber, .long rletters, .int rfaultKind, .int rfaultPlace])), (rtape, .inl (ky 2, 940, .inl rtapeF))]) (va_runV (As := [.int (nI ((7 * k7) + k18))]) (rest := []) ⟨hx, hb, hml, hown, hts⟩ (c_j_ch1 l dC dI ky H.size adK adV ((7 * k7) + k18) (lf_r_wordIn1_4 k7 n10 k18 n21 j8 hm12 c13 j19 hm23 c24)) (cwV 1 hts gX5_wordIn_J0_charAt_5068e rfl rfl rfl (by decide +kernel) ⟨(Nat.le_of_ble_eq_true rfl), (Nat.le_of_ble_eq_true rfl)⟩) (pre_UEV hE hS hA hK hP hD [] (by decide) rfl (vk_recv hE.1 (i := 1) (by decide) hS)) rfl rfl hl.1 rfl (lv_room (Nat.le_of_ble_eq_true rfl)) dX5_wordIn_47 ⟨(Nat.le_of_ble_eq_true rfl), (Nat.le_of_ble_eq_true rfl)⟩) hP hD hS hA [] [0, 1] rfl rfl (by decide) (by decide) (fun r30 u28 H locs p29 hP hD hS => ?_)
              try dsimp only at p29
              have p31 := p29
              refine W.widen (k := 0) (n := 0) (Nat.le_of_ble_eq_true rfl) (Nat.le_of_ble_eq_true rfl) ?_
              have hP : va_P (dC, dI) vwCl [(reader, .inr (5, [.ref rtape, .int (nI rlength), .int (nI rmostBytes), .int (nI rplace), .int rkind, .int (nI rbegin), .int rword, .int rnumber, .long rletters, .int rfaultKind, .int rfaultPlace])), (rtape, .inl (ky 2, 940, .inl rtapeF))] H := hP
              have hD : va_D A [(reader, .inr (5, [.ref rtape, .int (nI rlength), .int (nI rmostBytes), .int (nI rplace), .int rkind, .int (nI rbegin), .int rword, .int rnumber, .long rletters, .int rfaultKind, .int rfaultPlace])), (rtape, .inl (ky 2, 940, .inl rtapeF))] := hD
              refine lv_iload hx hb dX5_wordIn_50 (lv_at hl 0 rfl) ?_
              refine lv_iload hx hb dX5_wordIn_52 (lv_at hl 2 rfl) ?_
              have hJ34 : ∀ (x33 : Int32), ∀ (H : Heap) (locs : List Loc) (ls : Array Slot), va_P (dC, dI) vwCl [(reader, .inr (5, [.ref rtape, .int (nI rlength), .int (nI rmostBytes), .int (nI rplace), .int rkind, .int (nI rbegin), .int rword, .int rnumber, .long rletters, .int rfaultKind, .int rfaultPlace])), (rtape, .inl (ky 2, 940, .inl rtapeF))] H → va_D A [(reader, .inr (5, [.ref rtape, .int (nI rlength), .int (nI rmostBytes), .int (nI rplace), .int rkind, .int (nI rbegin), .int rword, .int rnumber, .long rletters, .int rfaultKind, .int rfaultPlace])), (rtape, .inl (ky 2, 940, .inl rtapeF))] → va_S A s.heap H locs → lv_has ls 7 [(6, .int (nI k18)), (5, .int (nI k7)), (4, .int (nI (rplace - rbegin))), (3, .int (nI 13)), (0, .ref reader), (1, .ref (adK 1)), (2, .int first)] → W p l e (headSpec wsX5_wordIn ({ frames := 4, cells := 0, slots := 0, locals := 85 })).room s m args below meth c H locs 0 0 Q (F0 m 74 ls [.int x33, .int r30]) := by
                intro x33 H locs ls hP hD hS hl
                refine lv_icmp_ne (tgt := 83) hx hb dX5_wordIn_74 (by decide) (fun c35 => ?_) (fun c35 => ?_)
                · refine lv_iload hx hb dX5_wordIn_83 (lv_at hl 0 rfl) ?_
                  refine lv_bipush (v := nI 7) hx hb dX5_wordIn_85 (by decide) ?_
                  refine n_icmp_ne (x := k18) (y := 7) (tgt := 95) hx hb (by omega) (by omega) dX5_wordIn_87 (by decide) (fun c36 => ?_) (fun c36 => ?_)
                  · refine lv_iinc (v := nI (k7 + 1)) (lv' := [(5, .int (nI (k7 + 1))), (6, .int (nI k18)), (4, .int (nI (rplace - rbegin))), (3, .int (nI 13)), (0, .ref reader), (1, .ref (adK 1)), (2, .int first)]) hx hb dX5_wordIn_95 hl (k := 1) rfl (show nI k7 + nI 1 = nI (k7 + 1) from nI_add _ _) (by decide) rfl (fun ls hl => ?_)
                    refine lv_goto (tgt := 22) hx hb dX5_wordIn_98 (by decide) ?_
                    exact ih11 (k7 + 1) (lf_r_wordIn1_5 k7 n10 j8 hm12 c13) (lf_r_wordIn1_6 k7 n10 j8 hm12 c13) _ _ _ hP hD hS (lv_sub hl [0, 2, 3, 4, 5, 6] rfl)
                  · refine lv_iload_n hx hb dX5_wordIn_90 rfl (lv_at hl 6 rfl) ?_
                    refine lv_iload hx hb dX5_wordIn_91 (lv_at hl 1 rfl) ?_
                    refine lv_iadd hx hb dX5_wordIn_93 ?_
                    refine lv_topi (fun y37 e38 => ?_)
                    rw [hQ]
                    exact W.iret (v := y37) hx hb hr (fun t9 ht9 hW9 => ⟨⟨y37, (), rfl, trivial, by rw [ht9]; exact hP, va_K.moved hW9.alike hK, hD⟩, hS.F ht9⟩) hS.2.2 dX5_wordIn_94
                · refine lv_iinc (v := nI (k18 + 1)) (lv' := [(6, .int (nI (k18 + 1))), (5, .int (nI k7)), (4, .int (nI (rplace - rbegin))), (3, .int (nI 13)), (0, .ref reader), (1, .ref (adK 1)), (2, .int first)]) hx hb dX5_wordIn_77 hl (k := 0) rfl (show nI k18 + nI 1 = nI (k18 + 1) from nI_add _ _) (by decide) rfl (fun ls hl => ?_)
                  refine lv_goto (tgt := 31) hx hb dX5_wordIn_80 (by decide) ?_
                  exact ih22 (k18 + 1) (lf_r_wordIn1_7 k18 n21 j19 hm23 c24) (lf_r_wordIn1_8 k18 n21 j19 hm23 c24) _ _ _ hP hD hS (lv_sub hl [0, 1, 2, 3, 4, 5, 6] rfl)
              refine n_icmp_ge (x := k18) (y := (rplace - rbegin)) (tgt := 72) hx hb (by omega) (by omega) dX5_wordIn_54 (by decide) (fun c32 => ?_) (fun c32 => ?_)
              · refine lv_bipush (v := nI 32) hx hb dX5_wordIn_72 (by decide) ?_
                exact hJ34 (nI 32)  _ _ _ hP hD hS (lv_sub hl [0, 1, 2, 3, 4, 5, 6] rfl)
              · refine lv_aload_n hx hb dX5_wordIn_57 rfl (lv_at hl 4 rfl) ?_
                refine va_get (D := (dC, dI)) (ci := 5) (v := .ref rtape) (C := RX5) (T := TX5) (N := 11) hx hb hts hin5 hown hK hP 0 rfl rfl 0 (by decide) (hts (.fieldLink RX5 9 "PorridgeSea$Reader" "tape" "[B") (List.mem_of_getElem? (i := 3) rfl)) (fun _ h9 => h9) rfl dX5_wordIn_58 ?_
                refine lv_aload_n hx hb dX5_wordIn_61 rfl (lv_at hl 4 rfl) ?_
                refine va_get (D := (dC, dI)) (ci := 5) (v := .int (nI rbegin)) (C := RX5) (T := TX5) (N := 11) hx hb hts hin5 hown hK hP 0 rfl rfl 5 (by decide) (hts (.fieldLink RX5 40 "PorridgeSea$Reader" "begin" "I") (List.mem_of_getElem? (i := 2) rfl)) (fun _ h9 => h9) rfl dX5_wordIn_62 ?_
                refine lv_iload hx hb dX5_wordIn_65 (lv_at hl 0 rfl) ?_
                refine lv_iadd hx hb dX5_wordIn_67 ?_
                refine r_ti (nI (rbegin + k18)) (nI_add _ _) ?_
                obtain ⟨y39, e40⟩ : ∃ z9, z9 = rtapeF (rbegin + k18) := ⟨_, rfl⟩
                refine r_bald hx hb hK hP 1 rfl (rbegin + k18) (by omega) (by decide) y39 e40.symm dX5_wordIn_68 ?_
                refine lv_goto (tgt := 74) hx hb dX5_wordIn_69 (by decide) ?_
                exact hJ34 y39  _ _ _ hP hD hS (lv_sub hl [0, 1, 2, 3, 4, 5, 6] rfl)
        exact hL20 ((7 - 0) + 1) 0 (lf_r_wordIn1_9) (Nat.lt_succ_self _) _ _ _ hP hD hS (lv_sub hl [0, 1, 2, 3, 4, 5, 6] rfl)
  exact hL9 ((13 - 0) + 1) 0 (lf_r_wordIn1_10) (Nat.lt_succ_self _) _ _ _ hP hD hS (lv_sub hl [0, 1, 2, 3, 4, 5] rfl)
set_option maxRecDepth 20000 in
theorem lf_r_wordIn2_1 (rlength : Nat) (rplace : Nat) (rbegin : Nat) (iv_rreader_0 : rlength ≤ 940) (iv_rreader_1 : rplace ≤ rlength) (iv_rreader_3 : rbegin ≤ 940) (hbp : rbegin ≤ rplace) : rbegin ≤ rplace := by
  try simp only [ia_lt, ia_le, ia_eq, ia_m1, ia_0, ia_1, ne_eq, true_and, and_true, false_and, and_false, or_false, false_or, or_true, true_or, not_true_eq_false, not_false_eq_true] at *
  all_goals omega
set_option maxRecDepth 20000 in
theorem lf_r_wordIn2_2 (k7 : Nat) (n10 : Nat) (j8 : k7 ≤ 11) (hm12 : 11 - k7 < n10 + 1) (c13 : k7 < 11) : (k7 + 1) ≤ 11 := by
  try simp only [ia_lt, ia_le, ia_eq, ia_m1, ia_0, ia_1, ne_eq, true_and, and_true, false_and, and_false, or_false, false_or, or_true, true_or, not_true_eq_false, not_false_eq_true] at *
  all_goals omega
set_option maxRecDepth 20000 in
theorem lf_r_wordIn2_3 (k7 : Nat) (n10 : Nat) (j8 : k7 ≤ 11) (hm12 : 11 - k7 < n10 + 1) (c13 : k7 < 11) : 11 - (k7 + 1) < n10 := by
  try simp only [ia_lt, ia_le, ia_eq, ia_m1, ia_0, ia_1, ne_eq, true_and, and_true, false_and, and_false, or_false, false_or, or_true, true_or, not_true_eq_false, not_false_eq_true] at *
  all_goals omega
set_option maxRecDepth 20000 in
theorem lf_r_wordIn2_4 (k7 : Nat) (n10 : Nat) (k18 : Nat) (n21 : Nat) (j8 : k7 ≤ 11) (hm12 : 11 - k7 < n10 + 1) (c13 : k7 < 11) (j19 : k18 ≤ 7) (hm23 : 7 - k18 < n21 + 1) (c24 : k18 < 7) : ((7 * k7) + k18) < 77 := by
  try simp only [ia_lt, ia_le, ia_eq, ia_m1, ia_0, ia_1, ne_eq, true_and, and_true, false_and, and_false, or_false, false_or, or_true, true_or, not_true_eq_false, not_false_eq_true] at *
  all_goals omega
set_option maxRecDepth 20000 in
theorem lf_r_wordIn2_5 (k7 : Nat) (n10 : Nat) (j8 : k7 ≤ 11) (hm12 : 11 - k7 < n10 + 1) (c13 : k7 < 11) : (k7 + 1) ≤ 11 := by
  try simp only [ia_lt, ia_le, ia_eq, ia_m1, ia_0, ia_1, ne_eq, true_and, and_true, false_and, and_false, or_false, false_or, or_true, true_or, not_true_eq_false, not_false_eq_true] at *
  all_goals omega
set_option maxRecDepth 20000 in
theorem lf_r_wordIn2_6 (k7 : Nat) (n10 : Nat) (j8 : k7 ≤ 11) (hm12 : 11 - k7 < n10 + 1) (c13 : k7 < 11) : 11 - (k7 + 1) < n10 := by
  try simp only [ia_lt, ia_le, ia_eq, ia_m1, ia_0, ia_1, ne_eq, true_and, and_true, false_and, and_false, or_false, false_or, or_true, true_or, not_true_eq_false, not_false_eq_true] at *
  all_goals omega
set_option maxRecDepth 20000 in
theorem lf_r_wordIn2_7 (k18 : Nat) (n21 : Nat) (j19 : k18 ≤ 7) (hm23 : 7 - k18 < n21 + 1) (c24 : k18 < 7) : (k18 + 1) ≤ 7 := by
  try simp only [ia_lt, ia_le, ia_eq, ia_m1, ia_0, ia_1, ne_eq, true_and, and_true, false_and, and_false, or_false, false_or, or_true, true_or, not_true_eq_false, not_false_eq_true] at *
  all_goals omega
set_option maxRecDepth 20000 in
theorem lf_r_wordIn2_8 (k18 : Nat) (n21 : Nat) (j19 : k18 ≤ 7) (hm23 : 7 - k18 < n21 + 1) (c24 : k18 < 7) : 7 - (k18 + 1) < n21 := by
  try simp only [ia_lt, ia_le, ia_eq, ia_m1, ia_0, ia_1, ne_eq, true_and, and_true, false_and, and_false, or_false, false_or, or_true, true_or, not_true_eq_false, not_false_eq_true] at *
  all_goals omega
set_option maxRecDepth 20000 in
theorem lf_r_wordIn2_9   : 0 ≤ 7 := by
  try simp only [ia_lt, ia_le, ia_eq, ia_m1, ia_0, ia_1, ne_eq, true_and, and_true, false_and, and_false, or_false, false_or, or_true, true_or, not_true_eq_false, not_false_eq_true] at *
  all_goals omega
set_option maxRecDepth 20000 in
theorem lf_r_wordIn2_10   : 0 ≤ 11 := by
  try simp only [ia_lt, ia_le, ia_eq, ia_m1, ia_0, ia_1, ne_eq, true_and, and_true, false_and, and_false, or_false, false_or, or_true, true_or, not_true_eq_false, not_false_eq_true] at *
  all_goals omega
set_option maxHeartbeats 4000000 in
set_option maxRecDepth 100000 in
theorem c_r_wordIn2 (l : Launch) (dC : Nat → ClassId) (dI : Nat → Nat → Nat) (ky : Nat → ClassId) (sz : Nat) (adK : Nat → Nat) (adV : Nat → Nat) (reader : Nat) (rtape : Nat) (rlength : Nat) (rmostBytes : Nat) (rplace : Nat) (rkind : Int32) (rbegin : Nat) (rword : Int32) (rnumber : Int32) (rletters : Int64) (rfaultKind : Int32) (rfaultPlace : Int32) (rtapeF : Nat → Int32) (first : Int32) (iv_rreader_0 : rlength ≤ 940) (iv_rreader_1 : rplace ≤ rlength) (iv_rreader_2 : rmostBytes ≤ 900) (iv_rreader_3 : rbegin ≤ 940) (hbp : rbegin ≤ rplace) : Met l yX5_wordIn wsX5_wordIn ({ frames := 4, cells := 0, slots := 0, locals := 85 }) (PcUE dC dI ky adK adV [.ref reader, .ref (adK 2), .int first] [(reader, .inr (5, [.ref rtape, .int (nI rlength), .int (nI rmostBytes), .int (nI rplace), .int rkind, .int (nI rbegin), .int rword, .int rnumber, .long rletters, .int rfaultKind, .int rfaultPlace])), (rtape, .inl (ky 2, 940, .inl rtapeF))] sz) (va_Qi (fun (r : Int32) (_ : Unit) => True) (BU dC dI ky (fun (_ : Unit) => [(reader, .inr (5, [.ref rtape, .int (nI rlength), .int (nI rmostBytes), .int (nI rplace), .int rkind, .int (nI rbegin), .int rword, .int rnumber, .long rletters, .int rfaultKind, .int rfaultPlace])), (rtape, .inl (ky 2, 940, .inl rtapeF))]) (va_A [(reader, .inr (5, [.ref rtape, .int (nI rlength), .int (nI rmostBytes), .int (nI rplace), .int rkind, .int (nI rbegin), .int rword, .int rnumber, .long rletters, .int rfaultKind, .int rfaultPlace])), (rtape, .inl (ky 2, 940, .inl rtapeF))] sz)) (va_A [(reader, .inr (5, [.ref rtape, .int (nI rlength), .int (nI rmostBytes), .int (nI rplace), .int rkind, .int (nI rbegin), .int rword, .int rnumber, .long rletters, .int rfaultKind, .int rfaultPlace])), (rtape, .inl (ky 2, 940, .inl rtapeF))] sz)) 0 0 (va_A [(reader, .inr (5, [.ref rtape, .int (nI rlength), .int (nI rmostBytes), .int (nI rplace), .int rkind, .int (nI rbegin), .int rword, .int rnumber, .long rletters, .int rfaultKind, .int rfaultPlace])), (rtape, .inl (ky 2, 940, .inl rtapeF))] sz) := by
  refine Met.ofW (cc := cX5_wordIn) (maxL := 7) (ret := (some .int)) (by decide) rfl ?_
  intro p e s m args below meth c s₁ B hml hv
  obtain ⟨rfl, hsz, hP, hK, hD0, hE⟩ := hv
  have hx := B.exec
  have hb := B.bytes
  have hr := B.returns
  have hts := atoms_spec (ws := wsX5_wordIn) B.pre
  have hown : s.vm.findClass RX5 = some m.cls := findClass_of_methodNamed B.named
  have hlocks := B.notSynchronized
  have hin5 : ∀ w ∈ u_ws RX5 TX5 11, w ∈ wsX5_wordIn := by decide +kernel
  subst hsz
  have hD := hD0.self (sz := s.heap.size)
  generalize hAe : va_A [(reader, .inr (5, [.ref rtape, .int (nI rlength), .int (nI rmostBytes), .int (nI rplace), .int rkind, .int (nI rbegin), .int rword, .int rnumber, .long rletters, .int rfaultKind, .int rfaultPlace])), (rtape, .inl (ky 2, 940, .inl rtapeF))] s.heap.size = A at hD hE ⊢
  have hA : ∀ q : Nat, s.heap.size ≤ q → A q := fun q h => by rw [← hAe]; exact Or.inr h
  have hS : va_S A s.heap s.heap [] := va_S.rf
  have hl := lv_entry ([.ref reader, .ref (adK 2), .int first]) (n := 7) (Nat.le_of_ble_eq_true rfl)
  rw [lg_entry_eq]
  generalize (lg_sl ([.ref reader, .ref (adK 2), .int first]) ++ List.replicate (7 - (lg_sl ([.ref reader, .ref (adK 2), .int first])).length) Slot.unset).toArray = ls at hl ⊢
  have hl : lv_has ls 7 [(0, .ref reader), (1, .ref (adK 2)), (2, .int first)] := hl
  refine q_name (fun Q hQ => ?_)
  generalize ([.ref reader, .ref (adK 2), .int first] : List Value).toArray = args at hts hQ ⊢
  refine lv_aload_n hx hb dX5_wordIn_0 rfl (lv_at hl 1 rfl) ?_
  refine vp_callSi (W.runV (As := []) (rest := []) ⟨hx, hb, hml, hown, hts⟩ (c_j_length2 l dC dI ky adK adV) (cwV 0 hts gX5_wordIn_J0_length_8abf5 rfl rfl rfl (by decide +kernel) ⟨(Nat.le_of_ble_eq_true rfl), (Nat.le_of_ble_eq_true rfl)⟩) (pre_PEV hE hS hK hP [] rfl (vk_recv hE.1 (i := 2) (by decide) hS)) rfl rfl hl.1 rfl (lv_room (Nat.le_of_ble_eq_true rfl)) dX5_wordIn_1 ⟨(Nat.le_of_ble_eq_true rfl), (Nat.le_of_ble_eq_true rfl)⟩) (fun r1 p2 => ?_)
  subst p2
  refine lv_bipush (v := nI 7) hx hb dX5_wordIn_4 (by decide) ?_
  refine lv_idiv hx hb dX5_wordIn_6 (by decide) ?_
  refine r_ti (nI 11) (by decide) ?_
  refine lv_istore_n (lv' := [(3, .int (nI 11)), (0, .ref reader), (1, .ref (adK 2)), (2, .int first)]) hx hb dX5_wordIn_7 rfl hl (by decide) rfl (fun ls hl => ?_)
  refine lv_aload_n hx hb dX5_wordIn_8 rfl (lv_at hl 1 rfl) ?_
  refine va_get (D := (dC, dI)) (ci := 5) (v := .int (nI rplace)) (C := RX5) (T := TX5) (N := 11) hx hb hts hin5 hown hK hP 0 rfl rfl 3 (by decide) (hts (.fieldLink RX5 28 "PorridgeSea$Reader" "place" "I") (List.mem_of_getElem? (i := 1) rfl)) (fun _ h9 => h9) rfl dX5_wordIn_9 ?_
  refine lv_aload_n hx hb dX5_wordIn_12 rfl (lv_at hl 1 rfl) ?_
  refine va_get (D := (dC, dI)) (ci := 5) (v := .int (nI rbegin)) (C := RX5) (T := TX5) (N := 11) hx hb hts hin5 hown hK hP 0 rfl rfl 5 (by decide) (hts (.fieldLink RX5 40 "PorridgeSea$Reader" "begin" "I") (List.mem_of_getElem? (i := 2) rfl)) (fun _ h9 => h9) rfl dX5_wordIn_13 ?_
  refine lv_isub hx hb dX5_wordIn_16 ?_
  refine r_ti (nI (rplace - rbegin)) (pk_sub (lf_r_wordIn2_1 rlength rplace rbegin iv_rreader_0 iv_rreader_1 iv_rreader_3 hbp)) ?_
  refine lv_istore (lv' := [(4, .int (nI (rplace - rbegin))), (3, .int (nI 11)), (0, .ref reader), (1, .ref (adK 2)), (2, .int first)]) hx hb dX5_wordIn_17 hl (by decide) rfl (fun ls hl => ?_)
  refine lv_iconst (v := nI 0) hx hb dX5_wordIn_19 (by decide) ?_
  refine lv_istore (lv' := [(5, .int (nI 0)), (4, .int (nI (rplace - rbegin))), (3, .int (nI 11)), (0, .ref reader), (1, .ref (adK 2)), (2, .int first)]) hx hb dX5_wordIn_20 hl (by decide) rfl (fun ls hl => ?_)
  have hL9 : ∀ (n10 : Nat) (k7 : Nat), (k7 ≤ 11) → 11 - k7 < n10 → ∀ (H : Heap) (locs : List Loc) (ls : Array Slot), va_P (dC, dI) vwCl [(reader, .inr (5, [.ref rtape, .int (nI rlength), .int (nI rmostBytes), .int (nI rplace), .int rkind, .int (nI rbegin), .int rword, .int rnumber, .long rletters, .int rfaultKind, .int rfaultPlace])), (rtape, .inl (ky 2, 940, .inl rtapeF))] H → va_D A [(reader, .inr (5, [.ref rtape, .int (nI rlength), .int (nI rmostBytes), .int (nI rplace), .int rkind, .int (nI rbegin), .int rword, .int rnumber, .long rletters, .int rfaultKind, .int rfaultPlace])), (rtape, .inl (ky 2, 940, .inl rtapeF))] → va_S A s.heap H locs → lv_has ls 7 [(5, .int (nI k7)), (4, .int (nI (rplace - rbegin))), (3, .int (nI 11)), (0, .ref reader), (1, .ref (adK 2)), (2, .int first)] → W p l e (headSpec wsX5_wordIn ({ frames := 4, cells := 0, slots := 0, locals := 85 })).room s m args below meth c H locs 0 0 Q (F0 m 22 ls []) := by
    intro n10
    induction n10 with
    | zero => intro k7 _ h9; exact absurd h9 (Nat.not_lt_zero _)
    | succ n10 ih11 =>
      intro k7 j8 hm12 H locs ls hP hD hS hl
      refine lv_iload hx hb dX5_wordIn_22 (lv_at hl 0 rfl) ?_
      refine lv_iload_n hx hb dX5_wordIn_24 rfl (lv_at hl 2 rfl) ?_
      refine n_icmp_ge (x := k7) (y := 11) (tgt := 101) hx hb (by omega) (by omega) dX5_wordIn_25 (by decide) (fun c13 => ?_) (fun c13 => ?_)
      · refine lv_bipush (v := nI 31) hx hb dX5_wordIn_101 (by decide) ?_
        rw [hQ]
        exact W.iret (v := nI 31) hx hb hr (fun t9 ht9 hW9 => ⟨⟨nI 31, (), rfl, trivial, by rw [ht9]; exact hP, va_K.moved hW9.alike hK, hD⟩, hS.F ht9⟩) hS.2.2 dX5_wordIn_103
      · refine lv_iconst (v := nI 0) hx hb dX5_wordIn_28 (by decide) ?_
        refine lv_istore (lv' := [(6, .int (nI 0)), (5, .int (nI k7)), (4, .int (nI (rplace - rbegin))), (3, .int (nI 11)), (0, .ref reader), (1, .ref (adK 2)), (2, .int first)]) hx hb dX5_wordIn_29 hl (by decide) rfl (fun ls hl => ?_)
        have hL20 : ∀ (n21 : Nat) (k18 : Nat), (k18 ≤ 7) → 7 - k18 < n21 → ∀ (H : Heap) (locs : List Loc) (ls : Array Slot), va_P (dC, dI) vwCl [(reader, .inr (5, [.ref rtape, .int (nI rlength), .int (nI rmostBytes), .int (nI rplace), .int rkind, .int (nI rbegin), .int rword, .int rnumber, .long rletters, .int rfaultKind, .int rfaultPlace])), (rtape, .inl (ky 2, 940, .inl rtapeF))] H → va_D A [(reader, .inr (5, [.ref rtape, .int (nI rlength), .int (nI rmostBytes), .int (nI rplace), .int rkind, .int (nI rbegin), .int rword, .int rnumber, .long rletters, .int rfaultKind, .int rfaultPlace])), (rtape, .inl (ky 2, 940, .inl rtapeF))] → va_S A s.heap H locs → lv_has ls 7 [(6, .int (nI k18)), (5, .int (nI k7)), (4, .int (nI (rplace - rbegin))), (3, .int (nI 11)), (0, .ref reader), (1, .ref (adK 2)), (2, .int first)] → W p l e (headSpec wsX5_wordIn ({ frames := 4, cells := 0, slots := 0, locals := 85 })).room s m args below meth c H locs 0 0 Q (F0 m 31 ls []) := by
          intro n21
          induction n21 with
          | zero => intro k18 _ h9; exact absurd h9 (Nat.not_lt_zero _)
          | succ n21 ih22 =>
            intro k18 j19 hm23 H locs ls hP hD hS hl
            refine lv_iload hx hb dX5_wordIn_31 (lv_at hl 0 rfl) ?_
            refine lv_bipush (v := nI 7) hx hb dX5_wordIn_33 (by decide) ?_
            refine n_icmp_ge (x := k18) (y := 7) (tgt := 83) hx hb (by omega) (by omega) dX5_wordIn_35 (by decide) (fun c24 => ?_) (fun c24 => ?_)
            · refine lv_iload hx hb dX5_wordIn_83 (lv_at hl 0 rfl) ?_
              refine lv_bipush (v := nI 7) hx hb dX5_wordIn_85 (by decide) ?_
              refine n_icmp_ne (x := k18) (y := 7) (tgt := 95) hx hb (by omega) (by omega) dX5_wordIn_87 (by decide) (fun c25 => ?_) (fun c25 => ?_)
              · refine lv_iinc (v := nI (k7 + 1)) (lv' := [(5, .int (nI (k7 + 1))), (6, .int (nI k18)), (4, .int (nI (rplace - rbegin))), (3, .int (nI 11)), (0, .ref reader), (1, .ref (adK 2)), (2, .int first)]) hx hb dX5_wordIn_95 hl (k := 1) rfl (show nI k7 + nI 1 = nI (k7 + 1) from nI_add _ _) (by decide) rfl (fun ls hl => ?_)
                refine lv_goto (tgt := 22) hx hb dX5_wordIn_98 (by decide) ?_
                exact ih11 (k7 + 1) (lf_r_wordIn2_2 k7 n10 j8 hm12 c13) (lf_r_wordIn2_3 k7 n10 j8 hm12 c13) _ _ _ hP hD hS (lv_sub hl [0, 2, 3, 4, 5, 6] rfl)
              · refine lv_iload_n hx hb dX5_wordIn_90 rfl (lv_at hl 6 rfl) ?_
                refine lv_iload hx hb dX5_wordIn_91 (lv_at hl 1 rfl) ?_
                refine lv_iadd hx hb dX5_wordIn_93 ?_
                refine lv_topi (fun y26 e27 => ?_)
                rw [hQ]
                exact W.iret (v := y26) hx hb hr (fun t9 ht9 hW9 => ⟨⟨y26, (), rfl, trivial, by rw [ht9]; exact hP, va_K.moved hW9.alike hK, hD⟩, hS.F ht9⟩) hS.2.2 dX5_wordIn_94
            · refine lv_aload_n hx hb dX5_wordIn_38 rfl (lv_at hl 5 rfl) ?_
              refine lv_bipush (v := nI 7) hx hb dX5_wordIn_39 (by decide) ?_
              refine lv_iload hx hb dX5_wordIn_41 (lv_at hl 1 rfl) ?_
              refine lv_imul hx hb dX5_wordIn_43 ?_
              refine r_ti (nI (7 * k7)) (pk_mul _ _) ?_
              refine lv_iload hx hb dX5_wordIn_44 (lv_at hl 0 rfl) ?_
              refine lv_iadd hx hb dX5_wordIn_46 ?_
              refine r_ti (nI ((7 * k7) + k18)) (nI_add _ _) ?_
              refine r_call_i (wr := [(reader, .inr (5, [.ref rtape, .int (nI rlength), .int (nI rmostBytes), .int (nI rplace), .int rkind, .int (nI rbegin), .int rword, .int rnumber, .long rletters, .int rfaultKind, .int rfaultPlace])), (rtape, .inl (ky 2, 940, .inl rtapeF))]) (va_runV (As := [.int (nI ((7 * k7) + k18))]) (rest := []) ⟨hx, hb, hml, hown, hts⟩ (c_j_ch2 l dC dI ky H.size adK adV ((7 * k7) + k18) (lf_r_wordIn2_4 k7 n10 k18 n21 j8 hm12 c13 j19 hm23 c24)) (cwV 1 hts gX5_wordIn_J0_charAt_5068e rfl rfl rfl (by decide +kernel) ⟨(Nat.le_of_ble_eq_true rfl), (Nat.le_of_ble_eq_true rfl)⟩) (pre_UEV hE hS hA hK hP hD [] (by decide) rfl (vk_recv hE.1 (i := 2) (by decide) hS)) rfl rfl hl.1 rfl (lv_room (Nat.le_of_ble_eq_true rfl)) dX5_wordIn_47 ⟨(Nat.le_of_ble_eq_true rfl), (Nat.le_of_ble_eq_true rfl)⟩) hP hD hS hA [] [0, 1] rfl rfl (by decide) (by decide) (fun r30 u28 H locs p29 hP hD hS => ?_)
              try dsimp only at p29
              have p31 := p29
              refine W.widen (k := 0) (n := 0) (Nat.le_of_ble_eq_true rfl) (Nat.le_of_ble_eq_true rfl) ?_
              have hP : va_P (dC, dI) vwCl [(reader, .inr (5, [.ref rtape, .int (nI rlength), .int (nI rmostBytes), .int (nI rplace), .int rkind, .int (nI rbegin), .int rword, .int rnumber, .long rletters, .int rfaultKind, .int rfaultPlace])), (rtape, .inl (ky 2, 940, .inl rtapeF))] H := hP
              have hD : va_D A [(reader, .inr (5, [.ref rtape, .int (nI rlength), .int (nI rmostBytes), .int (nI rplace), .int rkind, .int (nI rbegin), .int rword, .int rnumber, .long rletters, .int rfaultKind, .int rfaultPlace])), (rtape, .inl (ky 2, 940, .inl rtapeF))] := hD
              refine lv_iload hx hb dX5_wordIn_50 (lv_at hl 0 rfl) ?_
              refine lv_iload hx hb dX5_wordIn_52 (lv_at hl 2 rfl) ?_
              have hJ34 : ∀ (x33 : Int32), ∀ (H : Heap) (locs : List Loc) (ls : Array Slot), va_P (dC, dI) vwCl [(reader, .inr (5, [.ref rtape, .int (nI rlength), .int (nI rmostBytes), .int (nI rplace), .int rkind, .int (nI rbegin), .int rword, .int rnumber, .long rletters, .int rfaultKind, .int rfaultPlace])), (rtape, .inl (ky 2, 940, .inl rtapeF))] H → va_D A [(reader, .inr (5, [.ref rtape, .int (nI rlength), .int (nI rmostBytes), .int (nI rplace), .int rkind, .int (nI rbegin), .int rword, .int rnumber, .long rletters, .int rfaultKind, .int rfaultPlace])), (rtape, .inl (ky 2, 940, .inl rtapeF))] → va_S A s.heap H locs → lv_has ls 7 [(6, .int (nI k18)), (5, .int (nI k7)), (4, .int (nI (rplace - rbegin))), (3, .int (nI 11)), (0, .ref reader), (1, .ref (adK 2)), (2, .int first)] → W p l e (headSpec wsX5_wordIn ({ frames := 4, cells := 0, slots := 0, locals := 85 })).room s m args below meth c H locs 0 0 Q (F0 m 74 ls [.int x33, .int r30]) := by
                intro x33 H locs ls hP hD hS hl
                refine lv_icmp_ne (tgt := 83) hx hb dX5_wordIn_74 (by decide) (fun c35 => ?_) (fun c35 => ?_)
                · refine lv_iload hx hb dX5_wordIn_83 (lv_at hl 0 rfl) ?_
                  refine lv_bipush (v := nI 7) hx hb dX5_wordIn_85 (by decide) ?_
                  refine n_icmp_ne (x := k18) (y := 7) (tgt := 95) hx hb (by omega) (by omega) dX5_wordIn_87 (by decide) (fun c36 => ?_) (fun c36 => ?_)
                  · refine lv_iinc (v := nI (k7 + 1)) (lv' := [(5, .int (nI (k7 + 1))), (6, .int (nI k18)), (4, .int (nI (rplace - rbegin))), (3, .int (nI 11)), (0, .ref reader), (1, .ref (adK 2)), (2, .int first)]) hx hb dX5_wordIn_95 hl (k := 1) rfl (show nI k7 + nI 1 = nI (k7 + 1) from nI_add _ _) (by decide) rfl (fun ls hl => ?_)
                    refine lv_goto (tgt := 22) hx hb dX5_wordIn_98 (by decide) ?_
                    exact ih11 (k7 + 1) (lf_r_wordIn2_5 k7 n10 j8 hm12 c13) (lf_r_wordIn2_6 k7 n10 j8 hm12 c13) _ _ _ hP hD hS (lv_sub hl [0, 2, 3, 4, 5, 6] rfl)
                  · refine lv_iload_n hx hb dX5_wordIn_90 rfl (lv_at hl 6 rfl) ?_
                    refine lv_iload hx hb dX5_wordIn_91 (lv_at hl 1 rfl) ?_
                    refine lv_iadd hx hb dX5_wordIn_93 ?_
                    refine lv_topi (fun y37 e38 => ?_)
                    rw [hQ]
                    exact W.iret (v := y37) hx hb hr (fun t9 ht9 hW9 => ⟨⟨y37, (), rfl, trivial, by rw [ht9]; exact hP, va_K.moved hW9.alike hK, hD⟩, hS.F ht9⟩) hS.2.2 dX5_wordIn_94
                · refine lv_iinc (v := nI (k18 + 1)) (lv' := [(6, .int (nI (k18 + 1))), (5, .int (nI k7)), (4, .int (nI (rplace - rbegin))), (3, .int (nI 11)), (0, .ref reader), (1, .ref (adK 2)), (2, .int first)]) hx hb dX5_wordIn_77 hl (k := 0) rfl (show nI k18 + nI 1 = nI (k18 + 1) from nI_add _ _) (by decide) rfl (fun ls hl => ?_)
                  refine lv_goto (tgt := 31) hx hb dX5_wordIn_80 (by decide) ?_
                  exact ih22 (k18 + 1) (lf_r_wordIn2_7 k18 n21 j19 hm23 c24) (lf_r_wordIn2_8 k18 n21 j19 hm23 c24) _ _ _ hP hD hS (lv_sub hl [0, 1, 2, 3, 4, 5, 6] rfl)
              refine n_icmp_ge (x := k18) (y := (rplace - rbegin)) (tgt := 72) hx hb (by omega) (by omega) dX5_wordIn_54 (by decide) (fun c32 => ?_) (fun c32 => ?_)
              · refine lv_bipush (v := nI 32) hx hb dX5_wordIn_72 (by decide) ?_
                exact hJ34 (nI 32)  _ _ _ hP hD hS (lv_sub hl [0, 1, 2, 3, 4, 5, 6] rfl)
              · refine lv_aload_n hx hb dX5_wordIn_57 rfl (lv_at hl 4 rfl) ?_
                refine va_get (D := (dC, dI)) (ci := 5) (v := .ref rtape) (C := RX5) (T := TX5) (N := 11) hx hb hts hin5 hown hK hP 0 rfl rfl 0 (by decide) (hts (.fieldLink RX5 9 "PorridgeSea$Reader" "tape" "[B") (List.mem_of_getElem? (i := 3) rfl)) (fun _ h9 => h9) rfl dX5_wordIn_58 ?_
                refine lv_aload_n hx hb dX5_wordIn_61 rfl (lv_at hl 4 rfl) ?_
                refine va_get (D := (dC, dI)) (ci := 5) (v := .int (nI rbegin)) (C := RX5) (T := TX5) (N := 11) hx hb hts hin5 hown hK hP 0 rfl rfl 5 (by decide) (hts (.fieldLink RX5 40 "PorridgeSea$Reader" "begin" "I") (List.mem_of_getElem? (i := 2) rfl)) (fun _ h9 => h9) rfl dX5_wordIn_62 ?_
                refine lv_iload hx hb dX5_wordIn_65 (lv_at hl 0 rfl) ?_
                refine lv_iadd hx hb dX5_wordIn_67 ?_
                refine r_ti (nI (rbegin + k18)) (nI_add _ _) ?_
                obtain ⟨y39, e40⟩ : ∃ z9, z9 = rtapeF (rbegin + k18) := ⟨_, rfl⟩
                refine r_bald hx hb hK hP 1 rfl (rbegin + k18) (by omega) (by decide) y39 e40.symm dX5_wordIn_68 ?_
                refine lv_goto (tgt := 74) hx hb dX5_wordIn_69 (by decide) ?_
                exact hJ34 y39  _ _ _ hP hD hS (lv_sub hl [0, 1, 2, 3, 4, 5, 6] rfl)
        exact hL20 ((7 - 0) + 1) 0 (lf_r_wordIn2_9) (Nat.lt_succ_self _) _ _ _ hP hD hS (lv_sub hl [0, 1, 2, 3, 4, 5, 6] rfl)
  exact hL9 ((11 - 0) + 1) 0 (lf_r_wordIn2_10) (Nat.lt_succ_self _) _ _ _ hP hD hS (lv_sub hl [0, 1, 2, 3, 4, 5] rfl)
set_option maxRecDepth 20000 in
theorem lf_r_advance_1 (rlength : Nat) (rmostBytes : Nat) (rplace : Nat) (rtapeF : Nat → Int32) (k4 : Nat) (n8 : Nat) (y40 : Int32) (rplaceG_47 : Nat) (iv_rreader_0 : rlength ≤ 940) (iv_rreader_1 : rplace ≤ rlength) (iv_rreader_2 : rmostBytes ≤ 900) (j5 : k4 ≤ 940) (j6 : k4 ≤ rlength) (hm10 : 940 - k4 < n8 + 1) (c13 : rlength ≤ rmostBytes) (c39 : k4 < rlength) (e41 : y40 = rtapeF k4) (p51 : rplaceG_47 ≤ rlength) (p52 : k4 ≤ rplaceG_47) : rplaceG_47 ≤ 940 := by
  have b_y40 := ia_b y40
  try simp only [ia_lt, ia_le, ia_eq, ia_m1, ia_0, ia_1, ne_eq, true_and, and_true, false_and, and_false, or_false, false_or, or_true, true_or, not_true_eq_false, not_false_eq_true] at *
  all_goals omega
set_option maxRecDepth 20000 in
theorem lf_r_advance_2 (rlength : Nat) (rmostBytes : Nat) (rplace : Nat) (rtapeF : Nat → Int32) (k4 : Nat) (n8 : Nat) (y40 : Int32) (rplaceG_47 : Nat) (iv_rreader_0 : rlength ≤ 940) (iv_rreader_1 : rplace ≤ rlength) (iv_rreader_2 : rmostBytes ≤ 900) (j5 : k4 ≤ 940) (j6 : k4 ≤ rlength) (hm10 : 940 - k4 < n8 + 1) (c13 : rlength ≤ rmostBytes) (c39 : k4 < rlength) (e41 : y40 = rtapeF k4) (p51 : rplaceG_47 ≤ rlength) (p52 : k4 ≤ rplaceG_47) : k4 ≤ 900 := by
  have b_y40 := ia_b y40
  try simp only [ia_lt, ia_le, ia_eq, ia_m1, ia_0, ia_1, ne_eq, true_and, and_true, false_and, and_false, or_false, false_or, or_true, true_or, not_true_eq_false, not_false_eq_true] at *
  all_goals omega
set_option maxRecDepth 20000 in
theorem lf_r_advance_3 (rlength : Nat) (rmostBytes : Nat) (rplace : Nat) (rtapeF : Nat → Int32) (k4 : Nat) (n8 : Nat) (y40 : Int32) (y53 : Int32) (rplaceG_60 : Nat) (iv_rreader_0 : rlength ≤ 940) (iv_rreader_1 : rplace ≤ rlength) (iv_rreader_2 : rmostBytes ≤ 900) (j5 : k4 ≤ 940) (j6 : k4 ≤ rlength) (hm10 : 940 - k4 < n8 + 1) (c13 : rlength ≤ rmostBytes) (c39 : k4 < rlength) (e41 : y40 = rtapeF k4) (e54 : y53 = rtapeF k4) (p62 : rplaceG_60 ≤ rlength) (p63 : k4 ≤ rplaceG_60) : rplaceG_60 ≤ 940 := by
  have b_y40 := ia_b y40
  have b_y53 := ia_b y53
  try simp only [ia_lt, ia_le, ia_eq, ia_m1, ia_0, ia_1, ne_eq, true_and, and_true, false_and, and_false, or_false, false_or, or_true, true_or, not_true_eq_false, not_false_eq_true] at *
  all_goals omega
set_option maxRecDepth 20000 in
theorem lf_r_advance_4 (rlength : Nat) (rmostBytes : Nat) (rplace : Nat) (rtapeF : Nat → Int32) (k4 : Nat) (n8 : Nat) (y40 : Int32) (y53 : Int32) (rplaceG_60 : Nat) (iv_rreader_0 : rlength ≤ 940) (iv_rreader_1 : rplace ≤ rlength) (iv_rreader_2 : rmostBytes ≤ 900) (j5 : k4 ≤ 940) (j6 : k4 ≤ rlength) (hm10 : 940 - k4 < n8 + 1) (c13 : rlength ≤ rmostBytes) (c39 : k4 < rlength) (e41 : y40 = rtapeF k4) (e54 : y53 = rtapeF k4) (p62 : rplaceG_60 ≤ rlength) (p63 : k4 ≤ rplaceG_60) : k4 ≤ 900 := by
  have b_y40 := ia_b y40
  have b_y53 := ia_b y53
  try simp only [ia_lt, ia_le, ia_eq, ia_m1, ia_0, ia_1, ne_eq, true_and, and_true, false_and, and_false, or_false, false_or, or_true, true_or, not_true_eq_false, not_false_eq_true] at *
  all_goals omega
set_option maxRecDepth 20000 in
theorem lf_r_advance_5 (rlength : Nat) (rmostBytes : Nat) (rplace : Nat) (rtapeF : Nat → Int32) (k4 : Nat) (n8 : Nat) (y40 : Int32) (y53 : Int32) (rplaceG_66 : Nat) (iv_rreader_0 : rlength ≤ 940) (iv_rreader_1 : rplace ≤ rlength) (iv_rreader_2 : rmostBytes ≤ 900) (j5 : k4 ≤ 940) (j6 : k4 ≤ rlength) (hm10 : 940 - k4 < n8 + 1) (c13 : rlength ≤ rmostBytes) (c39 : k4 < rlength) (e41 : y40 = rtapeF k4) (e54 : y53 = rtapeF k4) (p70 : rplaceG_66 ≤ rlength) (p71 : k4 ≤ rplaceG_66) : rplaceG_66 ≤ 940 := by
  have b_y40 := ia_b y40
  have b_y53 := ia_b y53
  try simp only [ia_lt, ia_le, ia_eq, ia_m1, ia_0, ia_1, ne_eq, true_and, and_true, false_and, and_false, or_false, false_or, or_true, true_or, not_true_eq_false, not_false_eq_true] at *
  all_goals omega
set_option maxRecDepth 20000 in
theorem lf_r_advance_6 (rlength : Nat) (rmostBytes : Nat) (rplace : Nat) (rtapeF : Nat → Int32) (k4 : Nat) (n8 : Nat) (y40 : Int32) (y53 : Int32) (rplaceG_66 : Nat) (iv_rreader_0 : rlength ≤ 940) (iv_rreader_1 : rplace ≤ rlength) (iv_rreader_2 : rmostBytes ≤ 900) (j5 : k4 ≤ 940) (j6 : k4 ≤ rlength) (hm10 : 940 - k4 < n8 + 1) (c13 : rlength ≤ rmostBytes) (c39 : k4 < rlength) (e41 : y40 = rtapeF k4) (e54 : y53 = rtapeF k4) (p70 : rplaceG_66 ≤ rlength) (p71 : k4 ≤ rplaceG_66) : k4 ≤ 900 := by
  have b_y40 := ia_b y40
  have b_y53 := ia_b y53
  try simp only [ia_lt, ia_le, ia_eq, ia_m1, ia_0, ia_1, ne_eq, true_and, and_true, false_and, and_false, or_false, false_or, or_true, true_or, not_true_eq_false, not_false_eq_true] at *
  all_goals omega
set_option maxRecDepth 20000 in
theorem lf_r_advance_7 (rlength : Nat) (rmostBytes : Nat) (rplace : Nat) (k4 : Nat) (n8 : Nat) (iv_rreader_0 : rlength ≤ 940) (iv_rreader_1 : rplace ≤ rlength) (iv_rreader_2 : rmostBytes ≤ 900) (j5 : k4 ≤ 940) (j6 : k4 ≤ rlength) (hm10 : 940 - k4 < n8 + 1) (c13 : rlength ≤ rmostBytes) (c39 : rlength ≤ k4) : k4 ≤ 900 := by
  try simp only [ia_lt, ia_le, ia_eq, ia_m1, ia_0, ia_1, ne_eq, true_and, and_true, false_and, and_false, or_false, false_or, or_true, true_or, not_true_eq_false, not_false_eq_true] at *
  all_goals omega
set_option maxRecDepth 20000 in
theorem lf_r_advance_8 (rlength : Nat) (rmostBytes : Nat) (rplace : Nat) (k4 : Nat) (n8 : Nat) (iv_rreader_0 : rlength ≤ 940) (iv_rreader_1 : rplace ≤ rlength) (iv_rreader_2 : rmostBytes ≤ 900) (j5 : k4 ≤ 940) (j6 : k4 ≤ rlength) (hm10 : 940 - k4 < n8 + 1) (c13 : rlength ≤ rmostBytes) (c39 : rlength ≤ k4) : k4 ≤ k4 := by
  try simp only [ia_lt, ia_le, ia_eq, ia_m1, ia_0, ia_1, ne_eq, true_and, and_true, false_and, and_false, or_false, false_or, or_true, true_or, not_true_eq_false, not_false_eq_true] at *
  all_goals omega
set_option maxRecDepth 20000 in
theorem lf_r_advance_9 (rlength : Nat) (rmostBytes : Nat) (rplace : Nat) (rtapeF : Nat → Int32) (k4 : Nat) (n8 : Nat) (y74 : Int32) (rplaceG_81 : Nat) (iv_rreader_0 : rlength ≤ 940) (iv_rreader_1 : rplace ≤ rlength) (iv_rreader_2 : rmostBytes ≤ 900) (j5 : k4 ≤ 940) (j6 : k4 ≤ rlength) (hm10 : 940 - k4 < n8 + 1) (c13 : rmostBytes < rlength) (c72 : k4 < rmostBytes) (c73 : k4 < rlength) (e75 : y74 = rtapeF k4) (p85 : rplaceG_81 ≤ rlength) (p86 : k4 ≤ rplaceG_81) : rplaceG_81 ≤ 940 := by
  have b_y74 := ia_b y74
  try simp only [ia_lt, ia_le, ia_eq, ia_m1, ia_0, ia_1, ne_eq, true_and, and_true, false_and, and_false, or_false, false_or, or_true, true_or, not_true_eq_false, not_false_eq_true] at *
  all_goals omega
set_option maxRecDepth 20000 in
theorem lf_r_advance_10 (rlength : Nat) (rmostBytes : Nat) (rplace : Nat) (rtapeF : Nat → Int32) (k4 : Nat) (n8 : Nat) (y74 : Int32) (rplaceG_81 : Nat) (iv_rreader_0 : rlength ≤ 940) (iv_rreader_1 : rplace ≤ rlength) (iv_rreader_2 : rmostBytes ≤ 900) (j5 : k4 ≤ 940) (j6 : k4 ≤ rlength) (hm10 : 940 - k4 < n8 + 1) (c13 : rmostBytes < rlength) (c72 : k4 < rmostBytes) (c73 : k4 < rlength) (e75 : y74 = rtapeF k4) (p85 : rplaceG_81 ≤ rlength) (p86 : k4 ≤ rplaceG_81) : k4 ≤ 900 := by
  have b_y74 := ia_b y74
  try simp only [ia_lt, ia_le, ia_eq, ia_m1, ia_0, ia_1, ne_eq, true_and, and_true, false_and, and_false, or_false, false_or, or_true, true_or, not_true_eq_false, not_false_eq_true] at *
  all_goals omega
set_option maxRecDepth 20000 in
theorem lf_r_advance_11 (rlength : Nat) (rmostBytes : Nat) (rplace : Nat) (rtapeF : Nat → Int32) (k4 : Nat) (n8 : Nat) (y74 : Int32) (y87 : Int32) (rplaceG_94 : Nat) (iv_rreader_0 : rlength ≤ 940) (iv_rreader_1 : rplace ≤ rlength) (iv_rreader_2 : rmostBytes ≤ 900) (j5 : k4 ≤ 940) (j6 : k4 ≤ rlength) (hm10 : 940 - k4 < n8 + 1) (c13 : rmostBytes < rlength) (c72 : k4 < rmostBytes) (c73 : k4 < rlength) (e75 : y74 = rtapeF k4) (e88 : y87 = rtapeF k4) (p96 : rplaceG_94 ≤ rlength) (p97 : k4 ≤ rplaceG_94) : rplaceG_94 ≤ 940 := by
  have b_y74 := ia_b y74
  have b_y87 := ia_b y87
  try simp only [ia_lt, ia_le, ia_eq, ia_m1, ia_0, ia_1, ne_eq, true_and, and_true, false_and, and_false, or_false, false_or, or_true, true_or, not_true_eq_false, not_false_eq_true] at *
  all_goals omega
set_option maxRecDepth 20000 in
theorem lf_r_advance_12 (rlength : Nat) (rmostBytes : Nat) (rplace : Nat) (rtapeF : Nat → Int32) (k4 : Nat) (n8 : Nat) (y74 : Int32) (y87 : Int32) (rplaceG_94 : Nat) (iv_rreader_0 : rlength ≤ 940) (iv_rreader_1 : rplace ≤ rlength) (iv_rreader_2 : rmostBytes ≤ 900) (j5 : k4 ≤ 940) (j6 : k4 ≤ rlength) (hm10 : 940 - k4 < n8 + 1) (c13 : rmostBytes < rlength) (c72 : k4 < rmostBytes) (c73 : k4 < rlength) (e75 : y74 = rtapeF k4) (e88 : y87 = rtapeF k4) (p96 : rplaceG_94 ≤ rlength) (p97 : k4 ≤ rplaceG_94) : k4 ≤ 900 := by
  have b_y74 := ia_b y74
  have b_y87 := ia_b y87
  try simp only [ia_lt, ia_le, ia_eq, ia_m1, ia_0, ia_1, ne_eq, true_and, and_true, false_and, and_false, or_false, false_or, or_true, true_or, not_true_eq_false, not_false_eq_true] at *
  all_goals omega
set_option maxRecDepth 20000 in
theorem lf_r_advance_13 (rlength : Nat) (rmostBytes : Nat) (rplace : Nat) (rtapeF : Nat → Int32) (k4 : Nat) (n8 : Nat) (y74 : Int32) (y87 : Int32) (rplaceG_100 : Nat) (iv_rreader_0 : rlength ≤ 940) (iv_rreader_1 : rplace ≤ rlength) (iv_rreader_2 : rmostBytes ≤ 900) (j5 : k4 ≤ 940) (j6 : k4 ≤ rlength) (hm10 : 940 - k4 < n8 + 1) (c13 : rmostBytes < rlength) (c72 : k4 < rmostBytes) (c73 : k4 < rlength) (e75 : y74 = rtapeF k4) (e88 : y87 = rtapeF k4) (p104 : rplaceG_100 ≤ rlength) (p105 : k4 ≤ rplaceG_100) : rplaceG_100 ≤ 940 := by
  have b_y74 := ia_b y74
  have b_y87 := ia_b y87
  try simp only [ia_lt, ia_le, ia_eq, ia_m1, ia_0, ia_1, ne_eq, true_and, and_true, false_and, and_false, or_false, false_or, or_true, true_or, not_true_eq_false, not_false_eq_true] at *
  all_goals omega
set_option maxRecDepth 20000 in
theorem lf_r_advance_14 (rlength : Nat) (rmostBytes : Nat) (rplace : Nat) (rtapeF : Nat → Int32) (k4 : Nat) (n8 : Nat) (y74 : Int32) (y87 : Int32) (rplaceG_100 : Nat) (iv_rreader_0 : rlength ≤ 940) (iv_rreader_1 : rplace ≤ rlength) (iv_rreader_2 : rmostBytes ≤ 900) (j5 : k4 ≤ 940) (j6 : k4 ≤ rlength) (hm10 : 940 - k4 < n8 + 1) (c13 : rmostBytes < rlength) (c72 : k4 < rmostBytes) (c73 : k4 < rlength) (e75 : y74 = rtapeF k4) (e88 : y87 = rtapeF k4) (p104 : rplaceG_100 ≤ rlength) (p105 : k4 ≤ rplaceG_100) : k4 ≤ 900 := by
  have b_y74 := ia_b y74
  have b_y87 := ia_b y87
  try simp only [ia_lt, ia_le, ia_eq, ia_m1, ia_0, ia_1, ne_eq, true_and, and_true, false_and, and_false, or_false, false_or, or_true, true_or, not_true_eq_false, not_false_eq_true] at *
  all_goals omega
set_option maxRecDepth 20000 in
theorem lf_r_advance_15 (rlength : Nat) (rmostBytes : Nat) (rplace : Nat) (k4 : Nat) (n8 : Nat) (iv_rreader_0 : rlength ≤ 940) (iv_rreader_1 : rplace ≤ rlength) (iv_rreader_2 : rmostBytes ≤ 900) (j5 : k4 ≤ 940) (j6 : k4 ≤ rlength) (hm10 : 940 - k4 < n8 + 1) (c13 : rmostBytes < rlength) (c72 : k4 < rmostBytes) (c73 : rlength ≤ k4) : k4 ≤ 900 := by
  try simp only [ia_lt, ia_le, ia_eq, ia_m1, ia_0, ia_1, ne_eq, true_and, and_true, false_and, and_false, or_false, false_or, or_true, true_or, not_true_eq_false, not_false_eq_true] at *
  all_goals omega
set_option maxRecDepth 20000 in
theorem lf_r_advance_16 (rlength : Nat) (rmostBytes : Nat) (rplace : Nat) (k4 : Nat) (n8 : Nat) (iv_rreader_0 : rlength ≤ 940) (iv_rreader_1 : rplace ≤ rlength) (iv_rreader_2 : rmostBytes ≤ 900) (j5 : k4 ≤ 940) (j6 : k4 ≤ rlength) (hm10 : 940 - k4 < n8 + 1) (c13 : rmostBytes < rlength) (c72 : k4 < rmostBytes) (c73 : rlength ≤ k4) : k4 ≤ k4 := by
  try simp only [ia_lt, ia_le, ia_eq, ia_m1, ia_0, ia_1, ne_eq, true_and, and_true, false_and, and_false, or_false, false_or, or_true, true_or, not_true_eq_false, not_false_eq_true] at *
  all_goals omega
set_option maxRecDepth 20000 in
theorem lf_r_advance_17 (rlength : Nat) (rmostBytes : Nat) (rplace : Nat) (k4 : Nat) (n8 : Nat) (iv_rreader_0 : rlength ≤ 940) (iv_rreader_1 : rplace ≤ rlength) (iv_rreader_2 : rmostBytes ≤ 900) (j5 : k4 ≤ 940) (j6 : k4 ≤ rlength) (hm10 : 940 - k4 < n8 + 1) (c13 : rmostBytes < rlength) (c72 : rmostBytes ≤ k4) : rmostBytes ≤ 940 := by
  try simp only [ia_lt, ia_le, ia_eq, ia_m1, ia_0, ia_1, ne_eq, true_and, and_true, false_and, and_false, or_false, false_or, or_true, true_or, not_true_eq_false, not_false_eq_true] at *
  all_goals omega
set_option maxRecDepth 20000 in
theorem lf_r_advance_18 (rlength : Nat) (rplace : Nat) (rtapeF : Nat → Int32) (k4 : Nat) (n8 : Nat) (y106 : Int32) (iv_rreader_0 : rlength ≤ 940) (iv_rreader_1 : rplace ≤ rlength) (j5 : k4 ≤ 940) (j6 : k4 ≤ rlength) (hm10 : 940 - k4 < n8 + 1) (c11 : k4 < rlength) (e107 : y106 = rtapeF k4) (c108 : y106 = nI 32) : (k4 + 1) ≤ 940 := by
  have b_y106 := ia_b y106
  try have k_0 := ia_n 32 (by first | decide | omega)
  try simp only [ia_lt, ia_le, ia_eq, ia_m1, ia_0, ia_1, ne_eq, true_and, and_true, false_and, and_false, or_false, false_or, or_true, true_or, not_true_eq_false, not_false_eq_true] at *
  all_goals omega
set_option maxRecDepth 20000 in
theorem lf_r_advance_19 (rlength : Nat) (rplace : Nat) (rtapeF : Nat → Int32) (k4 : Nat) (n8 : Nat) (y106 : Int32) (iv_rreader_0 : rlength ≤ 940) (iv_rreader_1 : rplace ≤ rlength) (j5 : k4 ≤ 940) (j6 : k4 ≤ rlength) (hm10 : 940 - k4 < n8 + 1) (c11 : k4 < rlength) (e107 : y106 = rtapeF k4) (c108 : y106 = nI 32) : (k4 + 1) ≤ rlength := by
  have b_y106 := ia_b y106
  try have k_0 := ia_n 32 (by first | decide | omega)
  try simp only [ia_lt, ia_le, ia_eq, ia_m1, ia_0, ia_1, ne_eq, true_and, and_true, false_and, and_false, or_false, false_or, or_true, true_or, not_true_eq_false, not_false_eq_true] at *
  all_goals omega
set_option maxRecDepth 20000 in
theorem lf_r_advance_20 (rlength : Nat) (rplace : Nat) (rtapeF : Nat → Int32) (k4 : Nat) (n8 : Nat) (y106 : Int32) (iv_rreader_0 : rlength ≤ 940) (iv_rreader_1 : rplace ≤ rlength) (j5 : k4 ≤ 940) (j6 : k4 ≤ rlength) (hm10 : 940 - k4 < n8 + 1) (c11 : k4 < rlength) (e107 : y106 = rtapeF k4) (c108 : y106 = nI 32) : 940 - (k4 + 1) < n8 := by
  have b_y106 := ia_b y106
  try have k_0 := ia_n 32 (by first | decide | omega)
  try simp only [ia_lt, ia_le, ia_eq, ia_m1, ia_0, ia_1, ne_eq, true_and, and_true, false_and, and_false, or_false, false_or, or_true, true_or, not_true_eq_false, not_false_eq_true] at *
  all_goals omega
set_option maxRecDepth 20000 in
theorem lf_r_advance_21 (rlength : Nat) (rplace : Nat) (rtapeF : Nat → Int32) (k4 : Nat) (n8 : Nat) (y106 : Int32) (y109 : Int32) (iv_rreader_0 : rlength ≤ 940) (iv_rreader_1 : rplace ≤ rlength) (j5 : k4 ≤ 940) (j6 : k4 ≤ rlength) (hm10 : 940 - k4 < n8 + 1) (c11 : k4 < rlength) (e107 : y106 = rtapeF k4) (c108 : ¬ y106 = nI 32) (e110 : y109 = rtapeF k4) (c111 : y109 = nI 10) : (k4 + 1) ≤ 940 := by
  have b_y106 := ia_b y106
  have b_y109 := ia_b y109
  try have k_0 := ia_n 32 (by first | decide | omega)
  try have k_1 := ia_n 10 (by first | decide | omega)
  try simp only [ia_lt, ia_le, ia_eq, ia_m1, ia_0, ia_1, ne_eq, true_and, and_true, false_and, and_false, or_false, false_or, or_true, true_or, not_true_eq_false, not_false_eq_true] at *
  all_goals omega
set_option maxRecDepth 20000 in
theorem lf_r_advance_22 (rlength : Nat) (rplace : Nat) (rtapeF : Nat → Int32) (k4 : Nat) (n8 : Nat) (y106 : Int32) (y109 : Int32) (iv_rreader_0 : rlength ≤ 940) (iv_rreader_1 : rplace ≤ rlength) (j5 : k4 ≤ 940) (j6 : k4 ≤ rlength) (hm10 : 940 - k4 < n8 + 1) (c11 : k4 < rlength) (e107 : y106 = rtapeF k4) (c108 : ¬ y106 = nI 32) (e110 : y109 = rtapeF k4) (c111 : y109 = nI 10) : (k4 + 1) ≤ rlength := by
  have b_y106 := ia_b y106
  have b_y109 := ia_b y109
  try have k_0 := ia_n 32 (by first | decide | omega)
  try have k_1 := ia_n 10 (by first | decide | omega)
  try simp only [ia_lt, ia_le, ia_eq, ia_m1, ia_0, ia_1, ne_eq, true_and, and_true, false_and, and_false, or_false, false_or, or_true, true_or, not_true_eq_false, not_false_eq_true] at *
  all_goals omega
set_option maxRecDepth 20000 in
theorem lf_r_advance_23 (rlength : Nat) (rplace : Nat) (rtapeF : Nat → Int32) (k4 : Nat) (n8 : Nat) (y106 : Int32) (y109 : Int32) (iv_rreader_0 : rlength ≤ 940) (iv_rreader_1 : rplace ≤ rlength) (j5 : k4 ≤ 940) (j6 : k4 ≤ rlength) (hm10 : 940 - k4 < n8 + 1) (c11 : k4 < rlength) (e107 : y106 = rtapeF k4) (c108 : ¬ y106 = nI 32) (e110 : y109 = rtapeF k4) (c111 : y109 = nI 10) : 940 - (k4 + 1) < n8 := by
  have b_y106 := ia_b y106
  have b_y109 := ia_b y109
  try have k_0 := ia_n 32 (by first | decide | omega)
  try have k_1 := ia_n 10 (by first | decide | omega)
  try simp only [ia_lt, ia_le, ia_eq, ia_m1, ia_0, ia_1, ne_eq, true_and, and_true, false_and, and_false, or_false, false_or, or_true, true_or, not_true_eq_false, not_false_eq_true] at *
  all_goals omega
set_option maxRecDepth 20000 in
theorem lf_r_advance_24 (rlength : Nat) (rplace : Nat) (iv_rreader_0 : rlength ≤ 940) (iv_rreader_1 : rplace ≤ rlength) : rplace ≤ 940 := by
  try simp only [ia_lt, ia_le, ia_eq, ia_m1, ia_0, ia_1, ne_eq, true_and, and_true, false_and, and_false, or_false, false_or, or_true, true_or, not_true_eq_false, not_false_eq_true] at *
  all_goals omega
set_option maxHeartbeats 4000000 in
set_option maxRecDepth 100000 in
theorem c_r_advance (l : Launch) (dC : Nat → ClassId) (dI : Nat → Nat → Nat) (ky : Nat → ClassId) (sz : Nat) (adK : Nat → Nat) (adV : Nat → Nat) (reader : Nat) (rtape : Nat) (rlength : Nat) (rmostBytes : Nat) (rplace : Nat) (rkind : Int32) (rbegin : Nat) (rword : Int32) (rnumber : Int32) (rletters : Int64) (rfaultKind : Int32) (rfaultPlace : Int32) (rtapeF : Nat → Int32) (iv_rreader_0 : rlength ≤ 940) (iv_rreader_1 : rplace ≤ rlength) (iv_rreader_2 : rmostBytes ≤ 900) (iv_rreader_3 : rbegin ≤ 940) : Met l yX5_advance wsX5_advance ({ frames := 5, cells := 0, slots := 0, locals := 111 }) (PcUE dC dI ky adK adV [.ref reader] [(reader, .inr (5, [.ref rtape, .int (nI rlength), .int (nI rmostBytes), .int (nI rplace), .int rkind, .int (nI rbegin), .int rword, .int rnumber, .long rletters, .int rfaultKind, .int rfaultPlace])), (rtape, .inl (ky 2, 940, .inl rtapeF))] sz) (va_Qv (fun (u : Nat × Int32 × Nat × Int32 × Int32 × Int64) => match u with | (rplaceG, rkindG, rbeginG, rwordG, rnumberG, rlettersG) => (rplaceG ≤ rlength) ∧ (rbeginG ≤ 940)) (BU dC dI ky (fun (u : Nat × Int32 × Nat × Int32 × Int32 × Int64) => match u with | (rplaceG, rkindG, rbeginG, rwordG, rnumberG, rlettersG) => [(reader, .inr (5, [.ref rtape, .int (nI rlength), .int (nI rmostBytes), .int (nI rplaceG), .int rkindG, .int (nI rbeginG), .int rwordG, .int rnumberG, .long rlettersG, .int rfaultKind, .int rfaultPlace])), (rtape, .inl (ky 2, 940, .inl rtapeF))]) (va_A [(reader, .inr (5, [.ref rtape, .int (nI rlength), .int (nI rmostBytes), .int (nI rplace), .int rkind, .int (nI rbegin), .int rword, .int rnumber, .long rletters, .int rfaultKind, .int rfaultPlace])), (rtape, .inl (ky 2, 940, .inl rtapeF))] sz)) (va_A [(reader, .inr (5, [.ref rtape, .int (nI rlength), .int (nI rmostBytes), .int (nI rplace), .int rkind, .int (nI rbegin), .int rword, .int rnumber, .long rletters, .int rfaultKind, .int rfaultPlace])), (rtape, .inl (ky 2, 940, .inl rtapeF))] sz)) 0 0 (va_A [(reader, .inr (5, [.ref rtape, .int (nI rlength), .int (nI rmostBytes), .int (nI rplace), .int rkind, .int (nI rbegin), .int rword, .int rnumber, .long rletters, .int rfaultKind, .int rfaultPlace])), (rtape, .inl (ky 2, 940, .inl rtapeF))] sz) := by
  refine Met.ofW (cc := cX5_advance) (maxL := 1) (ret := none) (by decide) rfl ?_
  intro p e s m args below meth c s₁ B hml hv
  obtain ⟨rfl, hsz, hP, hK, hD0, hE⟩ := hv
  have hx := B.exec
  have hb := B.bytes
  have hr := B.returns
  have hts := atoms_spec (ws := wsX5_advance) B.pre
  have hown : s.vm.findClass RX5 = some m.cls := findClass_of_methodNamed B.named
  have hlocks := B.notSynchronized
  have hin5 : ∀ w ∈ u_ws RX5 TX5 11, w ∈ wsX5_advance := by decide +kernel
  subst hsz
  have hD := hD0.self (sz := s.heap.size)
  generalize hAe : va_A [(reader, .inr (5, [.ref rtape, .int (nI rlength), .int (nI rmostBytes), .int (nI rplace), .int rkind, .int (nI rbegin), .int rword, .int rnumber, .long rletters, .int rfaultKind, .int rfaultPlace])), (rtape, .inl (ky 2, 940, .inl rtapeF))] s.heap.size = A at hD hE ⊢
  have hA : ∀ q : Nat, s.heap.size ≤ q → A q := fun q h => by rw [← hAe]; exact Or.inr h
  have hS : va_S A s.heap s.heap [] := va_S.rf
  have hl := lv_entry ([.ref reader]) (n := 1) (Nat.le_of_ble_eq_true rfl)
  rw [lg_entry_eq]
  generalize (lg_sl ([.ref reader]) ++ List.replicate (1 - (lg_sl ([.ref reader])).length) Slot.unset).toArray = ls at hl ⊢
  have hl : lv_has ls 1 [(0, .ref reader)] := hl
  refine q_name (fun Q hQ => ?_)
  generalize ([.ref reader] : List Value).toArray = args at hts hQ ⊢
  have hL7 : ∀ (n8 : Nat) (k4 : Nat), (k4 ≤ 940) → (k4 ≤ rlength) → 940 - k4 < n8 → ∀ (H : Heap) (locs : List Loc) (ls : Array Slot), va_P (dC, dI) vwCl [(reader, .inr (5, [.ref rtape, .int (nI rlength), .int (nI rmostBytes), .int (nI k4), .int rkind, .int (nI rbegin), .int rword, .int rnumber, .long rletters, .int rfaultKind, .int rfaultPlace])), (rtape, .inl (ky 2, 940, .inl rtapeF))] H → va_D A [(reader, .inr (5, [.ref rtape, .int (nI rlength), .int (nI rmostBytes), .int (nI k4), .int rkind, .int (nI rbegin), .int rword, .int rnumber, .long rletters, .int rfaultKind, .int rfaultPlace])), (rtape, .inl (ky 2, 940, .inl rtapeF))] → va_S A s.heap H locs → lv_has ls 1 [(0, .ref reader)] → W p l e (headSpec wsX5_advance ({ frames := 5, cells := 0, slots := 0, locals := 111 })).room s m args below meth c H locs 0 0 Q (F0 m 0 ls []) := by
    intro n8
    induction n8 with
    | zero => intro k4 _ _ h9; exact absurd h9 (Nat.not_lt_zero _)
    | succ n8 ih9 =>
      intro k4 j5 j6 hm10 H locs ls hP hD hS hl
      refine lv_aload_n hx hb dX5_advance_0 rfl (lv_at hl 0 rfl) ?_
      refine va_get (D := (dC, dI)) (ci := 5) (v := .int (nI k4)) (C := RX5) (T := TX5) (N := 11) hx hb hts hin5 hown hK hP 0 rfl rfl 3 (by decide) (hts (.fieldLink RX5 28 "PorridgeSea$Reader" "place" "I") (List.mem_of_getElem? (i := 1) rfl)) (fun _ h9 => h9) rfl dX5_advance_1 ?_
      refine lv_aload_n hx hb dX5_advance_4 rfl (lv_at hl 0 rfl) ?_
      refine va_get (D := (dC, dI)) (ci := 5) (v := .int (nI rlength)) (C := RX5) (T := TX5) (N := 11) hx hb hts hin5 hown hK hP 0 rfl rfl 1 (by decide) (hts (.fieldLink RX5 21 "PorridgeSea$Reader" "length" "I") (List.mem_of_getElem? (i := 2) rfl)) (fun _ h9 => h9) rfl dX5_advance_5 ?_
      have hJ12 : ∀ (H : Heap) (locs : List Loc) (ls : Array Slot), va_P (dC, dI) vwCl [(reader, .inr (5, [.ref rtape, .int (nI rlength), .int (nI rmostBytes), .int (nI k4), .int rkind, .int (nI rbegin), .int rword, .int rnumber, .long rletters, .int rfaultKind, .int rfaultPlace])), (rtape, .inl (ky 2, 940, .inl rtapeF))] H → va_D A [(reader, .inr (5, [.ref rtape, .int (nI rlength), .int (nI rmostBytes), .int (nI k4), .int rkind, .int (nI rbegin), .int rword, .int rnumber, .long rletters, .int rfaultKind, .int rfaultPlace])), (rtape, .inl (ky 2, 940, .inl rtapeF))] → va_S A s.heap H locs → lv_has ls 1 [(0, .ref reader)] → W p l e (headSpec wsX5_advance ({ frames := 5, cells := 0, slots := 0, locals := 111 })).room s m args below meth c H locs 0 0 Q (F0 m 52 ls []) := by
        intro  H locs ls hP hD hS hl
        refine lv_aload_n hx hb dX5_advance_52 rfl (lv_at hl 0 rfl) ?_
        refine lv_aload_n hx hb dX5_advance_53 rfl (lv_at hl 0 rfl) ?_
        refine va_get (D := (dC, dI)) (ci := 5) (v := .int (nI k4)) (C := RX5) (T := TX5) (N := 11) hx hb hts hin5 hown hK hP 0 rfl rfl 3 (by decide) (hts (.fieldLink RX5 28 "PorridgeSea$Reader" "place" "I") (List.mem_of_getElem? (i := 1) rfl)) (fun _ h9 => h9) rfl dX5_advance_54 ?_
        refine va_put (D := (dC, dI)) (ci := 5) (v := .int (nI k4)) (ty := .int) (C := RX5) (T := TX5) (N := 11) hx hb hts hin5 tyX5 tyX5_ok nmX5 hown hK hP hD hS 0 rfl rfl 5 (by decide) (hts (.fieldLink RX5 40 "PorridgeSea$Reader" "begin" "I") (List.mem_of_getElem? (i := 4) rfl)) (fun _ h9 => h9) rfl (by decide +kernel) rfl rfl (Nat.le_of_ble_eq_true rfl) dX5_advance_57 (fun H locs hP hD hS => ?_)
        have hP : va_P (dC, dI) vwCl [(reader, .inr (5, [.ref rtape, .int (nI rlength), .int (nI rmostBytes), .int (nI k4), .int rkind, .int (nI k4), .int rword, .int rnumber, .long rletters, .int rfaultKind, .int rfaultPlace])), (rtape, .inl (ky 2, 940, .inl rtapeF))] H := hP
        have hD : va_D A [(reader, .inr (5, [.ref rtape, .int (nI rlength), .int (nI rmostBytes), .int (nI k4), .int rkind, .int (nI k4), .int rword, .int rnumber, .long rletters, .int rfaultKind, .int rfaultPlace])), (rtape, .inl (ky 2, 940, .inl rtapeF))] := hD
        refine lv_aload_n hx hb dX5_advance_60 rfl (lv_at hl 0 rfl) ?_
        refine lv_iconst (v := (-1 : Int32)) hx hb dX5_advance_61 (by decide) ?_
        refine va_put (D := (dC, dI)) (ci := 5) (v := .int (-1 : Int32)) (ty := .int) (C := RX5) (T := TX5) (N := 11) hx hb hts hin5 tyX5 tyX5_ok nmX5 hown hK hP hD hS 0 rfl rfl 6 (by decide) (hts (.fieldLink RX5 43 "PorridgeSea$Reader" "word" "I") (List.mem_of_getElem? (i := 5) rfl)) (fun _ h9 => h9) rfl (by decide +kernel) rfl rfl (Nat.le_of_ble_eq_true rfl) dX5_advance_62 (fun H locs hP hD hS => ?_)
        have hP : va_P (dC, dI) vwCl [(reader, .inr (5, [.ref rtape, .int (nI rlength), .int (nI rmostBytes), .int (nI k4), .int rkind, .int (nI k4), .int (-1 : Int32), .int rnumber, .long rletters, .int rfaultKind, .int rfaultPlace])), (rtape, .inl (ky 2, 940, .inl rtapeF))] H := hP
        have hD : va_D A [(reader, .inr (5, [.ref rtape, .int (nI rlength), .int (nI rmostBytes), .int (nI k4), .int rkind, .int (nI k4), .int (-1 : Int32), .int rnumber, .long rletters, .int rfaultKind, .int rfaultPlace])), (rtape, .inl (ky 2, 940, .inl rtapeF))] := hD
        refine lv_aload_n hx hb dX5_advance_65 rfl (lv_at hl 0 rfl) ?_
        refine va_get (D := (dC, dI)) (ci := 5) (v := .int (nI rlength)) (C := RX5) (T := TX5) (N := 11) hx hb hts hin5 hown hK hP 0 rfl rfl 1 (by decide) (hts (.fieldLink RX5 21 "PorridgeSea$Reader" "length" "I") (List.mem_of_getElem? (i := 2) rfl)) (fun _ h9 => h9) rfl dX5_advance_66 ?_
        refine lv_aload_n hx hb dX5_advance_69 rfl (lv_at hl 0 rfl) ?_
        refine va_get (D := (dC, dI)) (ci := 5) (v := .int (nI rmostBytes)) (C := RX5) (T := TX5) (N := 11) hx hb hts hin5 hown hK hP 0 rfl rfl 2 (by decide) (hts (.fieldLink RX5 25 "PorridgeSea$Reader" "mostBytes" "I") (List.mem_of_getElem? (i := 6) rfl)) (fun _ h9 => h9) rfl dX5_advance_70 ?_
        have hJ24 : ∀ (k14 : Nat) (x15 : Int32) (k16 : Nat) (x17 : Int32) (w18 : Int64), (k14 ≤ 940) → (k16 ≤ 900) → (k14 ≤ rlength) → (k16 ≤ 940) → (k16 ≤ k14) → ∀ (H : Heap) (locs : List Loc) (ls : Array Slot), va_P (dC, dI) vwCl [(reader, .inr (5, [.ref rtape, .int (nI rlength), .int (nI rmostBytes), .int (nI k14), .int x15, .int (nI k16), .int (-1 : Int32), .int x17, .long w18, .int rfaultKind, .int rfaultPlace])), (rtape, .inl (ky 2, 940, .inl rtapeF))] H → va_D A [(reader, .inr (5, [.ref rtape, .int (nI rlength), .int (nI rmostBytes), .int (nI k14), .int x15, .int (nI k16), .int (-1 : Int32), .int x17, .long w18, .int rfaultKind, .int rfaultPlace])), (rtape, .inl (ky 2, 940, .inl rtapeF))] → va_S A s.heap H locs → lv_has ls 1 [(0, .ref reader)] → W p l e (headSpec wsX5_advance ({ frames := 5, cells := 0, slots := 0, locals := 111 })).room s m args below meth c H locs 0 0 Q (F0 m 163 ls []) := by
          intro k14 x15 k16 x17 w18 j19 j20 j21 j22 j23 H locs ls hP hD hS hl
          refine lv_aload_n hx hb dX5_advance_163 rfl (lv_at hl 0 rfl) ?_
          refine va_get (D := (dC, dI)) (ci := 5) (v := .int x15) (C := RX5) (T := TX5) (N := 11) hx hb hts hin5 hown hK hP 0 rfl rfl 4 (by decide) (hts (.fieldLink RX5 46 "PorridgeSea$Reader" "kind" "I") (List.mem_of_getElem? (i := 7) rfl)) (fun _ h9 => h9) rfl dX5_advance_164 ?_
          refine lv_iconst (v := nI 2) hx hb dX5_advance_167 (by decide) ?_
          refine lv_icmp_ne (tgt := 238) hx hb dX5_advance_168 (by decide) (fun c25 => ?_) (fun c25 => ?_)
          · rw [hQ]
            exact W.vret hx hb hr (fun t9 ht9 hW9 => ⟨⟨(k14, x15, k16, (-1 : Int32), x17, w18), rfl, ⟨j21, j22⟩, by rw [ht9]; exact hP, va_K.moved hW9.alike hK, hD⟩, hS.F ht9⟩) hS.2.2 dX5_advance_238
          · refine lv_aload_n hx hb dX5_advance_171 rfl (lv_at hl 0 rfl) ?_
            refine lv_aload_n hx hb dX5_advance_172 rfl (lv_at hl 0 rfl) ?_
            refine va_ldcS hx hb hown (hE.2.2.2.1) dX5_advance_173 ?_
            refine lv_iconst (v := nI 0) hx hb dX5_advance_175 (by decide) ?_
            refine r_call_i (wr := []) (va_runV (As := [.ref (adK 0), .int (nI 0)]) (rest := [.ref reader]) ⟨hx, hb, hml, hown, hts⟩ (c_r_wordIn0 l dC dI ky H.size adK adV reader rtape rlength rmostBytes k14 x15 k16 (-1 : Int32) x17 w18 rfaultKind rfaultPlace rtapeF (nI 0) iv_rreader_0 j21 iv_rreader_2 j22 j23) (cwV 2 hts gX5_advance_X5_wordIn rfl rfl rfl (by decide +kernel) ⟨(Nat.le_of_ble_eq_true rfl), (Nat.le_of_ble_eq_true rfl)⟩) (pre_UEV hE hS hA hK hP hD [0, 1] (by decide) rfl (va_recv hK hP (ci := 5) (q0 := 0) rfl rfl)) rfl rfl hl.1 rfl (lv_room (Nat.le_of_ble_eq_true rfl)) dX5_advance_176 ⟨(Nat.le_of_ble_eq_true rfl), (Nat.le_of_ble_eq_true rfl)⟩) hP hD hS hA [0, 1] [] rfl rfl (by decide) (by decide) (fun r28 u26 H locs p27 hP hD hS => ?_)
            refine W.widen (k := 0) (n := 0) (Nat.le_of_ble_eq_true rfl) (Nat.le_of_ble_eq_true rfl) ?_
            have hP : va_P (dC, dI) vwCl [(reader, .inr (5, [.ref rtape, .int (nI rlength), .int (nI rmostBytes), .int (nI k14), .int x15, .int (nI k16), .int (-1 : Int32), .int x17, .long w18, .int rfaultKind, .int rfaultPlace])), (rtape, .inl (ky 2, 940, .inl rtapeF))] H := hP
            have hD : va_D A [(reader, .inr (5, [.ref rtape, .int (nI rlength), .int (nI rmostBytes), .int (nI k14), .int x15, .int (nI k16), .int (-1 : Int32), .int x17, .long w18, .int rfaultKind, .int rfaultPlace])), (rtape, .inl (ky 2, 940, .inl rtapeF))] := hD
            refine va_put (D := (dC, dI)) (ci := 5) (v := .int r28) (ty := .int) (C := RX5) (T := TX5) (N := 11) hx hb hts hin5 tyX5 tyX5_ok nmX5 hown hK hP hD hS 0 rfl rfl 6 (by decide) (hts (.fieldLink RX5 43 "PorridgeSea$Reader" "word" "I") (List.mem_of_getElem? (i := 5) rfl)) (fun _ h9 => h9) rfl (by decide +kernel) rfl rfl (Nat.le_of_ble_eq_true rfl) dX5_advance_179 (fun H locs hP hD hS => ?_)
            have hP : va_P (dC, dI) vwCl [(reader, .inr (5, [.ref rtape, .int (nI rlength), .int (nI rmostBytes), .int (nI k14), .int x15, .int (nI k16), .int r28, .int x17, .long w18, .int rfaultKind, .int rfaultPlace])), (rtape, .inl (ky 2, 940, .inl rtapeF))] H := hP
            have hD : va_D A [(reader, .inr (5, [.ref rtape, .int (nI rlength), .int (nI rmostBytes), .int (nI k14), .int x15, .int (nI k16), .int r28, .int x17, .long w18, .int rfaultKind, .int rfaultPlace])), (rtape, .inl (ky 2, 940, .inl rtapeF))] := hD
            refine lv_aload_n hx hb dX5_advance_182 rfl (lv_at hl 0 rfl) ?_
            refine lv_aload_n hx hb dX5_advance_183 rfl (lv_at hl 0 rfl) ?_
            refine va_get (D := (dC, dI)) (ci := 5) (v := .int r28) (C := RX5) (T := TX5) (N := 11) hx hb hts hin5 hown hK hP 0 rfl rfl 6 (by decide) (hts (.fieldLink RX5 43 "PorridgeSea$Reader" "word" "I") (List.mem_of_getElem? (i := 5) rfl)) (fun _ h9 => h9) rfl dX5_advance_184 ?_
            refine lv_bipush (v := nI 31) hx hb dX5_advance_187 (by decide) ?_
            have hJ31 : ∀ (x30 : Int32), ∀ (H : Heap) (locs : List Loc) (ls : Array Slot), va_P (dC, dI) vwCl [(reader, .inr (5, [.ref rtape, .int (nI rlength), .int (nI rmostBytes), .int (nI k14), .int x15, .int (nI k16), .int r28, .int x17, .long w18, .int rfaultKind, .int rfaultPlace])), (rtape, .inl (ky 2, 940, .inl rtapeF))] H → va_D A [(reader, .inr (5, [.ref rtape, .int (nI rlength), .int (nI rmostBytes), .int (nI k14), .int x15, .int (nI k16), .int r28, .int x17, .long w18, .int rfaultKind, .int rfaultPlace])), (rtape, .inl (ky 2, 940, .inl rtapeF))] → va_S A s.heap H locs → lv_has ls 1 [(0, .ref reader)] → W p l e (headSpec wsX5_advance ({ frames := 5, cells := 0, slots := 0, locals := 111 })).room s m args below meth c H locs 0 0 Q (F0 m 207 ls [.int x30, .ref reader]) := by
              intro x30 H locs ls hP hD hS hl
              refine va_put (D := (dC, dI)) (ci := 5) (v := .int x30) (ty := .int) (C := RX5) (T := TX5) (N := 11) hx hb hts hin5 tyX5 tyX5_ok nmX5 hown hK hP hD hS 0 rfl rfl 6 (by decide) (hts (.fieldLink RX5 43 "PorridgeSea$Reader" "word" "I") (List.mem_of_getElem? (i := 5) rfl)) (fun _ h9 => h9) rfl (by decide +kernel) rfl rfl (Nat.le_of_ble_eq_true rfl) dX5_advance_207 (fun H locs hP hD hS => ?_)
              have hP : va_P (dC, dI) vwCl [(reader, .inr (5, [.ref rtape, .int (nI rlength), .int (nI rmostBytes), .int (nI k14), .int x15, .int (nI k16), .int x30, .int x17, .long w18, .int rfaultKind, .int rfaultPlace])), (rtape, .inl (ky 2, 940, .inl rtapeF))] H := hP
              have hD : va_D A [(reader, .inr (5, [.ref rtape, .int (nI rlength), .int (nI rmostBytes), .int (nI k14), .int x15, .int (nI k16), .int x30, .int x17, .long w18, .int rfaultKind, .int rfaultPlace])), (rtape, .inl (ky 2, 940, .inl rtapeF))] := hD
              refine lv_aload_n hx hb dX5_advance_210 rfl (lv_at hl 0 rfl) ?_
              refine lv_aload_n hx hb dX5_advance_211 rfl (lv_at hl 0 rfl) ?_
              refine va_get (D := (dC, dI)) (ci := 5) (v := .int x30) (C := RX5) (T := TX5) (N := 11) hx hb hts hin5 hown hK hP 0 rfl rfl 6 (by decide) (hts (.fieldLink RX5 43 "PorridgeSea$Reader" "word" "I") (List.mem_of_getElem? (i := 5) rfl)) (fun _ h9 => h9) rfl dX5_advance_212 ?_
              refine lv_bipush (v := nI 31) hx hb dX5_advance_215 (by decide) ?_
              refine lv_icmp_ne (tgt := 231) hx hb dX5_advance_217 (by decide) (fun c32 => ?_) (fun c32 => ?_)
              · refine lv_aload_n hx hb dX5_advance_231 rfl (lv_at hl 0 rfl) ?_
                refine va_get (D := (dC, dI)) (ci := 5) (v := .int x30) (C := RX5) (T := TX5) (N := 11) hx hb hts hin5 hown hK hP 0 rfl rfl 6 (by decide) (hts (.fieldLink RX5 43 "PorridgeSea$Reader" "word" "I") (List.mem_of_getElem? (i := 5) rfl)) (fun _ h9 => h9) rfl dX5_advance_232 ?_
                refine va_put (D := (dC, dI)) (ci := 5) (v := .int x30) (ty := .int) (C := RX5) (T := TX5) (N := 11) hx hb hts hin5 tyX5 tyX5_ok nmX5 hown hK hP hD hS 0 rfl rfl 6 (by decide) (hts (.fieldLink RX5 43 "PorridgeSea$Reader" "word" "I") (List.mem_of_getElem? (i := 5) rfl)) (fun _ h9 => h9) rfl (by decide +kernel) rfl rfl (Nat.le_of_ble_eq_true rfl) dX5_advance_235 (fun H locs hP hD hS => ?_)
                have hP : va_P (dC, dI) vwCl [(reader, .inr (5, [.ref rtape, .int (nI rlength), .int (nI rmostBytes), .int (nI k14), .int x15, .int (nI k16), .int x30, .int x17, .long w18, .int rfaultKind, .int rfaultPlace])), (rtape, .inl (ky 2, 940, .inl rtapeF))] H := hP
                have hD : va_D A [(reader, .inr (5, [.ref rtape, .int (nI rlength), .int (nI rmostBytes), .int (nI k14), .int x15, .int (nI k16), .int x30, .int x17, .long w18, .int rfaultKind, .int rfaultPlace])), (rtape, .inl (ky 2, 940, .inl rtapeF))] := hD
                rw [hQ]
                exact W.vret hx hb hr (fun t9 ht9 hW9 => ⟨⟨(k14, x15, k16, x30, x17, w18), rfl, ⟨j21, j22⟩, by rw [ht9]; exact hP, va_K.moved hW9.alike hK, hD⟩, hS.F ht9⟩) hS.2.2 dX5_advance_238
              · refine lv_aload_n hx hb dX5_advance_220 rfl (lv_at hl 0 rfl) ?_
                refine va_ldcS hx hb hown (hE.2.2.2.2.2.1) dX5_advance_221 ?_
                refine lv_bipush (v := nI 20) hx hb dX5_advance_223 (by decide) ?_
                refine r_call_i (wr := []) (va_runV (As := [.ref (adK 2), .int (nI 20)]) (rest := [.ref reader]) ⟨hx, hb, hml, hown, hts⟩ (c_r_wordIn2 l dC dI ky H.size adK adV reader rtape rlength rmostBytes k14 x15 k16 x30 x17 w18 rfaultKind rfaultPlace rtapeF (nI 20) iv_rreader_0 j21 iv_rreader_2 j22 j23) (cwV 2 hts gX5_advance_X5_wordIn rfl rfl rfl (by decide +kernel) ⟨(Nat.le_of_ble_eq_true rfl), (Nat.le_of_ble_eq_true rfl)⟩) (pre_UEV hE hS hA hK hP hD [0, 1] (by decide) rfl (va_recv hK hP (ci := 5) (q0 := 0) rfl rfl)) rfl rfl hl.1 rfl (lv_room (Nat.le_of_ble_eq_true rfl)) dX5_advance_225 ⟨(Nat.le_of_ble_eq_true rfl), (Nat.le_of_ble_eq_true rfl)⟩) hP hD hS hA [0, 1] [] rfl rfl (by decide) (by decide) (fun r35 u33 H locs p34 hP hD hS => ?_)
                refine W.widen (k := 0) (n := 0) (Nat.le_of_ble_eq_true rfl) (Nat.le_of_ble_eq_true rfl) ?_
                have hP : va_P (dC, dI) vwCl [(reader, .inr (5, [.ref rtape, .int (nI rlength), .int (nI rmostBytes), .int (nI k14), .int x15, .int (nI k16), .int x30, .int x17, .long w18, .int rfaultKind, .int rfaultPlace])), (rtape, .inl (ky 2, 940, .inl rtapeF))] H := hP
                have hD : va_D A [(reader, .inr (5, [.ref rtape, .int (nI rlength), .int (nI rmostBytes), .int (nI k14), .int x15, .int (nI k16), .int x30, .int x17, .long w18, .int rfaultKind, .int rfaultPlace])), (rtape, .inl (ky 2, 940, .inl rtapeF))] := hD
                refine lv_goto (tgt := 235) hx hb dX5_advance_228 (by decide) ?_
                refine va_put (D := (dC, dI)) (ci := 5) (v := .int r35) (ty := .int) (C := RX5) (T := TX5) (N := 11) hx hb hts hin5 tyX5 tyX5_ok nmX5 hown hK hP hD hS 0 rfl rfl 6 (by decide) (hts (.fieldLink RX5 43 "PorridgeSea$Reader" "word" "I") (List.mem_of_getElem? (i := 5) rfl)) (fun _ h9 => h9) rfl (by decide +kernel) rfl rfl (Nat.le_of_ble_eq_true rfl) dX5_advance_235 (fun H locs hP hD hS => ?_)
                have hP : va_P (dC, dI) vwCl [(reader, .inr (5, [.ref rtape, .int (nI rlength), .int (nI rmostBytes), .int (nI k14), .int x15, .int (nI k16), .int r35, .int x17, .long w18, .int rfaultKind, .int rfaultPlace])), (rtape, .inl (ky 2, 940, .inl rtapeF))] H := hP
                have hD : va_D A [(reader, .inr (5, [.ref rtape, .int (nI rlength), .int (nI rmostBytes), .int (nI k14), .int x15, .int (nI k16), .int r35, .int x17, .long w18, .int rfaultKind, .int rfaultPlace])), (rtape, .inl (ky 2, 940, .inl rtapeF))] := hD
                rw [hQ]
                exact W.vret hx hb hr (fun t9 ht9 hW9 => ⟨⟨(k14, x15, k16, r35, x17, w18), rfl, ⟨j21, j22⟩, by rw [ht9]; exact hP, va_K.moved hW9.alike hK, hD⟩, hS.F ht9⟩) hS.2.2 dX5_advance_238
            refine lv_icmp_ne (tgt := 203) hx hb dX5_advance_189 (by decide) (fun c29 => ?_) (fun c29 => ?_)
            · refine lv_aload_n hx hb dX5_advance_203 rfl (lv_at hl 0 rfl) ?_
              refine va_get (D := (dC, dI)) (ci := 5) (v := .int r28) (C := RX5) (T := TX5) (N := 11) hx hb hts hin5 hown hK hP 0 rfl rfl 6 (by decide) (hts (.fieldLink RX5 43 "PorridgeSea$Reader" "word" "I") (List.mem_of_getElem? (i := 5) rfl)) (fun _ h9 => h9) rfl dX5_advance_204 ?_
              exact hJ31 r28  _ _ _ hP hD hS (lv_sub hl [0] rfl)
            · refine lv_aload_n hx hb dX5_advance_192 rfl (lv_at hl 0 rfl) ?_
              refine va_ldcS hx hb hown (hE.2.2.2.2.1) dX5_advance_193 ?_
              refine lv_bipush (v := nI 7) hx hb dX5_advance_195 (by decide) ?_
              refine r_call_i (wr := []) (va_runV (As := [.ref (adK 1), .int (nI 7)]) (rest := [.ref reader]) ⟨hx, hb, hml, hown, hts⟩ (c_r_wordIn1 l dC dI ky H.size adK adV reader rtape rlength rmostBytes k14 x15 k16 r28 x17 w18 rfaultKind rfaultPlace rtapeF (nI 7) iv_rreader_0 j21 iv_rreader_2 j22 j23) (cwV 2 hts gX5_advance_X5_wordIn rfl rfl rfl (by decide +kernel) ⟨(Nat.le_of_ble_eq_true rfl), (Nat.le_of_ble_eq_true rfl)⟩) (pre_UEV hE hS hA hK hP hD [0, 1] (by decide) rfl (va_recv hK hP (ci := 5) (q0 := 0) rfl rfl)) rfl rfl hl.1 rfl (lv_room (Nat.le_of_ble_eq_true rfl)) dX5_advance_197 ⟨(Nat.le_of_ble_eq_true rfl), (Nat.le_of_ble_eq_true rfl)⟩) hP hD hS hA [0, 1] [] rfl rfl (by decide) (by decide) (fun r38 u36 H locs p37 hP hD hS => ?_)
              refine W.widen (k := 0) (n := 0) (Nat.le_of_ble_eq_true rfl) (Nat.le_of_ble_eq_true rfl) ?_
              have hP : va_P (dC, dI) vwCl [(reader, .inr (5, [.ref rtape, .int (nI rlength), .int (nI rmostBytes), .int (nI k14), .int x15, .int (nI k16), .int r28, .int x17, .long w18, .int rfaultKind, .int rfaultPlace])), (rtape, .inl (ky 2, 940, .inl rtapeF))] H := hP
              have hD : va_D A [(reader, .inr (5, [.ref rtape, .int (nI rlength), .int (nI rmostBytes), .int (nI k14), .int x15, .int (nI k16), .int r28, .int x17, .long w18, .int rfaultKind, .int rfaultPlace])), (rtape, .inl (ky 2, 940, .inl rtapeF))] := hD
              refine lv_goto (tgt := 207) hx hb dX5_advance_200 (by decide) ?_
              exact hJ31 r38  _ _ _ hP hD hS (lv_sub hl [0] rfl)
        refine n_icmp_le (x := rlength) (y := rmostBytes) (tgt := 103) hx hb (by omega) (by omega) dX5_advance_73 (by decide) (fun c13 => ?_) (fun c13 => ?_)
        · refine lv_aload_n hx hb dX5_advance_103 rfl (lv_at hl 0 rfl) ?_
          refine va_get (D := (dC, dI)) (ci := 5) (v := .int (nI k4)) (C := RX5) (T := TX5) (N := 11) hx hb hts hin5 hown hK hP 0 rfl rfl 3 (by decide) (hts (.fieldLink RX5 28 "PorridgeSea$Reader" "place" "I") (List.mem_of_getElem? (i := 1) rfl)) (fun _ h9 => h9) rfl dX5_advance_104 ?_
          refine lv_aload_n hx hb dX5_advance_107 rfl (lv_at hl 0 rfl) ?_
          refine va_get (D := (dC, dI)) (ci := 5) (v := .int (nI rlength)) (C := RX5) (T := TX5) (N := 11) hx hb hts hin5 hown hK hP 0 rfl rfl 1 (by decide) (hts (.fieldLink RX5 21 "PorridgeSea$Reader" "length" "I") (List.mem_of_getElem? (i := 2) rfl)) (fun _ h9 => h9) rfl dX5_advance_108 ?_
          refine n_icmp_lt (x := k4) (y := rlength) (tgt := 122) hx hb (by omega) (by omega) dX5_advance_111 (by decide) (fun c39 => ?_) (fun c39 => ?_)
          · refine lv_aload_n hx hb dX5_advance_122 rfl (lv_at hl 0 rfl) ?_
            refine va_get (D := (dC, dI)) (ci := 5) (v := .ref rtape) (C := RX5) (T := TX5) (N := 11) hx hb hts hin5 hown hK hP 0 rfl rfl 0 (by decide) (hts (.fieldLink RX5 9 "PorridgeSea$Reader" "tape" "[B") (List.mem_of_getElem? (i := 3) rfl)) (fun _ h9 => h9) rfl dX5_advance_123 ?_
            refine lv_aload_n hx hb dX5_advance_126 rfl (lv_at hl 0 rfl) ?_
            refine va_get (D := (dC, dI)) (ci := 5) (v := .int (nI k4)) (C := RX5) (T := TX5) (N := 11) hx hb hts hin5 hown hK hP 0 rfl rfl 3 (by decide) (hts (.fieldLink RX5 28 "PorridgeSea$Reader" "place" "I") (List.mem_of_getElem? (i := 1) rfl)) (fun _ h9 => h9) rfl dX5_advance_127 ?_
            obtain ⟨y40, e41⟩ : ∃ z9, z9 = rtapeF k4 := ⟨_, rfl⟩
            refine r_bald hx hb hK hP 1 rfl k4 (by omega) (by decide) y40 e41.symm dX5_advance_130 ?_
            refine vp_callSi (W.runS (As := [.int y40]) (rest := []) ⟨hx, hb, hml, hown, hts⟩ (c_r_isLetter l dC dI ky y40) (va_cwS 1 hts gX5_advance_X5_isLetter rfl rfl rfl (by decide +kernel) ⟨(Nat.le_of_ble_eq_true rfl), (Nat.le_of_ble_eq_true rfl)⟩) (pre_PS hK hP [] rfl) rfl rfl hl.1 rfl (lv_room (Nat.le_of_ble_eq_true rfl)) dX5_advance_131 ⟨(Nat.le_of_ble_eq_true rfl), (Nat.le_of_ble_eq_true rfl)⟩) (fun r42 p43 => ?_)
            refine lv_if_ne (tgt := 152) hx hb dX5_advance_134 (by decide) (fun c44 => ?_) (fun c44 => ?_)
            · refine lv_aload_n hx hb dX5_advance_152 rfl (lv_at hl 0 rfl) ?_
              refine r_call_v (wr := []) (va_runV (As := []) (rest := []) ⟨hx, hb, hml, hown, hts⟩ (c_r_readRun l dC dI ky H.size reader rtape rlength rmostBytes k4 rkind k4 (-1 : Int32) rnumber rletters rfaultKind rfaultPlace rtapeF iv_rreader_0 j6 iv_rreader_2 j5) (cwV 0 hts gX5_advance_X5_readRun rfl rfl rfl (by decide +kernel) ⟨(Nat.le_of_ble_eq_true rfl), (Nat.le_of_ble_eq_true rfl)⟩) (pre_UV hK hP hD [0, 1] (by decide) rfl (ci := 5) (q0 := 0) rfl rfl) rfl rfl hl.1 rfl (lv_room (Nat.le_of_ble_eq_true rfl)) dX5_advance_153 ⟨(Nat.le_of_ble_eq_true rfl), (Nat.le_of_ble_eq_true rfl)⟩) hP hD hS hA [0, 1] [] rfl rfl (by decide) (by decide) (fun  u45 H locs p46 hP hD hS => ?_)
              obtain ⟨rplaceG_47, rkindG_48, rnumberG_49, rlettersG_50⟩ := u45
              try dsimp only at p46
              obtain ⟨p51, p52⟩ := p46
              refine W.widen (k := 0) (n := 0) (Nat.le_of_ble_eq_true rfl) (Nat.le_of_ble_eq_true rfl) ?_
              have hP : va_P (dC, dI) vwCl [(reader, .inr (5, [.ref rtape, .int (nI rlength), .int (nI rmostBytes), .int (nI rplaceG_47), .int rkindG_48, .int (nI k4), .int (-1 : Int32), .int rnumberG_49, .long rlettersG_50, .int rfaultKind, .int rfaultPlace])), (rtape, .inl (ky 2, 940, .inl rtapeF))] H := hP
              have hD : va_D A [(reader, .inr (5, [.ref rtape, .int (nI rlength), .int (nI rmostBytes), .int (nI rplaceG_47), .int rkindG_48, .int (nI k4), .int (-1 : Int32), .int rnumberG_49, .long rlettersG_50, .int rfaultKind, .int rfaultPlace])), (rtape, .inl (ky 2, 940, .inl rtapeF))] := hD
              refine lv_goto (tgt := 163) hx hb dX5_advance_156 (by decide) ?_
              exact hJ24 rplaceG_47 rkindG_48 k4 rnumberG_49 rlettersG_50 (lf_r_advance_1 rlength rmostBytes rplace rtapeF k4 n8 y40 rplaceG_47 iv_rreader_0 iv_rreader_1 iv_rreader_2 j5 j6 hm10 c13 c39 e41 p51 p52) (lf_r_advance_2 rlength rmostBytes rplace rtapeF k4 n8 y40 rplaceG_47 iv_rreader_0 iv_rreader_1 iv_rreader_2 j5 j6 hm10 c13 c39 e41 p51 p52) p51 j5 p52 _ _ _ hP hD hS (lv_sub hl [0] rfl)
            · refine lv_aload_n hx hb dX5_advance_137 rfl (lv_at hl 0 rfl) ?_
              refine va_get (D := (dC, dI)) (ci := 5) (v := .ref rtape) (C := RX5) (T := TX5) (N := 11) hx hb hts hin5 hown hK hP 0 rfl rfl 0 (by decide) (hts (.fieldLink RX5 9 "PorridgeSea$Reader" "tape" "[B") (List.mem_of_getElem? (i := 3) rfl)) (fun _ h9 => h9) rfl dX5_advance_138 ?_
              refine lv_aload_n hx hb dX5_advance_141 rfl (lv_at hl 0 rfl) ?_
              refine va_get (D := (dC, dI)) (ci := 5) (v := .int (nI k4)) (C := RX5) (T := TX5) (N := 11) hx hb hts hin5 hown hK hP 0 rfl rfl 3 (by decide) (hts (.fieldLink RX5 28 "PorridgeSea$Reader" "place" "I") (List.mem_of_getElem? (i := 1) rfl)) (fun _ h9 => h9) rfl dX5_advance_142 ?_
              obtain ⟨y53, e54⟩ : ∃ z9, z9 = rtapeF k4 := ⟨_, rfl⟩
              refine r_bald hx hb hK hP 1 rfl k4 (by omega) (by decide) y53 e54.symm dX5_advance_145 ?_
              refine vp_callSi (W.runS (As := [.int y53]) (rest := []) ⟨hx, hb, hml, hown, hts⟩ (c_r_isDigit l dC dI ky y53) (va_cwS 1 hts gX5_advance_X5_isDigit rfl rfl rfl (by decide +kernel) ⟨(Nat.le_of_ble_eq_true rfl), (Nat.le_of_ble_eq_true rfl)⟩) (pre_PS hK hP [] rfl) rfl rfl hl.1 rfl (lv_room (Nat.le_of_ble_eq_true rfl)) dX5_advance_146 ⟨(Nat.le_of_ble_eq_true rfl), (Nat.le_of_ble_eq_true rfl)⟩) (fun r55 p56 => ?_)
              refine lv_if_eq (tgt := 159) hx hb dX5_advance_149 (by decide) (fun c57 => ?_) (fun c57 => ?_)
              · refine lv_aload_n hx hb dX5_advance_159 rfl (lv_at hl 0 rfl) ?_
                refine r_call_v (wr := []) (va_runV (As := []) (rest := []) ⟨hx, hb, hml, hown, hts⟩ (c_r_readSign l dC dI ky H.size reader rtape rlength rmostBytes k4 rkind k4 (-1 : Int32) rnumber rletters rfaultKind rfaultPlace rtapeF iv_rreader_0 j6 iv_rreader_2 j5 c39) (cwV 0 hts gX5_advance_X5_readSign rfl rfl rfl (by decide +kernel) ⟨(Nat.le_of_ble_eq_true rfl), (Nat.le_of_ble_eq_true rfl)⟩) (pre_UV hK hP hD [0, 1] (by decide) rfl (ci := 5) (q0 := 0) rfl rfl) rfl rfl hl.1 rfl (lv_room (Nat.le_of_ble_eq_true rfl)) dX5_advance_160 ⟨(Nat.le_of_ble_eq_true rfl), (Nat.le_of_ble_eq_true rfl)⟩) hP hD hS hA [0, 1] [] rfl rfl (by decide) (by decide) (fun  u58 H locs p59 hP hD hS => ?_)
                obtain ⟨rplaceG_60, rkindG_61⟩ := u58
                try dsimp only at p59
                obtain ⟨p62, p63⟩ := p59
                refine W.widen (k := 0) (n := 0) (Nat.le_of_ble_eq_true rfl) (Nat.le_of_ble_eq_true rfl) ?_
                have hP : va_P (dC, dI) vwCl [(reader, .inr (5, [.ref rtape, .int (nI rlength), .int (nI rmostBytes), .int (nI rplaceG_60), .int rkindG_61, .int (nI k4), .int (-1 : Int32), .int rnumber, .long rletters, .int rfaultKind, .int rfaultPlace])), (rtape, .inl (ky 2, 940, .inl rtapeF))] H := hP
                have hD : va_D A [(reader, .inr (5, [.ref rtape, .int (nI rlength), .int (nI rmostBytes), .int (nI rplaceG_60), .int rkindG_61, .int (nI k4), .int (-1 : Int32), .int rnumber, .long rletters, .int rfaultKind, .int rfaultPlace])), (rtape, .inl (ky 2, 940, .inl rtapeF))] := hD
                exact hJ24 rplaceG_60 rkindG_61 k4 rnumber rletters (lf_r_advance_3 rlength rmostBytes rplace rtapeF k4 n8 y40 y53 rplaceG_60 iv_rreader_0 iv_rreader_1 iv_rreader_2 j5 j6 hm10 c13 c39 e41 e54 p62 p63) (lf_r_advance_4 rlength rmostBytes rplace rtapeF k4 n8 y40 y53 rplaceG_60 iv_rreader_0 iv_rreader_1 iv_rreader_2 j5 j6 hm10 c13 c39 e41 e54 p62 p63) p62 j5 p63 _ _ _ hP hD hS (lv_sub hl [0] rfl)
              · refine lv_aload_n hx hb dX5_advance_152 rfl (lv_at hl 0 rfl) ?_
                refine r_call_v (wr := []) (va_runV (As := []) (rest := []) ⟨hx, hb, hml, hown, hts⟩ (c_r_readRun l dC dI ky H.size reader rtape rlength rmostBytes k4 rkind k4 (-1 : Int32) rnumber rletters rfaultKind rfaultPlace rtapeF iv_rreader_0 j6 iv_rreader_2 j5) (cwV 0 hts gX5_advance_X5_readRun rfl rfl rfl (by decide +kernel) ⟨(Nat.le_of_ble_eq_true rfl), (Nat.le_of_ble_eq_true rfl)⟩) (pre_UV hK hP hD [0, 1] (by decide) rfl (ci := 5) (q0 := 0) rfl rfl) rfl rfl hl.1 rfl (lv_room (Nat.le_of_ble_eq_true rfl)) dX5_advance_153 ⟨(Nat.le_of_ble_eq_true rfl), (Nat.le_of_ble_eq_true rfl)⟩) hP hD hS hA [0, 1] [] rfl rfl (by decide) (by decide) (fun  u64 H locs p65 hP hD hS => ?_)
                obtain ⟨rplaceG_66, rkindG_67, rnumberG_68, rlettersG_69⟩ := u64
                try dsimp only at p65
                obtain ⟨p70, p71⟩ := p65
                refine W.widen (k := 0) (n := 0) (Nat.le_of_ble_eq_true rfl) (Nat.le_of_ble_eq_true rfl) ?_
                have hP : va_P (dC, dI) vwCl [(reader, .inr (5, [.ref rtape, .int (nI rlength), .int (nI rmostBytes), .int (nI rplaceG_66), .int rkindG_67, .int (nI k4), .int (-1 : Int32), .int rnumberG_68, .long rlettersG_69, .int rfaultKind, .int rfaultPlace])), (rtape, .inl (ky 2, 940, .inl rtapeF))] H := hP
                have hD : va_D A [(reader, .inr (5, [.ref rtape, .int (nI rlength), .int (nI rmostBytes), .int (nI rplaceG_66), .int rkindG_67, .int (nI k4), .int (-1 : Int32), .int rnumberG_68, .long rlettersG_69, .int rfaultKind, .int rfaultPlace])), (rtape, .inl (ky 2, 940, .inl rtapeF))] := hD
                refine lv_goto (tgt := 163) hx hb dX5_advance_156 (by decide) ?_
                exact hJ24 rplaceG_66 rkindG_67 k4 rnumberG_68 rlettersG_69 (lf_r_advance_5 rlength rmostBytes rplace rtapeF k4 n8 y40 y53 rplaceG_66 iv_rreader_0 iv_rreader_1 iv_rreader_2 j5 j6 hm10 c13 c39 e41 e54 p70 p71) (lf_r_advance_6 rlength rmostBytes rplace rtapeF k4 n8 y40 y53 rplaceG_66 iv_rreader_0 iv_rreader_1 iv_rreader_2 j5 j6 hm10 c13 c39 e41 e54 p70 p71) p70 j5 p71 _ _ _ hP hD hS (lv_sub hl [0] rfl)
          · refine lv_aload_n hx hb dX5_advance_114 rfl (lv_at hl 0 rfl) ?_
            refine lv_iconst (v := nI 0) hx hb dX5_advance_115 (by decide) ?_
            refine va_put (D := (dC, dI)) (ci := 5) (v := .int (nI 0)) (ty := .int) (C := RX5) (T := TX5) (N := 11) hx hb hts hin5 tyX5 tyX5_ok nmX5 hown hK hP hD hS 0 rfl rfl 4 (by decide) (hts (.fieldLink RX5 46 "PorridgeSea$Reader" "kind" "I") (List.mem_of_getElem? (i := 7) rfl)) (fun _ h9 => h9) rfl (by decide +kernel) rfl rfl (Nat.le_of_ble_eq_true rfl) dX5_advance_116 (fun H locs hP hD hS => ?_)
            have hP : va_P (dC, dI) vwCl [(reader, .inr (5, [.ref rtape, .int (nI rlength), .int (nI rmostBytes), .int (nI k4), .int (nI 0), .int (nI k4), .int (-1 : Int32), .int rnumber, .long rletters, .int rfaultKind, .int rfaultPlace])), (rtape, .inl (ky 2, 940, .inl rtapeF))] H := hP
            have hD : va_D A [(reader, .inr (5, [.ref rtape, .int (nI rlength), .int (nI rmostBytes), .int (nI k4), .int (nI 0), .int (nI k4), .int (-1 : Int32), .int rnumber, .long rletters, .int rfaultKind, .int rfaultPlace])), (rtape, .inl (ky 2, 940, .inl rtapeF))] := hD
            refine lv_goto (tgt := 163) hx hb dX5_advance_119 (by decide) ?_
            exact hJ24 k4 (nI 0) k4 rnumber rletters j5 (lf_r_advance_7 rlength rmostBytes rplace k4 n8 iv_rreader_0 iv_rreader_1 iv_rreader_2 j5 j6 hm10 c13 c39) j6 j5 (lf_r_advance_8 rlength rmostBytes rplace k4 n8 iv_rreader_0 iv_rreader_1 iv_rreader_2 j5 j6 hm10 c13 c39) _ _ _ hP hD hS (lv_sub hl [0] rfl)
        · refine lv_aload_n hx hb dX5_advance_76 rfl (lv_at hl 0 rfl) ?_
          refine va_get (D := (dC, dI)) (ci := 5) (v := .int (nI k4)) (C := RX5) (T := TX5) (N := 11) hx hb hts hin5 hown hK hP 0 rfl rfl 3 (by decide) (hts (.fieldLink RX5 28 "PorridgeSea$Reader" "place" "I") (List.mem_of_getElem? (i := 1) rfl)) (fun _ h9 => h9) rfl dX5_advance_77 ?_
          refine lv_aload_n hx hb dX5_advance_80 rfl (lv_at hl 0 rfl) ?_
          refine va_get (D := (dC, dI)) (ci := 5) (v := .int (nI rmostBytes)) (C := RX5) (T := TX5) (N := 11) hx hb hts hin5 hown hK hP 0 rfl rfl 2 (by decide) (hts (.fieldLink RX5 25 "PorridgeSea$Reader" "mostBytes" "I") (List.mem_of_getElem? (i := 6) rfl)) (fun _ h9 => h9) rfl dX5_advance_81 ?_
          refine n_icmp_lt (x := k4) (y := rmostBytes) (tgt := 103) hx hb (by omega) (by omega) dX5_advance_84 (by decide) (fun c72 => ?_) (fun c72 => ?_)
          · refine lv_aload_n hx hb dX5_advance_103 rfl (lv_at hl 0 rfl) ?_
            refine va_get (D := (dC, dI)) (ci := 5) (v := .int (nI k4)) (C := RX5) (T := TX5) (N := 11) hx hb hts hin5 hown hK hP 0 rfl rfl 3 (by decide) (hts (.fieldLink RX5 28 "PorridgeSea$Reader" "place" "I") (List.mem_of_getElem? (i := 1) rfl)) (fun _ h9 => h9) rfl dX5_advance_104 ?_
            refine lv_aload_n hx hb dX5_advance_107 rfl (lv_at hl 0 rfl) ?_
            refine va_get (D := (dC, dI)) (ci := 5) (v := .int (nI rlength)) (C := RX5) (T := TX5) (N := 11) hx hb hts hin5 hown hK hP 0 rfl rfl 1 (by decide) (hts (.fieldLink RX5 21 "PorridgeSea$Reader" "length" "I") (List.mem_of_getElem? (i := 2) rfl)) (fun _ h9 => h9) rfl dX5_advance_108 ?_
            refine n_icmp_lt (x := k4) (y := rlength) (tgt := 122) hx hb (by omega) (by omega) dX5_advance_111 (by decide) (fun c73 => ?_) (fun c73 => ?_)
            · refine lv_aload_n hx hb dX5_advance_122 rfl (lv_at hl 0 rfl) ?_
              refine va_get (D := (dC, dI)) (ci := 5) (v := .ref rtape) (C := RX5) (T := TX5) (N := 11) hx hb hts hin5 hown hK hP 0 rfl rfl 0 (by decide) (hts (.fieldLink RX5 9 "PorridgeSea$Reader" "tape" "[B") (List.mem_of_getElem? (i := 3) rfl)) (fun _ h9 => h9) rfl dX5_advance_123 ?_
              refine lv_aload_n hx hb dX5_advance_126 rfl (lv_at hl 0 rfl) ?_
              refine va_get (D := (dC, dI)) (ci := 5) (v := .int (nI k4)) (C := RX5) (T := TX5) (N := 11) hx hb hts hin5 hown hK hP 0 rfl rfl 3 (by decide) (hts (.fieldLink RX5 28 "PorridgeSea$Reader" "place" "I") (List.mem_of_getElem? (i := 1) rfl)) (fun _ h9 => h9) rfl dX5_advance_127 ?_
              obtain ⟨y74, e75⟩ : ∃ z9, z9 = rtapeF k4 := ⟨_, rfl⟩
              refine r_bald hx hb hK hP 1 rfl k4 (by omega) (by decide) y74 e75.symm dX5_advance_130 ?_
              refine vp_callSi (W.runS (As := [.int y74]) (rest := []) ⟨hx, hb, hml, hown, hts⟩ (c_r_isLetter l dC dI ky y74) (va_cwS 1 hts gX5_advance_X5_isLetter rfl rfl rfl (by decide +kernel) ⟨(Nat.le_of_ble_eq_true rfl), (Nat.le_of_ble_eq_true rfl)⟩) (pre_PS hK hP [] rfl) rfl rfl hl.1 rfl (lv_room (Nat.le_of_ble_eq_true rfl)) dX5_advance_131 ⟨(Nat.le_of_ble_eq_true rfl), (Nat.le_of_ble_eq_true rfl)⟩) (fun r76 p77 => ?_)
              refine lv_if_ne (tgt := 152) hx hb dX5_advance_134 (by decide) (fun c78 => ?_) (fun c78 => ?_)
              · refine lv_aload_n hx hb dX5_advance_152 rfl (lv_at hl 0 rfl) ?_
                refine r_call_v (wr := []) (va_runV (As := []) (rest := []) ⟨hx, hb, hml, hown, hts⟩ (c_r_readRun l dC dI ky H.size reader rtape rlength rmostBytes k4 rkind k4 (-1 : Int32) rnumber rletters rfaultKind rfaultPlace rtapeF iv_rreader_0 j6 iv_rreader_2 j5) (cwV 0 hts gX5_advance_X5_readRun rfl rfl rfl (by decide +kernel) ⟨(Nat.le_of_ble_eq_true rfl), (Nat.le_of_ble_eq_true rfl)⟩) (pre_UV hK hP hD [0, 1] (by decide) rfl (ci := 5) (q0 := 0) rfl rfl) rfl rfl hl.1 rfl (lv_room (Nat.le_of_ble_eq_true rfl)) dX5_advance_153 ⟨(Nat.le_of_ble_eq_true rfl), (Nat.le_of_ble_eq_true rfl)⟩) hP hD hS hA [0, 1] [] rfl rfl (by decide) (by decide) (fun  u79 H locs p80 hP hD hS => ?_)
                obtain ⟨rplaceG_81, rkindG_82, rnumberG_83, rlettersG_84⟩ := u79
                try dsimp only at p80
                obtain ⟨p85, p86⟩ := p80
                refine W.widen (k := 0) (n := 0) (Nat.le_of_ble_eq_true rfl) (Nat.le_of_ble_eq_true rfl) ?_
                have hP : va_P (dC, dI) vwCl [(reader, .inr (5, [.ref rtape, .int (nI rlength), .int (nI rmostBytes), .int (nI rplaceG_81), .int rkindG_82, .int (nI k4), .int (-1 : Int32), .int rnumberG_83, .long rlettersG_84, .int rfaultKind, .int rfaultPlace])), (rtape, .inl (ky 2, 940, .inl rtapeF))] H := hP
                have hD : va_D A [(reader, .inr (5, [.ref rtape, .int (nI rlength), .int (nI rmostBytes), .int (nI rplaceG_81), .int rkindG_82, .int (nI k4), .int (-1 : Int32), .int rnumberG_83, .long rlettersG_84, .int rfaultKind, .int rfaultPlace])), (rtape, .inl (ky 2, 940, .inl rtapeF))] := hD
                refine lv_goto (tgt := 163) hx hb dX5_advance_156 (by decide) ?_
                exact hJ24 rplaceG_81 rkindG_82 k4 rnumberG_83 rlettersG_84 (lf_r_advance_9 rlength rmostBytes rplace rtapeF k4 n8 y74 rplaceG_81 iv_rreader_0 iv_rreader_1 iv_rreader_2 j5 j6 hm10 c13 c72 c73 e75 p85 p86) (lf_r_advance_10 rlength rmostBytes rplace rtapeF k4 n8 y74 rplaceG_81 iv_rreader_0 iv_rreader_1 iv_rreader_2 j5 j6 hm10 c13 c72 c73 e75 p85 p86) p85 j5 p86 _ _ _ hP hD hS (lv_sub hl [0] rfl)
              · refine lv_aload_n hx hb dX5_advance_137 rfl (lv_at hl 0 rfl) ?_
                refine va_get (D := (dC, dI)) (ci := 5) (v := .ref rtape) (C := RX5) (T := TX5) (N := 11) hx hb hts hin5 hown hK hP 0 rfl rfl 0 (by decide) (hts (.fieldLink RX5 9 "PorridgeSea$Reader" "tape" "[B") (List.mem_of_getElem? (i := 3) rfl)) (fun _ h9 => h9) rfl dX5_advance_138 ?_
                refine lv_aload_n hx hb dX5_advance_141 rfl (lv_at hl 0 rfl) ?_
                refine va_get (D := (dC, dI)) (ci := 5) (v := .int (nI k4)) (C := RX5) (T := TX5) (N := 11) hx hb hts hin5 hown hK hP 0 rfl rfl 3 (by decide) (hts (.fieldLink RX5 28 "PorridgeSea$Reader" "place" "I") (List.mem_of_getElem? (i := 1) rfl)) (fun _ h9 => h9) rfl dX5_advance_142 ?_
                obtain ⟨y87, e88⟩ : ∃ z9, z9 = rtapeF k4 := ⟨_, rfl⟩
                refine r_bald hx hb hK hP 1 rfl k4 (by omega) (by decide) y87 e88.symm dX5_advance_145 ?_
                refine vp_callSi (W.runS (As := [.int y87]) (rest := []) ⟨hx, hb, hml, hown, hts⟩ (c_r_isDigit l dC dI ky y87) (va_cwS 1 hts gX5_advance_X5_isDigit rfl rfl rfl (by decide +kernel) ⟨(Nat.le_of_ble_eq_true rfl), (Nat.le_of_ble_eq_true rfl)⟩) (pre_PS hK hP [] rfl) rfl rfl hl.1 rfl (lv_room (Nat.le_of_ble_eq_true rfl)) dX5_advance_146 ⟨(Nat.le_of_ble_eq_true rfl), (Nat.le_of_ble_eq_true rfl)⟩) (fun r89 p90 => ?_)
                refine lv_if_eq (tgt := 159) hx hb dX5_advance_149 (by decide) (fun c91 => ?_) (fun c91 => ?_)
                · refine lv_aload_n hx hb dX5_advance_159 rfl (lv_at hl 0 rfl) ?_
                  refine r_call_v (wr := []) (va_runV (As := []) (rest := []) ⟨hx, hb, hml, hown, hts⟩ (c_r_readSign l dC dI ky H.size reader rtape rlength rmostBytes k4 rkind k4 (-1 : Int32) rnumber rletters rfaultKind rfaultPlace rtapeF iv_rreader_0 j6 iv_rreader_2 j5 c73) (cwV 0 hts gX5_advance_X5_readSign rfl rfl rfl (by decide +kernel) ⟨(Nat.le_of_ble_eq_true rfl), (Nat.le_of_ble_eq_true rfl)⟩) (pre_UV hK hP hD [0, 1] (by decide) rfl (ci := 5) (q0 := 0) rfl rfl) rfl rfl hl.1 rfl (lv_room (Nat.le_of_ble_eq_true rfl)) dX5_advance_160 ⟨(Nat.le_of_ble_eq_true rfl), (Nat.le_of_ble_eq_true rfl)⟩) hP hD hS hA [0, 1] [] rfl rfl (by decide) (by decide) (fun  u92 H locs p93 hP hD hS => ?_)
                  obtain ⟨rplaceG_94, rkindG_95⟩ := u92
                  try dsimp only at p93
                  obtain ⟨p96, p97⟩ := p93
                  refine W.widen (k := 0) (n := 0) (Nat.le_of_ble_eq_true rfl) (Nat.le_of_ble_eq_true rfl) ?_
                  have hP : va_P (dC, dI) vwCl [(reader, .inr (5, [.ref rtape, .int (nI rlength), .int (nI rmostBytes), .int (nI rplaceG_94), .int rkindG_95, .int (nI k4), .int (-1 : Int32), .int rnumber, .long rletters, .int rfaultKind, .int rfaultPlace])), (rtape, .inl (ky 2, 940, .inl rtapeF))] H := hP
                  have hD : va_D A [(reader, .inr (5, [.ref rtape, .int (nI rlength), .int (nI rmostBytes), .int (nI rplaceG_94), .int rkindG_95, .int (nI k4), .int (-1 : Int32), .int rnumber, .long rletters, .int rfaultKind, .int rfaultPlace])), (rtape, .inl (ky 2, 940, .inl rtapeF))] := hD
                  exact hJ24 rplaceG_94 rkindG_95 k4 rnumber rletters (lf_r_advance_11 rlength rmostBytes rplace rtapeF k4 n8 y74 y87 rplaceG_94 iv_rreader_0 iv_rreader_1 iv_rreader_2 j5 j6 hm10 c13 c72 c73 e75 e88 p96 p97) (lf_r_advance_12 rlength rmostBytes rplace rtapeF k4 n8 y74 y87 rplaceG_94 iv_rreader_0 iv_rreader_1 iv_rreader_2 j5 j6 hm10 c13 c72 c73 e75 e88 p96 p97) p96 j5 p97 _ _ _ hP hD hS (lv_sub hl [0] rfl)
                · refine lv_aload_n hx hb dX5_advance_152 rfl (lv_at hl 0 rfl) ?_
                  refine r_call_v (wr := []) (va_runV (As := []) (rest := []) ⟨hx, hb, hml, hown, hts⟩ (c_r_readRun l dC dI ky H.size reader rtape rlength rmostBytes k4 rkind k4 (-1 : Int32) rnumber rletters rfaultKind rfaultPlace rtapeF iv_rreader_0 j6 iv_rreader_2 j5) (cwV 0 hts gX5_advance_X5_readRun rfl rfl rfl (by decide +kernel) ⟨(Nat.le_of_ble_eq_true rfl), (Nat.le_of_ble_eq_true rfl)⟩) (pre_UV hK hP hD [0, 1] (by decide) rfl (ci := 5) (q0 := 0) rfl rfl) rfl rfl hl.1 rfl (lv_room (Nat.le_of_ble_eq_true rfl)) dX5_advance_153 ⟨(Nat.le_of_ble_eq_true rfl), (Nat.le_of_ble_eq_true rfl)⟩) hP hD hS hA [0, 1] [] rfl rfl (by decide) (by decide) (fun  u98 H locs p99 hP hD hS => ?_)
                  obtain ⟨rplaceG_100, rkindG_101, rnumberG_102, rlettersG_103⟩ := u98
                  try dsimp only at p99
                  obtain ⟨p104, p105⟩ := p99
                  refine W.widen (k := 0) (n := 0) (Nat.le_of_ble_eq_true rfl) (Nat.le_of_ble_eq_true rfl) ?_
                  have hP : va_P (dC, dI) vwCl [(reader, .inr (5, [.ref rtape, .int (nI rlength), .int (nI rmostBytes), .int (nI rplaceG_100), .int rkindG_101, .int (nI k4), .int (-1 : Int32), .int rnumberG_102, .long rlettersG_103, .int rfaultKind, .int rfaultPlace])), (rtape, .inl (ky 2, 940, .inl rtapeF))] H := hP
                  have hD : va_D A [(reader, .inr (5, [.ref rtape, .int (nI rlength), .int (nI rmostBytes), .int (nI rplaceG_100), .int rkindG_101, .int (nI k4), .int (-1 : Int32), .int rnumberG_102, .long rlettersG_103, .int rfaultKind, .int rfaultPlace])), (rtape, .inl (ky 2, 940, .inl rtapeF))] := hD
                  refine lv_goto (tgt := 163) hx hb dX5_advance_156 (by decide) ?_
                  exact hJ24 rplaceG_100 rkindG_101 k4 rnumberG_102 rlettersG_103 (lf_r_advance_13 rlength rmostBytes rplace rtapeF k4 n8 y74 y87 rplaceG_100 iv_rreader_0 iv_rreader_1 iv_rreader_2 j5 j6 hm10 c13 c72 c73 e75 e88 p104 p105) (lf_r_advance_14 rlength rmostBytes rplace rtapeF k4 n8 y74 y87 rplaceG_100 iv_rreader_0 iv_rreader_1 iv_rreader_2 j5 j6 hm10 c13 c72 c73 e75 e88 p104 p105) p104 j5 p105 _ _ _ hP hD hS (lv_sub hl [0] rfl)
            · refine lv_aload_n hx hb dX5_advance_114 rfl (lv_at hl 0 rfl) ?_
              refine lv_iconst (v := nI 0) hx hb dX5_advance_115 (by decide) ?_
              refine va_put (D := (dC, dI)) (ci := 5) (v := .int (nI 0)) (ty := .int) (C := RX5) (T := TX5) (N := 11) hx hb hts hin5 tyX5 tyX5_ok nmX5 hown hK hP hD hS 0 rfl rfl 4 (by decide) (hts (.fieldLink RX5 46 "PorridgeSea$Reader" "kind" "I") (List.mem_of_getElem? (i := 7) rfl)) (fun _ h9 => h9) rfl (by decide +kernel) rfl rfl (Nat.le_of_ble_eq_true rfl) dX5_advance_116 (fun H locs hP hD hS => ?_)
              have hP : va_P (dC, dI) vwCl [(reader, .inr (5, [.ref rtape, .int (nI rlength), .int (nI rmostBytes), .int (nI k4), .int (nI 0), .int (nI k4), .int (-1 : Int32), .int rnumber, .long rletters, .int rfaultKind, .int rfaultPlace])), (rtape, .inl (ky 2, 940, .inl rtapeF))] H := hP
              have hD : va_D A [(reader, .inr (5, [.ref rtape, .int (nI rlength), .int (nI rmostBytes), .int (nI k4), .int (nI 0), .int (nI k4), .int (-1 : Int32), .int rnumber, .long rletters, .int rfaultKind, .int rfaultPlace])), (rtape, .inl (ky 2, 940, .inl rtapeF))] := hD
              refine lv_goto (tgt := 163) hx hb dX5_advance_119 (by decide) ?_
              exact hJ24 k4 (nI 0) k4 rnumber rletters j5 (lf_r_advance_15 rlength rmostBytes rplace k4 n8 iv_rreader_0 iv_rreader_1 iv_rreader_2 j5 j6 hm10 c13 c72 c73) j6 j5 (lf_r_advance_16 rlength rmostBytes rplace k4 n8 iv_rreader_0 iv_rreader_1 iv_rreader_2 j5 j6 hm10 c13 c72 c73) _ _ _ hP hD hS (lv_sub hl [0] rfl)
          · refine lv_aload_n hx hb dX5_advance_87 rfl (lv_at hl 0 rfl) ?_
            refine lv_iconst (v := nI 1) hx hb dX5_advance_88 (by decide) ?_
            refine va_put (D := (dC, dI)) (ci := 5) (v := .int (nI 1)) (ty := .int) (C := RX5) (T := TX5) (N := 11) hx hb hts hin5 tyX5 tyX5_ok nmX5 hown hK hP hD hS 0 rfl rfl 4 (by decide) (hts (.fieldLink RX5 46 "PorridgeSea$Reader" "kind" "I") (List.mem_of_getElem? (i := 7) rfl)) (fun _ h9 => h9) rfl (by decide +kernel) rfl rfl (Nat.le_of_ble_eq_true rfl) dX5_advance_89 (fun H locs hP hD hS => ?_)
            have hP : va_P (dC, dI) vwCl [(reader, .inr (5, [.ref rtape, .int (nI rlength), .int (nI rmostBytes), .int (nI k4), .int (nI 1), .int (nI k4), .int (-1 : Int32), .int rnumber, .long rletters, .int rfaultKind, .int rfaultPlace])), (rtape, .inl (ky 2, 940, .inl rtapeF))] H := hP
            have hD : va_D A [(reader, .inr (5, [.ref rtape, .int (nI rlength), .int (nI rmostBytes), .int (nI k4), .int (nI 1), .int (nI k4), .int (-1 : Int32), .int rnumber, .long rletters, .int rfaultKind, .int rfaultPlace])), (rtape, .inl (ky 2, 940, .inl rtapeF))] := hD
            refine lv_aload_n hx hb dX5_advance_92 rfl (lv_at hl 0 rfl) ?_
            refine lv_aload_n hx hb dX5_advance_93 rfl (lv_at hl 0 rfl) ?_
            refine va_get (D := (dC, dI)) (ci := 5) (v := .int (nI rmostBytes)) (C := RX5) (T := TX5) (N := 11) hx hb hts hin5 hown hK hP 0 rfl rfl 2 (by decide) (hts (.fieldLink RX5 25 "PorridgeSea$Reader" "mostBytes" "I") (List.mem_of_getElem? (i := 6) rfl)) (fun _ h9 => h9) rfl dX5_advance_94 ?_
            refine va_put (D := (dC, dI)) (ci := 5) (v := .int (nI rmostBytes)) (ty := .int) (C := RX5) (T := TX5) (N := 11) hx hb hts hin5 tyX5 tyX5_ok nmX5 hown hK hP hD hS 0 rfl rfl 5 (by decide) (hts (.fieldLink RX5 40 "PorridgeSea$Reader" "begin" "I") (List.mem_of_getElem? (i := 4) rfl)) (fun _ h9 => h9) rfl (by decide +kernel) rfl rfl (Nat.le_of_ble_eq_true rfl) dX5_advance_97 (fun H locs hP hD hS => ?_)
            have hP : va_P (dC, dI) vwCl [(reader, .inr (5, [.ref rtape, .int (nI rlength), .int (nI rmostBytes), .int (nI k4), .int (nI 1), .int (nI rmostBytes), .int (-1 : Int32), .int rnumber, .long rletters, .int rfaultKind, .int rfaultPlace])), (rtape, .inl (ky 2, 940, .inl rtapeF))] H := hP
            have hD : va_D A [(reader, .inr (5, [.ref rtape, .int (nI rlength), .int (nI rmostBytes), .int (nI k4), .int (nI 1), .int (nI rmostBytes), .int (-1 : Int32), .int rnumber, .long rletters, .int rfaultKind, .int rfaultPlace])), (rtape, .inl (ky 2, 940, .inl rtapeF))] := hD
            refine lv_goto (tgt := 163) hx hb dX5_advance_100 (by decide) ?_
            exact hJ24 k4 (nI 1) rmostBytes rnumber rletters j5 iv_rreader_2 j6 (lf_r_advance_17 rlength rmostBytes rplace k4 n8 iv_rreader_0 iv_rreader_1 iv_rreader_2 j5 j6 hm10 c13 c72) c72 _ _ _ hP hD hS (lv_sub hl [0] rfl)
      refine n_icmp_ge (x := k4) (y := rlength) (tgt := 52) hx hb (by omega) (by omega) dX5_advance_8 (by decide) (fun c11 => ?_) (fun c11 => ?_)
      · exact hJ12   _ _ _ hP hD hS (lv_sub hl [0] rfl)
      · refine lv_aload_n hx hb dX5_advance_11 rfl (lv_at hl 0 rfl) ?_
        refine va_get (D := (dC, dI)) (ci := 5) (v := .ref rtape) (C := RX5) (T := TX5) (N := 11) hx hb hts hin5 hown hK hP 0 rfl rfl 0 (by decide) (hts (.fieldLink RX5 9 "PorridgeSea$Reader" "tape" "[B") (List.mem_of_getElem? (i := 3) rfl)) (fun _ h9 => h9) rfl dX5_advance_12 ?_
        refine lv_aload_n hx hb dX5_advance_15 rfl (lv_at hl 0 rfl) ?_
        refine va_get (D := (dC, dI)) (ci := 5) (v := .int (nI k4)) (C := RX5) (T := TX5) (N := 11) hx hb hts hin5 hown hK hP 0 rfl rfl 3 (by decide) (hts (.fieldLink RX5 28 "PorridgeSea$Reader" "place" "I") (List.mem_of_getElem? (i := 1) rfl)) (fun _ h9 => h9) rfl dX5_advance_16 ?_
        obtain ⟨y106, e107⟩ : ∃ z9, z9 = rtapeF k4 := ⟨_, rfl⟩
        refine r_bald hx hb hK hP 1 rfl k4 (by omega) (by decide) y106 e107.symm dX5_advance_19 ?_
        refine lv_bipush (v := nI 32) hx hb dX5_advance_20 (by decide) ?_
        refine lv_icmp_eq (tgt := 39) hx hb dX5_advance_22 (by decide) (fun c108 => ?_) (fun c108 => ?_)
        · refine lv_aload_n hx hb dX5_advance_39 rfl (lv_at hl 0 rfl) ?_
          refine lv_dup hx hb dX5_advance_40 rfl ?_
          refine va_get (D := (dC, dI)) (ci := 5) (v := .int (nI k4)) (C := RX5) (T := TX5) (N := 11) hx hb hts hin5 hown hK hP 0 rfl rfl 3 (by decide) (hts (.fieldLink RX5 28 "PorridgeSea$Reader" "place" "I") (List.mem_of_getElem? (i := 1) rfl)) (fun _ h9 => h9) rfl dX5_advance_41 ?_
          refine lv_iconst (v := nI 1) hx hb dX5_advance_44 (by decide) ?_
          refine lv_iadd hx hb dX5_advance_45 ?_
          refine r_ti (nI (k4 + 1)) (nI_add _ _) ?_
          refine va_put (D := (dC, dI)) (ci := 5) (v := .int (nI (k4 + 1))) (ty := .int) (C := RX5) (T := TX5) (N := 11) hx hb hts hin5 tyX5 tyX5_ok nmX5 hown hK hP hD hS 0 rfl rfl 3 (by decide) (hts (.fieldLink RX5 28 "PorridgeSea$Reader" "place" "I") (List.mem_of_getElem? (i := 1) rfl)) (fun _ h9 => h9) rfl (by decide +kernel) rfl rfl (Nat.le_of_ble_eq_true rfl) dX5_advance_46 (fun H locs hP hD hS => ?_)
          have hP : va_P (dC, dI) vwCl [(reader, .inr (5, [.ref rtape, .int (nI rlength), .int (nI rmostBytes), .int (nI (k4 + 1)), .int rkind, .int (nI rbegin), .int rword, .int rnumber, .long rletters, .int rfaultKind, .int rfaultPlace])), (rtape, .inl (ky 2, 940, .inl rtapeF))] H := hP
          have hD : va_D A [(reader, .inr (5, [.ref rtape, .int (nI rlength), .int (nI rmostBytes), .int (nI (k4 + 1)), .int rkind, .int (nI rbegin), .int rword, .int rnumber, .long rletters, .int rfaultKind, .int rfaultPlace])), (rtape, .inl (ky 2, 940, .inl rtapeF))] := hD
          refine lv_goto (tgt := 0) hx hb dX5_advance_49 (by decide) ?_
          exact ih9 (k4 + 1) (lf_r_advance_18 rlength rplace rtapeF k4 n8 y106 iv_rreader_0 iv_rreader_1 j5 j6 hm10 c11 e107 c108) (lf_r_advance_19 rlength rplace rtapeF k4 n8 y106 iv_rreader_0 iv_rreader_1 j5 j6 hm10 c11 e107 c108) (lf_r_advance_20 rlength rplace rtapeF k4 n8 y106 iv_rreader_0 iv_rreader_1 j5 j6 hm10 c11 e107 c108) _ _ _ hP hD hS (lv_sub hl [0] rfl)
        · refine lv_aload_n hx hb dX5_advance_25 rfl (lv_at hl 0 rfl) ?_
          refine va_get (D := (dC, dI)) (ci := 5) (v := .ref rtape) (C := RX5) (T := TX5) (N := 11) hx hb hts hin5 hown hK hP 0 rfl rfl 0 (by decide) (hts (.fieldLink RX5 9 "PorridgeSea$Reader" "tape" "[B") (List.mem_of_getElem? (i := 3) rfl)) (fun _ h9 => h9) rfl dX5_advance_26 ?_
          refine lv_aload_n hx hb dX5_advance_29 rfl (lv_at hl 0 rfl) ?_
          refine va_get (D := (dC, dI)) (ci := 5) (v := .int (nI k4)) (C := RX5) (T := TX5) (N := 11) hx hb hts hin5 hown hK hP 0 rfl rfl 3 (by decide) (hts (.fieldLink RX5 28 "PorridgeSea$Reader" "place" "I") (List.mem_of_getElem? (i := 1) rfl)) (fun _ h9 => h9) rfl dX5_advance_30 ?_
          obtain ⟨y109, e110⟩ : ∃ z9, z9 = rtapeF k4 := ⟨_, rfl⟩
          refine r_bald hx hb hK hP 1 rfl k4 (by omega) (by decide) y109 e110.symm dX5_advance_33 ?_
          refine lv_bipush (v := nI 10) hx hb dX5_advance_34 (by decide) ?_
          refine lv_icmp_ne (tgt := 52) hx hb dX5_advance_36 (by decide) (fun c111 => ?_) (fun c111 => ?_)
          · exact hJ12   _ _ _ hP hD hS (lv_sub hl [0] rfl)
          · refine lv_aload_n hx hb dX5_advance_39 rfl (lv_at hl 0 rfl) ?_
            refine lv_dup hx hb dX5_advance_40 rfl ?_
            refine va_get (D := (dC, dI)) (ci := 5) (v := .int (nI k4)) (C := RX5) (T := TX5) (N := 11) hx hb hts hin5 hown hK hP 0 rfl rfl 3 (by decide) (hts (.fieldLink RX5 28 "PorridgeSea$Reader" "place" "I") (List.mem_of_getElem? (i := 1) rfl)) (fun _ h9 => h9) rfl dX5_advance_41 ?_
            refine lv_iconst (v := nI 1) hx hb dX5_advance_44 (by decide) ?_
            refine lv_iadd hx hb dX5_advance_45 ?_
            refine r_ti (nI (k4 + 1)) (nI_add _ _) ?_
            refine va_put (D := (dC, dI)) (ci := 5) (v := .int (nI (k4 + 1))) (ty := .int) (C := RX5) (T := TX5) (N := 11) hx hb hts hin5 tyX5 tyX5_ok nmX5 hown hK hP hD hS 0 rfl rfl 3 (by decide) (hts (.fieldLink RX5 28 "PorridgeSea$Reader" "place" "I") (List.mem_of_getElem? (i := 1) rfl)) (fun _ h9 => h9) rfl (by decide +kernel) rfl rfl (Nat.le_of_ble_eq_true rfl) dX5_advance_46 (fun H locs hP hD hS => ?_)
            have hP : va_P (dC, dI) vwCl [(reader, .inr (5, [.ref rtape, .int (nI rlength), .int (nI rmostBytes), .int (nI (k4 + 1)), .int rkind, .int (nI rbegin), .int rword, .int rnumber, .long rletters, .int rfaultKind, .int rfaultPlace])), (rtape, .inl (ky 2, 940, .inl rtapeF))] H := hP
            have hD : va_D A [(reader, .inr (5, [.ref rtape, .int (nI rlength), .int (nI rmostBytes), .int (nI (k4 + 1)), .int rkind, .int (nI rbegin), .int rword, .int rnumber, .long rletters, .int rfaultKind, .int rfaultPlace])), (rtape, .inl (ky 2, 940, .inl rtapeF))] := hD
            refine lv_goto (tgt := 0) hx hb dX5_advance_49 (by decide) ?_
            exact ih9 (k4 + 1) (lf_r_advance_21 rlength rplace rtapeF k4 n8 y106 y109 iv_rreader_0 iv_rreader_1 j5 j6 hm10 c11 e107 c108 e110 c111) (lf_r_advance_22 rlength rplace rtapeF k4 n8 y106 y109 iv_rreader_0 iv_rreader_1 j5 j6 hm10 c11 e107 c108 e110 c111) (lf_r_advance_23 rlength rplace rtapeF k4 n8 y106 y109 iv_rreader_0 iv_rreader_1 j5 j6 hm10 c11 e107 c108 e110 c111) _ _ _ hP hD hS (lv_sub hl [0] rfl)
  exact hL7 ((940 - rplace) + 1) rplace (lf_r_advance_24 rlength rplace iv_rreader_0 iv_rreader_1) iv_rreader_1 (Nat.lt_succ_self _) _ _ _ hP hD hS (lv_sub hl [0] rfl)
set_option maxRecDepth 20000 in
theorem lf_r_open_1 (bc : Nat) (hbc : bc ≤ 940) : 0 ≤ bc := by
  try simp only [ia_lt, ia_le, ia_eq, ia_m1, ia_0, ia_1, ne_eq, true_and, and_true, false_and, and_false, or_false, false_or, or_true, true_or, not_true_eq_false, not_false_eq_true] at *
  all_goals omega
set_option maxHeartbeats 4000000 in
set_option maxRecDepth 100000 in
theorem c_r_open (l : Launch) (dC : Nat → ClassId) (dI : Nat → Nat → Nat) (ky : Nat → ClassId) (sz : Nat) (adK : Nat → Nat) (adV : Nat → Nat) (reader : Nat) (rtape : Nat) (rlength : Nat) (rmostBytes : Nat) (rplace : Nat) (rkind : Int32) (rbegin : Nat) (rword : Int32) (rnumber : Int32) (rletters : Int64) (rfaultKind : Int32) (rfaultPlace : Int32) (rtapeF : Nat → Int32) (bc : Nat) (mb : Nat) (iv_rreader_0 : rlength ≤ 940) (iv_rreader_1 : rplace ≤ rlength) (iv_rreader_2 : rmostBytes ≤ 900) (iv_rreader_3 : rbegin ≤ 940) (hbc : bc ≤ 940) (hmb : mb ≤ 900) : Met l yX5_open wsX5_open ({ frames := 6, cells := 0, slots := 0, locals := 131 }) (PcUE dC dI ky adK adV [.ref reader, .int (nI bc), .int (nI mb)] [(reader, .inr (5, [.ref rtape, .int (nI rlength), .int (nI rmostBytes), .int (nI rplace), .int rkind, .int (nI rbegin), .int rword, .int rnumber, .long rletters, .int rfaultKind, .int rfaultPlace])), (rtape, .inl (ky 2, 940, .inl rtapeF))] sz) (va_Qv (fun (u : Nat × Nat × Nat × Int32 × Nat × Int32 × Int32 × Int64 × Int32 × Int32) => match u with | (rlengthG, rmostBytesG, rplaceG, rkindG, rbeginG, rwordG, rnumberG, rlettersG, rfaultKindG, rfaultPlaceG) => (rlengthG ≤ 940) ∧ (rplaceG ≤ rlengthG) ∧ (rmostBytesG ≤ 900) ∧ (rbeginG ≤ 940)) (BU dC dI ky (fun (u : Nat × Nat × Nat × Int32 × Nat × Int32 × Int32 × Int64 × Int32 × Int32) => match u with | (rlengthG, rmostBytesG, rplaceG, rkindG, rbeginG, rwordG, rnumberG, rlettersG, rfaultKindG, rfaultPlaceG) => [(reader, .inr (5, [.ref rtape, .int (nI rlengthG), .int (nI rmostBytesG), .int (nI rplaceG), .int rkindG, .int (nI rbeginG), .int rwordG, .int rnumberG, .long rlettersG, .int rfaultKindG, .int rfaultPlaceG])), (rtape, .inl (ky 2, 940, .inl rtapeF))]) (va_A [(reader, .inr (5, [.ref rtape, .int (nI rlength), .int (nI rmostBytes), .int (nI rplace), .int rkind, .int (nI rbegin), .int rword, .int rnumber, .long rletters, .int rfaultKind, .int rfaultPlace])), (rtape, .inl (ky 2, 940, .inl rtapeF))] sz)) (va_A [(reader, .inr (5, [.ref rtape, .int (nI rlength), .int (nI rmostBytes), .int (nI rplace), .int rkind, .int (nI rbegin), .int rword, .int rnumber, .long rletters, .int rfaultKind, .int rfaultPlace])), (rtape, .inl (ky 2, 940, .inl rtapeF))] sz)) 0 0 (va_A [(reader, .inr (5, [.ref rtape, .int (nI rlength), .int (nI rmostBytes), .int (nI rplace), .int rkind, .int (nI rbegin), .int rword, .int rnumber, .long rletters, .int rfaultKind, .int rfaultPlace])), (rtape, .inl (ky 2, 940, .inl rtapeF))] sz) := by
  refine Met.ofW (cc := cX5_open) (maxL := 3) (ret := none) (by decide) rfl ?_
  intro p e s m args below meth c s₁ B hml hv
  obtain ⟨rfl, hsz, hP, hK, hD0, hE⟩ := hv
  have hx := B.exec
  have hb := B.bytes
  have hr := B.returns
  have hts := atoms_spec (ws := wsX5_open) B.pre
  have hown : s.vm.findClass RX5 = some m.cls := findClass_of_methodNamed B.named
  have hlocks := B.notSynchronized
  have hin5 : ∀ w ∈ u_ws RX5 TX5 11, w ∈ wsX5_open := by decide +kernel
  subst hsz
  have hD := hD0.self (sz := s.heap.size)
  generalize hAe : va_A [(reader, .inr (5, [.ref rtape, .int (nI rlength), .int (nI rmostBytes), .int (nI rplace), .int rkind, .int (nI rbegin), .int rword, .int rnumber, .long rletters, .int rfaultKind, .int rfaultPlace])), (rtape, .inl (ky 2, 940, .inl rtapeF))] s.heap.size = A at hD hE ⊢
  have hA : ∀ q : Nat, s.heap.size ≤ q → A q := fun q h => by rw [← hAe]; exact Or.inr h
  have hS : va_S A s.heap s.heap [] := va_S.rf
  have hl := lv_entry ([.ref reader, .int (nI bc), .int (nI mb)]) (n := 3) (Nat.le_of_ble_eq_true rfl)
  rw [lg_entry_eq]
  generalize (lg_sl ([.ref reader, .int (nI bc), .int (nI mb)]) ++ List.replicate (3 - (lg_sl ([.ref reader, .int (nI bc), .int (nI mb)])).length) Slot.unset).toArray = ls at hl ⊢
  have hl : lv_has ls 3 [(0, .ref reader), (1, .int (nI bc)), (2, .int (nI mb))] := hl
  refine q_name (fun Q hQ => ?_)
  generalize ([.ref reader, .int (nI bc), .int (nI mb)] : List Value).toArray = args at hts hQ ⊢
  refine lv_aload_n hx hb dX5_open_0 rfl (lv_at hl 0 rfl) ?_
  refine lv_iload_n hx hb dX5_open_1 rfl (lv_at hl 1 rfl) ?_
  refine lv_sipush (v := nI 940) hx hb dX5_open_2 (by decide) ?_
  refine va_mmin hx hb (by rw [hml]; exact hl.1.symm) hown (hts _ (List.mem_of_getElem? (i := 1) rfl)) (hts _ (List.mem_of_getElem? (i := 2) rfl)) (hts _ (List.mem_of_getElem? (i := 3) rfl)) (hts _ (List.mem_of_getElem? (i := 4) rfl)) (Nat.le_of_ble_eq_true rfl) (Nat.le_of_ble_eq_true rfl) (Nat.le_of_ble_eq_true rfl) (Nat.le_of_ble_eq_true rfl) dX5_open_5 ?_
  refine r_ti (nI bc) (if_neg (nI_nlt (by omega) (by omega))) ?_
  refine va_put (D := (dC, dI)) (ci := 5) (v := .int (nI bc)) (ty := .int) (C := RX5) (T := TX5) (N := 11) hx hb hts hin5 tyX5 tyX5_ok nmX5 hown hK hP hD hS 0 rfl rfl 1 (by decide) (hts (.fieldLink RX5 21 "PorridgeSea$Reader" "length" "I") (List.mem_of_getElem? (i := 5) rfl)) (fun _ h9 => h9) rfl (by decide +kernel) rfl rfl (Nat.le_of_ble_eq_true rfl) dX5_open_8 (fun H locs hP hD hS => ?_)
  have hP : va_P (dC, dI) vwCl [(reader, .inr (5, [.ref rtape, .int (nI bc), .int (nI rmostBytes), .int (nI rplace), .int rkind, .int (nI rbegin), .int rword, .int rnumber, .long rletters, .int rfaultKind, .int rfaultPlace])), (rtape, .inl (ky 2, 940, .inl rtapeF))] H := hP
  have hD : va_D A [(reader, .inr (5, [.ref rtape, .int (nI bc), .int (nI rmostBytes), .int (nI rplace), .int rkind, .int (nI rbegin), .int rword, .int rnumber, .long rletters, .int rfaultKind, .int rfaultPlace])), (rtape, .inl (ky 2, 940, .inl rtapeF))] := hD
  refine lv_aload_n hx hb dX5_open_11 rfl (lv_at hl 0 rfl) ?_
  refine lv_iload_n hx hb dX5_open_12 rfl (lv_at hl 2 rfl) ?_
  refine va_put (D := (dC, dI)) (ci := 5) (v := .int (nI mb)) (ty := .int) (C := RX5) (T := TX5) (N := 11) hx hb hts hin5 tyX5 tyX5_ok nmX5 hown hK hP hD hS 0 rfl rfl 2 (by decide) (hts (.fieldLink RX5 25 "PorridgeSea$Reader" "mostBytes" "I") (List.mem_of_getElem? (i := 6) rfl)) (fun _ h9 => h9) rfl (by decide +kernel) rfl rfl (Nat.le_of_ble_eq_true rfl) dX5_open_13 (fun H locs hP hD hS => ?_)
  have hP : va_P (dC, dI) vwCl [(reader, .inr (5, [.ref rtape, .int (nI bc), .int (nI mb), .int (nI rplace), .int rkind, .int (nI rbegin), .int rword, .int rnumber, .long rletters, .int rfaultKind, .int rfaultPlace])), (rtape, .inl (ky 2, 940, .inl rtapeF))] H := hP
  have hD : va_D A [(reader, .inr (5, [.ref rtape, .int (nI bc), .int (nI mb), .int (nI rplace), .int rkind, .int (nI rbegin), .int rword, .int rnumber, .long rletters, .int rfaultKind, .int rfaultPlace])), (rtape, .inl (ky 2, 940, .inl rtapeF))] := hD
  refine lv_aload_n hx hb dX5_open_16 rfl (lv_at hl 0 rfl) ?_
  refine lv_iconst (v := nI 0) hx hb dX5_open_17 (by decide) ?_
  refine va_put (D := (dC, dI)) (ci := 5) (v := .int (nI 0)) (ty := .int) (C := RX5) (T := TX5) (N := 11) hx hb hts hin5 tyX5 tyX5_ok nmX5 hown hK hP hD hS 0 rfl rfl 3 (by decide) (hts (.fieldLink RX5 28 "PorridgeSea$Reader" "place" "I") (List.mem_of_getElem? (i := 7) rfl)) (fun _ h9 => h9) rfl (by decide +kernel) rfl rfl (Nat.le_of_ble_eq_true rfl) dX5_open_18 (fun H locs hP hD hS => ?_)
  have hP : va_P (dC, dI) vwCl [(reader, .inr (5, [.ref rtape, .int (nI bc), .int (nI mb), .int (nI 0), .int rkind, .int (nI rbegin), .int rword, .int rnumber, .long rletters, .int rfaultKind, .int rfaultPlace])), (rtape, .inl (ky 2, 940, .inl rtapeF))] H := hP
  have hD : va_D A [(reader, .inr (5, [.ref rtape, .int (nI bc), .int (nI mb), .int (nI 0), .int rkind, .int (nI rbegin), .int rword, .int rnumber, .long rletters, .int rfaultKind, .int rfaultPlace])), (rtape, .inl (ky 2, 940, .inl rtapeF))] := hD
  refine lv_aload_n hx hb dX5_open_21 rfl (lv_at hl 0 rfl) ?_
  refine lv_iconst (v := nI 0) hx hb dX5_open_22 (by decide) ?_
  refine va_put (D := (dC, dI)) (ci := 5) (v := .int (nI 0)) (ty := .int) (C := RX5) (T := TX5) (N := 11) hx hb hts hin5 tyX5 tyX5_ok nmX5 hown hK hP hD hS 0 rfl rfl 9 (by decide) (hts (.fieldLink RX5 31 "PorridgeSea$Reader" "faultKind" "I") (List.mem_of_getElem? (i := 8) rfl)) (fun _ h9 => h9) rfl (by decide +kernel) rfl rfl (Nat.le_of_ble_eq_true rfl) dX5_open_23 (fun H locs hP hD hS => ?_)
  have hP : va_P (dC, dI) vwCl [(reader, .inr (5, [.ref rtape, .int (nI bc), .int (nI mb), .int (nI 0), .int rkind, .int (nI rbegin), .int rword, .int rnumber, .long rletters, .int (nI 0), .int rfaultPlace])), (rtape, .inl (ky 2, 940, .inl rtapeF))] H := hP
  have hD : va_D A [(reader, .inr (5, [.ref rtape, .int (nI bc), .int (nI mb), .int (nI 0), .int rkind, .int (nI rbegin), .int rword, .int rnumber, .long rletters, .int (nI 0), .int rfaultPlace])), (rtape, .inl (ky 2, 940, .inl rtapeF))] := hD
  refine lv_aload_n hx hb dX5_open_26 rfl (lv_at hl 0 rfl) ?_
  refine lv_iconst (v := nI 0) hx hb dX5_open_27 (by decide) ?_
  refine va_put (D := (dC, dI)) (ci := 5) (v := .int (nI 0)) (ty := .int) (C := RX5) (T := TX5) (N := 11) hx hb hts hin5 tyX5 tyX5_ok nmX5 hown hK hP hD hS 0 rfl rfl 10 (by decide) (hts (.fieldLink RX5 34 "PorridgeSea$Reader" "faultPlace" "I") (List.mem_of_getElem? (i := 9) rfl)) (fun _ h9 => h9) rfl (by decide +kernel) rfl rfl (Nat.le_of_ble_eq_true rfl) dX5_open_28 (fun H locs hP hD hS => ?_)
  have hP : va_P (dC, dI) vwCl [(reader, .inr (5, [.ref rtape, .int (nI bc), .int (nI mb), .int (nI 0), .int rkind, .int (nI rbegin), .int rword, .int rnumber, .long rletters, .int (nI 0), .int (nI 0)])), (rtape, .inl (ky 2, 940, .inl rtapeF))] H := hP
  have hD : va_D A [(reader, .inr (5, [.ref rtape, .int (nI bc), .int (nI mb), .int (nI 0), .int rkind, .int (nI rbegin), .int rword, .int rnumber, .long rletters, .int (nI 0), .int (nI 0)])), (rtape, .inl (ky 2, 940, .inl rtapeF))] := hD
  refine lv_aload_n hx hb dX5_open_31 rfl (lv_at hl 0 rfl) ?_
  refine r_call_v (wr := []) (va_runV (As := []) (rest := []) ⟨hx, hb, hml, hown, hts⟩ (c_r_advance l dC dI ky H.size adK adV reader rtape bc mb 0 rkind rbegin rword rnumber rletters (nI 0) (nI 0) rtapeF hbc (lf_r_open_1 bc hbc) hmb iv_rreader_3) (cwV 0 hts gX5_open_X5_advance rfl rfl rfl (by decide +kernel) ⟨(Nat.le_of_ble_eq_true rfl), (Nat.le_of_ble_eq_true rfl)⟩) (pre_UEV hE hS hA hK hP hD [0, 1] (by decide) rfl (va_recv hK hP (ci := 5) (q0 := 0) rfl rfl)) rfl rfl hl.1 rfl (lv_room (Nat.le_of_ble_eq_true rfl)) dX5_open_32 ⟨(Nat.le_of_ble_eq_true rfl), (Nat.le_of_ble_eq_true rfl)⟩) hP hD hS hA [0, 1] [] rfl rfl (by decide) (by decide) (fun  u1 H locs p2 hP hD hS => ?_)
  obtain ⟨rplaceG_3, rkindG_4, rbeginG_5, rwordG_6, rnumberG_7, rlettersG_8⟩ := u1
  try dsimp only at p2
  obtain ⟨p9, p10⟩ := p2
  refine W.widen (k := 0) (n := 0) (Nat.le_of_ble_eq_true rfl) (Nat.le_of_ble_eq_true rfl) ?_
  have hP : va_P (dC, dI) vwCl [(reader, .inr (5, [.ref rtape, .int (nI bc), .int (nI mb), .int (nI rplaceG_3), .int rkindG_4, .int (nI rbeginG_5), .int rwordG_6, .int rnumberG_7, .long rlettersG_8, .int (nI 0), .int (nI 0)])), (rtape, .inl (ky 2, 940, .inl rtapeF))] H := hP
  have hD : va_D A [(reader, .inr (5, [.ref rtape, .int (nI bc), .int (nI mb), .int (nI rplaceG_3), .int rkindG_4, .int (nI rbeginG_5), .int rwordG_6, .int rnumberG_7, .long rlettersG_8, .int (nI 0), .int (nI 0)])), (rtape, .inl (ky 2, 940, .inl rtapeF))] := hD
  rw [hQ]
  exact W.vret hx hb hr (fun t9 ht9 hW9 => ⟨⟨(bc, mb, rplaceG_3, rkindG_4, rbeginG_5, rwordG_6, rnumberG_7, rlettersG_8, nI 0, nI 0), rfl, ⟨hbc, p9, hmb, p10⟩, by rw [ht9]; exact hP, va_K.moved hW9.alike hK, hD⟩, hS.F ht9⟩) hS.2.2 dX5_open_35
set_option maxRecDepth 20000 in
theorem lf_r_takeNumber_1 (rnumber : Int32) (lo : Nat) (hi : Nat) (hlo : lo ≤ 10) (hhi : hi ≤ 1000) (c2 : ¬ rnumber < nI lo) (c9 : rnumber ≤ nI hi) : 0 ≤ rnumber.toInt ∧ rnumber.toInt < ((1001 : Nat) : Int) := by
  have b_rnumber := ia_b rnumber
  try have k_0 := ia_n lo (by first | decide | omega)
  try have k_1 := ia_n hi (by first | decide | omega)
  try simp only [ia_lt, ia_le, ia_eq, ia_m1, ia_0, ia_1, ne_eq, true_and, and_true, false_and, and_false, or_false, false_or, or_true, true_or, not_true_eq_false, not_false_eq_true] at *
  all_goals omega
set_option maxRecDepth 20000 in
theorem lf_r_takeNumber_2 (rnumber : Int32) (lo : Nat) (hi : Nat) (n20 : Nat) (hlo : lo ≤ 10) (hhi : hi ≤ 1000) (c2 : ¬ rnumber < nI lo) (c9 : rnumber ≤ nI hi) (h21 : n20 < 1001) (e22 : rnumber = nI n20) : lo ≤ n20 ∧ n20 ≤ hi := by
  have b_rnumber := ia_b rnumber
  try have k_0 := ia_n lo (by first | decide | omega)
  try have k_1 := ia_n hi (by first | decide | omega)
  try have k_2 := ia_n n20 (by first | decide | omega)
  try simp only [ia_lt, ia_le, ia_eq, ia_m1, ia_0, ia_1, ne_eq, true_and, and_true, false_and, and_false, or_false, false_or, or_true, true_or, not_true_eq_false, not_false_eq_true] at *
  all_goals omega
set_option maxHeartbeats 4000000 in
set_option maxRecDepth 100000 in
theorem c_r_takeNumber (l : Launch) (dC : Nat → ClassId) (dI : Nat → Nat → Nat) (ky : Nat → ClassId) (sz : Nat) (adK : Nat → Nat) (adV : Nat → Nat) (reader : Nat) (rtape : Nat) (rlength : Nat) (rmostBytes : Nat) (rplace : Nat) (rkind : Int32) (rbegin : Nat) (rword : Int32) (rnumber : Int32) (rletters : Int64) (rfaultKind : Int32) (rfaultPlace : Int32) (rtapeF : Nat → Int32) (lo : Nat) (hi : Nat) (iv_rreader_0 : rlength ≤ 940) (iv_rreader_1 : rplace ≤ rlength) (iv_rreader_2 : rmostBytes ≤ 900) (iv_rreader_3 : rbegin ≤ 940) (hlo : lo ≤ 10) (hhi : hi ≤ 1000) : Met l yX5_takeNumber wsX5_takeNumber ({ frames := 6, cells := 0, slots := 0, locals := 131 }) (PcUE dC dI ky adK adV [.ref reader, .int (nI lo), .int (nI hi)] [(reader, .inr (5, [.ref rtape, .int (nI rlength), .int (nI rmostBytes), .int (nI rplace), .int rkind, .int (nI rbegin), .int rword, .int rnumber, .long rletters, .int rfaultKind, .int rfaultPlace])), (rtape, .inl (ky 2, 940, .inl rtapeF))] sz) (va_Qi (fun (r : Int32) (u : Nat × Int32 × Nat × Int32 × Int32 × Int64 × Int32 × Int32) => match u with | (rplaceG, rkindG, rbeginG, rwordG, rnumberG, rlettersG, rfaultKindG, rfaultPlaceG) => (r = (-1 : Int32) ∨ (∃ k9 : Nat, (lo ≤ k9 ∧ k9 ≤ hi) ∧ r = nI k9)) ∧ (rplaceG ≤ rlength) ∧ (rbeginG ≤ 940)) (BU dC dI ky (fun (u : Nat × Int32 × Nat × Int32 × Int32 × Int64 × Int32 × Int32) => match u with | (rplaceG, rkindG, rbeginG, rwordG, rnumberG, rlettersG, rfaultKindG, rfaultPlaceG) => [(reader, .inr (5, [.ref rtape, .int (nI rlength), .int (nI rmostBytes), .int (nI rplaceG), .int rkindG, .int (nI rbeginG), .int rwordG, .int rnumberG, .long rlettersG, .int rfaultKindG, .int rfaultPlaceG])), (rtape, .inl (ky 2, 940, .inl rtapeF))]) (va_A [(reader, .inr (5, [.ref rtape, .int (nI rlength), .int (nI rmostBytes), .int (nI rplace), .int rkind, .int (nI rbegin), .int rword, .int rnumber, .long rletters, .int rfaultKind, .int rfaultPlace])), (rtape, .inl (ky 2, 940, .inl rtapeF))] sz)) (va_A [(reader, .inr (5, [.ref rtape, .int (nI rlength), .int (nI rmostBytes), .int (nI rplace), .int rkind, .int (nI rbegin), .int rword, .int rnumber, .long rletters, .int rfaultKind, .int rfaultPlace])), (rtape, .inl (ky 2, 940, .inl rtapeF))] sz)) 0 0 (va_A [(reader, .inr (5, [.ref rtape, .int (nI rlength), .int (nI rmostBytes), .int (nI rplace), .int rkind, .int (nI rbegin), .int rword, .int rnumber, .long rletters, .int rfaultKind, .int rfaultPlace])), (rtape, .inl (ky 2, 940, .inl rtapeF))] sz) := by
  refine Met.ofW (cc := cX5_takeNumber) (maxL := 4) (ret := (some .int)) (by decide) rfl ?_
  intro p e s m args below meth c s₁ B hml hv
  obtain ⟨rfl, hsz, hP, hK, hD0, hE⟩ := hv
  have hx := B.exec
  have hb := B.bytes
  have hr := B.returns
  have hts := atoms_spec (ws := wsX5_takeNumber) B.pre
  have hown : s.vm.findClass RX5 = some m.cls := findClass_of_methodNamed B.named
  have hlocks := B.notSynchronized
  have hin5 : ∀ w ∈ u_ws RX5 TX5 11, w ∈ wsX5_takeNumber := by decide +kernel
  subst hsz
  have hD := hD0.self (sz := s.heap.size)
  generalize hAe : va_A [(reader, .inr (5, [.ref rtape, .int (nI rlength), .int (nI rmostBytes), .int (nI rplace), .int rkind, .int (nI rbegin), .int rword, .int rnumber, .long rletters, .int rfaultKind, .int rfaultPlace])), (rtape, .inl (ky 2, 940, .inl rtapeF))] s.heap.size = A at hD hE ⊢
  have hA : ∀ q : Nat, s.heap.size ≤ q → A q := fun q h => by rw [← hAe]; exact Or.inr h
  have hS : va_S A s.heap s.heap [] := va_S.rf
  have hl := lv_entry ([.ref reader, .int (nI lo), .int (nI hi)]) (n := 4) (Nat.le_of_ble_eq_true rfl)
  rw [lg_entry_eq]
  generalize (lg_sl ([.ref reader, .int (nI lo), .int (nI hi)]) ++ List.replicate (4 - (lg_sl ([.ref reader, .int (nI lo), .int (nI hi)])).length) Slot.unset).toArray = ls at hl ⊢
  have hl : lv_has ls 4 [(0, .ref reader), (1, .int (nI lo)), (2, .int (nI hi))] := hl
  refine q_name (fun Q hQ => ?_)
  generalize ([.ref reader, .int (nI lo), .int (nI hi)] : List Value).toArray = args at hts hQ ⊢
  refine lv_aload_n hx hb dX5_takeNumber_0 rfl (lv_at hl 0 rfl) ?_
  refine va_get (D := (dC, dI)) (ci := 5) (v := .int rkind) (C := RX5) (T := TX5) (N := 11) hx hb hts hin5 hown hK hP 0 rfl rfl 4 (by decide) (hts (.fieldLink RX5 46 "PorridgeSea$Reader" "kind" "I") (List.mem_of_getElem? (i := 1) rfl)) (fun _ h9 => h9) rfl dX5_takeNumber_1 ?_
  refine lv_iconst (v := nI 3) hx hb dX5_takeNumber_4 (by decide) ?_
  refine lv_icmp_eq (tgt := 16) hx hb dX5_takeNumber_5 (by decide) (fun c1 => ?_) (fun c1 => ?_)
  · refine lv_aload_n hx hb dX5_takeNumber_16 rfl (lv_at hl 0 rfl) ?_
    refine va_get (D := (dC, dI)) (ci := 5) (v := .int rnumber) (C := RX5) (T := TX5) (N := 11) hx hb hts hin5 hown hK hP 0 rfl rfl 7 (by decide) (hts (.fieldLink RX5 76 "PorridgeSea$Reader" "number" "I") (List.mem_of_getElem? (i := 2) rfl)) (fun _ h9 => h9) rfl dX5_takeNumber_17 ?_
    refine lv_iload_n hx hb dX5_takeNumber_20 rfl (lv_at hl 1 rfl) ?_
    refine lv_icmp_lt (tgt := 32) hx hb dX5_takeNumber_21 (by decide) (fun c2 => ?_) (fun c2 => ?_)
    · refine lv_aload_n hx hb dX5_takeNumber_32 rfl (lv_at hl 0 rfl) ?_
      refine lv_iconst (v := nI 2) hx hb dX5_takeNumber_33 (by decide) ?_
      refine r_call_i (wr := [(rtape, .inl (ky 2, 940, .inl rtapeF))]) (va_runV (As := [.int (nI 2)]) (rest := []) ⟨hx, hb, hml, hown, hts⟩ (c_r_refuse l dC dI ky s.heap.size reader rtape rlength rmostBytes rplace rkind rbegin rword rnumber rletters rfaultKind rfaultPlace (nI 2) iv_rreader_0 iv_rreader_1 iv_rreader_2 iv_rreader_3) (cwV 1 hts gX5_takeNumber_X5_refuse rfl rfl rfl (by decide +kernel) ⟨(Nat.le_of_ble_eq_true rfl), (Nat.le_of_ble_eq_true rfl)⟩) (pre_UV hK hP hD [0] (by decide) rfl (ci := 5) (q0 := 0) rfl rfl) rfl rfl hl.1 rfl (lv_room (Nat.le_of_ble_eq_true rfl)) dX5_takeNumber_34 ⟨(Nat.le_of_ble_eq_true rfl), (Nat.le_of_ble_eq_true rfl)⟩) hP hD hS hA [0] [1] rfl rfl (by decide) (by decide) (fun r5 u3 H locs p4 hP hD hS => ?_)
      obtain ⟨rfaultKindG_6, rfaultPlaceG_7⟩ := u3
      try dsimp only at p4
      have p8 := p4
      refine W.widen (k := 0) (n := 0) (Nat.le_of_ble_eq_true rfl) (Nat.le_of_ble_eq_true rfl) ?_
      have hP : va_P (dC, dI) vwCl [(rtape, .inl (ky 2, 940, .inl rtapeF)), (reader, .inr (5, [.ref rtape, .int (nI rlength), .int (nI rmostBytes), .int (nI rplace), .int rkind, .int (nI rbegin), .int rword, .int rnumber, .long rletters, .int rfaultKindG_6, .int rfaultPlaceG_7]))] H := hP
      have hD : va_D A [(rtape, .inl (ky 2, 940, .inl rtapeF)), (reader, .inr (5, [.ref rtape, .int (nI rlength), .int (nI rmostBytes), .int (nI rplace), .int rkind, .int (nI rbegin), .int rword, .int rnumber, .long rletters, .int rfaultKindG_6, .int rfaultPlaceG_7]))] := hD
      subst p8
      refine lv_pop hx hb dX5_takeNumber_37 rfl ?_
      refine lv_iconst (v := (-1 : Int32)) hx hb dX5_takeNumber_38 (by decide) ?_
      rw [hQ]
      have hP9 := hP.sub (ws' := [(reader, .inr (5, [.ref rtape, .int (nI rlength), .int (nI rmostBytes), .int (nI rplace), .int rkind, .int (nI rbegin), .int rword, .int rnumber, .long rletters, .int rfaultKindG_6, .int rfaultPlaceG_7])), (rtape, .inl (ky 2, 940, .inl rtapeF))]) [1, 0] rfl
      have hD9 := hD.sub (ws' := [(reader, .inr (5, [.ref rtape, .int (nI rlength), .int (nI rmostBytes), .int (nI rplace), .int rkind, .int (nI rbegin), .int rword, .int rnumber, .long rletters, .int rfaultKindG_6, .int rfaultPlaceG_7])), (rtape, .inl (ky 2, 940, .inl rtapeF))]) [1, 0] (by decide) rfl
      exact W.iret (v := (-1 : Int32)) hx hb hr (fun t9 ht9 hW9 => ⟨⟨(-1 : Int32), (rplace, rkind, rbegin, rword, rnumber, rletters, rfaultKindG_6, rfaultPlaceG_7), rfl, ⟨(Or.inl rfl), iv_rreader_1, iv_rreader_3⟩, by rw [ht9]; exact hP9, va_K.moved hW9.alike hK, hD9⟩, hS.F ht9⟩) hS.2.2 dX5_takeNumber_39
    · refine lv_aload_n hx hb dX5_takeNumber_24 rfl (lv_at hl 0 rfl) ?_
      refine va_get (D := (dC, dI)) (ci := 5) (v := .int rnumber) (C := RX5) (T := TX5) (N := 11) hx hb hts hin5 hown hK hP 0 rfl rfl 7 (by decide) (hts (.fieldLink RX5 76 "PorridgeSea$Reader" "number" "I") (List.mem_of_getElem? (i := 2) rfl)) (fun _ h9 => h9) rfl dX5_takeNumber_25 ?_
      refine lv_iload_n hx hb dX5_takeNumber_28 rfl (lv_at hl 2 rfl) ?_
      refine lv_icmp_le (tgt := 40) hx hb dX5_takeNumber_29 (by decide) (fun c9 => ?_) (fun c9 => ?_)
      · refine lv_aload_n hx hb dX5_takeNumber_40 rfl (lv_at hl 0 rfl) ?_
        refine va_get (D := (dC, dI)) (ci := 5) (v := .int rnumber) (C := RX5) (T := TX5) (N := 11) hx hb hts hin5 hown hK hP 0 rfl rfl 7 (by decide) (hts (.fieldLink RX5 76 "PorridgeSea$Reader" "number" "I") (List.mem_of_getElem? (i := 2) rfl)) (fun _ h9 => h9) rfl dX5_takeNumber_41 ?_
        refine lv_istore_n (lv' := [(3, .int rnumber), (0, .ref reader), (1, .int (nI lo)), (2, .int (nI hi))]) hx hb dX5_takeNumber_44 rfl hl (by decide) rfl (fun ls hl => ?_)
        refine lv_aload_n hx hb dX5_takeNumber_45 rfl (lv_at hl 1 rfl) ?_
        refine r_call_v (wr := []) (va_runV (As := []) (rest := []) ⟨hx, hb, hml, hown, hts⟩ (c_r_advance l dC dI ky s.heap.size adK adV reader rtape rlength rmostBytes rplace rkind rbegin rword rnumber rletters rfaultKind rfaultPlace rtapeF iv_rreader_0 iv_rreader_1 iv_rreader_2 iv_rreader_3) (cwV 0 hts gX5_takeNumber_X5_advance rfl rfl rfl (by decide +kernel) ⟨(Nat.le_of_ble_eq_true rfl), (Nat.le_of_ble_eq_true rfl)⟩) (pre_UEV hE hS hA hK hP hD [0, 1] (by decide) rfl (va_recv hK hP (ci := 5) (q0 := 0) rfl rfl)) rfl rfl hl.1 rfl (lv_room (Nat.le_of_ble_eq_true rfl)) dX5_takeNumber_46 ⟨(Nat.le_of_ble_eq_true rfl), (Nat.le_of_ble_eq_true rfl)⟩) hP hD hS hA [0, 1] [] rfl rfl (by decide) (by decide) (fun  u10 H locs p11 hP hD hS => ?_)
        obtain ⟨rplaceG_12, rkindG_13, rbeginG_14, rwordG_15, rnumberG_16, rlettersG_17⟩ := u10
        try dsimp only at p11
        obtain ⟨p18, p19⟩ := p11
        refine W.widen (k := 0) (n := 0) (Nat.le_of_ble_eq_true rfl) (Nat.le_of_ble_eq_true rfl) ?_
        have hP : va_P (dC, dI) vwCl [(reader, .inr (5, [.ref rtape, .int (nI rlength), .int (nI rmostBytes), .int (nI rplaceG_12), .int rkindG_13, .int (nI rbeginG_14), .int rwordG_15, .int rnumberG_16, .long rlettersG_17, .int rfaultKind, .int rfaultPlace])), (rtape, .inl (ky 2, 940, .inl rtapeF))] H := hP
        have hD : va_D A [(reader, .inr (5, [.ref rtape, .int (nI rlength), .int (nI rmostBytes), .int (nI rplaceG_12), .int rkindG_13, .int (nI rbeginG_14), .int rwordG_15, .int rnumberG_16, .long rlettersG_17, .int rfaultKind, .int rfaultPlace])), (rtape, .inl (ky 2, 940, .inl rtapeF))] := hD
        refine lv_iload_n hx hb dX5_takeNumber_49 rfl (lv_at hl 0 rfl) ?_
        obtain ⟨n20, h21, e22⟩ := nat_of rnumber 1001 (by decide) (lf_r_takeNumber_1 rnumber lo hi hlo hhi c2 c9)
        rw [e22]
        rw [hQ]
        exact W.iret (v := nI n20) hx hb hr (fun t9 ht9 hW9 => ⟨⟨nI n20, (rplaceG_12, rkindG_13, rbeginG_14, rwordG_15, rnumberG_16, rlettersG_17, rfaultKind, rfaultPlace), rfl, ⟨(Or.inr ⟨n20, (lf_r_takeNumber_2 rnumber lo hi n20 hlo hhi c2 c9 h21 e22), rfl⟩), p18, p19⟩, by rw [ht9]; exact hP, va_K.moved hW9.alike hK, hD⟩, hS.F ht9⟩) hS.2.2 dX5_takeNumber_50
      · refine lv_aload_n hx hb dX5_takeNumber_32 rfl (lv_at hl 0 rfl) ?_
        refine lv_iconst (v := nI 2) hx hb dX5_takeNumber_33 (by decide) ?_
        refine r_call_i (wr := [(rtape, .inl (ky 2, 940, .inl rtapeF))]) (va_runV (As := [.int (nI 2)]) (rest := []) ⟨hx, hb, hml, hown, hts⟩ (c_r_refuse l dC dI ky s.heap.size reader rtape rlength rmostBytes rplace rkind rbegin rword rnumber rletters rfaultKind rfaultPlace (nI 2) iv_rreader_0 iv_rreader_1 iv_rreader_2 iv_rreader_3) (cwV 1 hts gX5_takeNumber_X5_refuse rfl rfl rfl (by decide +kernel) ⟨(Nat.le_of_ble_eq_true rfl), (Nat.le_of_ble_eq_true rfl)⟩) (pre_UV hK hP hD [0] (by decide) rfl (ci := 5) (q0 := 0) rfl rfl) rfl rfl hl.1 rfl (lv_room (Nat.le_of_ble_eq_true rfl)) dX5_takeNumber_34 ⟨(Nat.le_of_ble_eq_true rfl), (Nat.le_of_ble_eq_true rfl)⟩) hP hD hS hA [0] [1] rfl rfl (by decide) (by decide) (fun r25 u23 H locs p24 hP hD hS => ?_)
        obtain ⟨rfaultKindG_26, rfaultPlaceG_27⟩ := u23
        try dsimp only at p24
        have p28 := p24
        refine W.widen (k := 0) (n := 0) (Nat.le_of_ble_eq_true rfl) (Nat.le_of_ble_eq_true rfl) ?_
        have hP : va_P (dC, dI) vwCl [(rtape, .inl (ky 2, 940, .inl rtapeF)), (reader, .inr (5, [.ref rtape, .int (nI rlength), .int (nI rmostBytes), .int (nI rplace), .int rkind, .int (nI rbegin), .int rword, .int rnumber, .long rletters, .int rfaultKindG_26, .int rfaultPlaceG_27]))] H := hP
        have hD : va_D A [(rtape, .inl (ky 2, 940, .inl rtapeF)), (reader, .inr (5, [.ref rtape, .int (nI rlength), .int (nI rmostBytes), .int (nI rplace), .int rkind, .int (nI rbegin), .int rword, .int rnumber, .long rletters, .int rfaultKindG_26, .int rfaultPlaceG_27]))] := hD
        subst p28
        refine lv_pop hx hb dX5_takeNumber_37 rfl ?_
        refine lv_iconst (v := (-1 : Int32)) hx hb dX5_takeNumber_38 (by decide) ?_
        rw [hQ]
        have hP9 := hP.sub (ws' := [(reader, .inr (5, [.ref rtape, .int (nI rlength), .int (nI rmostBytes), .int (nI rplace), .int rkind, .int (nI rbegin), .int rword, .int rnumber, .long rletters, .int rfaultKindG_26, .int rfaultPlaceG_27])), (rtape, .inl (ky 2, 940, .inl rtapeF))]) [1, 0] rfl
        have hD9 := hD.sub (ws' := [(reader, .inr (5, [.ref rtape, .int (nI rlength), .int (nI rmostBytes), .int (nI rplace), .int rkind, .int (nI rbegin), .int rword, .int rnumber, .long rletters, .int rfaultKindG_26, .int rfaultPlaceG_27])), (rtape, .inl (ky 2, 940, .inl rtapeF))]) [1, 0] (by decide) rfl
        exact W.iret (v := (-1 : Int32)) hx hb hr (fun t9 ht9 hW9 => ⟨⟨(-1 : Int32), (rplace, rkind, rbegin, rword, rnumber, rletters, rfaultKindG_26, rfaultPlaceG_27), rfl, ⟨(Or.inl rfl), iv_rreader_1, iv_rreader_3⟩, by rw [ht9]; exact hP9, va_K.moved hW9.alike hK, hD9⟩, hS.F ht9⟩) hS.2.2 dX5_takeNumber_39
  · refine lv_aload_n hx hb dX5_takeNumber_8 rfl (lv_at hl 0 rfl) ?_
    refine lv_iconst (v := nI 1) hx hb dX5_takeNumber_9 (by decide) ?_
    refine r_call_i (wr := [(rtape, .inl (ky 2, 940, .inl rtapeF))]) (va_runV (As := [.int (nI 1)]) (rest := []) ⟨hx, hb, hml, hown, hts⟩ (c_r_refuse l dC dI ky s.heap.size reader rtape rlength rmostBytes rplace rkind rbegin rword rnumber rletters rfaultKind rfaultPlace (nI 1) iv_rreader_0 iv_rreader_1 iv_rreader_2 iv_rreader_3) (cwV 1 hts gX5_takeNumber_X5_refuse rfl rfl rfl (by decide +kernel) ⟨(Nat.le_of_ble_eq_true rfl), (Nat.le_of_ble_eq_true rfl)⟩) (pre_UV hK hP hD [0] (by decide) rfl (ci := 5) (q0 := 0) rfl rfl) rfl rfl hl.1 rfl (lv_room (Nat.le_of_ble_eq_true rfl)) dX5_takeNumber_10 ⟨(Nat.le_of_ble_eq_true rfl), (Nat.le_of_ble_eq_true rfl)⟩) hP hD hS hA [0] [1] rfl rfl (by decide) (by decide) (fun r31 u29 H locs p30 hP hD hS => ?_)
    obtain ⟨rfaultKindG_32, rfaultPlaceG_33⟩ := u29
    try dsimp only at p30
    have p34 := p30
    refine W.widen (k := 0) (n := 0) (Nat.le_of_ble_eq_true rfl) (Nat.le_of_ble_eq_true rfl) ?_
    have hP : va_P (dC, dI) vwCl [(rtape, .inl (ky 2, 940, .inl rtapeF)), (reader, .inr (5, [.ref rtape, .int (nI rlength), .int (nI rmostBytes), .int (nI rplace), .int rkind, .int (nI rbegin), .int rword, .int rnumber, .long rletters, .int rfaultKindG_32, .int rfaultPlaceG_33]))] H := hP
    have hD : va_D A [(rtape, .inl (ky 2, 940, .inl rtapeF)), (reader, .inr (5, [.ref rtape, .int (nI rlength), .int (nI rmostBytes), .int (nI rplace), .int rkind, .int (nI rbegin), .int rword, .int rnumber, .long rletters, .int rfaultKindG_32, .int rfaultPlaceG_33]))] := hD
    subst p34
    refine lv_pop hx hb dX5_takeNumber_13 rfl ?_
    refine lv_iconst (v := (-1 : Int32)) hx hb dX5_takeNumber_14 (by decide) ?_
    rw [hQ]
    have hP9 := hP.sub (ws' := [(reader, .inr (5, [.ref rtape, .int (nI rlength), .int (nI rmostBytes), .int (nI rplace), .int rkind, .int (nI rbegin), .int rword, .int rnumber, .long rletters, .int rfaultKindG_32, .int rfaultPlaceG_33])), (rtape, .inl (ky 2, 940, .inl rtapeF))]) [1, 0] rfl
    have hD9 := hD.sub (ws' := [(reader, .inr (5, [.ref rtape, .int (nI rlength), .int (nI rmostBytes), .int (nI rplace), .int rkind, .int (nI rbegin), .int rword, .int rnumber, .long rletters, .int rfaultKindG_32, .int rfaultPlaceG_33])), (rtape, .inl (ky 2, 940, .inl rtapeF))]) [1, 0] (by decide) rfl
    exact W.iret (v := (-1 : Int32)) hx hb hr (fun t9 ht9 hW9 => ⟨⟨(-1 : Int32), (rplace, rkind, rbegin, rword, rnumber, rletters, rfaultKindG_32, rfaultPlaceG_33), rfl, ⟨(Or.inl rfl), iv_rreader_1, iv_rreader_3⟩, by rw [ht9]; exact hP9, va_K.moved hW9.alike hK, hD9⟩, hS.F ht9⟩) hS.2.2 dX5_takeNumber_15
set_option maxHeartbeats 4000000 in
set_option maxRecDepth 100000 in
theorem c_r_takeWord (l : Launch) (dC : Nat → ClassId) (dI : Nat → Nat → Nat) (ky : Nat → ClassId) (sz : Nat) (adK : Nat → Nat) (adV : Nat → Nat) (reader : Nat) (rtape : Nat) (rlength : Nat) (rmostBytes : Nat) (rplace : Nat) (rkind : Int32) (rbegin : Nat) (rword : Int32) (rnumber : Int32) (rletters : Int64) (rfaultKind : Int32) (rfaultPlace : Int32) (rtapeF : Nat → Int32) (x : Int32) (y : Int32) (iv_rreader_0 : rlength ≤ 940) (iv_rreader_1 : rplace ≤ rlength) (iv_rreader_2 : rmostBytes ≤ 900) (iv_rreader_3 : rbegin ≤ 940) : Met l yX5_takeWord wsX5_takeWord ({ frames := 6, cells := 0, slots := 0, locals := 131 }) (PcUE dC dI ky adK adV [.ref reader, .int x, .int y] [(reader, .inr (5, [.ref rtape, .int (nI rlength), .int (nI rmostBytes), .int (nI rplace), .int rkind, .int (nI rbegin), .int rword, .int rnumber, .long rletters, .int rfaultKind, .int rfaultPlace])), (rtape, .inl (ky 2, 940, .inl rtapeF))] sz) (va_Qi (fun (r : Int32) (u : Nat × Int32 × Nat × Int32 × Int32 × Int64 × Int32 × Int32) => match u with | (rplaceG, rkindG, rbeginG, rwordG, rnumberG, rlettersG, rfaultKindG, rfaultPlaceG) => (rplaceG ≤ rlength) ∧ (rbeginG ≤ 940)) (BU dC dI ky (fun (u : Nat × Int32 × Nat × Int32 × Int32 × Int64 × Int32 × Int32) => match u with | (rplaceG, rkindG, rbeginG, rwordG, rnumberG, rlettersG, rfaultKindG, rfaultPlaceG) => [(reader, .inr (5, [.ref rtape, .int (nI rlength), .int (nI rmostBytes), .int (nI rplaceG), .int rkindG, .int (nI rbeginG), .int rwordG, .int rnumberG, .long rlettersG, .int rfaultKindG, .int rfaultPlaceG])), (rtape, .inl (ky 2, 940, .inl rtapeF))]) (va_A [(reader, .inr (5, [.ref rtape, .int (nI rlength), .int (nI rmostBytes), .int (nI rplace), .int rkind, .int (nI rbegin), .int rword, .int rnumber, .long rletters, .int rfaultKind, .int rfaultPlace])), (rtape, .inl (ky 2, 940, .inl rtapeF))] sz)) (va_A [(reader, .inr (5, [.ref rtape, .int (nI rlength), .int (nI rmostBytes), .int (nI rplace), .int rkind, .int (nI rbegin), .int rword, .int rnumber, .long rletters, .int rfaultKind, .int rfaultPlace])), (rtape, .inl (ky 2, 940, .inl rtapeF))] sz)) 0 0 (va_A [(reader, .inr (5, [.ref rtape, .int (nI rlength), .int (nI rmostBytes), .int (nI rplace), .int rkind, .int (nI rbegin), .int rword, .int rnumber, .long rletters, .int rfaultKind, .int rfaultPlace])), (rtape, .inl (ky 2, 940, .inl rtapeF))] sz) := by
  refine Met.ofW (cc := cX5_takeWord) (maxL := 4) (ret := (some .int)) (by decide) rfl ?_
  intro p e s m args below meth c s₁ B hml hv
  obtain ⟨rfl, hsz, hP, hK, hD0, hE⟩ := hv
  have hx := B.exec
  have hb := B.bytes
  have hr := B.returns
  have hts := atoms_spec (ws := wsX5_takeWord) B.pre
  have hown : s.vm.findClass RX5 = some m.cls := findClass_of_methodNamed B.named
  have hlocks := B.notSynchronized
  have hin5 : ∀ w ∈ u_ws RX5 TX5 11, w ∈ wsX5_takeWord := by decide +kernel
  subst hsz
  have hD := hD0.self (sz := s.heap.size)
  generalize hAe : va_A [(reader, .inr (5, [.ref rtape, .int (nI rlength), .int (nI rmostBytes), .int (nI rplace), .int rkind, .int (nI rbegin), .int rword, .int rnumber, .long rletters, .int rfaultKind, .int rfaultPlace])), (rtape, .inl (ky 2, 940, .inl rtapeF))] s.heap.size = A at hD hE ⊢
  have hA : ∀ q : Nat, s.heap.size ≤ q → A q := fun q h => by rw [← hAe]; exact Or.inr h
  have hS : va_S A s.heap s.heap [] := va_S.rf
  have hl := lv_entry ([.ref reader, .int x, .int y]) (n := 4) (Nat.le_of_ble_eq_true rfl)
  rw [lg_entry_eq]
  generalize (lg_sl ([.ref reader, .int x, .int y]) ++ List.replicate (4 - (lg_sl ([.ref reader, .int x, .int y])).length) Slot.unset).toArray = ls at hl ⊢
  have hl : lv_has ls 4 [(0, .ref reader), (1, .int x), (2, .int y)] := hl
  refine q_name (fun Q hQ => ?_)
  generalize ([.ref reader, .int x, .int y] : List Value).toArray = args at hts hQ ⊢
  refine lv_aload_n hx hb dX5_takeWord_0 rfl (lv_at hl 0 rfl) ?_
  refine va_get (D := (dC, dI)) (ci := 5) (v := .int rword) (C := RX5) (T := TX5) (N := 11) hx hb hts hin5 hown hK hP 0 rfl rfl 6 (by decide) (hts (.fieldLink RX5 43 "PorridgeSea$Reader" "word" "I") (List.mem_of_getElem? (i := 1) rfl)) (fun _ h9 => h9) rfl dX5_takeWord_1 ?_
  refine lv_iload_n hx hb dX5_takeWord_4 rfl (lv_at hl 1 rfl) ?_
  refine lv_icmp_lt (tgt := 16) hx hb dX5_takeWord_5 (by decide) (fun c1 => ?_) (fun c1 => ?_)
  · refine lv_aload_n hx hb dX5_takeWord_16 rfl (lv_at hl 0 rfl) ?_
    refine lv_iconst (v := nI 1) hx hb dX5_takeWord_17 (by decide) ?_
    refine r_call_i (wr := [(rtape, .inl (ky 2, 940, .inl rtapeF))]) (va_runV (As := [.int (nI 1)]) (rest := []) ⟨hx, hb, hml, hown, hts⟩ (c_r_refuse l dC dI ky s.heap.size reader rtape rlength rmostBytes rplace rkind rbegin rword rnumber rletters rfaultKind rfaultPlace (nI 1) iv_rreader_0 iv_rreader_1 iv_rreader_2 iv_rreader_3) (cwV 1 hts gX5_takeWord_X5_refuse rfl rfl rfl (by decide +kernel) ⟨(Nat.le_of_ble_eq_true rfl), (Nat.le_of_ble_eq_true rfl)⟩) (pre_UV hK hP hD [0] (by decide) rfl (ci := 5) (q0 := 0) rfl rfl) rfl rfl hl.1 rfl (lv_room (Nat.le_of_ble_eq_true rfl)) dX5_takeWord_18 ⟨(Nat.le_of_ble_eq_true rfl), (Nat.le_of_ble_eq_true rfl)⟩) hP hD hS hA [0] [1] rfl rfl (by decide) (by decide) (fun r4 u2 H locs p3 hP hD hS => ?_)
    obtain ⟨rfaultKindG_5, rfaultPlaceG_6⟩ := u2
    try dsimp only at p3
    have p7 := p3
    refine W.widen (k := 0) (n := 0) (Nat.le_of_ble_eq_true rfl) (Nat.le_of_ble_eq_true rfl) ?_
    have hP : va_P (dC, dI) vwCl [(rtape, .inl (ky 2, 940, .inl rtapeF)), (reader, .inr (5, [.ref rtape, .int (nI rlength), .int (nI rmostBytes), .int (nI rplace), .int rkind, .int (nI rbegin), .int rword, .int rnumber, .long rletters, .int rfaultKindG_5, .int rfaultPlaceG_6]))] H := hP
    have hD : va_D A [(rtape, .inl (ky 2, 940, .inl rtapeF)), (reader, .inr (5, [.ref rtape, .int (nI rlength), .int (nI rmostBytes), .int (nI rplace), .int rkind, .int (nI rbegin), .int rword, .int rnumber, .long rletters, .int rfaultKindG_5, .int rfaultPlaceG_6]))] := hD
    subst p7
    refine lv_pop hx hb dX5_takeWord_21 rfl ?_
    refine lv_iconst (v := (-1 : Int32)) hx hb dX5_takeWord_22 (by decide) ?_
    rw [hQ]
    have hP9 := hP.sub (ws' := [(reader, .inr (5, [.ref rtape, .int (nI rlength), .int (nI rmostBytes), .int (nI rplace), .int rkind, .int (nI rbegin), .int rword, .int rnumber, .long rletters, .int rfaultKindG_5, .int rfaultPlaceG_6])), (rtape, .inl (ky 2, 940, .inl rtapeF))]) [1, 0] rfl
    have hD9 := hD.sub (ws' := [(reader, .inr (5, [.ref rtape, .int (nI rlength), .int (nI rmostBytes), .int (nI rplace), .int rkind, .int (nI rbegin), .int rword, .int rnumber, .long rletters, .int rfaultKindG_5, .int rfaultPlaceG_6])), (rtape, .inl (ky 2, 940, .inl rtapeF))]) [1, 0] (by decide) rfl
    exact W.iret (v := (-1 : Int32)) hx hb hr (fun t9 ht9 hW9 => ⟨⟨(-1 : Int32), (rplace, rkind, rbegin, rword, rnumber, rletters, rfaultKindG_5, rfaultPlaceG_6), rfl, ⟨iv_rreader_1, iv_rreader_3⟩, by rw [ht9]; exact hP9, va_K.moved hW9.alike hK, hD9⟩, hS.F ht9⟩) hS.2.2 dX5_takeWord_23
  · refine lv_aload_n hx hb dX5_takeWord_8 rfl (lv_at hl 0 rfl) ?_
    refine va_get (D := (dC, dI)) (ci := 5) (v := .int rword) (C := RX5) (T := TX5) (N := 11) hx hb hts hin5 hown hK hP 0 rfl rfl 6 (by decide) (hts (.fieldLink RX5 43 "PorridgeSea$Reader" "word" "I") (List.mem_of_getElem? (i := 1) rfl)) (fun _ h9 => h9) rfl dX5_takeWord_9 ?_
    refine lv_iload_n hx hb dX5_takeWord_12 rfl (lv_at hl 2 rfl) ?_
    refine lv_icmp_le (tgt := 24) hx hb dX5_takeWord_13 (by decide) (fun c8 => ?_) (fun c8 => ?_)
    · refine lv_aload_n hx hb dX5_takeWord_24 rfl (lv_at hl 0 rfl) ?_
      refine va_get (D := (dC, dI)) (ci := 5) (v := .int rword) (C := RX5) (T := TX5) (N := 11) hx hb hts hin5 hown hK hP 0 rfl rfl 6 (by decide) (hts (.fieldLink RX5 43 "PorridgeSea$Reader" "word" "I") (List.mem_of_getElem? (i := 1) rfl)) (fun _ h9 => h9) rfl dX5_takeWord_25 ?_
      refine lv_iload_n hx hb dX5_takeWord_28 rfl (lv_at hl 1 rfl) ?_
      refine lv_isub hx hb dX5_takeWord_29 ?_
      refine lv_topi (fun y9 e10 => ?_)
      refine lv_istore_n (lv' := [(3, .int y9), (0, .ref reader), (1, .int x), (2, .int y)]) hx hb dX5_takeWord_30 rfl hl (by decide) rfl (fun ls hl => ?_)
      refine lv_aload_n hx hb dX5_takeWord_31 rfl (lv_at hl 1 rfl) ?_
      refine r_call_v (wr := []) (va_runV (As := []) (rest := []) ⟨hx, hb, hml, hown, hts⟩ (c_r_advance l dC dI ky s.heap.size adK adV reader rtape rlength rmostBytes rplace rkind rbegin rword rnumber rletters rfaultKind rfaultPlace rtapeF iv_rreader_0 iv_rreader_1 iv_rreader_2 iv_rreader_3) (cwV 0 hts gX5_takeWord_X5_advance rfl rfl rfl (by decide +kernel) ⟨(Nat.le_of_ble_eq_true rfl), (Nat.le_of_ble_eq_true rfl)⟩) (pre_UEV hE hS hA hK hP hD [0, 1] (by decide) rfl (va_recv hK hP (ci := 5) (q0 := 0) rfl rfl)) rfl rfl hl.1 rfl (lv_room (Nat.le_of_ble_eq_true rfl)) dX5_takeWord_32 ⟨(Nat.le_of_ble_eq_true rfl), (Nat.le_of_ble_eq_true rfl)⟩) hP hD hS hA [0, 1] [] rfl rfl (by decide) (by decide) (fun  u11 H locs p12 hP hD hS => ?_)
      obtain ⟨rplaceG_13, rkindG_14, rbeginG_15, rwordG_16, rnumberG_17, rlettersG_18⟩ := u11
      try dsimp only at p12
      obtain ⟨p19, p20⟩ := p12
      refine W.widen (k := 0) (n := 0) (Nat.le_of_ble_eq_true rfl) (Nat.le_of_ble_eq_true rfl) ?_
      have hP : va_P (dC, dI) vwCl [(reader, .inr (5, [.ref rtape, .int (nI rlength), .int (nI rmostBytes), .int (nI rplaceG_13), .int rkindG_14, .int (nI rbeginG_15), .int rwordG_16, .int rnumberG_17, .long rlettersG_18, .int rfaultKind, .int rfaultPlace])), (rtape, .inl (ky 2, 940, .inl rtapeF))] H := hP
      have hD : va_D A [(reader, .inr (5, [.ref rtape, .int (nI rlength), .int (nI rmostBytes), .int (nI rplaceG_13), .int rkindG_14, .int (nI rbeginG_15), .int rwordG_16, .int rnumberG_17, .long rlettersG_18, .int rfaultKind, .int rfaultPlace])), (rtape, .inl (ky 2, 940, .inl rtapeF))] := hD
      refine lv_iload_n hx hb dX5_takeWord_35 rfl (lv_at hl 0 rfl) ?_
      rw [hQ]
      exact W.iret (v := y9) hx hb hr (fun t9 ht9 hW9 => ⟨⟨y9, (rplaceG_13, rkindG_14, rbeginG_15, rwordG_16, rnumberG_17, rlettersG_18, rfaultKind, rfaultPlace), rfl, ⟨p19, p20⟩, by rw [ht9]; exact hP, va_K.moved hW9.alike hK, hD⟩, hS.F ht9⟩) hS.2.2 dX5_takeWord_36
    · refine lv_aload_n hx hb dX5_takeWord_16 rfl (lv_at hl 0 rfl) ?_
      refine lv_iconst (v := nI 1) hx hb dX5_takeWord_17 (by decide) ?_
      refine r_call_i (wr := [(rtape, .inl (ky 2, 940, .inl rtapeF))]) (va_runV (As := [.int (nI 1)]) (rest := []) ⟨hx, hb, hml, hown, hts⟩ (c_r_refuse l dC dI ky s.heap.size reader rtape rlength rmostBytes rplace rkind rbegin rword rnumber rletters rfaultKind rfaultPlace (nI 1) iv_rreader_0 iv_rreader_1 iv_rreader_2 iv_rreader_3) (cwV 1 hts gX5_takeWord_X5_refuse rfl rfl rfl (by decide +kernel) ⟨(Nat.le_of_ble_eq_true rfl), (Nat.le_of_ble_eq_true rfl)⟩) (pre_UV hK hP hD [0] (by decide) rfl (ci := 5) (q0 := 0) rfl rfl) rfl rfl hl.1 rfl (lv_room (Nat.le_of_ble_eq_true rfl)) dX5_takeWord_18 ⟨(Nat.le_of_ble_eq_true rfl), (Nat.le_of_ble_eq_true rfl)⟩) hP hD hS hA [0] [1] rfl rfl (by decide) (by decide) (fun r23 u21 H locs p22 hP hD hS => ?_)
      obtain ⟨rfaultKindG_24, rfaultPlaceG_25⟩ := u21
      try dsimp only at p22
      have p26 := p22
      refine W.widen (k := 0) (n := 0) (Nat.le_of_ble_eq_true rfl) (Nat.le_of_ble_eq_true rfl) ?_
      have hP : va_P (dC, dI) vwCl [(rtape, .inl (ky 2, 940, .inl rtapeF)), (reader, .inr (5, [.ref rtape, .int (nI rlength), .int (nI rmostBytes), .int (nI rplace), .int rkind, .int (nI rbegin), .int rword, .int rnumber, .long rletters, .int rfaultKindG_24, .int rfaultPlaceG_25]))] H := hP
      have hD : va_D A [(rtape, .inl (ky 2, 940, .inl rtapeF)), (reader, .inr (5, [.ref rtape, .int (nI rlength), .int (nI rmostBytes), .int (nI rplace), .int rkind, .int (nI rbegin), .int rword, .int rnumber, .long rletters, .int rfaultKindG_24, .int rfaultPlaceG_25]))] := hD
      subst p26
      refine lv_pop hx hb dX5_takeWord_21 rfl ?_
      refine lv_iconst (v := (-1 : Int32)) hx hb dX5_takeWord_22 (by decide) ?_
      rw [hQ]
      have hP9 := hP.sub (ws' := [(reader, .inr (5, [.ref rtape, .int (nI rlength), .int (nI rmostBytes), .int (nI rplace), .int rkind, .int (nI rbegin), .int rword, .int rnumber, .long rletters, .int rfaultKindG_24, .int rfaultPlaceG_25])), (rtape, .inl (ky 2, 940, .inl rtapeF))]) [1, 0] rfl
      have hD9 := hD.sub (ws' := [(reader, .inr (5, [.ref rtape, .int (nI rlength), .int (nI rmostBytes), .int (nI rplace), .int rkind, .int (nI rbegin), .int rword, .int rnumber, .long rletters, .int rfaultKindG_24, .int rfaultPlaceG_25])), (rtape, .inl (ky 2, 940, .inl rtapeF))]) [1, 0] (by decide) rfl
      exact W.iret (v := (-1 : Int32)) hx hb hr (fun t9 ht9 hW9 => ⟨⟨(-1 : Int32), (rplace, rkind, rbegin, rword, rnumber, rletters, rfaultKindG_24, rfaultPlaceG_25), rfl, ⟨iv_rreader_1, iv_rreader_3⟩, by rw [ht9]; exact hP9, va_K.moved hW9.alike hK, hD9⟩, hS.F ht9⟩) hS.2.2 dX5_takeWord_23
set_option maxRecDepth 20000 in
theorem lf_r_takeSign_1   : (nI 1) = nI 0 ∨ (nI 1) = nI 1 := by
  try have k_0 := ia_n 1 (by first | decide | omega)
  try have k_1 := ia_n 0 (by first | decide | omega)
  try simp only [ia_lt, ia_le, ia_eq, ia_m1, ia_0, ia_1, ne_eq, true_and, and_true, false_and, and_false, or_false, false_or, or_true, true_or, not_true_eq_false, not_false_eq_true] at *
  all_goals omega
set_option maxRecDepth 20000 in
theorem lf_r_takeSign_2   : (nI 0) = nI 0 ∨ (nI 0) = nI 1 := by
  try have k_0 := ia_n 0 (by first | decide | omega)
  try have k_1 := ia_n 1 (by first | decide | omega)
  try simp only [ia_lt, ia_le, ia_eq, ia_m1, ia_0, ia_1, ne_eq, true_and, and_true, false_and, and_false, or_false, false_or, or_true, true_or, not_true_eq_false, not_false_eq_true] at *
  all_goals omega
set_option maxHeartbeats 4000000 in
set_option maxRecDepth 100000 in
theorem c_r_takeSign (l : Launch) (dC : Nat → ClassId) (dI : Nat → Nat → Nat) (ky : Nat → ClassId) (sz : Nat) (adK : Nat → Nat) (adV : Nat → Nat) (reader : Nat) (rtape : Nat) (rlength : Nat) (rmostBytes : Nat) (rplace : Nat) (rkind : Int32) (rbegin : Nat) (rword : Int32) (rnumber : Int32) (rletters : Int64) (rfaultKind : Int32) (rfaultPlace : Int32) (rtapeF : Nat → Int32) (x : Int32) (iv_rreader_0 : rlength ≤ 940) (iv_rreader_1 : rplace ≤ rlength) (iv_rreader_2 : rmostBytes ≤ 900) (iv_rreader_3 : rbegin ≤ 940) : Met l yX5_takeSign wsX5_takeSign ({ frames := 6, cells := 0, slots := 0, locals := 131 }) (PcUE dC dI ky adK adV [.ref reader, .int x] [(reader, .inr (5, [.ref rtape, .int (nI rlength), .int (nI rmostBytes), .int (nI rplace), .int rkind, .int (nI rbegin), .int rword, .int rnumber, .long rletters, .int rfaultKind, .int rfaultPlace])), (rtape, .inl (ky 2, 940, .inl rtapeF))] sz) (va_Qi (fun (r : Int32) (u : Nat × Int32 × Nat × Int32 × Int32 × Int64 × Int32 × Int32) => match u with | (rplaceG, rkindG, rbeginG, rwordG, rnumberG, rlettersG, rfaultKindG, rfaultPlaceG) => (r = nI 0 ∨ r = nI 1) ∧ (rplaceG ≤ rlength) ∧ (rbeginG ≤ 940)) (BU dC dI ky (fun (u : Nat × Int32 × Nat × Int32 × Int32 × Int64 × Int32 × Int32) => match u with | (rplaceG, rkindG, rbeginG, rwordG, rnumberG, rlettersG, rfaultKindG, rfaultPlaceG) => [(reader, .inr (5, [.ref rtape, .int (nI rlength), .int (nI rmostBytes), .int (nI rplaceG), .int rkindG, .int (nI rbeginG), .int rwordG, .int rnumberG, .long rlettersG, .int rfaultKindG, .int rfaultPlaceG])), (rtape, .inl (ky 2, 940, .inl rtapeF))]) (va_A [(reader, .inr (5, [.ref rtape, .int (nI rlength), .int (nI rmostBytes), .int (nI rplace), .int rkind, .int (nI rbegin), .int rword, .int rnumber, .long rletters, .int rfaultKind, .int rfaultPlace])), (rtape, .inl (ky 2, 940, .inl rtapeF))] sz)) (va_A [(reader, .inr (5, [.ref rtape, .int (nI rlength), .int (nI rmostBytes), .int (nI rplace), .int rkind, .int (nI rbegin), .int rword, .int rnumber, .long rletters, .int rfaultKind, .int rfaultPlace])), (rtape, .inl (ky 2, 940, .inl rtapeF))] sz)) 0 0 (va_A [(reader, .inr (5, [.ref rtape, .int (nI rlength), .int (nI rmostBytes), .int (nI rplace), .int rkind, .int (nI rbegin), .int rword, .int rnumber, .long rletters, .int rfaultKind, .int rfaultPlace])), (rtape, .inl (ky 2, 940, .inl rtapeF))] sz) := by
  refine Met.ofW (cc := cX5_takeSign) (maxL := 2) (ret := (some .boolean)) (by decide) rfl ?_
  intro p e s m args below meth c s₁ B hml hv
  obtain ⟨rfl, hsz, hP, hK, hD0, hE⟩ := hv
  have hx := B.exec
  have hb := B.bytes
  have hr := B.returns
  have hts := atoms_spec (ws := wsX5_takeSign) B.pre
  have hown : s.vm.findClass RX5 = some m.cls := findClass_of_methodNamed B.named
  have hlocks := B.notSynchronized
  have hin5 : ∀ w ∈ u_ws RX5 TX5 11, w ∈ wsX5_takeSign := by decide +kernel
  subst hsz
  have hD := hD0.self (sz := s.heap.size)
  generalize hAe : va_A [(reader, .inr (5, [.ref rtape, .int (nI rlength), .int (nI rmostBytes), .int (nI rplace), .int rkind, .int (nI rbegin), .int rword, .int rnumber, .long rletters, .int rfaultKind, .int rfaultPlace])), (rtape, .inl (ky 2, 940, .inl rtapeF))] s.heap.size = A at hD hE ⊢
  have hA : ∀ q : Nat, s.heap.size ≤ q → A q := fun q h => by rw [← hAe]; exact Or.inr h
  have hS : va_S A s.heap s.heap [] := va_S.rf
  have hl := lv_entry ([.ref reader, .int x]) (n := 2) (Nat.le_of_ble_eq_true rfl)
  rw [lg_entry_eq]
  generalize (lg_sl ([.ref reader, .int x]) ++ List.replicate (2 - (lg_sl ([.ref reader, .int x])).length) Slot.unset).toArray = ls at hl ⊢
  have hl : lv_has ls 2 [(0, .ref reader), (1, .int x)] := hl
  refine q_name (fun Q hQ => ?_)
  generalize ([.ref reader, .int x] : List Value).toArray = args at hts hQ ⊢
  refine lv_aload_n hx hb dX5_takeSign_0 rfl (lv_at hl 0 rfl) ?_
  refine va_get (D := (dC, dI)) (ci := 5) (v := .int rkind) (C := RX5) (T := TX5) (N := 11) hx hb hts hin5 hown hK hP 0 rfl rfl 4 (by decide) (hts (.fieldLink RX5 46 "PorridgeSea$Reader" "kind" "I") (List.mem_of_getElem? (i := 1) rfl)) (fun _ h9 => h9) rfl dX5_takeSign_1 ?_
  refine lv_iload_n hx hb dX5_takeSign_4 rfl (lv_at hl 1 rfl) ?_
  refine lv_icmp_eq (tgt := 14) hx hb dX5_takeSign_5 (by decide) (fun c1 => ?_) (fun c1 => ?_)
  · refine lv_aload_n hx hb dX5_takeSign_14 rfl (lv_at hl 0 rfl) ?_
    refine r_call_v (wr := []) (va_runV (As := []) (rest := []) ⟨hx, hb, hml, hown, hts⟩ (c_r_advance l dC dI ky s.heap.size adK adV reader rtape rlength rmostBytes rplace rkind rbegin rword rnumber rletters rfaultKind rfaultPlace rtapeF iv_rreader_0 iv_rreader_1 iv_rreader_2 iv_rreader_3) (cwV 0 hts gX5_takeSign_X5_advance rfl rfl rfl (by decide +kernel) ⟨(Nat.le_of_ble_eq_true rfl), (Nat.le_of_ble_eq_true rfl)⟩) (pre_UEV hE hS hA hK hP hD [0, 1] (by decide) rfl (va_recv hK hP (ci := 5) (q0 := 0) rfl rfl)) rfl rfl hl.1 rfl (lv_room (Nat.le_of_ble_eq_true rfl)) dX5_takeSign_15 ⟨(Nat.le_of_ble_eq_true rfl), (Nat.le_of_ble_eq_true rfl)⟩) hP hD hS hA [0, 1] [] rfl rfl (by decide) (by decide) (fun  u2 H locs p3 hP hD hS => ?_)
    obtain ⟨rplaceG_4, rkindG_5, rbeginG_6, rwordG_7, rnumberG_8, rlettersG_9⟩ := u2
    try dsimp only at p3
    obtain ⟨p10, p11⟩ := p3
    refine W.widen (k := 0) (n := 0) (Nat.le_of_ble_eq_true rfl) (Nat.le_of_ble_eq_true rfl) ?_
    have hP : va_P (dC, dI) vwCl [(reader, .inr (5, [.ref rtape, .int (nI rlength), .int (nI rmostBytes), .int (nI rplaceG_4), .int rkindG_5, .int (nI rbeginG_6), .int rwordG_7, .int rnumberG_8, .long rlettersG_9, .int rfaultKind, .int rfaultPlace])), (rtape, .inl (ky 2, 940, .inl rtapeF))] H := hP
    have hD : va_D A [(reader, .inr (5, [.ref rtape, .int (nI rlength), .int (nI rmostBytes), .int (nI rplaceG_4), .int rkindG_5, .int (nI rbeginG_6), .int rwordG_7, .int rnumberG_8, .long rlettersG_9, .int rfaultKind, .int rfaultPlace])), (rtape, .inl (ky 2, 940, .inl rtapeF))] := hD
    refine lv_iconst (v := nI 1) hx hb dX5_takeSign_18 (by decide) ?_
    rw [hQ]
    exact W.zret (v := nI 1) hx hb hr (by decide) (fun t9 ht9 hW9 => ⟨⟨nI 1, (rplaceG_4, rkindG_5, rbeginG_6, rwordG_7, rnumberG_8, rlettersG_9, rfaultKind, rfaultPlace), rfl, ⟨(lf_r_takeSign_1), p10, p11⟩, by rw [ht9]; exact hP, va_K.moved hW9.alike hK, hD⟩, hS.F ht9⟩) hS.2.2 dX5_takeSign_19
  · refine lv_aload_n hx hb dX5_takeSign_8 rfl (lv_at hl 0 rfl) ?_
    refine lv_iconst (v := nI 1) hx hb dX5_takeSign_9 (by decide) ?_
    refine r_call_i (wr := [(rtape, .inl (ky 2, 940, .inl rtapeF))]) (va_runV (As := [.int (nI 1)]) (rest := []) ⟨hx, hb, hml, hown, hts⟩ (c_r_refuse l dC dI ky s.heap.size reader rtape rlength rmostBytes rplace rkind rbegin rword rnumber rletters rfaultKind rfaultPlace (nI 1) iv_rreader_0 iv_rreader_1 iv_rreader_2 iv_rreader_3) (cwV 1 hts gX5_takeSign_X5_refuse rfl rfl rfl (by decide +kernel) ⟨(Nat.le_of_ble_eq_true rfl), (Nat.le_of_ble_eq_true rfl)⟩) (pre_UV hK hP hD [0] (by decide) rfl (ci := 5) (q0 := 0) rfl rfl) rfl rfl hl.1 rfl (lv_room (Nat.le_of_ble_eq_true rfl)) dX5_takeSign_10 ⟨(Nat.le_of_ble_eq_true rfl), (Nat.le_of_ble_eq_true rfl)⟩) hP hD hS hA [0] [1] rfl rfl (by decide) (by decide) (fun r14 u12 H locs p13 hP hD hS => ?_)
    obtain ⟨rfaultKindG_15, rfaultPlaceG_16⟩ := u12
    try dsimp only at p13
    have p17 := p13
    refine W.widen (k := 0) (n := 0) (Nat.le_of_ble_eq_true rfl) (Nat.le_of_ble_eq_true rfl) ?_
    have hP : va_P (dC, dI) vwCl [(rtape, .inl (ky 2, 940, .inl rtapeF)), (reader, .inr (5, [.ref rtape, .int (nI rlength), .int (nI rmostBytes), .int (nI rplace), .int rkind, .int (nI rbegin), .int rword, .int rnumber, .long rletters, .int rfaultKindG_15, .int rfaultPlaceG_16]))] H := hP
    have hD : va_D A [(rtape, .inl (ky 2, 940, .inl rtapeF)), (reader, .inr (5, [.ref rtape, .int (nI rlength), .int (nI rmostBytes), .int (nI rplace), .int rkind, .int (nI rbegin), .int rword, .int rnumber, .long rletters, .int rfaultKindG_15, .int rfaultPlaceG_16]))] := hD
    subst p17
    rw [hQ]
    have hP9 := hP.sub (ws' := [(reader, .inr (5, [.ref rtape, .int (nI rlength), .int (nI rmostBytes), .int (nI rplace), .int rkind, .int (nI rbegin), .int rword, .int rnumber, .long rletters, .int rfaultKindG_15, .int rfaultPlaceG_16])), (rtape, .inl (ky 2, 940, .inl rtapeF))]) [1, 0] rfl
    have hD9 := hD.sub (ws' := [(reader, .inr (5, [.ref rtape, .int (nI rlength), .int (nI rmostBytes), .int (nI rplace), .int rkind, .int (nI rbegin), .int rword, .int rnumber, .long rletters, .int rfaultKindG_15, .int rfaultPlaceG_16])), (rtape, .inl (ky 2, 940, .inl rtapeF))]) [1, 0] (by decide) rfl
    exact W.zret (v := nI 0) hx hb hr (by decide) (fun t9 ht9 hW9 => ⟨⟨nI 0, (rplace, rkind, rbegin, rword, rnumber, rletters, rfaultKindG_15, rfaultPlaceG_16), rfl, ⟨(lf_r_takeSign_2), iv_rreader_1, iv_rreader_3⟩, by rw [ht9]; exact hP9, va_K.moved hW9.alike hK, hD9⟩, hS.F ht9⟩) hS.2.2 dX5_takeSign_13
