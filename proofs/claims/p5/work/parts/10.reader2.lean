theorem dX5_wordIn_0 : decode cX5_wordIn 0 = .ok (.aload_n 1, 1) := by decide +kernel
theorem dX5_wordIn_1 : decode cX5_wordIn 1 = .ok (.invokevirtual 79, 3) := by decide +kernel
theorem dX5_wordIn_4 : decode cX5_wordIn 4 = .ok (.bipush 7, 2) := by decide +kernel
theorem dX5_wordIn_6 : decode cX5_wordIn 6 = .ok (.idiv, 1) := by decide +kernel
theorem dX5_wordIn_7 : decode cX5_wordIn 7 = .ok (.istore_n 3, 1) := by decide +kernel
theorem dX5_wordIn_8 : decode cX5_wordIn 8 = .ok (.aload_n 0, 1) := by decide +kernel
theorem dX5_wordIn_9 : decode cX5_wordIn 9 = .ok (.getfield 28, 3) := by decide +kernel
theorem dX5_wordIn_12 : decode cX5_wordIn 12 = .ok (.aload_n 0, 1) := by decide +kernel
theorem dX5_wordIn_13 : decode cX5_wordIn 13 = .ok (.getfield 40, 3) := by decide +kernel
theorem dX5_wordIn_16 : decode cX5_wordIn 16 = .ok (.isub, 1) := by decide +kernel
theorem dX5_wordIn_17 : decode cX5_wordIn 17 = .ok (.istore 4, 2) := by decide +kernel
theorem dX5_wordIn_19 : decode cX5_wordIn 19 = .ok (.iconst 0, 1) := by decide +kernel
theorem dX5_wordIn_20 : decode cX5_wordIn 20 = .ok (.istore 5, 2) := by decide +kernel
theorem dX5_wordIn_22 : decode cX5_wordIn 22 = .ok (.iload 5, 2) := by decide +kernel
theorem dX5_wordIn_24 : decode cX5_wordIn 24 = .ok (.iload_n 3, 1) := by decide +kernel
theorem dX5_wordIn_25 : decode cX5_wordIn 25 = .ok (.if_icmp .ge 76, 3) := by decide +kernel
theorem dX5_wordIn_28 : decode cX5_wordIn 28 = .ok (.iconst 0, 1) := by decide +kernel
theorem dX5_wordIn_29 : decode cX5_wordIn 29 = .ok (.istore 6, 2) := by decide +kernel
theorem dX5_wordIn_31 : decode cX5_wordIn 31 = .ok (.iload 6, 2) := by decide +kernel
theorem dX5_wordIn_33 : decode cX5_wordIn 33 = .ok (.bipush 7, 2) := by decide +kernel
theorem dX5_wordIn_35 : decode cX5_wordIn 35 = .ok (.if_icmp .ge 48, 3) := by decide +kernel
theorem dX5_wordIn_38 : decode cX5_wordIn 38 = .ok (.aload_n 1, 1) := by decide +kernel
theorem dX5_wordIn_39 : decode cX5_wordIn 39 = .ok (.bipush 7, 2) := by decide +kernel
theorem dX5_wordIn_41 : decode cX5_wordIn 41 = .ok (.iload 5, 2) := by decide +kernel
theorem dX5_wordIn_43 : decode cX5_wordIn 43 = .ok (.imul, 1) := by decide +kernel
theorem dX5_wordIn_44 : decode cX5_wordIn 44 = .ok (.iload 6, 2) := by decide +kernel
theorem dX5_wordIn_46 : decode cX5_wordIn 46 = .ok (.iadd, 1) := by decide +kernel
theorem dX5_wordIn_47 : decode cX5_wordIn 47 = .ok (.invokevirtual 84, 3) := by decide +kernel
theorem dX5_wordIn_50 : decode cX5_wordIn 50 = .ok (.iload 6, 2) := by decide +kernel
theorem dX5_wordIn_52 : decode cX5_wordIn 52 = .ok (.iload 4, 2) := by decide +kernel
theorem dX5_wordIn_54 : decode cX5_wordIn 54 = .ok (.if_icmp .ge 18, 3) := by decide +kernel
theorem dX5_wordIn_72 : decode cX5_wordIn 72 = .ok (.bipush 32, 2) := by decide +kernel
theorem dX5_wordIn_57 : decode cX5_wordIn 57 = .ok (.aload_n 0, 1) := by decide +kernel
theorem dX5_wordIn_58 : decode cX5_wordIn 58 = .ok (.getfield 9, 3) := by decide +kernel
theorem dX5_wordIn_61 : decode cX5_wordIn 61 = .ok (.aload_n 0, 1) := by decide +kernel
theorem dX5_wordIn_62 : decode cX5_wordIn 62 = .ok (.getfield 40, 3) := by decide +kernel
theorem dX5_wordIn_65 : decode cX5_wordIn 65 = .ok (.iload 6, 2) := by decide +kernel
theorem dX5_wordIn_67 : decode cX5_wordIn 67 = .ok (.iadd, 1) := by decide +kernel
theorem dX5_wordIn_68 : decode cX5_wordIn 68 = .ok (.baload, 1) := by decide +kernel
theorem dX5_wordIn_69 : decode cX5_wordIn 69 = .ok (.goto 5, 3) := by decide +kernel
theorem dX5_wordIn_74 : decode cX5_wordIn 74 = .ok (.if_icmp .ne 9, 3) := by decide +kernel
theorem dX5_wordIn_83 : decode cX5_wordIn 83 = .ok (.iload 6, 2) := by decide +kernel
theorem dX5_wordIn_85 : decode cX5_wordIn 85 = .ok (.bipush 7, 2) := by decide +kernel
theorem dX5_wordIn_87 : decode cX5_wordIn 87 = .ok (.if_icmp .ne 8, 3) := by decide +kernel
theorem dX5_wordIn_95 : decode cX5_wordIn 95 = .ok (.iinc 5 1, 3) := by decide +kernel
theorem dX5_wordIn_98 : decode cX5_wordIn 98 = .ok (.goto (-76), 3) := by decide +kernel
theorem dX5_wordIn_77 : decode cX5_wordIn 77 = .ok (.iinc 6 1, 3) := by decide +kernel
theorem dX5_wordIn_80 : decode cX5_wordIn 80 = .ok (.goto (-49), 3) := by decide +kernel
theorem dX5_wordIn_90 : decode cX5_wordIn 90 = .ok (.iload_n 2, 1) := by decide +kernel
theorem dX5_wordIn_91 : decode cX5_wordIn 91 = .ok (.iload 5, 2) := by decide +kernel
theorem dX5_wordIn_93 : decode cX5_wordIn 93 = .ok (.iadd, 1) := by decide +kernel
theorem dX5_wordIn_94 : decode cX5_wordIn 94 = .ok (.ireturn, 1) := by decide +kernel
theorem dX5_wordIn_101 : decode cX5_wordIn 101 = .ok (.bipush 31, 2) := by decide +kernel
theorem dX5_wordIn_103 : decode cX5_wordIn 103 = .ok (.ireturn, 1) := by decide +kernel
theorem dX5_advance_0 : decode cX5_advance 0 = .ok (.aload_n 0, 1) := by decide +kernel
theorem dX5_advance_1 : decode cX5_advance 1 = .ok (.getfield 28, 3) := by decide +kernel
theorem dX5_advance_4 : decode cX5_advance 4 = .ok (.aload_n 0, 1) := by decide +kernel
theorem dX5_advance_5 : decode cX5_advance 5 = .ok (.getfield 21, 3) := by decide +kernel
theorem dX5_advance_8 : decode cX5_advance 8 = .ok (.if_icmp .ge 44, 3) := by decide +kernel
theorem dX5_advance_11 : decode cX5_advance 11 = .ok (.aload_n 0, 1) := by decide +kernel
theorem dX5_advance_12 : decode cX5_advance 12 = .ok (.getfield 9, 3) := by decide +kernel
theorem dX5_advance_15 : decode cX5_advance 15 = .ok (.aload_n 0, 1) := by decide +kernel
theorem dX5_advance_16 : decode cX5_advance 16 = .ok (.getfield 28, 3) := by decide +kernel
theorem dX5_advance_19 : decode cX5_advance 19 = .ok (.baload, 1) := by decide +kernel
theorem dX5_advance_20 : decode cX5_advance 20 = .ok (.bipush 32, 2) := by decide +kernel
theorem dX5_advance_22 : decode cX5_advance 22 = .ok (.if_icmp .eq 17, 3) := by decide +kernel
theorem dX5_advance_39 : decode cX5_advance 39 = .ok (.aload_n 0, 1) := by decide +kernel
theorem dX5_advance_40 : decode cX5_advance 40 = .ok (.dup, 1) := by decide +kernel
theorem dX5_advance_41 : decode cX5_advance 41 = .ok (.getfield 28, 3) := by decide +kernel
theorem dX5_advance_44 : decode cX5_advance 44 = .ok (.iconst 1, 1) := by decide +kernel
theorem dX5_advance_45 : decode cX5_advance 45 = .ok (.iadd, 1) := by decide +kernel
theorem dX5_advance_46 : decode cX5_advance 46 = .ok (.putfield 28, 3) := by decide +kernel
theorem dX5_advance_49 : decode cX5_advance 49 = .ok (.goto (-49), 3) := by decide +kernel
theorem dX5_advance_25 : decode cX5_advance 25 = .ok (.aload_n 0, 1) := by decide +kernel
theorem dX5_advance_26 : decode cX5_advance 26 = .ok (.getfield 9, 3) := by decide +kernel
theorem dX5_advance_29 : decode cX5_advance 29 = .ok (.aload_n 0, 1) := by decide +kernel
theorem dX5_advance_30 : decode cX5_advance 30 = .ok (.getfield 28, 3) := by decide +kernel
theorem dX5_advance_33 : decode cX5_advance 33 = .ok (.baload, 1) := by decide +kernel
theorem dX5_advance_34 : decode cX5_advance 34 = .ok (.bipush 10, 2) := by decide +kernel
theorem dX5_advance_36 : decode cX5_advance 36 = .ok (.if_icmp .ne 16, 3) := by decide +kernel
theorem dX5_advance_52 : decode cX5_advance 52 = .ok (.aload_n 0, 1) := by decide +kernel
theorem dX5_advance_53 : decode cX5_advance 53 = .ok (.aload_n 0, 1) := by decide +kernel
theorem dX5_advance_54 : decode cX5_advance 54 = .ok (.getfield 28, 3) := by decide +kernel
theorem dX5_advance_57 : decode cX5_advance 57 = .ok (.putfield 40, 3) := by decide +kernel
theorem dX5_advance_60 : decode cX5_advance 60 = .ok (.aload_n 0, 1) := by decide +kernel
theorem dX5_advance_61 : decode cX5_advance 61 = .ok (.iconst (-1), 1) := by decide +kernel
theorem dX5_advance_62 : decode cX5_advance 62 = .ok (.putfield 43, 3) := by decide +kernel
theorem dX5_advance_65 : decode cX5_advance 65 = .ok (.aload_n 0, 1) := by decide +kernel
theorem dX5_advance_66 : decode cX5_advance 66 = .ok (.getfield 21, 3) := by decide +kernel
theorem dX5_advance_69 : decode cX5_advance 69 = .ok (.aload_n 0, 1) := by decide +kernel
theorem dX5_advance_70 : decode cX5_advance 70 = .ok (.getfield 25, 3) := by decide +kernel
theorem dX5_advance_73 : decode cX5_advance 73 = .ok (.if_icmp .le 30, 3) := by decide +kernel
theorem dX5_advance_103 : decode cX5_advance 103 = .ok (.aload_n 0, 1) := by decide +kernel
theorem dX5_advance_104 : decode cX5_advance 104 = .ok (.getfield 28, 3) := by decide +kernel
theorem dX5_advance_107 : decode cX5_advance 107 = .ok (.aload_n 0, 1) := by decide +kernel
theorem dX5_advance_108 : decode cX5_advance 108 = .ok (.getfield 21, 3) := by decide +kernel
theorem dX5_advance_111 : decode cX5_advance 111 = .ok (.if_icmp .lt 11, 3) := by decide +kernel
theorem dX5_advance_122 : decode cX5_advance 122 = .ok (.aload_n 0, 1) := by decide +kernel
theorem dX5_advance_123 : decode cX5_advance 123 = .ok (.getfield 9, 3) := by decide +kernel
theorem dX5_advance_126 : decode cX5_advance 126 = .ok (.aload_n 0, 1) := by decide +kernel
theorem dX5_advance_127 : decode cX5_advance 127 = .ok (.getfield 28, 3) := by decide +kernel
theorem dX5_advance_130 : decode cX5_advance 130 = .ok (.baload, 1) := by decide +kernel
theorem dX5_advance_131 : decode cX5_advance 131 = .ok (.invokestatic 49, 3) := by decide +kernel
theorem dX5_advance_134 : decode cX5_advance 134 = .ok (.ifCond .ne 18, 3) := by decide +kernel
theorem dX5_advance_152 : decode cX5_advance 152 = .ok (.aload_n 0, 1) := by decide +kernel
theorem dX5_advance_153 : decode cX5_advance 153 = .ok (.invokevirtual 56, 3) := by decide +kernel
theorem dX5_advance_156 : decode cX5_advance 156 = .ok (.goto 7, 3) := by decide +kernel
theorem dX5_advance_137 : decode cX5_advance 137 = .ok (.aload_n 0, 1) := by decide +kernel
theorem dX5_advance_138 : decode cX5_advance 138 = .ok (.getfield 9, 3) := by decide +kernel
theorem dX5_advance_141 : decode cX5_advance 141 = .ok (.aload_n 0, 1) := by decide +kernel
theorem dX5_advance_142 : decode cX5_advance 142 = .ok (.getfield 28, 3) := by decide +kernel
theorem dX5_advance_145 : decode cX5_advance 145 = .ok (.baload, 1) := by decide +kernel
theorem dX5_advance_146 : decode cX5_advance 146 = .ok (.invokestatic 53, 3) := by decide +kernel
theorem dX5_advance_149 : decode cX5_advance 149 = .ok (.ifCond .eq 10, 3) := by decide +kernel
theorem dX5_advance_159 : decode cX5_advance 159 = .ok (.aload_n 0, 1) := by decide +kernel
theorem dX5_advance_160 : decode cX5_advance 160 = .ok (.invokevirtual 59, 3) := by decide +kernel
theorem dX5_advance_114 : decode cX5_advance 114 = .ok (.aload_n 0, 1) := by decide +kernel
theorem dX5_advance_115 : decode cX5_advance 115 = .ok (.iconst 0, 1) := by decide +kernel
theorem dX5_advance_116 : decode cX5_advance 116 = .ok (.putfield 46, 3) := by decide +kernel
theorem dX5_advance_119 : decode cX5_advance 119 = .ok (.goto 44, 3) := by decide +kernel
theorem dX5_advance_76 : decode cX5_advance 76 = .ok (.aload_n 0, 1) := by decide +kernel
theorem dX5_advance_77 : decode cX5_advance 77 = .ok (.getfield 28, 3) := by decide +kernel
theorem dX5_advance_80 : decode cX5_advance 80 = .ok (.aload_n 0, 1) := by decide +kernel
theorem dX5_advance_81 : decode cX5_advance 81 = .ok (.getfield 25, 3) := by decide +kernel
theorem dX5_advance_84 : decode cX5_advance 84 = .ok (.if_icmp .lt 19, 3) := by decide +kernel
theorem dX5_advance_87 : decode cX5_advance 87 = .ok (.aload_n 0, 1) := by decide +kernel
theorem dX5_advance_88 : decode cX5_advance 88 = .ok (.iconst 1, 1) := by decide +kernel
theorem dX5_advance_89 : decode cX5_advance 89 = .ok (.putfield 46, 3) := by decide +kernel
theorem dX5_advance_92 : decode cX5_advance 92 = .ok (.aload_n 0, 1) := by decide +kernel
theorem dX5_advance_93 : decode cX5_advance 93 = .ok (.aload_n 0, 1) := by decide +kernel
theorem dX5_advance_94 : decode cX5_advance 94 = .ok (.getfield 25, 3) := by decide +kernel
theorem dX5_advance_97 : decode cX5_advance 97 = .ok (.putfield 40, 3) := by decide +kernel
theorem dX5_advance_100 : decode cX5_advance 100 = .ok (.goto 63, 3) := by decide +kernel
theorem dX5_advance_163 : decode cX5_advance 163 = .ok (.aload_n 0, 1) := by decide +kernel
theorem dX5_advance_164 : decode cX5_advance 164 = .ok (.getfield 46, 3) := by decide +kernel
theorem dX5_advance_167 : decode cX5_advance 167 = .ok (.iconst 2, 1) := by decide +kernel
theorem dX5_advance_168 : decode cX5_advance 168 = .ok (.if_icmp .ne 70, 3) := by decide +kernel
theorem dX5_advance_238 : decode cX5_advance 238 = .ok (.return_, 1) := by decide +kernel
theorem dX5_advance_171 : decode cX5_advance 171 = .ok (.aload_n 0, 1) := by decide +kernel
theorem dX5_advance_172 : decode cX5_advance 172 = .ok (.aload_n 0, 1) := by decide +kernel
theorem dX5_advance_173 : decode cX5_advance 173 = .ok (.ldc 62, 2) := by decide +kernel
theorem dX5_advance_175 : decode cX5_advance 175 = .ok (.iconst 0, 1) := by decide +kernel
theorem dX5_advance_176 : decode cX5_advance 176 = .ok (.invokevirtual 64, 3) := by decide +kernel
theorem dX5_advance_179 : decode cX5_advance 179 = .ok (.putfield 43, 3) := by decide +kernel
theorem dX5_advance_182 : decode cX5_advance 182 = .ok (.aload_n 0, 1) := by decide +kernel
theorem dX5_advance_183 : decode cX5_advance 183 = .ok (.aload_n 0, 1) := by decide +kernel
theorem dX5_advance_184 : decode cX5_advance 184 = .ok (.getfield 43, 3) := by decide +kernel
theorem dX5_advance_187 : decode cX5_advance 187 = .ok (.bipush 31, 2) := by decide +kernel
theorem dX5_advance_189 : decode cX5_advance 189 = .ok (.if_icmp .ne 14, 3) := by decide +kernel
theorem dX5_advance_203 : decode cX5_advance 203 = .ok (.aload_n 0, 1) := by decide +kernel
theorem dX5_advance_204 : decode cX5_advance 204 = .ok (.getfield 43, 3) := by decide +kernel
theorem dX5_advance_192 : decode cX5_advance 192 = .ok (.aload_n 0, 1) := by decide +kernel
theorem dX5_advance_193 : decode cX5_advance 193 = .ok (.ldc 68, 2) := by decide +kernel
theorem dX5_advance_195 : decode cX5_advance 195 = .ok (.bipush 7, 2) := by decide +kernel
theorem dX5_advance_197 : decode cX5_advance 197 = .ok (.invokevirtual 64, 3) := by decide +kernel
theorem dX5_advance_200 : decode cX5_advance 200 = .ok (.goto 7, 3) := by decide +kernel
theorem dX5_advance_207 : decode cX5_advance 207 = .ok (.putfield 43, 3) := by decide +kernel
theorem dX5_advance_210 : decode cX5_advance 210 = .ok (.aload_n 0, 1) := by decide +kernel
theorem dX5_advance_211 : decode cX5_advance 211 = .ok (.aload_n 0, 1) := by decide +kernel
theorem dX5_advance_212 : decode cX5_advance 212 = .ok (.getfield 43, 3) := by decide +kernel
theorem dX5_advance_215 : decode cX5_advance 215 = .ok (.bipush 31, 2) := by decide +kernel
theorem dX5_advance_217 : decode cX5_advance 217 = .ok (.if_icmp .ne 14, 3) := by decide +kernel
theorem dX5_advance_231 : decode cX5_advance 231 = .ok (.aload_n 0, 1) := by decide +kernel
theorem dX5_advance_232 : decode cX5_advance 232 = .ok (.getfield 43, 3) := by decide +kernel
theorem dX5_advance_235 : decode cX5_advance 235 = .ok (.putfield 43, 3) := by decide +kernel
theorem dX5_advance_220 : decode cX5_advance 220 = .ok (.aload_n 0, 1) := by decide +kernel
theorem dX5_advance_221 : decode cX5_advance 221 = .ok (.ldc 70, 2) := by decide +kernel
theorem dX5_advance_223 : decode cX5_advance 223 = .ok (.bipush 20, 2) := by decide +kernel
theorem dX5_advance_225 : decode cX5_advance 225 = .ok (.invokevirtual 64, 3) := by decide +kernel
theorem dX5_advance_228 : decode cX5_advance 228 = .ok (.goto 7, 3) := by decide +kernel
theorem dX5_open_0 : decode cX5_open 0 = .ok (.aload_n 0, 1) := by decide +kernel
theorem dX5_open_1 : decode cX5_open 1 = .ok (.iload_n 1, 1) := by decide +kernel
theorem dX5_open_2 : decode cX5_open 2 = .ok (.sipush 940, 3) := by decide +kernel
theorem dX5_open_5 : decode cX5_open 5 = .ok (.invokestatic 15, 3) := by decide +kernel
theorem dX5_open_8 : decode cX5_open 8 = .ok (.putfield 21, 3) := by decide +kernel
theorem dX5_open_11 : decode cX5_open 11 = .ok (.aload_n 0, 1) := by decide +kernel
theorem dX5_open_12 : decode cX5_open 12 = .ok (.iload_n 2, 1) := by decide +kernel
theorem dX5_open_13 : decode cX5_open 13 = .ok (.putfield 25, 3) := by decide +kernel
theorem dX5_open_16 : decode cX5_open 16 = .ok (.aload_n 0, 1) := by decide +kernel
theorem dX5_open_17 : decode cX5_open 17 = .ok (.iconst 0, 1) := by decide +kernel
theorem dX5_open_18 : decode cX5_open 18 = .ok (.putfield 28, 3) := by decide +kernel
theorem dX5_open_21 : decode cX5_open 21 = .ok (.aload_n 0, 1) := by decide +kernel
theorem dX5_open_22 : decode cX5_open 22 = .ok (.iconst 0, 1) := by decide +kernel
theorem dX5_open_23 : decode cX5_open 23 = .ok (.putfield 31, 3) := by decide +kernel
theorem dX5_open_26 : decode cX5_open 26 = .ok (.aload_n 0, 1) := by decide +kernel
theorem dX5_open_27 : decode cX5_open 27 = .ok (.iconst 0, 1) := by decide +kernel
theorem dX5_open_28 : decode cX5_open 28 = .ok (.putfield 34, 3) := by decide +kernel
theorem dX5_open_31 : decode cX5_open 31 = .ok (.aload_n 0, 1) := by decide +kernel
theorem dX5_open_32 : decode cX5_open 32 = .ok (.invokevirtual 37, 3) := by decide +kernel
theorem dX5_open_35 : decode cX5_open 35 = .ok (.return_, 1) := by decide +kernel
theorem dX5_takeNumber_0 : decode cX5_takeNumber 0 = .ok (.aload_n 0, 1) := by decide +kernel
theorem dX5_takeNumber_1 : decode cX5_takeNumber 1 = .ok (.getfield 46, 3) := by decide +kernel
theorem dX5_takeNumber_4 : decode cX5_takeNumber 4 = .ok (.iconst 3, 1) := by decide +kernel
theorem dX5_takeNumber_5 : decode cX5_takeNumber 5 = .ok (.if_icmp .eq 11, 3) := by decide +kernel
theorem dX5_takeNumber_16 : decode cX5_takeNumber 16 = .ok (.aload_n 0, 1) := by decide +kernel
theorem dX5_takeNumber_17 : decode cX5_takeNumber 17 = .ok (.getfield 76, 3) := by decide +kernel
theorem dX5_takeNumber_20 : decode cX5_takeNumber 20 = .ok (.iload_n 1, 1) := by decide +kernel
theorem dX5_takeNumber_21 : decode cX5_takeNumber 21 = .ok (.if_icmp .lt 11, 3) := by decide +kernel
theorem dX5_takeNumber_32 : decode cX5_takeNumber 32 = .ok (.aload_n 0, 1) := by decide +kernel
theorem dX5_takeNumber_33 : decode cX5_takeNumber 33 = .ok (.iconst 2, 1) := by decide +kernel
theorem dX5_takeNumber_34 : decode cX5_takeNumber 34 = .ok (.invokevirtual 92, 3) := by decide +kernel
theorem dX5_takeNumber_37 : decode cX5_takeNumber 37 = .ok (.pop, 1) := by decide +kernel
theorem dX5_takeNumber_38 : decode cX5_takeNumber 38 = .ok (.iconst (-1), 1) := by decide +kernel
theorem dX5_takeNumber_39 : decode cX5_takeNumber 39 = .ok (.ireturn, 1) := by decide +kernel
theorem dX5_takeNumber_24 : decode cX5_takeNumber 24 = .ok (.aload_n 0, 1) := by decide +kernel
theorem dX5_takeNumber_25 : decode cX5_takeNumber 25 = .ok (.getfield 76, 3) := by decide +kernel
theorem dX5_takeNumber_28 : decode cX5_takeNumber 28 = .ok (.iload_n 2, 1) := by decide +kernel
theorem dX5_takeNumber_29 : decode cX5_takeNumber 29 = .ok (.if_icmp .le 11, 3) := by decide +kernel
theorem dX5_takeNumber_40 : decode cX5_takeNumber 40 = .ok (.aload_n 0, 1) := by decide +kernel
theorem dX5_takeNumber_41 : decode cX5_takeNumber 41 = .ok (.getfield 76, 3) := by decide +kernel
theorem dX5_takeNumber_44 : decode cX5_takeNumber 44 = .ok (.istore_n 3, 1) := by decide +kernel
theorem dX5_takeNumber_45 : decode cX5_takeNumber 45 = .ok (.aload_n 0, 1) := by decide +kernel
theorem dX5_takeNumber_46 : decode cX5_takeNumber 46 = .ok (.invokevirtual 37, 3) := by decide +kernel
theorem dX5_takeNumber_49 : decode cX5_takeNumber 49 = .ok (.iload_n 3, 1) := by decide +kernel
theorem dX5_takeNumber_50 : decode cX5_takeNumber 50 = .ok (.ireturn, 1) := by decide +kernel
theorem dX5_takeNumber_8 : decode cX5_takeNumber 8 = .ok (.aload_n 0, 1) := by decide +kernel
theorem dX5_takeNumber_9 : decode cX5_takeNumber 9 = .ok (.iconst 1, 1) := by decide +kernel
theorem dX5_takeNumber_10 : decode cX5_takeNumber 10 = .ok (.invokevirtual 92, 3) := by decide +kernel
theorem dX5_takeNumber_13 : decode cX5_takeNumber 13 = .ok (.pop, 1) := by decide +kernel
theorem dX5_takeNumber_14 : decode cX5_takeNumber 14 = .ok (.iconst (-1), 1) := by decide +kernel
theorem dX5_takeNumber_15 : decode cX5_takeNumber 15 = .ok (.ireturn, 1) := by decide +kernel
theorem dX5_takeWord_0 : decode cX5_takeWord 0 = .ok (.aload_n 0, 1) := by decide +kernel
theorem dX5_takeWord_1 : decode cX5_takeWord 1 = .ok (.getfield 43, 3) := by decide +kernel
theorem dX5_takeWord_4 : decode cX5_takeWord 4 = .ok (.iload_n 1, 1) := by decide +kernel
theorem dX5_takeWord_5 : decode cX5_takeWord 5 = .ok (.if_icmp .lt 11, 3) := by decide +kernel
theorem dX5_takeWord_16 : decode cX5_takeWord 16 = .ok (.aload_n 0, 1) := by decide +kernel
theorem dX5_takeWord_17 : decode cX5_takeWord 17 = .ok (.iconst 1, 1) := by decide +kernel
theorem dX5_takeWord_18 : decode cX5_takeWord 18 = .ok (.invokevirtual 92, 3) := by decide +kernel
theorem dX5_takeWord_21 : decode cX5_takeWord 21 = .ok (.pop, 1) := by decide +kernel
theorem dX5_takeWord_22 : decode cX5_takeWord 22 = .ok (.iconst (-1), 1) := by decide +kernel
theorem dX5_takeWord_23 : decode cX5_takeWord 23 = .ok (.ireturn, 1) := by decide +kernel
theorem dX5_takeWord_8 : decode cX5_takeWord 8 = .ok (.aload_n 0, 1) := by decide +kernel
theorem dX5_takeWord_9 : decode cX5_takeWord 9 = .ok (.getfield 43, 3) := by decide +kernel
theorem dX5_takeWord_12 : decode cX5_takeWord 12 = .ok (.iload_n 2, 1) := by decide +kernel
theorem dX5_takeWord_13 : decode cX5_takeWord 13 = .ok (.if_icmp .le 11, 3) := by decide +kernel
theorem dX5_takeWord_24 : decode cX5_takeWord 24 = .ok (.aload_n 0, 1) := by decide +kernel
theorem dX5_takeWord_25 : decode cX5_takeWord 25 = .ok (.getfield 43, 3) := by decide +kernel
theorem dX5_takeWord_28 : decode cX5_takeWord 28 = .ok (.iload_n 1, 1) := by decide +kernel
theorem dX5_takeWord_29 : decode cX5_takeWord 29 = .ok (.isub, 1) := by decide +kernel
theorem dX5_takeWord_30 : decode cX5_takeWord 30 = .ok (.istore_n 3, 1) := by decide +kernel
theorem dX5_takeWord_31 : decode cX5_takeWord 31 = .ok (.aload_n 0, 1) := by decide +kernel
theorem dX5_takeWord_32 : decode cX5_takeWord 32 = .ok (.invokevirtual 37, 3) := by decide +kernel
theorem dX5_takeWord_35 : decode cX5_takeWord 35 = .ok (.iload_n 3, 1) := by decide +kernel
theorem dX5_takeWord_36 : decode cX5_takeWord 36 = .ok (.ireturn, 1) := by decide +kernel
theorem dX5_takeSign_0 : decode cX5_takeSign 0 = .ok (.aload_n 0, 1) := by decide +kernel
theorem dX5_takeSign_1 : decode cX5_takeSign 1 = .ok (.getfield 46, 3) := by decide +kernel
theorem dX5_takeSign_4 : decode cX5_takeSign 4 = .ok (.iload_n 1, 1) := by decide +kernel
theorem dX5_takeSign_5 : decode cX5_takeSign 5 = .ok (.if_icmp .eq 9, 3) := by decide +kernel
theorem dX5_takeSign_14 : decode cX5_takeSign 14 = .ok (.aload_n 0, 1) := by decide +kernel
theorem dX5_takeSign_15 : decode cX5_takeSign 15 = .ok (.invokevirtual 37, 3) := by decide +kernel
theorem dX5_takeSign_18 : decode cX5_takeSign 18 = .ok (.iconst 1, 1) := by decide +kernel
theorem dX5_takeSign_19 : decode cX5_takeSign 19 = .ok (.ireturn, 1) := by decide +kernel
theorem dX5_takeSign_8 : decode cX5_takeSign 8 = .ok (.aload_n 0, 1) := by decide +kernel
theorem dX5_takeSign_9 : decode cX5_takeSign 9 = .ok (.iconst 1, 1) := by decide +kernel
theorem dX5_takeSign_10 : decode cX5_takeSign 10 = .ok (.invokevirtual 92, 3) := by decide +kernel
theorem dX5_takeSign_13 : decode cX5_takeSign 13 = .ok (.ireturn, 1) := by decide +kernel
set_option maxRecDepth 100000 in
theorem ggX5_wordIn_J0_length_8abf5 : GoodIn wsX5_wordIn wsJ0_length_8abf5 := goodIn_r _ [8, 9, 10, 11, 12, 7, 13, 14, 15] rfl (by decide +kernel)
set_option maxRecDepth 100000 in
theorem ggX5_wordIn_J0_charAt_5068e : GoodIn wsX5_wordIn wsJ0_charAt_5068e := goodIn_r _ [19, 9, 20, 21, 22, 7, 23, 14, 15, 24, 25, 26, 27, 28, 29, 30, 31, 32, 33, 34, 35, 36, 37, 38, 39, 40, 41, 42, 43, 44, 45, 46, 47, 48, 49, 50, 51, 52] rfl (by decide +kernel)
set_option maxRecDepth 100000 in
theorem ggX5_advance_X5_isLetter : GoodIn wsX5_advance wsX5_isLetter := goodIn_r _ [11] rfl (by decide +kernel)
set_option maxRecDepth 100000 in
theorem ggX5_advance_X5_readRun : GoodIn wsX5_advance wsX5_readRun := goodIn_r _ [18, 19, 20, 1, 2, 3, 4, 7, 8, 9, 10, 11, 12, 13, 14, 78, 79, 80, 81, 82, 83, 84, 85, 86, 87, 88] rfl (by decide +kernel)
set_option maxRecDepth 100000 in
theorem ggX5_advance_X5_isDigit : GoodIn wsX5_advance wsX5_isDigit := goodIn_r _ [14] rfl (by decide +kernel)
set_option maxRecDepth 100000 in
theorem ggX5_advance_X5_readSign : GoodIn wsX5_advance wsX5_readSign := goodIn_r _ [24, 3, 1, 7, 78, 79, 80, 81, 82, 83, 84, 85, 86, 87, 88] rfl (by decide +kernel)
set_option maxRecDepth 100000 in
theorem ggX5_advance_X5_wordIn : GoodIn wsX5_advance wsX5_wordIn := goodIn_r _ [28, 1, 4, 3, 29, 30, 31, 32, 33, 34, 35, 36, 37, 38, 39, 40, 41, 42, 43, 44, 45, 46, 47, 48, 49, 50, 51, 52, 53, 54, 55, 56, 57, 58, 59, 60, 61, 62, 63, 64, 65, 66, 67, 68, 69, 70, 71, 72, 73, 74, 75, 76, 77, 78, 79, 80, 81, 82, 83, 84, 85, 86, 87, 88] rfl (by decide +kernel)
set_option maxRecDepth 100000 in
theorem ggX5_open_X5_advance : GoodIn wsX5_open wsX5_advance := goodIn_r _ [14, 7, 5, 15, 16, 17, 6, 18, 19, 20, 13, 21, 22, 23, 24, 25, 26, 27, 28, 29, 30, 31, 32, 33, 34, 35, 36, 37, 38, 39, 40, 41, 42, 43, 44, 45, 46, 47, 48, 49, 50, 51, 52, 53, 54, 55, 56, 57, 58, 59, 60, 61, 62, 63, 64, 65, 66, 67, 68, 69, 70, 71, 72, 73, 74, 75, 76, 77, 78, 79, 80, 81, 82, 83, 84, 85, 86, 87, 88, 89, 90, 91, 92, 93, 94, 95, 96, 97, 98] rfl (by decide +kernel)
set_option maxRecDepth 100000 in
theorem ggX5_takeNumber_X5_refuse : GoodIn wsX5_takeNumber wsX5_refuse := goodIn_r _ [7, 8, 9, 10, 11, 6, 12, 13, 14, 92, 93, 94, 95, 96, 97, 98, 99, 100, 101, 102] rfl (by decide +kernel)
set_option maxRecDepth 100000 in
theorem ggX5_takeNumber_X5_advance : GoodIn wsX5_takeNumber wsX5_advance := goodIn_r _ [18, 19, 20, 21, 8, 22, 23, 1, 24, 25, 6, 26, 27, 28, 29, 30, 31, 32, 33, 34, 2, 35, 36, 37, 38, 39, 40, 41, 42, 43, 44, 45, 46, 47, 48, 49, 50, 51, 52, 53, 54, 55, 56, 57, 58, 59, 60, 61, 62, 63, 64, 65, 66, 67, 68, 69, 70, 71, 72, 73, 74, 75, 76, 77, 78, 79, 80, 81, 82, 83, 84, 85, 86, 87, 88, 89, 90, 91, 92, 93, 94, 95, 96, 97, 98, 99, 100, 101, 102] rfl (by decide +kernel)
set_option maxRecDepth 100000 in
theorem ggX5_takeWord_X5_refuse : GoodIn wsX5_takeWord wsX5_refuse := goodIn_r _ [6, 7, 8, 9, 10, 5, 11, 12, 13, 92, 93, 94, 95, 96, 97, 98, 99, 100, 101, 102] rfl (by decide +kernel)
set_option maxRecDepth 100000 in
theorem ggX5_takeWord_X5_advance : GoodIn wsX5_takeWord wsX5_advance := goodIn_r _ [17, 18, 19, 20, 7, 1, 21, 22, 23, 24, 5, 25, 26, 27, 28, 29, 30, 31, 32, 33, 34, 35, 36, 37, 38, 39, 40, 41, 42, 43, 44, 45, 46, 47, 48, 49, 50, 51, 52, 53, 54, 55, 56, 57, 58, 59, 60, 61, 62, 63, 64, 65, 66, 67, 68, 69, 70, 71, 72, 73, 74, 75, 76, 77, 78, 79, 80, 81, 82, 83, 84, 85, 86, 87, 88, 89, 90, 91, 92, 93, 94, 95, 96, 97, 98, 99, 100, 101, 102] rfl (by decide +kernel)
set_option maxRecDepth 100000 in
theorem ggX5_takeSign_X5_advance : GoodIn wsX5_takeSign wsX5_advance := goodIn_r _ [17, 18, 19, 20, 7, 21, 22, 1, 23, 24, 5, 25, 26, 27, 28, 29, 30, 31, 32, 33, 34, 35, 36, 37, 38, 39, 40, 41, 42, 43, 44, 45, 46, 47, 48, 49, 50, 51, 52, 53, 54, 55, 56, 57, 58, 59, 60, 61, 62, 63, 64, 65, 66, 67, 68, 69, 70, 71, 72, 73, 74, 75, 76, 77, 78, 79, 80, 81, 82, 83, 84, 85, 86, 87, 88, 89, 90, 91, 92, 93, 94, 95, 96, 97, 98, 99, 100, 101, 102] rfl (by decide +kernel)
set_option maxRecDepth 100000 in
theorem ggX5_takeSign_X5_refuse : GoodIn wsX5_takeSign wsX5_refuse := goodIn_r _ [6, 7, 8, 9, 10, 5, 11, 12, 13, 92, 93, 94, 95, 96, 97, 98, 99, 100, 101, 102] rfl (by decide +kernel)
set_option maxRecDepth 100000 in
theorem gX5_wordIn_J0_length_8abf5 : GoodIn wsX5_wordIn (wsV RX5 79 RJ0 yJ0_length_8abf5 wsJ0_length_8abf5) := goodIn_app (goodIn_of _ (by decide +kernel)) ggX5_wordIn_J0_length_8abf5
set_option maxRecDepth 100000 in
theorem gX5_wordIn_J0_charAt_5068e : GoodIn wsX5_wordIn (wsV RX5 84 RJ0 yJ0_charAt_5068e wsJ0_charAt_5068e) := goodIn_app (goodIn_of _ (by decide +kernel)) ggX5_wordIn_J0_charAt_5068e
set_option maxRecDepth 100000 in
theorem gX5_advance_X5_isLetter : GoodIn wsX5_advance (va_wsS RX5 49 yX5_isLetter wsX5_isLetter) := goodIn_app (goodIn_of _ (by decide +kernel)) ggX5_advance_X5_isLetter
set_option maxRecDepth 100000 in
theorem gX5_advance_X5_readRun : GoodIn wsX5_advance (wsV RX5 56 RX5 yX5_readRun wsX5_readRun) := goodIn_app (goodIn_of _ (by decide +kernel)) ggX5_advance_X5_readRun
set_option maxRecDepth 100000 in
theorem gX5_advance_X5_isDigit : GoodIn wsX5_advance (va_wsS RX5 53 yX5_isDigit wsX5_isDigit) := goodIn_app (goodIn_of _ (by decide +kernel)) ggX5_advance_X5_isDigit
set_option maxRecDepth 100000 in
theorem gX5_advance_X5_readSign : GoodIn wsX5_advance (wsV RX5 59 RX5 yX5_readSign wsX5_readSign) := goodIn_app (goodIn_of _ (by decide +kernel)) ggX5_advance_X5_readSign
set_option maxRecDepth 100000 in
theorem gX5_advance_X5_wordIn : GoodIn wsX5_advance (wsV RX5 64 RX5 yX5_wordIn wsX5_wordIn) := goodIn_app (goodIn_of _ (by decide +kernel)) ggX5_advance_X5_wordIn
set_option maxRecDepth 100000 in
theorem gX5_open_X5_advance : GoodIn wsX5_open (wsV RX5 37 RX5 yX5_advance wsX5_advance) := goodIn_app (goodIn_of _ (by decide +kernel)) ggX5_open_X5_advance
set_option maxRecDepth 100000 in
theorem gX5_takeNumber_X5_refuse : GoodIn wsX5_takeNumber (wsV RX5 92 RX5 yX5_refuse wsX5_refuse) := goodIn_app (goodIn_of _ (by decide +kernel)) ggX5_takeNumber_X5_refuse
set_option maxRecDepth 100000 in
theorem gX5_takeNumber_X5_advance : GoodIn wsX5_takeNumber (wsV RX5 37 RX5 yX5_advance wsX5_advance) := goodIn_app (goodIn_of _ (by decide +kernel)) ggX5_takeNumber_X5_advance
set_option maxRecDepth 100000 in
theorem gX5_takeWord_X5_refuse : GoodIn wsX5_takeWord (wsV RX5 92 RX5 yX5_refuse wsX5_refuse) := goodIn_app (goodIn_of _ (by decide +kernel)) ggX5_takeWord_X5_refuse
set_option maxRecDepth 100000 in
theorem gX5_takeWord_X5_advance : GoodIn wsX5_takeWord (wsV RX5 37 RX5 yX5_advance wsX5_advance) := goodIn_app (goodIn_of _ (by decide +kernel)) ggX5_takeWord_X5_advance
set_option maxRecDepth 100000 in
theorem gX5_takeSign_X5_advance : GoodIn wsX5_takeSign (wsV RX5 37 RX5 yX5_advance wsX5_advance) := goodIn_app (goodIn_of _ (by decide +kernel)) ggX5_takeSign_X5_advance
set_option maxRecDepth 100000 in
theorem gX5_takeSign_X5_refuse : GoodIn wsX5_takeSign (wsV RX5 92 RX5 yX5_refuse wsX5_refuse) := goodIn_app (goodIn_of _ (by decide +kernel)) ggX5_takeSign_X5_refuse
