theorem dX0_sortOf_0 : decode cX0_sortOf 0 = .ok (.iload_n 0, 1) := by decide +kernel
theorem dX0_sortOf_1 : decode cX0_sortOf 1 = .ok (.lookupswitch 71 #[(7, 59), (16, 63), (17, 65), (18, 67), (19, 69), (31, 61)], 59) := by decide +kernel
theorem dX0_sortOf_60 : decode cX0_sortOf 60 = .ok (.iconst 0, 1) := by decide +kernel
theorem dX0_sortOf_61 : decode cX0_sortOf 61 = .ok (.ireturn, 1) := by decide +kernel
theorem dX0_sortOf_64 : decode cX0_sortOf 64 = .ok (.iconst 2, 1) := by decide +kernel
theorem dX0_sortOf_65 : decode cX0_sortOf 65 = .ok (.ireturn, 1) := by decide +kernel
theorem dX0_sortOf_66 : decode cX0_sortOf 66 = .ok (.iconst 3, 1) := by decide +kernel
theorem dX0_sortOf_67 : decode cX0_sortOf 67 = .ok (.ireturn, 1) := by decide +kernel
theorem dX0_sortOf_68 : decode cX0_sortOf 68 = .ok (.iconst 4, 1) := by decide +kernel
theorem dX0_sortOf_69 : decode cX0_sortOf 69 = .ok (.ireturn, 1) := by decide +kernel
theorem dX0_sortOf_70 : decode cX0_sortOf 70 = .ok (.iconst 5, 1) := by decide +kernel
theorem dX0_sortOf_71 : decode cX0_sortOf 71 = .ok (.ireturn, 1) := by decide +kernel
theorem dX0_sortOf_62 : decode cX0_sortOf 62 = .ok (.iconst 1, 1) := by decide +kernel
theorem dX0_sortOf_63 : decode cX0_sortOf 63 = .ok (.ireturn, 1) := by decide +kernel
theorem dX0_sortOf_72 : decode cX0_sortOf 72 = .ok (.iconst (-1), 1) := by decide +kernel
theorem dX0_sortOf_73 : decode cX0_sortOf 73 = .ok (.ireturn, 1) := by decide +kernel
theorem dX0_put_0 : decode cX0_put 0 = .ok (.aload_n 0, 1) := by decide +kernel
theorem dX0_put_1 : decode cX0_put 1 = .ok (.getfield 15, 3) := by decide +kernel
theorem dX0_put_4 : decode cX0_put 4 = .ok (.bipush 40, 2) := by decide +kernel
theorem dX0_put_6 : decode cX0_put 6 = .ok (.if_icmp .lt 5, 3) := by decide +kernel
theorem dX0_put_11 : decode cX0_put 11 = .ok (.iconst 4, 1) := by decide +kernel
theorem dX0_put_12 : decode cX0_put 12 = .ok (.aload_n 0, 1) := by decide +kernel
theorem dX0_put_13 : decode cX0_put 13 = .ok (.getfield 15, 3) := by decide +kernel
theorem dX0_put_16 : decode cX0_put 16 = .ok (.imul, 1) := by decide +kernel
theorem dX0_put_17 : decode cX0_put 17 = .ok (.istore 5, 2) := by decide +kernel
theorem dX0_put_19 : decode cX0_put 19 = .ok (.aload_n 0, 1) := by decide +kernel
theorem dX0_put_20 : decode cX0_put 20 = .ok (.getfield 11, 3) := by decide +kernel
theorem dX0_put_23 : decode cX0_put 23 = .ok (.iload 5, 2) := by decide +kernel
theorem dX0_put_25 : decode cX0_put 25 = .ok (.iload_n 1, 1) := by decide +kernel
theorem dX0_put_26 : decode cX0_put 26 = .ok (.iastore, 1) := by decide +kernel
theorem dX0_put_27 : decode cX0_put 27 = .ok (.aload_n 0, 1) := by decide +kernel
theorem dX0_put_28 : decode cX0_put 28 = .ok (.getfield 11, 3) := by decide +kernel
theorem dX0_put_31 : decode cX0_put 31 = .ok (.iload 5, 2) := by decide +kernel
theorem dX0_put_33 : decode cX0_put 33 = .ok (.iconst 1, 1) := by decide +kernel
theorem dX0_put_34 : decode cX0_put 34 = .ok (.iadd, 1) := by decide +kernel
theorem dX0_put_35 : decode cX0_put 35 = .ok (.iload_n 2, 1) := by decide +kernel
theorem dX0_put_36 : decode cX0_put 36 = .ok (.iastore, 1) := by decide +kernel
theorem dX0_put_37 : decode cX0_put 37 = .ok (.aload_n 0, 1) := by decide +kernel
theorem dX0_put_38 : decode cX0_put 38 = .ok (.getfield 11, 3) := by decide +kernel
theorem dX0_put_41 : decode cX0_put 41 = .ok (.iload 5, 2) := by decide +kernel
theorem dX0_put_43 : decode cX0_put 43 = .ok (.iconst 2, 1) := by decide +kernel
theorem dX0_put_44 : decode cX0_put 44 = .ok (.iadd, 1) := by decide +kernel
theorem dX0_put_45 : decode cX0_put 45 = .ok (.iload_n 3, 1) := by decide +kernel
theorem dX0_put_46 : decode cX0_put 46 = .ok (.iastore, 1) := by decide +kernel
theorem dX0_put_47 : decode cX0_put 47 = .ok (.aload_n 0, 1) := by decide +kernel
theorem dX0_put_48 : decode cX0_put 48 = .ok (.getfield 11, 3) := by decide +kernel
theorem dX0_put_51 : decode cX0_put 51 = .ok (.iload 5, 2) := by decide +kernel
theorem dX0_put_53 : decode cX0_put 53 = .ok (.iconst 3, 1) := by decide +kernel
theorem dX0_put_54 : decode cX0_put 54 = .ok (.iadd, 1) := by decide +kernel
theorem dX0_put_55 : decode cX0_put 55 = .ok (.iload 4, 2) := by decide +kernel
theorem dX0_put_57 : decode cX0_put 57 = .ok (.iastore, 1) := by decide +kernel
theorem dX0_put_58 : decode cX0_put 58 = .ok (.aload_n 0, 1) := by decide +kernel
theorem dX0_put_59 : decode cX0_put 59 = .ok (.dup, 1) := by decide +kernel
theorem dX0_put_60 : decode cX0_put 60 = .ok (.getfield 15, 3) := by decide +kernel
theorem dX0_put_63 : decode cX0_put 63 = .ok (.iconst 1, 1) := by decide +kernel
theorem dX0_put_64 : decode cX0_put 64 = .ok (.iadd, 1) := by decide +kernel
theorem dX0_put_65 : decode cX0_put 65 = .ok (.putfield 15, 3) := by decide +kernel
theorem dX0_put_68 : decode cX0_put 68 = .ok (.iconst 1, 1) := by decide +kernel
theorem dX0_put_69 : decode cX0_put 69 = .ok (.ireturn, 1) := by decide +kernel
theorem dX0_put_9 : decode cX0_put 9 = .ok (.iconst 0, 1) := by decide +kernel
theorem dX0_put_10 : decode cX0_put 10 = .ok (.ireturn, 1) := by decide +kernel
theorem dX0_readRest_0 : decode cX0_readRest 0 = .ok (.iload_n 2, 1) := by decide +kernel
theorem dX0_readRest_1 : decode cX0_readRest 1 = .ok (.tableswitch 210 0 3 #[31, 105, 139, 139], 31) := by decide +kernel
theorem dX0_readRest_211 : decode cX0_readRest 211 = .ok (.aload_n 1, 1) := by decide +kernel
theorem dX0_readRest_212 : decode cX0_readRest 212 = .ok (.iconst 1, 1) := by decide +kernel
theorem dX0_readRest_213 : decode cX0_readRest 213 = .ok (.iload_n 2, 1) := by decide +kernel
theorem dX0_readRest_214 : decode cX0_readRest 214 = .ok (.iconst 4, 1) := by decide +kernel
theorem dX0_readRest_215 : decode cX0_readRest 215 = .ok (.if_icmp .ne 8, 3) := by decide +kernel
theorem dX0_readRest_223 : decode cX0_readRest 223 = .ok (.bipush 60, 2) := by decide +kernel
theorem dX0_readRest_225 : decode cX0_readRest 225 = .ok (.invokevirtual 64, 3) := by decide +kernel
theorem dX0_readRest_228 : decode cX0_readRest 228 = .ok (.istore 11, 2) := by decide +kernel
theorem dX0_readRest_230 : decode cX0_readRest 230 = .ok (.iload 11, 2) := by decide +kernel
theorem dX0_readRest_232 : decode cX0_readRest 232 = .ok (.iconst (-1), 1) := by decide +kernel
theorem dX0_readRest_233 : decode cX0_readRest 233 = .ok (.if_icmp .eq 19, 3) := by decide +kernel
theorem dX0_readRest_252 : decode cX0_readRest 252 = .ok (.iconst 0, 1) := by decide +kernel
theorem dX0_readRest_253 : decode cX0_readRest 253 = .ok (.ireturn, 1) := by decide +kernel
theorem dX0_readRest_236 : decode cX0_readRest 236 = .ok (.aload_n 0, 1) := by decide +kernel
theorem dX0_readRest_237 : decode cX0_readRest 237 = .ok (.iload_n 2, 1) := by decide +kernel
theorem dX0_readRest_238 : decode cX0_readRest 238 = .ok (.iload 11, 2) := by decide +kernel
theorem dX0_readRest_240 : decode cX0_readRest 240 = .ok (.iconst 0, 1) := by decide +kernel
theorem dX0_readRest_241 : decode cX0_readRest 241 = .ok (.iconst 0, 1) := by decide +kernel
theorem dX0_readRest_242 : decode cX0_readRest 242 = .ok (.invokevirtual 67, 3) := by decide +kernel
theorem dX0_readRest_245 : decode cX0_readRest 245 = .ok (.ifCond .eq 7, 3) := by decide +kernel
theorem dX0_readRest_248 : decode cX0_readRest 248 = .ok (.iconst 1, 1) := by decide +kernel
theorem dX0_readRest_249 : decode cX0_readRest 249 = .ok (.goto 4, 3) := by decide +kernel
theorem dX0_readRest_218 : decode cX0_readRest 218 = .ok (.bipush 20, 2) := by decide +kernel
theorem dX0_readRest_220 : decode cX0_readRest 220 = .ok (.goto 5, 3) := by decide +kernel
theorem dX0_readRest_32 : decode cX0_readRest 32 = .ok (.aload_n 1, 1) := by decide +kernel
theorem dX0_readRest_33 : decode cX0_readRest 33 = .ok (.bipush 8, 2) := by decide +kernel
theorem dX0_readRest_35 : decode cX0_readRest 35 = .ok (.bipush 9, 2) := by decide +kernel
theorem dX0_readRest_37 : decode cX0_readRest 37 = .ok (.invokevirtual 60, 3) := by decide +kernel
theorem dX0_readRest_40 : decode cX0_readRest 40 = .ok (.istore 4, 2) := by decide +kernel
theorem dX0_readRest_42 : decode cX0_readRest 42 = .ok (.iload 4, 2) := by decide +kernel
theorem dX0_readRest_44 : decode cX0_readRest 44 = .ok (.iconst (-1), 1) := by decide +kernel
theorem dX0_readRest_45 : decode cX0_readRest 45 = .ok (.if_icmp .ne 7, 3) := by decide +kernel
theorem dX0_readRest_52 : decode cX0_readRest 52 = .ok (.aload_n 1, 1) := by decide +kernel
theorem dX0_readRest_53 : decode cX0_readRest 53 = .ok (.iconst 0, 1) := by decide +kernel
theorem dX0_readRest_54 : decode cX0_readRest 54 = .ok (.iconst 5, 1) := by decide +kernel
theorem dX0_readRest_55 : decode cX0_readRest 55 = .ok (.invokevirtual 64, 3) := by decide +kernel
theorem dX0_readRest_58 : decode cX0_readRest 58 = .ok (.istore 5, 2) := by decide +kernel
theorem dX0_readRest_60 : decode cX0_readRest 60 = .ok (.iload 5, 2) := by decide +kernel
theorem dX0_readRest_62 : decode cX0_readRest 62 = .ok (.iconst (-1), 1) := by decide +kernel
theorem dX0_readRest_63 : decode cX0_readRest 63 = .ok (.if_icmp .ne 7, 3) := by decide +kernel
theorem dX0_readRest_66 : decode cX0_readRest 66 = .ok (.iconst (-1), 1) := by decide +kernel
theorem dX0_readRest_67 : decode cX0_readRest 67 = .ok (.goto 11, 3) := by decide +kernel
theorem dX0_readRest_78 : decode cX0_readRest 78 = .ok (.istore 6, 2) := by decide +kernel
theorem dX0_readRest_80 : decode cX0_readRest 80 = .ok (.iload 6, 2) := by decide +kernel
theorem dX0_readRest_82 : decode cX0_readRest 82 = .ok (.iconst (-1), 1) := by decide +kernel
theorem dX0_readRest_83 : decode cX0_readRest 83 = .ok (.if_icmp .eq 21, 3) := by decide +kernel
theorem dX0_readRest_104 : decode cX0_readRest 104 = .ok (.iconst 0, 1) := by decide +kernel
theorem dX0_readRest_105 : decode cX0_readRest 105 = .ok (.ireturn, 1) := by decide +kernel
theorem dX0_readRest_70 : decode cX0_readRest 70 = .ok (.aload_n 1, 1) := by decide +kernel
theorem dX0_readRest_71 : decode cX0_readRest 71 = .ok (.bipush 10, 2) := by decide +kernel
theorem dX0_readRest_73 : decode cX0_readRest 73 = .ok (.bipush 11, 2) := by decide +kernel
theorem dX0_readRest_75 : decode cX0_readRest 75 = .ok (.invokevirtual 60, 3) := by decide +kernel
theorem dX0_readRest_86 : decode cX0_readRest 86 = .ok (.aload_n 0, 1) := by decide +kernel
theorem dX0_readRest_87 : decode cX0_readRest 87 = .ok (.iload_n 2, 1) := by decide +kernel
theorem dX0_readRest_88 : decode cX0_readRest 88 = .ok (.iload 4, 2) := by decide +kernel
theorem dX0_readRest_90 : decode cX0_readRest 90 = .ok (.iload 5, 2) := by decide +kernel
theorem dX0_readRest_92 : decode cX0_readRest 92 = .ok (.iload 6, 2) := by decide +kernel
theorem dX0_readRest_94 : decode cX0_readRest 94 = .ok (.invokevirtual 67, 3) := by decide +kernel
theorem dX0_readRest_97 : decode cX0_readRest 97 = .ok (.ifCond .eq 7, 3) := by decide +kernel
theorem dX0_readRest_100 : decode cX0_readRest 100 = .ok (.iconst 1, 1) := by decide +kernel
theorem dX0_readRest_101 : decode cX0_readRest 101 = .ok (.goto 4, 3) := by decide +kernel
theorem dX0_readRest_48 : decode cX0_readRest 48 = .ok (.iconst (-1), 1) := by decide +kernel
theorem dX0_readRest_49 : decode cX0_readRest 49 = .ok (.goto 9, 3) := by decide +kernel
theorem dX0_readRest_106 : decode cX0_readRest 106 = .ok (.aload_n 1, 1) := by decide +kernel
theorem dX0_readRest_107 : decode cX0_readRest 107 = .ok (.bipush 12, 2) := by decide +kernel
theorem dX0_readRest_109 : decode cX0_readRest 109 = .ok (.bipush 15, 2) := by decide +kernel
theorem dX0_readRest_111 : decode cX0_readRest 111 = .ok (.invokevirtual 60, 3) := by decide +kernel
theorem dX0_readRest_114 : decode cX0_readRest 114 = .ok (.istore 7, 2) := by decide +kernel
theorem dX0_readRest_116 : decode cX0_readRest 116 = .ok (.iload 7, 2) := by decide +kernel
theorem dX0_readRest_118 : decode cX0_readRest 118 = .ok (.iconst (-1), 1) := by decide +kernel
theorem dX0_readRest_119 : decode cX0_readRest 119 = .ok (.if_icmp .eq 19, 3) := by decide +kernel
theorem dX0_readRest_138 : decode cX0_readRest 138 = .ok (.iconst 0, 1) := by decide +kernel
theorem dX0_readRest_139 : decode cX0_readRest 139 = .ok (.ireturn, 1) := by decide +kernel
theorem dX0_readRest_122 : decode cX0_readRest 122 = .ok (.aload_n 0, 1) := by decide +kernel
theorem dX0_readRest_123 : decode cX0_readRest 123 = .ok (.iload_n 2, 1) := by decide +kernel
theorem dX0_readRest_124 : decode cX0_readRest 124 = .ok (.iload_n 3, 1) := by decide +kernel
theorem dX0_readRest_125 : decode cX0_readRest 125 = .ok (.iload 7, 2) := by decide +kernel
theorem dX0_readRest_127 : decode cX0_readRest 127 = .ok (.iconst 0, 1) := by decide +kernel
theorem dX0_readRest_128 : decode cX0_readRest 128 = .ok (.invokevirtual 67, 3) := by decide +kernel
theorem dX0_readRest_131 : decode cX0_readRest 131 = .ok (.ifCond .eq 7, 3) := by decide +kernel
theorem dX0_readRest_134 : decode cX0_readRest 134 = .ok (.iconst 1, 1) := by decide +kernel
theorem dX0_readRest_135 : decode cX0_readRest 135 = .ok (.goto 4, 3) := by decide +kernel
theorem dX0_readRest_140 : decode cX0_readRest 140 = .ok (.aload_n 1, 1) := by decide +kernel
theorem dX0_readRest_141 : decode cX0_readRest 141 = .ok (.iconst 0, 1) := by decide +kernel
theorem dX0_readRest_142 : decode cX0_readRest 142 = .ok (.iconst 5, 1) := by decide +kernel
theorem dX0_readRest_143 : decode cX0_readRest 143 = .ok (.invokevirtual 64, 3) := by decide +kernel
theorem dX0_readRest_146 : decode cX0_readRest 146 = .ok (.istore 8, 2) := by decide +kernel
theorem dX0_readRest_148 : decode cX0_readRest 148 = .ok (.iload 8, 2) := by decide +kernel
theorem dX0_readRest_150 : decode cX0_readRest 150 = .ok (.iconst (-1), 1) := by decide +kernel
theorem dX0_readRest_151 : decode cX0_readRest 151 = .ok (.if_icmp .ne 7, 3) := by decide +kernel
theorem dX0_readRest_154 : decode cX0_readRest 154 = .ok (.iconst (-1), 1) := by decide +kernel
theorem dX0_readRest_155 : decode cX0_readRest 155 = .ok (.goto 9, 3) := by decide +kernel
theorem dX0_readRest_164 : decode cX0_readRest 164 = .ok (.istore 9, 2) := by decide +kernel
theorem dX0_readRest_166 : decode cX0_readRest 166 = .ok (.iload 9, 2) := by decide +kernel
theorem dX0_readRest_168 : decode cX0_readRest 168 = .ok (.iconst (-1), 1) := by decide +kernel
theorem dX0_readRest_169 : decode cX0_readRest 169 = .ok (.if_icmp .ne 7, 3) := by decide +kernel
theorem dX0_readRest_172 : decode cX0_readRest 172 = .ok (.iconst (-1), 1) := by decide +kernel
theorem dX0_readRest_173 : decode cX0_readRest 173 = .ok (.goto 10, 3) := by decide +kernel
theorem dX0_readRest_183 : decode cX0_readRest 183 = .ok (.istore 10, 2) := by decide +kernel
theorem dX0_readRest_185 : decode cX0_readRest 185 = .ok (.iload 10, 2) := by decide +kernel
theorem dX0_readRest_187 : decode cX0_readRest 187 = .ok (.iconst (-1), 1) := by decide +kernel
theorem dX0_readRest_188 : decode cX0_readRest 188 = .ok (.if_icmp .eq 21, 3) := by decide +kernel
theorem dX0_readRest_209 : decode cX0_readRest 209 = .ok (.iconst 0, 1) := by decide +kernel
theorem dX0_readRest_210 : decode cX0_readRest 210 = .ok (.ireturn, 1) := by decide +kernel
theorem dX0_readRest_158 : decode cX0_readRest 158 = .ok (.aload_n 1, 1) := by decide +kernel
theorem dX0_readRest_159 : decode cX0_readRest 159 = .ok (.iconst 0, 1) := by decide +kernel
theorem dX0_readRest_160 : decode cX0_readRest 160 = .ok (.iconst 5, 1) := by decide +kernel
theorem dX0_readRest_161 : decode cX0_readRest 161 = .ok (.invokevirtual 64, 3) := by decide +kernel
theorem dX0_readRest_176 : decode cX0_readRest 176 = .ok (.aload_n 1, 1) := by decide +kernel
theorem dX0_readRest_177 : decode cX0_readRest 177 = .ok (.iconst 1, 1) := by decide +kernel
theorem dX0_readRest_178 : decode cX0_readRest 178 = .ok (.bipush 9, 2) := by decide +kernel
theorem dX0_readRest_180 : decode cX0_readRest 180 = .ok (.invokevirtual 64, 3) := by decide +kernel
theorem dX0_readRest_191 : decode cX0_readRest 191 = .ok (.aload_n 0, 1) := by decide +kernel
theorem dX0_readRest_192 : decode cX0_readRest 192 = .ok (.iload_n 2, 1) := by decide +kernel
theorem dX0_readRest_193 : decode cX0_readRest 193 = .ok (.iload 8, 2) := by decide +kernel
theorem dX0_readRest_195 : decode cX0_readRest 195 = .ok (.iload 9, 2) := by decide +kernel
theorem dX0_readRest_197 : decode cX0_readRest 197 = .ok (.iload 10, 2) := by decide +kernel
theorem dX0_readRest_199 : decode cX0_readRest 199 = .ok (.invokevirtual 67, 3) := by decide +kernel
theorem dX0_readRest_202 : decode cX0_readRest 202 = .ok (.ifCond .eq 7, 3) := by decide +kernel
theorem dX0_readRest_205 : decode cX0_readRest 205 = .ok (.iconst 1, 1) := by decide +kernel
theorem dX0_readRest_206 : decode cX0_readRest 206 = .ok (.goto 4, 3) := by decide +kernel
theorem dX0_read_0 : decode cX0_read 0 = .ok (.aload_n 0, 1) := by decide +kernel
theorem dX0_read_1 : decode cX0_read 1 = .ok (.iconst 0, 1) := by decide +kernel
theorem dX0_read_2 : decode cX0_read 2 = .ok (.putfield 15, 3) := by decide +kernel
theorem dX0_read_5 : decode cX0_read 5 = .ok (.aload_n 0, 1) := by decide +kernel
theorem dX0_read_6 : decode cX0_read 6 = .ok (.getfield 15, 3) := by decide +kernel
theorem dX0_read_9 : decode cX0_read 9 = .ok (.bipush 40, 2) := by decide +kernel
theorem dX0_read_11 : decode cX0_read 11 = .ok (.if_icmp .gt 104, 3) := by decide +kernel
theorem dX0_read_14 : decode cX0_read 14 = .ok (.aload_n 1, 1) := by decide +kernel
theorem dX0_read_15 : decode cX0_read 15 = .ok (.getfield 23, 3) := by decide +kernel
theorem dX0_read_18 : decode cX0_read 18 = .ok (.ifCond .eq 97, 3) := by decide +kernel
theorem dX0_read_115 : decode cX0_read 115 = .ok (.iconst 1, 1) := by decide +kernel
theorem dX0_read_116 : decode cX0_read 116 = .ok (.ireturn, 1) := by decide +kernel
theorem dX0_read_21 : decode cX0_read 21 = .ok (.aload_n 1, 1) := by decide +kernel
theorem dX0_read_22 : decode cX0_read 22 = .ok (.invokevirtual 28, 3) := by decide +kernel
theorem dX0_read_25 : decode cX0_read 25 = .ok (.invokestatic 32, 3) := by decide +kernel
theorem dX0_read_28 : decode cX0_read 28 = .ok (.istore_n 3, 1) := by decide +kernel
theorem dX0_read_29 : decode cX0_read 29 = .ok (.iload_n 3, 1) := by decide +kernel
theorem dX0_read_30 : decode cX0_read 30 = .ok (.iconst 1, 1) := by decide +kernel
theorem dX0_read_31 : decode cX0_read 31 = .ok (.if_icmp .ne 14, 3) := by decide +kernel
theorem dX0_read_45 : decode cX0_read 45 = .ok (.iconst 0, 1) := by decide +kernel
theorem dX0_read_34 : decode cX0_read 34 = .ok (.aload_n 2, 1) := by decide +kernel
theorem dX0_read_35 : decode cX0_read 35 = .ok (.aload_n 1, 1) := by decide +kernel
theorem dX0_read_36 : decode cX0_read 36 = .ok (.getfield 36, 3) := by decide +kernel
theorem dX0_read_39 : decode cX0_read 39 = .ok (.invokevirtual 40, 3) := by decide +kernel
theorem dX0_read_42 : decode cX0_read 42 = .ok (.goto 4, 3) := by decide +kernel
theorem dX0_read_46 : decode cX0_read 46 = .ok (.istore 4, 2) := by decide +kernel
theorem dX0_read_48 : decode cX0_read 48 = .ok (.iload_n 3, 1) := by decide +kernel
theorem dX0_read_49 : decode cX0_read 49 = .ok (.iconst (-1), 1) := by decide +kernel
theorem dX0_read_50 : decode cX0_read 50 = .ok (.if_icmp .ne 9, 3) := by decide +kernel
theorem dX0_read_59 : decode cX0_read 59 = .ok (.iload 4, 2) := by decide +kernel
theorem dX0_read_61 : decode cX0_read 61 = .ok (.iconst (-1), 1) := by decide +kernel
theorem dX0_read_62 : decode cX0_read 62 = .ok (.if_icmp .ne 9, 3) := by decide +kernel
theorem dX0_read_71 : decode cX0_read 71 = .ok (.aload_n 0, 1) := by decide +kernel
theorem dX0_read_72 : decode cX0_read 72 = .ok (.getfield 15, 3) := by decide +kernel
theorem dX0_read_75 : decode cX0_read 75 = .ok (.bipush 40, 2) := by decide +kernel
theorem dX0_read_77 : decode cX0_read 77 = .ok (.if_icmp .lt 9, 3) := by decide +kernel
theorem dX0_read_86 : decode cX0_read 86 = .ok (.aload_n 1, 1) := by decide +kernel
theorem dX0_read_87 : decode cX0_read 87 = .ok (.invokevirtual 50, 3) := by decide +kernel
theorem dX0_read_90 : decode cX0_read 90 = .ok (.aload_n 0, 1) := by decide +kernel
theorem dX0_read_91 : decode cX0_read 91 = .ok (.aload_n 1, 1) := by decide +kernel
theorem dX0_read_92 : decode cX0_read 92 = .ok (.iload_n 3, 1) := by decide +kernel
theorem dX0_read_93 : decode cX0_read 93 = .ok (.iload 4, 2) := by decide +kernel
theorem dX0_read_95 : decode cX0_read 95 = .ok (.invokevirtual 53, 3) := by decide +kernel
theorem dX0_read_98 : decode cX0_read 98 = .ok (.ifCond .eq 12, 3) := by decide +kernel
theorem dX0_read_101 : decode cX0_read 101 = .ok (.aload_n 1, 1) := by decide +kernel
theorem dX0_read_102 : decode cX0_read 102 = .ok (.bipush 59, 2) := by decide +kernel
theorem dX0_read_104 : decode cX0_read 104 = .ok (.invokevirtual 57, 3) := by decide +kernel
theorem dX0_read_107 : decode cX0_read 107 = .ok (.ifCond .ne 5, 3) := by decide +kernel
theorem dX0_read_112 : decode cX0_read 112 = .ok (.goto (-107), 3) := by decide +kernel
theorem dX0_read_110 : decode cX0_read 110 = .ok (.iconst 0, 1) := by decide +kernel
theorem dX0_read_111 : decode cX0_read 111 = .ok (.ireturn, 1) := by decide +kernel
theorem dX0_read_65 : decode cX0_read 65 = .ok (.aload_n 1, 1) := by decide +kernel
theorem dX0_read_66 : decode cX0_read 66 = .ok (.iconst 3, 1) := by decide +kernel
theorem dX0_read_67 : decode cX0_read 67 = .ok (.invokevirtual 46, 3) := by decide +kernel
theorem dX0_read_70 : decode cX0_read 70 = .ok (.ireturn, 1) := by decide +kernel
theorem dX0_read_53 : decode cX0_read 53 = .ok (.aload_n 1, 1) := by decide +kernel
theorem dX0_read_54 : decode cX0_read 54 = .ok (.iconst 1, 1) := by decide +kernel
theorem dX0_read_55 : decode cX0_read 55 = .ok (.invokevirtual 46, 3) := by decide +kernel
theorem dX0_read_58 : decode cX0_read 58 = .ok (.ireturn, 1) := by decide +kernel
theorem dX0_read_80 : decode cX0_read 80 = .ok (.aload_n 1, 1) := by decide +kernel
theorem dX0_read_81 : decode cX0_read 81 = .ok (.iconst 4, 1) := by decide +kernel
theorem dX0_read_82 : decode cX0_read 82 = .ok (.invokevirtual 46, 3) := by decide +kernel
theorem dX0_read_85 : decode cX0_read 85 = .ok (.ireturn, 1) := by decide +kernel
theorem dX0_whyNot_0 : decode cX0_whyNot 0 = .ok (.iload_n 1, 1) := by decide +kernel
theorem dX0_whyNot_1 : decode cX0_whyNot 1 = .ok (.tableswitch 75 0 4 #[35, 44, 51, 60, 69], 35) := by decide +kernel
theorem dX0_whyNot_76 : decode cX0_whyNot 76 = .ok (.aload_n 0, 1) := by decide +kernel
theorem dX0_whyNot_77 : decode cX0_whyNot 77 = .ok (.invokevirtual 131, 3) := by decide +kernel
theorem dX0_whyNot_80 : decode cX0_whyNot 80 = .ok (.iload_n 2, 1) := by decide +kernel
theorem dX0_whyNot_81 : decode cX0_whyNot 81 = .ok (.if_icmp .ge 7, 3) := by decide +kernel
theorem dX0_whyNot_88 : decode cX0_whyNot 88 = .ok (.iconst 0, 1) := by decide +kernel
theorem dX0_whyNot_89 : decode cX0_whyNot 89 = .ok (.ireturn, 1) := by decide +kernel
theorem dX0_whyNot_84 : decode cX0_whyNot 84 = .ok (.iconst 1, 1) := by decide +kernel
theorem dX0_whyNot_85 : decode cX0_whyNot 85 = .ok (.goto 4, 3) := by decide +kernel
theorem dX0_whyNot_36 : decode cX0_whyNot 36 = .ok (.aload_n 0, 1) := by decide +kernel
theorem dX0_whyNot_37 : decode cX0_whyNot 37 = .ok (.iload_n 2, 1) := by decide +kernel
theorem dX0_whyNot_38 : decode cX0_whyNot 38 = .ok (.iload_n 3, 1) := by decide +kernel
theorem dX0_whyNot_39 : decode cX0_whyNot 39 = .ok (.iload 4, 2) := by decide +kernel
theorem dX0_whyNot_41 : decode cX0_whyNot 41 = .ok (.invokevirtual 115, 3) := by decide +kernel
theorem dX0_whyNot_44 : decode cX0_whyNot 44 = .ok (.ireturn, 1) := by decide +kernel
theorem dX0_whyNot_45 : decode cX0_whyNot 45 = .ok (.aload_n 0, 1) := by decide +kernel
theorem dX0_whyNot_46 : decode cX0_whyNot 46 = .ok (.iload_n 2, 1) := by decide +kernel
theorem dX0_whyNot_47 : decode cX0_whyNot 47 = .ok (.iload_n 3, 1) := by decide +kernel
theorem dX0_whyNot_48 : decode cX0_whyNot 48 = .ok (.invokevirtual 119, 3) := by decide +kernel
theorem dX0_whyNot_51 : decode cX0_whyNot 51 = .ok (.ireturn, 1) := by decide +kernel
theorem dX0_whyNot_52 : decode cX0_whyNot 52 = .ok (.aload_n 0, 1) := by decide +kernel
theorem dX0_whyNot_53 : decode cX0_whyNot 53 = .ok (.iload_n 2, 1) := by decide +kernel
theorem dX0_whyNot_54 : decode cX0_whyNot 54 = .ok (.iload_n 3, 1) := by decide +kernel
theorem dX0_whyNot_55 : decode cX0_whyNot 55 = .ok (.iload 4, 2) := by decide +kernel
theorem dX0_whyNot_57 : decode cX0_whyNot 57 = .ok (.invokevirtual 122, 3) := by decide +kernel
theorem dX0_whyNot_60 : decode cX0_whyNot 60 = .ok (.ireturn, 1) := by decide +kernel
theorem dX0_whyNot_61 : decode cX0_whyNot 61 = .ok (.aload_n 0, 1) := by decide +kernel
theorem dX0_whyNot_62 : decode cX0_whyNot 62 = .ok (.iload_n 2, 1) := by decide +kernel
theorem dX0_whyNot_63 : decode cX0_whyNot 63 = .ok (.iload_n 3, 1) := by decide +kernel
theorem dX0_whyNot_64 : decode cX0_whyNot 64 = .ok (.iload 4, 2) := by decide +kernel
theorem dX0_whyNot_66 : decode cX0_whyNot 66 = .ok (.invokevirtual 125, 3) := by decide +kernel
theorem dX0_whyNot_69 : decode cX0_whyNot 69 = .ok (.ireturn, 1) := by decide +kernel
theorem dX0_whyNot_70 : decode cX0_whyNot 70 = .ok (.aload_n 0, 1) := by decide +kernel
theorem dX0_whyNot_71 : decode cX0_whyNot 71 = .ok (.iload_n 2, 1) := by decide +kernel
theorem dX0_whyNot_72 : decode cX0_whyNot 72 = .ok (.invokevirtual 128, 3) := by decide +kernel
theorem dX0_whyNot_75 : decode cX0_whyNot 75 = .ok (.ireturn, 1) := by decide +kernel
set_option maxRecDepth 100000 in
theorem ggX0_readRest_X5_takeNumber : GoodIn wsX0_readRest wsX5_takeNumber := goodIn_r _ [99, 26, 38, 7, 8, 9, 4, 10, 11, 12, 13, 14, 15, 16, 17, 18, 19, 20, 21, 22, 23, 24, 6, 25, 27, 28, 29, 30, 31, 32, 33, 34, 35, 36, 37, 39, 40, 41, 42, 43, 44, 45, 46, 47, 48, 49, 50, 51, 52, 53, 54, 55, 56, 57, 58, 59, 60, 61, 62, 63, 64, 65, 66, 67, 68, 69, 70, 71, 72, 73, 74, 75, 76, 77, 78, 79, 80, 81, 82, 83, 84, 85, 86, 87, 88, 89, 90, 91, 92, 93, 94, 95, 107, 108, 109, 110, 111, 112, 113, 114, 115, 116, 117] rfl (by decide +kernel)
set_option maxRecDepth 100000 in
theorem ggX0_readRest_X0_put : GoodIn wsX0_readRest wsX0_put := goodIn_r _ [104, 105, 106, 118, 119, 120, 121, 122, 123, 124] rfl (by decide +kernel)
set_option maxRecDepth 100000 in
theorem ggX0_readRest_X5_takeWord : GoodIn wsX0_readRest wsX5_takeWord := goodIn_r _ [5, 6, 7, 8, 9, 4, 10, 11, 12, 13, 14, 15, 16, 17, 18, 19, 20, 21, 22, 23, 24, 25, 26, 27, 28, 29, 30, 31, 32, 33, 34, 35, 36, 37, 38, 39, 40, 41, 42, 43, 44, 45, 46, 47, 48, 49, 50, 51, 52, 53, 54, 55, 56, 57, 58, 59, 60, 61, 62, 63, 64, 65, 66, 67, 68, 69, 70, 71, 72, 73, 74, 75, 76, 77, 78, 79, 80, 81, 82, 83, 84, 85, 86, 87, 88, 89, 90, 91, 92, 93, 94, 95, 107, 108, 109, 110, 111, 112, 113, 114, 115, 116, 117] rfl (by decide +kernel)
set_option maxRecDepth 100000 in
theorem ggX0_read_X5_nextWord : GoodIn wsX0_read wsX5_nextWord := goodIn_r _ [8, 9, 140, 141, 142, 143, 144, 145, 146, 147, 148, 149, 150] rfl (by decide +kernel)
set_option maxRecDepth 100000 in
theorem ggX0_read_X0_sortOf : GoodIn wsX0_read wsX0_sortOf := goodIn_r _ [13] rfl (by decide +kernel)
set_option maxRecDepth 100000 in
theorem ggX0_read_X7_boatNamed : GoodIn wsX0_read wsX7_boatNamed := goodIn_r _ [18, 19, 20, 151, 152, 153, 154, 155, 156, 157, 158, 159, 160, 161, 162, 163, 164, 165, 166, 167, 168, 169] rfl (by decide +kernel)
set_option maxRecDepth 100000 in
theorem ggX0_read_X5_advance : GoodIn wsX0_read wsX5_advance := goodIn_r _ [35, 36, 37, 38, 25, 9, 39, 40, 41, 42, 7, 43, 44, 45, 46, 47, 48, 49, 50, 51, 52, 53, 54, 55, 56, 57, 58, 59, 60, 61, 62, 63, 64, 65, 66, 67, 68, 69, 70, 71, 72, 73, 74, 75, 76, 77, 78, 79, 80, 81, 82, 83, 84, 85, 86, 87, 88, 89, 90, 91, 92, 93, 94, 95, 96, 97, 98, 99, 100, 101, 102, 103, 104, 105, 106, 107, 108, 109, 140, 141, 142, 143, 144, 145, 146, 147, 148, 149, 150] rfl (by decide +kernel)
set_option maxRecDepth 100000 in
theorem ggX0_read_X0_readRest : GoodIn wsX0_read wsX0_readRest := goodIn_r _ [113, 114, 115, 116, 7, 117, 9, 118, 22, 23, 24, 25, 26, 27, 28, 29, 30, 31, 119, 33, 34, 35, 36, 37, 38, 39, 40, 41, 42, 43, 44, 45, 46, 47, 48, 49, 50, 51, 52, 53, 54, 55, 56, 57, 58, 59, 60, 61, 62, 63, 64, 65, 66, 67, 68, 69, 70, 71, 72, 73, 74, 75, 76, 77, 78, 79, 80, 81, 82, 83, 84, 85, 86, 87, 88, 89, 90, 91, 92, 93, 94, 95, 96, 97, 98, 99, 100, 101, 102, 103, 104, 105, 106, 107, 108, 109, 120, 121, 122, 123, 124, 125, 126, 12, 127, 1, 128, 140, 141, 142, 143, 144, 145, 146, 147, 148, 149, 150, 133, 134, 135, 136, 137, 138, 139] rfl (by decide +kernel)
set_option maxRecDepth 100000 in
theorem ggX0_read_X5_takeSign : GoodIn wsX0_read wsX5_takeSign := goodIn_r _ [132, 40, 118, 22, 23, 7, 24, 25, 26, 27, 28, 29, 30, 31, 119, 33, 34, 35, 36, 37, 38, 9, 39, 41, 42, 43, 44, 45, 46, 47, 48, 49, 50, 51, 52, 53, 54, 55, 56, 57, 58, 59, 60, 61, 62, 63, 64, 65, 66, 67, 68, 69, 70, 71, 72, 73, 74, 75, 76, 77, 78, 79, 80, 81, 82, 83, 84, 85, 86, 87, 88, 89, 90, 91, 92, 93, 94, 95, 96, 97, 98, 99, 100, 101, 102, 103, 104, 105, 106, 107, 108, 109, 140, 141, 142, 143, 144, 145, 146, 147, 148, 149, 150] rfl (by decide +kernel)
set_option maxRecDepth 100000 in
theorem ggX0_read_X5_refuse : GoodIn wsX0_read wsX5_refuse := goodIn_r _ [24, 25, 26, 27, 28, 7, 29, 30, 31, 140, 141, 142, 143, 144, 145, 146, 147, 148, 149, 150] rfl (by decide +kernel)
set_option maxRecDepth 100000 in
theorem ggX0_whyNot_X7_daysLeft : GoodIn wsX0_whyNot wsX7_daysLeft := goodIn_r _ [66, 67, 68, 69, 70, 71, 72, 73, 74, 75, 76, 77, 78, 79, 80, 81, 82, 83, 84, 85, 86] rfl (by decide +kernel)
set_option maxRecDepth 100000 in
theorem ggX0_whyNot_X7_whyNotStirred : GoodIn wsX0_whyNot wsX7_whyNotStirred := goodIn_r _ [5, 6, 7, 8, 4, 9, 10, 11, 12, 13, 14, 15, 16, 17, 68, 69, 70, 71, 72, 73, 74, 75, 76, 77, 78, 79, 80, 81, 82, 83, 84, 85, 86] rfl (by decide +kernel)
set_option maxRecDepth 100000 in
theorem ggX0_whyNot_X7_whyNotRowed : GoodIn wsX0_whyNot wsX7_whyNotRowed := goodIn_r _ [21, 22, 23, 24, 25, 26, 4, 27, 28, 29, 30, 31, 32, 33, 34, 35, 36, 37, 38, 39, 40, 41, 10, 11, 42, 43, 44, 45, 12, 13, 14, 15, 16, 17, 46, 47, 48, 49, 50, 68, 69, 70, 71, 72, 73, 74, 75, 76, 77, 78, 79, 80, 81, 82, 83, 84, 85, 86] rfl (by decide +kernel)
set_option maxRecDepth 100000 in
theorem ggX0_whyNot_X7_whyNotFloured : GoodIn wsX0_whyNot wsX7_whyNotFloured := goodIn_r _ [54, 38, 39, 40, 4, 41, 10, 11, 46, 47, 48, 49, 50, 68, 69, 70, 71, 72, 73, 74, 75, 76, 77, 78, 79, 80, 81, 82, 83, 84, 85, 86] rfl (by decide +kernel)
set_option maxRecDepth 100000 in
theorem ggX0_whyNot_X7_whyNotMilked : GoodIn wsX0_whyNot wsX7_whyNotMilked := goodIn_r _ [58, 38, 39, 40, 4, 41, 10, 11, 46, 47, 48, 49, 50, 68, 69, 70, 71, 72, 73, 74, 75, 76, 77, 78, 79, 80, 81, 82, 83, 84, 85, 86] rfl (by decide +kernel)
set_option maxRecDepth 100000 in
theorem ggX0_whyNot_X7_whyNotWarmed : GoodIn wsX0_whyNot wsX7_whyNotWarmed := goodIn_r _ [62, 16, 68, 69, 70, 71, 72, 73, 74, 75, 76, 77, 78, 79, 80, 81, 82, 83, 84, 85, 86] rfl (by decide +kernel)
set_option maxRecDepth 100000 in
theorem gX0_readRest_X5_takeNumber : GoodIn wsX0_readRest (wsV RX0 64 RX5 yX5_takeNumber wsX5_takeNumber) := goodIn_app (goodIn_of _ (by decide +kernel)) ggX0_readRest_X5_takeNumber
set_option maxRecDepth 100000 in
theorem gX0_readRest_X0_put : GoodIn wsX0_readRest (wsV RX0 67 RX0 yX0_put wsX0_put) := goodIn_app (goodIn_of _ (by decide +kernel)) ggX0_readRest_X0_put
set_option maxRecDepth 100000 in
theorem gX0_readRest_X5_takeWord : GoodIn wsX0_readRest (wsV RX0 60 RX5 yX5_takeWord wsX5_takeWord) := goodIn_app (goodIn_of _ (by decide +kernel)) ggX0_readRest_X5_takeWord
set_option maxRecDepth 100000 in
theorem gX0_read_X5_nextWord : GoodIn wsX0_read (wsV RX0 28 RX5 yX5_nextWord wsX5_nextWord) := goodIn_app (goodIn_of _ (by decide +kernel)) ggX0_read_X5_nextWord
set_option maxRecDepth 100000 in
theorem gX0_read_X0_sortOf : GoodIn wsX0_read (va_wsS RX0 32 yX0_sortOf wsX0_sortOf) := goodIn_app (goodIn_of _ (by decide +kernel)) ggX0_read_X0_sortOf
set_option maxRecDepth 100000 in
theorem gX0_read_X7_boatNamed : GoodIn wsX0_read (wsV RX0 40 RX7 yX7_boatNamed wsX7_boatNamed) := goodIn_app (goodIn_of _ (by decide +kernel)) ggX0_read_X7_boatNamed
set_option maxRecDepth 100000 in
theorem gX0_read_X5_advance : GoodIn wsX0_read (wsV RX0 50 RX5 yX5_advance wsX5_advance) := goodIn_app (goodIn_of _ (by decide +kernel)) ggX0_read_X5_advance
set_option maxRecDepth 100000 in
theorem gX0_read_X0_readRest : GoodIn wsX0_read (wsV RX0 53 RX0 yX0_readRest wsX0_readRest) := goodIn_app (goodIn_of _ (by decide +kernel)) ggX0_read_X0_readRest
set_option maxRecDepth 100000 in
theorem gX0_read_X5_takeSign : GoodIn wsX0_read (wsV RX0 57 RX5 yX5_takeSign wsX5_takeSign) := goodIn_app (goodIn_of _ (by decide +kernel)) ggX0_read_X5_takeSign
set_option maxRecDepth 100000 in
theorem gX0_read_X5_refuse : GoodIn wsX0_read (wsV RX0 46 RX5 yX5_refuse wsX5_refuse) := goodIn_app (goodIn_of _ (by decide +kernel)) ggX0_read_X5_refuse
set_option maxRecDepth 100000 in
theorem gX0_whyNot_X7_daysLeft : GoodIn wsX0_whyNot (wsV RX0 131 RX7 yX7_daysLeft wsX7_daysLeft) := goodIn_app (goodIn_of _ (by decide +kernel)) ggX0_whyNot_X7_daysLeft
set_option maxRecDepth 100000 in
theorem gX0_whyNot_X7_whyNotStirred : GoodIn wsX0_whyNot (wsV RX0 115 RX7 yX7_whyNotStirred wsX7_whyNotStirred) := goodIn_app (goodIn_of _ (by decide +kernel)) ggX0_whyNot_X7_whyNotStirred
set_option maxRecDepth 100000 in
theorem gX0_whyNot_X7_whyNotRowed : GoodIn wsX0_whyNot (wsV RX0 119 RX7 yX7_whyNotRowed wsX7_whyNotRowed) := goodIn_app (goodIn_of _ (by decide +kernel)) ggX0_whyNot_X7_whyNotRowed
set_option maxRecDepth 100000 in
theorem gX0_whyNot_X7_whyNotFloured : GoodIn wsX0_whyNot (wsV RX0 122 RX7 yX7_whyNotFloured wsX7_whyNotFloured) := goodIn_app (goodIn_of _ (by decide +kernel)) ggX0_whyNot_X7_whyNotFloured
set_option maxRecDepth 100000 in
theorem gX0_whyNot_X7_whyNotMilked : GoodIn wsX0_whyNot (wsV RX0 125 RX7 yX7_whyNotMilked wsX7_whyNotMilked) := goodIn_app (goodIn_of _ (by decide +kernel)) ggX0_whyNot_X7_whyNotMilked
set_option maxRecDepth 100000 in
theorem gX0_whyNot_X7_whyNotWarmed : GoodIn wsX0_whyNot (wsV RX0 128 RX7 yX7_whyNotWarmed wsX7_whyNotWarmed) := goodIn_app (goodIn_of _ (by decide +kernel)) ggX0_whyNot_X7_whyNotWarmed
set_option maxHeartbeats 4000000 in
set_option maxRecDepth 100000 in
theorem c_b_sortOf (l : Launch) (dC : Nat → ClassId) (dI : Nat → Nat → Nat) (ky : Nat → ClassId) (x : Int32)  : Met l yX0_sortOf wsX0_sortOf ({ frames := 0, cells := 0, slots := 0, locals := 0 }) (PcP dC dI ky [.int x] []) (vp_Si (fun r : Int32 => True)) 0 0 (fun _ => False) := by
  refine Met.ofW (cc := cX0_sortOf) (maxL := 1) (ret := (some .int)) (by decide) rfl ?_
  intro p e s m args below meth c s₁ B hml hv
  obtain ⟨rfl, hP, hK⟩ := hv
  have hx := B.exec
  have hb := B.bytes
  have hr := B.returns
  have hts := atoms_spec (ws := wsX0_sortOf) B.pre
  have hown : s.vm.findClass RX0 = some m.cls := findClass_of_methodNamed B.named
  have hlocks := B.notSynchronized
  have hl := lv_entry ([.int x]) (n := 1) (Nat.le_of_ble_eq_true rfl)
  rw [lg_entry_eq]
  generalize (lg_sl ([.int x]) ++ List.replicate (1 - (lg_sl ([.int x])).length) Slot.unset).toArray = ls at hl ⊢
  have hl : lv_has ls 1 [(0, .int x)] := hl
  refine q_name (fun Q hQ => ?_)
  generalize ([.int x] : List Value).toArray = args at hts hQ ⊢
  refine lv_iload_n hx hb dX0_sortOf_0 rfl (lv_at hl 0 rfl) ?_
  rcases lk_7_16_17_18_19_31 x with c1 | c2 | c3 | c4 | c5 | c6 | c7
  · refine r_ti (nI 7) c1 ?_
    rw [c1] at hl
    refine lv_lookup (off := 59) (tgt := 60) hx hb dX0_sortOf_1 (by decide) (by decide) (by decide) ?_
    refine lv_iconst (v := nI 0) hx hb dX0_sortOf_60 (by decide) ?_
    rw [hQ]
    exact W.iret (v := nI 0) hx hb hr (fun t9 ht9 hW9 => ⟨nI 0, rfl, trivial, ht9⟩) (fun _ h => absurd h List.not_mem_nil) dX0_sortOf_61
  · refine r_ti (nI 16) c2 ?_
    rw [c2] at hl
    refine lv_lookup (off := 63) (tgt := 64) hx hb dX0_sortOf_1 (by decide) (by decide) (by decide) ?_
    refine lv_iconst (v := nI 2) hx hb dX0_sortOf_64 (by decide) ?_
    rw [hQ]
    exact W.iret (v := nI 2) hx hb hr (fun t9 ht9 hW9 => ⟨nI 2, rfl, trivial, ht9⟩) (fun _ h => absurd h List.not_mem_nil) dX0_sortOf_65
  · refine r_ti (nI 17) c3 ?_
    rw [c3] at hl
    refine lv_lookup (off := 65) (tgt := 66) hx hb dX0_sortOf_1 (by decide) (by decide) (by decide) ?_
    refine lv_iconst (v := nI 3) hx hb dX0_sortOf_66 (by decide) ?_
    rw [hQ]
    exact W.iret (v := nI 3) hx hb hr (fun t9 ht9 hW9 => ⟨nI 3, rfl, trivial, ht9⟩) (fun _ h => absurd h List.not_mem_nil) dX0_sortOf_67
  · refine r_ti (nI 18) c4 ?_
    rw [c4] at hl
    refine lv_lookup (off := 67) (tgt := 68) hx hb dX0_sortOf_1 (by decide) (by decide) (by decide) ?_
    refine lv_iconst (v := nI 4) hx hb dX0_sortOf_68 (by decide) ?_
    rw [hQ]
    exact W.iret (v := nI 4) hx hb hr (fun t9 ht9 hW9 => ⟨nI 4, rfl, trivial, ht9⟩) (fun _ h => absurd h List.not_mem_nil) dX0_sortOf_69
  · refine r_ti (nI 19) c5 ?_
    rw [c5] at hl
    refine lv_lookup (off := 69) (tgt := 70) hx hb dX0_sortOf_1 (by decide) (by decide) (by decide) ?_
    refine lv_iconst (v := nI 5) hx hb dX0_sortOf_70 (by decide) ?_
    rw [hQ]
    exact W.iret (v := nI 5) hx hb hr (fun t9 ht9 hW9 => ⟨nI 5, rfl, trivial, ht9⟩) (fun _ h => absurd h List.not_mem_nil) dX0_sortOf_71
  · refine r_ti (nI 31) c6 ?_
    rw [c6] at hl
    refine lv_lookup (off := 61) (tgt := 62) hx hb dX0_sortOf_1 (by decide) (by decide) (by decide) ?_
    refine lv_iconst (v := nI 1) hx hb dX0_sortOf_62 (by decide) ?_
    rw [hQ]
    exact W.iret (v := nI 1) hx hb hr (fun t9 ht9 hW9 => ⟨nI 1, rfl, trivial, ht9⟩) (fun _ h => absurd h List.not_mem_nil) dX0_sortOf_63
  · refine lv_lookup (off := 71) (tgt := 72) hx hb dX0_sortOf_1 (by decide) (lko_7_16_17_18_19_31 (ps := [(7, 59), (16, 63), (17, 65), (18, 67), (19, 69), (31, 61)]) rfl c7) (by decide) ?_
    refine lv_iconst (v := (-1 : Int32)) hx hb dX0_sortOf_72 (by decide) ?_
    rw [hQ]
    exact W.iret (v := (-1 : Int32)) hx hb hr (fun t9 ht9 hW9 => ⟨(-1 : Int32), rfl, trivial, ht9⟩) (fun _ h => absurd h List.not_mem_nil) dX0_sortOf_73
set_option maxRecDepth 20000 in
theorem lf_b_put_1 (blineCount : Nat) (iv_bbk_0 : blineCount ≤ 40) (c1 : blineCount < 40) : ((nI 1) = nI 1 ∧ ((blineCount + 1) = blineCount + 1)) ∨ ((nI 1) = nI 0 ∧ (True)) := by
  try have k_0 := ia_n 1 (by first | decide | omega)
  try have k_1 := ia_n 0 (by first | decide | omega)
  try simp only [ia_lt, ia_le, ia_eq, ia_m1, ia_0, ia_1, ne_eq, true_and, and_true, false_and, and_false, or_false, false_or, or_true, true_or, not_true_eq_false, not_false_eq_true] at *
  all_goals omega
set_option maxRecDepth 20000 in
theorem lf_b_put_2 (blineCount : Nat) (iv_bbk_0 : blineCount ≤ 40) (c1 : blineCount < 40) : (blineCount + 1) ≤ 40 := by
  try simp only [ia_lt, ia_le, ia_eq, ia_m1, ia_0, ia_1, ne_eq, true_and, and_true, false_and, and_false, or_false, false_or, or_true, true_or, not_true_eq_false, not_false_eq_true] at *
  all_goals omega
set_option maxRecDepth 20000 in
theorem lf_b_put_3 (blineCount : Nat) (iv_bbk_0 : blineCount ≤ 40) (c1 : 40 ≤ blineCount) : ((nI 0) = nI 1 ∧ (blineCount = blineCount + 1)) ∨ ((nI 0) = nI 0 ∧ (True)) := by
  try have k_0 := ia_n 0 (by first | decide | omega)
  try have k_1 := ia_n 1 (by first | decide | omega)
  try simp only [ia_lt, ia_le, ia_eq, ia_m1, ia_0, ia_1, ne_eq, true_and, and_true, false_and, and_false, or_false, false_or, or_true, true_or, not_true_eq_false, not_false_eq_true] at *
  all_goals omega
set_option maxHeartbeats 4000000 in
set_option maxRecDepth 100000 in
theorem c_b_put (l : Launch) (dC : Nat → ClassId) (dI : Nat → Nat → Nat) (ky : Nat → ClassId) (sz : Nat) (bk : Nat) (blines : Nat) (blineCount : Nat) (blived : Int32) (bwhyWrong : Int32) (bfineLines : Int32) (bdayThen : Int32) (beatenThen : Int32) (blinesF : Nat → Int32) (x : Int32) (y : Int32) (z : Int32) (u : Int32) (iv_bbk_0 : blineCount ≤ 40) : Met l yX0_put wsX0_put ({ frames := 0, cells := 0, slots := 0, locals := 0 }) (PcU dC dI ky [.ref bk, .int x, .int y, .int z, .int u] [(bk, .inr (0, [.ref blines, .int (nI blineCount), .int blived, .int bwhyWrong, .int bfineLines, .int bdayThen, .int beatenThen])), (blines, .inl (ky 0, 160, .inl blinesF))] sz) (va_Qi (fun (r : Int32) (u : Nat × (Nat → Int32)) => match u with | (blineCountG, blinesG) => ((r = nI 1 ∧ (blineCountG = blineCount + 1)) ∨ (r = nI 0 ∧ (True))) ∧ (blineCountG ≤ 40)) (BU dC dI ky (fun (u : Nat × (Nat → Int32)) => match u with | (blineCountG, blinesG) => [(bk, .inr (0, [.ref blines, .int (nI blineCountG), .int blived, .int bwhyWrong, .int bfineLines, .int bdayThen, .int beatenThen])), (blines, .inl (ky 0, 160, .inl blinesG))]) (va_A [(bk, .inr (0, [.ref blines, .int (nI blineCount), .int blived, .int bwhyWrong, .int bfineLines, .int bdayThen, .int beatenThen])), (blines, .inl (ky 0, 160, .inl blinesF))] sz)) (va_A [(bk, .inr (0, [.ref blines, .int (nI blineCount), .int blived, .int bwhyWrong, .int bfineLines, .int bdayThen, .int beatenThen])), (blines, .inl (ky 0, 160, .inl blinesF))] sz)) 0 0 (va_A [(bk, .inr (0, [.ref blines, .int (nI blineCount), .int blived, .int bwhyWrong, .int bfineLines, .int bdayThen, .int beatenThen])), (blines, .inl (ky 0, 160, .inl blinesF))] sz) := by
  refine Met.ofW (cc := cX0_put) (maxL := 6) (ret := (some .boolean)) (by decide) rfl ?_
  intro p e s m args below meth c s₁ B hml hv
  obtain ⟨rfl, hsz, hP, hK, hD0⟩ := hv
  have hx := B.exec
  have hb := B.bytes
  have hr := B.returns
  have hts := atoms_spec (ws := wsX0_put) B.pre
  have hown : s.vm.findClass RX0 = some m.cls := findClass_of_methodNamed B.named
  have hlocks := B.notSynchronized
  have hin0 : ∀ w ∈ u_ws RX0 TX0 7, w ∈ wsX0_put := by decide +kernel
  subst hsz
  have hD := hD0.self (sz := s.heap.size)
  generalize hAe : va_A [(bk, .inr (0, [.ref blines, .int (nI blineCount), .int blived, .int bwhyWrong, .int bfineLines, .int bdayThen, .int beatenThen])), (blines, .inl (ky 0, 160, .inl blinesF))] s.heap.size = A at hD ⊢
  have hA : ∀ q : Nat, s.heap.size ≤ q → A q := fun q h => by rw [← hAe]; exact Or.inr h
  have hS : va_S A s.heap s.heap [] := va_S.rf
  have hl := lv_entry ([.ref bk, .int x, .int y, .int z, .int u]) (n := 6) (Nat.le_of_ble_eq_true rfl)
  rw [lg_entry_eq]
  generalize (lg_sl ([.ref bk, .int x, .int y, .int z, .int u]) ++ List.replicate (6 - (lg_sl ([.ref bk, .int x, .int y, .int z, .int u])).length) Slot.unset).toArray = ls at hl ⊢
  have hl : lv_has ls 6 [(0, .ref bk), (1, .int x), (2, .int y), (3, .int z), (4, .int u)] := hl
  refine q_name (fun Q hQ => ?_)
  generalize ([.ref bk, .int x, .int y, .int z, .int u] : List Value).toArray = args at hts hQ ⊢
  refine lv_aload_n hx hb dX0_put_0 rfl (lv_at hl 0 rfl) ?_
  refine va_get (D := (dC, dI)) (ci := 0) (v := .int (nI blineCount)) (C := RX0) (T := TX0) (N := 7) hx hb hts hin0 hown hK hP 0 rfl rfl 1 (by decide) (hts (.fieldLink RX0 15 "PorridgeSea$Book" "lineCount" "I") (List.mem_of_getElem? (i := 1) rfl)) (fun _ h9 => h9) rfl dX0_put_1 ?_
  refine lv_bipush (v := nI 40) hx hb dX0_put_4 (by decide) ?_
  refine n_icmp_lt (x := blineCount) (y := 40) (tgt := 11) hx hb (by omega) (by omega) dX0_put_6 (by decide) (fun c1 => ?_) (fun c1 => ?_)
  · refine lv_iconst (v := nI 4) hx hb dX0_put_11 (by decide) ?_
    refine lv_aload_n hx hb dX0_put_12 rfl (lv_at hl 0 rfl) ?_
    refine va_get (D := (dC, dI)) (ci := 0) (v := .int (nI blineCount)) (C := RX0) (T := TX0) (N := 7) hx hb hts hin0 hown hK hP 0 rfl rfl 1 (by decide) (hts (.fieldLink RX0 15 "PorridgeSea$Book" "lineCount" "I") (List.mem_of_getElem? (i := 1) rfl)) (fun _ h9 => h9) rfl dX0_put_13 ?_
    refine lv_imul hx hb dX0_put_16 ?_
    refine r_ti (nI (4 * blineCount)) (pk_mul _ _) ?_
    refine lv_istore (lv' := [(5, .int (nI (4 * blineCount))), (0, .ref bk), (1, .int x), (2, .int y), (3, .int z), (4, .int u)]) hx hb dX0_put_17 hl (by decide) rfl (fun ls hl => ?_)
    refine lv_aload_n hx hb dX0_put_19 rfl (lv_at hl 1 rfl) ?_
    refine va_get (D := (dC, dI)) (ci := 0) (v := .ref blines) (C := RX0) (T := TX0) (N := 7) hx hb hts hin0 hown hK hP 0 rfl rfl 0 (by decide) (hts (.fieldLink RX0 11 "PorridgeSea$Book" "lines" "[I") (List.mem_of_getElem? (i := 2) rfl)) (fun _ h9 => h9) rfl dX0_put_20 ?_
    refine lv_iload hx hb dX0_put_23 (lv_at hl 0 rfl) ?_
    refine lv_iload_n hx hb dX0_put_25 rfl (lv_at hl 2 rfl) ?_
    refine r_iast (x := x) hx hb hK hP hD hS 1 rfl (4 * blineCount) (by omega) (by decide) dX0_put_26 (fun H locs hP hD hS => ?_)
    obtain ⟨g2, e3⟩ : ∃ z9, z9 = upd blinesF (4 * blineCount) x := ⟨_, rfl⟩
    rw [← e3] at hP hD
    have hP : va_P (dC, dI) vwCl [(bk, .inr (0, [.ref blines, .int (nI blineCount), .int blived, .int bwhyWrong, .int bfineLines, .int bdayThen, .int beatenThen])), (blines, .inl (ky 0, 160, .inl g2))] H := hP
    have hD : va_D A [(bk, .inr (0, [.ref blines, .int (nI blineCount), .int blived, .int bwhyWrong, .int bfineLines, .int bdayThen, .int beatenThen])), (blines, .inl (ky 0, 160, .inl g2))] := hD
    refine lv_aload_n hx hb dX0_put_27 rfl (lv_at hl 1 rfl) ?_
    refine va_get (D := (dC, dI)) (ci := 0) (v := .ref blines) (C := RX0) (T := TX0) (N := 7) hx hb hts hin0 hown hK hP 0 rfl rfl 0 (by decide) (hts (.fieldLink RX0 11 "PorridgeSea$Book" "lines" "[I") (List.mem_of_getElem? (i := 2) rfl)) (fun _ h9 => h9) rfl dX0_put_28 ?_
    refine lv_iload hx hb dX0_put_31 (lv_at hl 0 rfl) ?_
    refine lv_iconst (v := nI 1) hx hb dX0_put_33 (by decide) ?_
    refine lv_iadd hx hb dX0_put_34 ?_
    refine r_ti (nI ((4 * blineCount) + 1)) (nI_add _ _) ?_
    refine lv_iload_n hx hb dX0_put_35 rfl (lv_at hl 3 rfl) ?_
    refine r_iast (x := y) hx hb hK hP hD hS 1 rfl ((4 * blineCount) + 1) (by omega) (by decide) dX0_put_36 (fun H locs hP hD hS => ?_)
    obtain ⟨g4, e5⟩ : ∃ z9, z9 = upd g2 ((4 * blineCount) + 1) y := ⟨_, rfl⟩
    rw [← e5] at hP hD
    have hP : va_P (dC, dI) vwCl [(bk, .inr (0, [.ref blines, .int (nI blineCount), .int blived, .int bwhyWrong, .int bfineLines, .int bdayThen, .int beatenThen])), (blines, .inl (ky 0, 160, .inl g4))] H := hP
    have hD : va_D A [(bk, .inr (0, [.ref blines, .int (nI blineCount), .int blived, .int bwhyWrong, .int bfineLines, .int bdayThen, .int beatenThen])), (blines, .inl (ky 0, 160, .inl g4))] := hD
    refine lv_aload_n hx hb dX0_put_37 rfl (lv_at hl 1 rfl) ?_
    refine va_get (D := (dC, dI)) (ci := 0) (v := .ref blines) (C := RX0) (T := TX0) (N := 7) hx hb hts hin0 hown hK hP 0 rfl rfl 0 (by decide) (hts (.fieldLink RX0 11 "PorridgeSea$Book" "lines" "[I") (List.mem_of_getElem? (i := 2) rfl)) (fun _ h9 => h9) rfl dX0_put_38 ?_
    refine lv_iload hx hb dX0_put_41 (lv_at hl 0 rfl) ?_
    refine lv_iconst (v := nI 2) hx hb dX0_put_43 (by decide) ?_
    refine lv_iadd hx hb dX0_put_44 ?_
    refine r_ti (nI ((4 * blineCount) + 2)) (nI_add _ _) ?_
    refine lv_iload_n hx hb dX0_put_45 rfl (lv_at hl 4 rfl) ?_
    refine r_iast (x := z) hx hb hK hP hD hS 1 rfl ((4 * blineCount) + 2) (by omega) (by decide) dX0_put_46 (fun H locs hP hD hS => ?_)
    obtain ⟨g6, e7⟩ : ∃ z9, z9 = upd g4 ((4 * blineCount) + 2) z := ⟨_, rfl⟩
    rw [← e7] at hP hD
    have hP : va_P (dC, dI) vwCl [(bk, .inr (0, [.ref blines, .int (nI blineCount), .int blived, .int bwhyWrong, .int bfineLines, .int bdayThen, .int beatenThen])), (blines, .inl (ky 0, 160, .inl g6))] H := hP
    have hD : va_D A [(bk, .inr (0, [.ref blines, .int (nI blineCount), .int blived, .int bwhyWrong, .int bfineLines, .int bdayThen, .int beatenThen])), (blines, .inl (ky 0, 160, .inl g6))] := hD
    refine lv_aload_n hx hb dX0_put_47 rfl (lv_at hl 1 rfl) ?_
    refine va_get (D := (dC, dI)) (ci := 0) (v := .ref blines) (C := RX0) (T := TX0) (N := 7) hx hb hts hin0 hown hK hP 0 rfl rfl 0 (by decide) (hts (.fieldLink RX0 11 "PorridgeSea$Book" "lines" "[I") (List.mem_of_getElem? (i := 2) rfl)) (fun _ h9 => h9) rfl dX0_put_48 ?_
    refine lv_iload hx hb dX0_put_51 (lv_at hl 0 rfl) ?_
    refine lv_iconst (v := nI 3) hx hb dX0_put_53 (by decide) ?_
    refine lv_iadd hx hb dX0_put_54 ?_
    refine r_ti (nI ((4 * blineCount) + 3)) (nI_add _ _) ?_
    refine lv_iload hx hb dX0_put_55 (lv_at hl 5 rfl) ?_
    refine r_iast (x := u) hx hb hK hP hD hS 1 rfl ((4 * blineCount) + 3) (by omega) (by decide) dX0_put_57 (fun H locs hP hD hS => ?_)
    obtain ⟨g8, e9⟩ : ∃ z9, z9 = upd g6 ((4 * blineCount) + 3) u := ⟨_, rfl⟩
    rw [← e9] at hP hD
    have hP : va_P (dC, dI) vwCl [(bk, .inr (0, [.ref blines, .int (nI blineCount), .int blived, .int bwhyWrong, .int bfineLines, .int bdayThen, .int beatenThen])), (blines, .inl (ky 0, 160, .inl g8))] H := hP
    have hD : va_D A [(bk, .inr (0, [.ref blines, .int (nI blineCount), .int blived, .int bwhyWrong, .int bfineLines, .int bdayThen, .int beatenThen])), (blines, .inl (ky 0, 160, .inl g8))] := hD
    refine lv_aload_n hx hb dX0_put_58 rfl (lv_at hl 1 rfl) ?_
    refine lv_dup hx hb dX0_put_59 rfl ?_
    refine va_get (D := (dC, dI)) (ci := 0) (v := .int (nI blineCount)) (C := RX0) (T := TX0) (N := 7) hx hb hts hin0 hown hK hP 0 rfl rfl 1 (by decide) (hts (.fieldLink RX0 15 "PorridgeSea$Book" "lineCount" "I") (List.mem_of_getElem? (i := 1) rfl)) (fun _ h9 => h9) rfl dX0_put_60 ?_
    refine lv_iconst (v := nI 1) hx hb dX0_put_63 (by decide) ?_
    refine lv_iadd hx hb dX0_put_64 ?_
    refine r_ti (nI (blineCount + 1)) (nI_add _ _) ?_
    refine va_put (D := (dC, dI)) (ci := 0) (v := .int (nI (blineCount + 1))) (ty := .int) (C := RX0) (T := TX0) (N := 7) hx hb hts hin0 tyX0 tyX0_ok nmX0 hown hK hP hD hS 0 rfl rfl 1 (by decide) (hts (.fieldLink RX0 15 "PorridgeSea$Book" "lineCount" "I") (List.mem_of_getElem? (i := 1) rfl)) (fun _ h9 => h9) rfl (by decide +kernel) rfl rfl (Nat.le_of_ble_eq_true rfl) dX0_put_65 (fun H locs hP hD hS => ?_)
    have hP : va_P (dC, dI) vwCl [(bk, .inr (0, [.ref blines, .int (nI (blineCount + 1)), .int blived, .int bwhyWrong, .int bfineLines, .int bdayThen, .int beatenThen])), (blines, .inl (ky 0, 160, .inl g8))] H := hP
    have hD : va_D A [(bk, .inr (0, [.ref blines, .int (nI (blineCount + 1)), .int blived, .int bwhyWrong, .int bfineLines, .int bdayThen, .int beatenThen])), (blines, .inl (ky 0, 160, .inl g8))] := hD
    refine lv_iconst (v := nI 1) hx hb dX0_put_68 (by decide) ?_
    rw [hQ]
    exact W.zret (v := nI 1) hx hb hr (by decide) (fun t9 ht9 hW9 => ⟨⟨nI 1, ((blineCount + 1), g8), rfl, ⟨(lf_b_put_1 blineCount iv_bbk_0 c1), (lf_b_put_2 blineCount iv_bbk_0 c1)⟩, by rw [ht9]; exact hP, va_K.moved hW9.alike hK, hD⟩, hS.F ht9⟩) hS.2.2 dX0_put_69
  · refine lv_iconst (v := nI 0) hx hb dX0_put_9 (by decide) ?_
    rw [hQ]
    exact W.zret (v := nI 0) hx hb hr (by decide) (fun t9 ht9 hW9 => ⟨⟨nI 0, (blineCount, blinesF), rfl, ⟨(lf_b_put_3 blineCount iv_bbk_0 c1), iv_bbk_0⟩, by rw [ht9]; exact hP, va_K.moved hW9.alike hK, hD⟩, hS.F ht9⟩) hS.2.2 dX0_put_10
set_option maxRecDepth 20000 in
theorem lf_b_readRest_1   : 1 ≤ 10 := by
  try simp only [ia_lt, ia_le, ia_eq, ia_m1, ia_0, ia_1, ne_eq, true_and, and_true, false_and, and_false, or_false, false_or, or_true, true_or, not_true_eq_false, not_false_eq_true] at *
  all_goals omega
set_option maxRecDepth 20000 in
theorem lf_b_readRest_2   : 60 ≤ 1000 := by
  try simp only [ia_lt, ia_le, ia_eq, ia_m1, ia_0, ia_1, ne_eq, true_and, and_true, false_and, and_false, or_false, false_or, or_true, true_or, not_true_eq_false, not_false_eq_true] at *
  all_goals omega
set_option maxRecDepth 20000 in
theorem lf_b_readRest_3 (blineCount : Nat) (iv_bbk_0 : blineCount ≤ 40) : ((nI 0) = nI 1 ∧ (blineCount = blineCount + 1)) ∨ ((nI 0) = nI 0 ∧ (True)) := by
  try have k_0 := ia_n 0 (by first | decide | omega)
  try have k_1 := ia_n 1 (by first | decide | omega)
  try simp only [ia_lt, ia_le, ia_eq, ia_m1, ia_0, ia_1, ne_eq, true_and, and_true, false_and, and_false, or_false, false_or, or_true, true_or, not_true_eq_false, not_false_eq_true] at *
  all_goals omega
set_option maxRecDepth 20000 in
theorem lf_b_readRest_4 (blineCount : Nat) (iv_bbk_0 : blineCount ≤ 40) : ((nI 0) = nI 1 ∧ (blineCount = blineCount + 1)) ∨ ((nI 0) = nI 0 ∧ (True)) := by
  try have k_0 := ia_n 0 (by first | decide | omega)
  try have k_1 := ia_n 1 (by first | decide | omega)
  try simp only [ia_lt, ia_le, ia_eq, ia_m1, ia_0, ia_1, ne_eq, true_and, and_true, false_and, and_false, or_false, false_or, or_true, true_or, not_true_eq_false, not_false_eq_true] at *
  all_goals omega
set_option maxRecDepth 20000 in
theorem lf_b_readRest_5 (blineCount : Nat) (blineCountG_31 : Nat) (iv_bbk_0 : blineCount ≤ 40) (p34 : blineCountG_31 ≤ 40) (t35 : blineCountG_31 = blineCount + 1) : ((nI 1) = nI 1 ∧ (blineCountG_31 = blineCount + 1)) ∨ ((nI 1) = nI 0 ∧ (True)) := by
  try have k_0 := ia_n 1 (by first | decide | omega)
  try have k_1 := ia_n 0 (by first | decide | omega)
  try simp only [ia_lt, ia_le, ia_eq, ia_m1, ia_0, ia_1, ne_eq, true_and, and_true, false_and, and_false, or_false, false_or, or_true, true_or, not_true_eq_false, not_false_eq_true] at *
  all_goals omega
set_option maxRecDepth 20000 in
theorem lf_b_readRest_6 (blineCount : Nat) (blineCountG_31 : Nat) (iv_bbk_0 : blineCount ≤ 40) (p34 : blineCountG_31 ≤ 40) (t36 : True) : ((nI 0) = nI 1 ∧ (blineCountG_31 = blineCount + 1)) ∨ ((nI 0) = nI 0 ∧ (True)) := by
  try have k_0 := ia_n 0 (by first | decide | omega)
  try have k_1 := ia_n 1 (by first | decide | omega)
  try simp only [ia_lt, ia_le, ia_eq, ia_m1, ia_0, ia_1, ne_eq, true_and, and_true, false_and, and_false, or_false, false_or, or_true, true_or, not_true_eq_false, not_false_eq_true] at *
  all_goals omega
set_option maxRecDepth 20000 in
theorem lf_b_readRest_7   : 1 ≤ 10 := by
  try simp only [ia_lt, ia_le, ia_eq, ia_m1, ia_0, ia_1, ne_eq, true_and, and_true, false_and, and_false, or_false, false_or, or_true, true_or, not_true_eq_false, not_false_eq_true] at *
  all_goals omega
set_option maxRecDepth 20000 in
theorem lf_b_readRest_8   : 20 ≤ 1000 := by
  try simp only [ia_lt, ia_le, ia_eq, ia_m1, ia_0, ia_1, ne_eq, true_and, and_true, false_and, and_false, or_false, false_or, or_true, true_or, not_true_eq_false, not_false_eq_true] at *
  all_goals omega
set_option maxRecDepth 20000 in
theorem lf_b_readRest_9 (blineCount : Nat) (iv_bbk_0 : blineCount ≤ 40) : ((nI 0) = nI 1 ∧ (blineCount = blineCount + 1)) ∨ ((nI 0) = nI 0 ∧ (True)) := by
  try have k_0 := ia_n 0 (by first | decide | omega)
  try have k_1 := ia_n 1 (by first | decide | omega)
  try simp only [ia_lt, ia_le, ia_eq, ia_m1, ia_0, ia_1, ne_eq, true_and, and_true, false_and, and_false, or_false, false_or, or_true, true_or, not_true_eq_false, not_false_eq_true] at *
  all_goals omega
set_option maxRecDepth 20000 in
theorem lf_b_readRest_10 (blineCount : Nat) (iv_bbk_0 : blineCount ≤ 40) : ((nI 0) = nI 1 ∧ (blineCount = blineCount + 1)) ∨ ((nI 0) = nI 0 ∧ (True)) := by
  try have k_0 := ia_n 0 (by first | decide | omega)
  try have k_1 := ia_n 1 (by first | decide | omega)
  try simp only [ia_lt, ia_le, ia_eq, ia_m1, ia_0, ia_1, ne_eq, true_and, and_true, false_and, and_false, or_false, false_or, or_true, true_or, not_true_eq_false, not_false_eq_true] at *
  all_goals omega
set_option maxRecDepth 20000 in
theorem lf_b_readRest_11 (blineCount : Nat) (blineCountG_62 : Nat) (iv_bbk_0 : blineCount ≤ 40) (p65 : blineCountG_62 ≤ 40) (t66 : blineCountG_62 = blineCount + 1) : ((nI 1) = nI 1 ∧ (blineCountG_62 = blineCount + 1)) ∨ ((nI 1) = nI 0 ∧ (True)) := by
  try have k_0 := ia_n 1 (by first | decide | omega)
  try have k_1 := ia_n 0 (by first | decide | omega)
  try simp only [ia_lt, ia_le, ia_eq, ia_m1, ia_0, ia_1, ne_eq, true_and, and_true, false_and, and_false, or_false, false_or, or_true, true_or, not_true_eq_false, not_false_eq_true] at *
  all_goals omega
set_option maxRecDepth 20000 in
theorem lf_b_readRest_12 (blineCount : Nat) (blineCountG_62 : Nat) (iv_bbk_0 : blineCount ≤ 40) (p65 : blineCountG_62 ≤ 40) (t67 : True) : ((nI 0) = nI 1 ∧ (blineCountG_62 = blineCount + 1)) ∨ ((nI 0) = nI 0 ∧ (True)) := by
  try have k_0 := ia_n 0 (by first | decide | omega)
  try have k_1 := ia_n 1 (by first | decide | omega)
  try simp only [ia_lt, ia_le, ia_eq, ia_m1, ia_0, ia_1, ne_eq, true_and, and_true, false_and, and_false, or_false, false_or, or_true, true_or, not_true_eq_false, not_false_eq_true] at *
  all_goals omega
set_option maxRecDepth 20000 in
theorem lf_b_readRest_13   : 0 ≤ 10 := by
  try simp only [ia_lt, ia_le, ia_eq, ia_m1, ia_0, ia_1, ne_eq, true_and, and_true, false_and, and_false, or_false, false_or, or_true, true_or, not_true_eq_false, not_false_eq_true] at *
  all_goals omega
set_option maxRecDepth 20000 in
theorem lf_b_readRest_14   : 5 ≤ 1000 := by
  try simp only [ia_lt, ia_le, ia_eq, ia_m1, ia_0, ia_1, ne_eq, true_and, and_true, false_and, and_false, or_false, false_or, or_true, true_or, not_true_eq_false, not_false_eq_true] at *
  all_goals omega
set_option maxRecDepth 20000 in
theorem lf_b_readRest_15 (blineCount : Nat) (iv_bbk_0 : blineCount ≤ 40) : ((nI 0) = nI 1 ∧ (blineCount = blineCount + 1)) ∨ ((nI 0) = nI 0 ∧ (True)) := by
  try have k_0 := ia_n 0 (by first | decide | omega)
  try have k_1 := ia_n 1 (by first | decide | omega)
  try simp only [ia_lt, ia_le, ia_eq, ia_m1, ia_0, ia_1, ne_eq, true_and, and_true, false_and, and_false, or_false, false_or, or_true, true_or, not_true_eq_false, not_false_eq_true] at *
  all_goals omega
set_option maxRecDepth 20000 in
theorem lf_b_readRest_16 (blineCount : Nat) (iv_bbk_0 : blineCount ≤ 40) : ((nI 0) = nI 1 ∧ (blineCount = blineCount + 1)) ∨ ((nI 0) = nI 0 ∧ (True)) := by
  try have k_0 := ia_n 0 (by first | decide | omega)
  try have k_1 := ia_n 1 (by first | decide | omega)
  try simp only [ia_lt, ia_le, ia_eq, ia_m1, ia_0, ia_1, ne_eq, true_and, and_true, false_and, and_false, or_false, false_or, or_true, true_or, not_true_eq_false, not_false_eq_true] at *
  all_goals omega
set_option maxRecDepth 20000 in
theorem lf_b_readRest_17 (blineCount : Nat) (blineCountG_122 : Nat) (iv_bbk_0 : blineCount ≤ 40) (p125 : blineCountG_122 ≤ 40) (t126 : blineCountG_122 = blineCount + 1) : ((nI 1) = nI 1 ∧ (blineCountG_122 = blineCount + 1)) ∨ ((nI 1) = nI 0 ∧ (True)) := by
  try have k_0 := ia_n 1 (by first | decide | omega)
  try have k_1 := ia_n 0 (by first | decide | omega)
  try simp only [ia_lt, ia_le, ia_eq, ia_m1, ia_0, ia_1, ne_eq, true_and, and_true, false_and, and_false, or_false, false_or, or_true, true_or, not_true_eq_false, not_false_eq_true] at *
  all_goals omega
set_option maxRecDepth 20000 in
theorem lf_b_readRest_18 (blineCount : Nat) (blineCountG_122 : Nat) (iv_bbk_0 : blineCount ≤ 40) (p125 : blineCountG_122 ≤ 40) (t127 : True) : ((nI 0) = nI 1 ∧ (blineCountG_122 = blineCount + 1)) ∨ ((nI 0) = nI 0 ∧ (True)) := by
  try have k_0 := ia_n 0 (by first | decide | omega)
  try have k_1 := ia_n 1 (by first | decide | omega)
  try simp only [ia_lt, ia_le, ia_eq, ia_m1, ia_0, ia_1, ne_eq, true_and, and_true, false_and, and_false, or_false, false_or, or_true, true_or, not_true_eq_false, not_false_eq_true] at *
  all_goals omega
set_option maxRecDepth 20000 in
theorem lf_b_readRest_19 (blineCount : Nat) (iv_bbk_0 : blineCount ≤ 40) : ((nI 0) = nI 1 ∧ (blineCount = blineCount + 1)) ∨ ((nI 0) = nI 0 ∧ (True)) := by
  try have k_0 := ia_n 0 (by first | decide | omega)
  try have k_1 := ia_n 1 (by first | decide | omega)
  try simp only [ia_lt, ia_le, ia_eq, ia_m1, ia_0, ia_1, ne_eq, true_and, and_true, false_and, and_false, or_false, false_or, or_true, true_or, not_true_eq_false, not_false_eq_true] at *
  all_goals omega
set_option maxRecDepth 20000 in
theorem lf_b_readRest_20 (blineCount : Nat) (iv_bbk_0 : blineCount ≤ 40) : ((nI 0) = nI 1 ∧ (blineCount = blineCount + 1)) ∨ ((nI 0) = nI 0 ∧ (True)) := by
  try have k_0 := ia_n 0 (by first | decide | omega)
  try have k_1 := ia_n 1 (by first | decide | omega)
  try simp only [ia_lt, ia_le, ia_eq, ia_m1, ia_0, ia_1, ne_eq, true_and, and_true, false_and, and_false, or_false, false_or, or_true, true_or, not_true_eq_false, not_false_eq_true] at *
  all_goals omega
set_option maxRecDepth 20000 in
theorem lf_b_readRest_21 (blineCount : Nat) (iv_bbk_0 : blineCount ≤ 40) : ((nI 0) = nI 1 ∧ (blineCount = blineCount + 1)) ∨ ((nI 0) = nI 0 ∧ (True)) := by
  try have k_0 := ia_n 0 (by first | decide | omega)
  try have k_1 := ia_n 1 (by first | decide | omega)
  try simp only [ia_lt, ia_le, ia_eq, ia_m1, ia_0, ia_1, ne_eq, true_and, and_true, false_and, and_false, or_false, false_or, or_true, true_or, not_true_eq_false, not_false_eq_true] at *
  all_goals omega
set_option maxRecDepth 20000 in
theorem lf_b_readRest_22 (blineCount : Nat) (blineCountG_150 : Nat) (iv_bbk_0 : blineCount ≤ 40) (p153 : blineCountG_150 ≤ 40) (t154 : blineCountG_150 = blineCount + 1) : ((nI 1) = nI 1 ∧ (blineCountG_150 = blineCount + 1)) ∨ ((nI 1) = nI 0 ∧ (True)) := by
  try have k_0 := ia_n 1 (by first | decide | omega)
  try have k_1 := ia_n 0 (by first | decide | omega)
  try simp only [ia_lt, ia_le, ia_eq, ia_m1, ia_0, ia_1, ne_eq, true_and, and_true, false_and, and_false, or_false, false_or, or_true, true_or, not_true_eq_false, not_false_eq_true] at *
  all_goals omega
set_option maxRecDepth 20000 in
theorem lf_b_readRest_23 (blineCount : Nat) (blineCountG_150 : Nat) (iv_bbk_0 : blineCount ≤ 40) (p153 : blineCountG_150 ≤ 40) (t155 : True) : ((nI 0) = nI 1 ∧ (blineCountG_150 = blineCount + 1)) ∨ ((nI 0) = nI 0 ∧ (True)) := by
  try have k_0 := ia_n 0 (by first | decide | omega)
  try have k_1 := ia_n 1 (by first | decide | omega)
  try simp only [ia_lt, ia_le, ia_eq, ia_m1, ia_0, ia_1, ne_eq, true_and, and_true, false_and, and_false, or_false, false_or, or_true, true_or, not_true_eq_false, not_false_eq_true] at *
  all_goals omega
set_option maxRecDepth 20000 in
theorem lf_b_readRest_24   : 0 ≤ 10 := by
  try simp only [ia_lt, ia_le, ia_eq, ia_m1, ia_0, ia_1, ne_eq, true_and, and_true, false_and, and_false, or_false, false_or, or_true, true_or, not_true_eq_false, not_false_eq_true] at *
  all_goals omega
set_option maxRecDepth 20000 in
theorem lf_b_readRest_25   : 5 ≤ 1000 := by
  try simp only [ia_lt, ia_le, ia_eq, ia_m1, ia_0, ia_1, ne_eq, true_and, and_true, false_and, and_false, or_false, false_or, or_true, true_or, not_true_eq_false, not_false_eq_true] at *
  all_goals omega
set_option maxRecDepth 20000 in
theorem lf_b_readRest_26 (blineCount : Nat) (iv_bbk_0 : blineCount ≤ 40) : ((nI 0) = nI 1 ∧ (blineCount = blineCount + 1)) ∨ ((nI 0) = nI 0 ∧ (True)) := by
  try have k_0 := ia_n 0 (by first | decide | omega)
  try have k_1 := ia_n 1 (by first | decide | omega)
  try simp only [ia_lt, ia_le, ia_eq, ia_m1, ia_0, ia_1, ne_eq, true_and, and_true, false_and, and_false, or_false, false_or, or_true, true_or, not_true_eq_false, not_false_eq_true] at *
  all_goals omega
set_option maxRecDepth 20000 in
theorem lf_b_readRest_27   : 0 ≤ 10 := by
  try simp only [ia_lt, ia_le, ia_eq, ia_m1, ia_0, ia_1, ne_eq, true_and, and_true, false_and, and_false, or_false, false_or, or_true, true_or, not_true_eq_false, not_false_eq_true] at *
  all_goals omega
set_option maxRecDepth 20000 in
theorem lf_b_readRest_28   : 5 ≤ 1000 := by
  try simp only [ia_lt, ia_le, ia_eq, ia_m1, ia_0, ia_1, ne_eq, true_and, and_true, false_and, and_false, or_false, false_or, or_true, true_or, not_true_eq_false, not_false_eq_true] at *
  all_goals omega
set_option maxRecDepth 20000 in
theorem lf_b_readRest_29 (blineCount : Nat) (iv_bbk_0 : blineCount ≤ 40) : ((nI 0) = nI 1 ∧ (blineCount = blineCount + 1)) ∨ ((nI 0) = nI 0 ∧ (True)) := by
  try have k_0 := ia_n 0 (by first | decide | omega)
  try have k_1 := ia_n 1 (by first | decide | omega)
  try simp only [ia_lt, ia_le, ia_eq, ia_m1, ia_0, ia_1, ne_eq, true_and, and_true, false_and, and_false, or_false, false_or, or_true, true_or, not_true_eq_false, not_false_eq_true] at *
  all_goals omega
set_option maxRecDepth 20000 in
theorem lf_b_readRest_30   : 1 ≤ 10 := by
  try simp only [ia_lt, ia_le, ia_eq, ia_m1, ia_0, ia_1, ne_eq, true_and, and_true, false_and, and_false, or_false, false_or, or_true, true_or, not_true_eq_false, not_false_eq_true] at *
  all_goals omega
set_option maxRecDepth 20000 in
theorem lf_b_readRest_31   : 9 ≤ 1000 := by
  try simp only [ia_lt, ia_le, ia_eq, ia_m1, ia_0, ia_1, ne_eq, true_and, and_true, false_and, and_false, or_false, false_or, or_true, true_or, not_true_eq_false, not_false_eq_true] at *
  all_goals omega
set_option maxRecDepth 20000 in
theorem lf_b_readRest_32 (blineCount : Nat) (iv_bbk_0 : blineCount ≤ 40) : ((nI 0) = nI 1 ∧ (blineCount = blineCount + 1)) ∨ ((nI 0) = nI 0 ∧ (True)) := by
  try have k_0 := ia_n 0 (by first | decide | omega)
  try have k_1 := ia_n 1 (by first | decide | omega)
  try simp only [ia_lt, ia_le, ia_eq, ia_m1, ia_0, ia_1, ne_eq, true_and, and_true, false_and, and_false, or_false, false_or, or_true, true_or, not_true_eq_false, not_false_eq_true] at *
  all_goals omega
set_option maxRecDepth 20000 in
theorem lf_b_readRest_33 (blineCount : Nat) (iv_bbk_0 : blineCount ≤ 40) : ((nI 0) = nI 1 ∧ (blineCount = blineCount + 1)) ∨ ((nI 0) = nI 0 ∧ (True)) := by
  try have k_0 := ia_n 0 (by first | decide | omega)
  try have k_1 := ia_n 1 (by first | decide | omega)
  try simp only [ia_lt, ia_le, ia_eq, ia_m1, ia_0, ia_1, ne_eq, true_and, and_true, false_and, and_false, or_false, false_or, or_true, true_or, not_true_eq_false, not_false_eq_true] at *
  all_goals omega
set_option maxRecDepth 20000 in
theorem lf_b_readRest_34 (blineCount : Nat) (blineCountG_224 : Nat) (iv_bbk_0 : blineCount ≤ 40) (p227 : blineCountG_224 ≤ 40) (t228 : blineCountG_224 = blineCount + 1) : ((nI 1) = nI 1 ∧ (blineCountG_224 = blineCount + 1)) ∨ ((nI 1) = nI 0 ∧ (True)) := by
  try have k_0 := ia_n 1 (by first | decide | omega)
  try have k_1 := ia_n 0 (by first | decide | omega)
  try simp only [ia_lt, ia_le, ia_eq, ia_m1, ia_0, ia_1, ne_eq, true_and, and_true, false_and, and_false, or_false, false_or, or_true, true_or, not_true_eq_false, not_false_eq_true] at *
  all_goals omega
set_option maxRecDepth 20000 in
theorem lf_b_readRest_35 (blineCount : Nat) (blineCountG_224 : Nat) (iv_bbk_0 : blineCount ≤ 40) (p227 : blineCountG_224 ≤ 40) (t229 : True) : ((nI 0) = nI 1 ∧ (blineCountG_224 = blineCount + 1)) ∨ ((nI 0) = nI 0 ∧ (True)) := by
  try have k_0 := ia_n 0 (by first | decide | omega)
  try have k_1 := ia_n 1 (by first | decide | omega)
  try simp only [ia_lt, ia_le, ia_eq, ia_m1, ia_0, ia_1, ne_eq, true_and, and_true, false_and, and_false, or_false, false_or, or_true, true_or, not_true_eq_false, not_false_eq_true] at *
  all_goals omega
set_option maxRecDepth 20000 in
theorem lf_b_readRest_36 (blineCount : Nat) (iv_bbk_0 : blineCount ≤ 40) : ((nI 0) = nI 1 ∧ (blineCount = blineCount + 1)) ∨ ((nI 0) = nI 0 ∧ (True)) := by
  try have k_0 := ia_n 0 (by first | decide | omega)
  try have k_1 := ia_n 1 (by first | decide | omega)
  try simp only [ia_lt, ia_le, ia_eq, ia_m1, ia_0, ia_1, ne_eq, true_and, and_true, false_and, and_false, or_false, false_or, or_true, true_or, not_true_eq_false, not_false_eq_true] at *
  all_goals omega
set_option maxRecDepth 20000 in
theorem lf_b_readRest_37 (blineCount : Nat) (iv_bbk_0 : blineCount ≤ 40) : ((nI 0) = nI 1 ∧ (blineCount = blineCount + 1)) ∨ ((nI 0) = nI 0 ∧ (True)) := by
  try have k_0 := ia_n 0 (by first | decide | omega)
  try have k_1 := ia_n 1 (by first | decide | omega)
  try simp only [ia_lt, ia_le, ia_eq, ia_m1, ia_0, ia_1, ne_eq, true_and, and_true, false_and, and_false, or_false, false_or, or_true, true_or, not_true_eq_false, not_false_eq_true] at *
  all_goals omega
set_option maxRecDepth 20000 in
theorem lf_b_readRest_38   : 0 ≤ 10 := by
  try simp only [ia_lt, ia_le, ia_eq, ia_m1, ia_0, ia_1, ne_eq, true_and, and_true, false_and, and_false, or_false, false_or, or_true, true_or, not_true_eq_false, not_false_eq_true] at *
  all_goals omega
set_option maxRecDepth 20000 in
theorem lf_b_readRest_39   : 5 ≤ 1000 := by
  try simp only [ia_lt, ia_le, ia_eq, ia_m1, ia_0, ia_1, ne_eq, true_and, and_true, false_and, and_false, or_false, false_or, or_true, true_or, not_true_eq_false, not_false_eq_true] at *
  all_goals omega
set_option maxRecDepth 20000 in
theorem lf_b_readRest_40 (blineCount : Nat) (iv_bbk_0 : blineCount ≤ 40) : ((nI 0) = nI 1 ∧ (blineCount = blineCount + 1)) ∨ ((nI 0) = nI 0 ∧ (True)) := by
  try have k_0 := ia_n 0 (by first | decide | omega)
  try have k_1 := ia_n 1 (by first | decide | omega)
  try simp only [ia_lt, ia_le, ia_eq, ia_m1, ia_0, ia_1, ne_eq, true_and, and_true, false_and, and_false, or_false, false_or, or_true, true_or, not_true_eq_false, not_false_eq_true] at *
  all_goals omega
set_option maxRecDepth 20000 in
theorem lf_b_readRest_41   : 0 ≤ 10 := by
  try simp only [ia_lt, ia_le, ia_eq, ia_m1, ia_0, ia_1, ne_eq, true_and, and_true, false_and, and_false, or_false, false_or, or_true, true_or, not_true_eq_false, not_false_eq_true] at *
  all_goals omega
set_option maxRecDepth 20000 in
theorem lf_b_readRest_42   : 5 ≤ 1000 := by
  try simp only [ia_lt, ia_le, ia_eq, ia_m1, ia_0, ia_1, ne_eq, true_and, and_true, false_and, and_false, or_false, false_or, or_true, true_or, not_true_eq_false, not_false_eq_true] at *
  all_goals omega
set_option maxRecDepth 20000 in
theorem lf_b_readRest_43 (blineCount : Nat) (iv_bbk_0 : blineCount ≤ 40) : ((nI 0) = nI 1 ∧ (blineCount = blineCount + 1)) ∨ ((nI 0) = nI 0 ∧ (True)) := by
  try have k_0 := ia_n 0 (by first | decide | omega)
  try have k_1 := ia_n 1 (by first | decide | omega)
  try simp only [ia_lt, ia_le, ia_eq, ia_m1, ia_0, ia_1, ne_eq, true_and, and_true, false_and, and_false, or_false, false_or, or_true, true_or, not_true_eq_false, not_false_eq_true] at *
  all_goals omega
set_option maxRecDepth 20000 in
theorem lf_b_readRest_44   : 1 ≤ 10 := by
  try simp only [ia_lt, ia_le, ia_eq, ia_m1, ia_0, ia_1, ne_eq, true_and, and_true, false_and, and_false, or_false, false_or, or_true, true_or, not_true_eq_false, not_false_eq_true] at *
  all_goals omega
set_option maxRecDepth 20000 in
theorem lf_b_readRest_45   : 9 ≤ 1000 := by
  try simp only [ia_lt, ia_le, ia_eq, ia_m1, ia_0, ia_1, ne_eq, true_and, and_true, false_and, and_false, or_false, false_or, or_true, true_or, not_true_eq_false, not_false_eq_true] at *
  all_goals omega
set_option maxRecDepth 20000 in
theorem lf_b_readRest_46 (blineCount : Nat) (iv_bbk_0 : blineCount ≤ 40) : ((nI 0) = nI 1 ∧ (blineCount = blineCount + 1)) ∨ ((nI 0) = nI 0 ∧ (True)) := by
  try have k_0 := ia_n 0 (by first | decide | omega)
  try have k_1 := ia_n 1 (by first | decide | omega)
  try simp only [ia_lt, ia_le, ia_eq, ia_m1, ia_0, ia_1, ne_eq, true_and, and_true, false_and, and_false, or_false, false_or, or_true, true_or, not_true_eq_false, not_false_eq_true] at *
  all_goals omega
set_option maxRecDepth 20000 in
theorem lf_b_readRest_47 (blineCount : Nat) (iv_bbk_0 : blineCount ≤ 40) : ((nI 0) = nI 1 ∧ (blineCount = blineCount + 1)) ∨ ((nI 0) = nI 0 ∧ (True)) := by
  try have k_0 := ia_n 0 (by first | decide | omega)
  try have k_1 := ia_n 1 (by first | decide | omega)
  try simp only [ia_lt, ia_le, ia_eq, ia_m1, ia_0, ia_1, ne_eq, true_and, and_true, false_and, and_false, or_false, false_or, or_true, true_or, not_true_eq_false, not_false_eq_true] at *
  all_goals omega
set_option maxRecDepth 20000 in
theorem lf_b_readRest_48 (blineCount : Nat) (blineCountG_301 : Nat) (iv_bbk_0 : blineCount ≤ 40) (p304 : blineCountG_301 ≤ 40) (t305 : blineCountG_301 = blineCount + 1) : ((nI 1) = nI 1 ∧ (blineCountG_301 = blineCount + 1)) ∨ ((nI 1) = nI 0 ∧ (True)) := by
  try have k_0 := ia_n 1 (by first | decide | omega)
  try have k_1 := ia_n 0 (by first | decide | omega)
  try simp only [ia_lt, ia_le, ia_eq, ia_m1, ia_0, ia_1, ne_eq, true_and, and_true, false_and, and_false, or_false, false_or, or_true, true_or, not_true_eq_false, not_false_eq_true] at *
  all_goals omega
set_option maxRecDepth 20000 in
theorem lf_b_readRest_49 (blineCount : Nat) (blineCountG_301 : Nat) (iv_bbk_0 : blineCount ≤ 40) (p304 : blineCountG_301 ≤ 40) (t306 : True) : ((nI 0) = nI 1 ∧ (blineCountG_301 = blineCount + 1)) ∨ ((nI 0) = nI 0 ∧ (True)) := by
  try have k_0 := ia_n 0 (by first | decide | omega)
  try have k_1 := ia_n 1 (by first | decide | omega)
  try simp only [ia_lt, ia_le, ia_eq, ia_m1, ia_0, ia_1, ne_eq, true_and, and_true, false_and, and_false, or_false, false_or, or_true, true_or, not_true_eq_false, not_false_eq_true] at *
  all_goals omega
set_option maxRecDepth 20000 in
theorem lf_b_readRest_50 (blineCount : Nat) (iv_bbk_0 : blineCount ≤ 40) : ((nI 0) = nI 1 ∧ (blineCount = blineCount + 1)) ∨ ((nI 0) = nI 0 ∧ (True)) := by
  try have k_0 := ia_n 0 (by first | decide | omega)
  try have k_1 := ia_n 1 (by first | decide | omega)
  try simp only [ia_lt, ia_le, ia_eq, ia_m1, ia_0, ia_1, ne_eq, true_and, and_true, false_and, and_false, or_false, false_or, or_true, true_or, not_true_eq_false, not_false_eq_true] at *
  all_goals omega
set_option maxRecDepth 20000 in
theorem lf_b_readRest_51 (blineCount : Nat) (iv_bbk_0 : blineCount ≤ 40) : ((nI 0) = nI 1 ∧ (blineCount = blineCount + 1)) ∨ ((nI 0) = nI 0 ∧ (True)) := by
  try have k_0 := ia_n 0 (by first | decide | omega)
  try have k_1 := ia_n 1 (by first | decide | omega)
  try simp only [ia_lt, ia_le, ia_eq, ia_m1, ia_0, ia_1, ne_eq, true_and, and_true, false_and, and_false, or_false, false_or, or_true, true_or, not_true_eq_false, not_false_eq_true] at *
  all_goals omega
set_option maxHeartbeats 4000000 in
set_option maxRecDepth 100000 in
theorem c_b_readRest (l : Launch) (dC : Nat → ClassId) (dI : Nat → Nat → Nat) (ky : Nat → ClassId) (sz : Nat) (adK : Nat → Nat) (adV : Nat → Nat) (bk : Nat) (blines : Nat) (blineCount : Nat) (blived : Int32) (bwhyWrong : Int32) (bfineLines : Int32) (bdayThen : Int32) (beatenThen : Int32) (blinesF : Nat → Int32) (reader : Nat) (rtape : Nat) (rlength : Nat) (rmostBytes : Nat) (rplace : Nat) (rkind : Int32) (rbegin : Nat) (rword : Int32) (rnumber : Int32) (rletters : Int64) (rfaultKind : Int32) (rfaultPlace : Int32) (rtapeF : Nat → Int32) (x : Int32) (y : Int32) (iv_bbk_0 : blineCount ≤ 40) (iv_rreader_0 : rlength ≤ 940) (iv_rreader_1 : rplace ≤ rlength) (iv_rreader_2 : rmostBytes ≤ 900) (iv_rreader_3 : rbegin ≤ 940) : Met l yX0_readRest wsX0_readRest ({ frames := 7, cells := 0, slots := 0, locals := 154 }) (PcUE dC dI ky adK adV [.ref bk, .ref reader, .int x, .int y] [(bk, .inr (0, [.ref blines, .int (nI blineCount), .int blived, .int bwhyWrong, .int bfineLines, .int bdayThen, .int beatenThen])), (blines, .inl (ky 0, 160, .inl blinesF)), (reader, .inr (5, [.ref rtape, .int (nI rlength), .int (nI rmostBytes), .int (nI rplace), .int rkind, .int (nI rbegin), .int rword, .int rnumber, .long rletters, .int rfaultKind, .int rfaultPlace])), (rtape, .inl (ky 2, 940, .inl rtapeF))] sz) (va_Qi (fun (r : Int32) (u : Nat × (Nat → Int32) × Nat × Int32 × Nat × Int32 × Int32 × Int64 × Int32 × Int32) => match u with | (blineCountG, blinesG, rplaceG, rkindG, rbeginG, rwordG, rnumberG, rlettersG, rfaultKindG, rfaultPlaceG) => ((r = nI 1 ∧ (blineCountG = blineCount + 1)) ∨ (r = nI 0 ∧ (True))) ∧ (blineCountG ≤ 40) ∧ (rplaceG ≤ rlength) ∧ (rbeginG ≤ 940)) (BU dC dI ky (fun (u : Nat × (Nat → Int32) × Nat × Int32 × Nat × Int32 × Int32 × Int64 × Int32 × Int32) => match u with | (blineCountG, blinesG, rplaceG, rkindG, rbeginG, rwordG, rnumberG, rlettersG, rfaultKindG, rfaultPlaceG) => [(bk, .inr (0, [.ref blines, .int (nI blineCountG), .int blived, .int bwhyWrong, .int bfineLines, .int bdayThen, .int beatenThen])), (blines, .inl (ky 0, 160, .inl blinesG)), (reader, .inr (5, [.ref rtape, .int (nI rlength), .int (nI rmostBytes), .int (nI rplaceG), .int rkindG, .int (nI rbeginG), .int rwordG, .int rnumberG, .long rlettersG, .int rfaultKindG, .int rfaultPlaceG])), (rtape, .inl (ky 2, 940, .inl rtapeF))]) (va_A [(bk, .inr (0, [.ref blines, .int (nI blineCount), .int blived, .int bwhyWrong, .int bfineLines, .int bdayThen, .int beatenThen])), (blines, .inl (ky 0, 160, .inl blinesF)), (reader, .inr (5, [.ref rtape, .int (nI rlength), .int (nI rmostBytes), .int (nI rplace), .int rkind, .int (nI rbegin), .int rword, .int rnumber, .long rletters, .int rfaultKind, .int rfaultPlace])), (rtape, .inl (ky 2, 940, .inl rtapeF))] sz)) (va_A [(bk, .inr (0, [.ref blines, .int (nI blineCount), .int blived, .int bwhyWrong, .int bfineLines, .int bdayThen, .int beatenThen])), (blines, .inl (ky 0, 160, .inl blinesF)), (reader, .inr (5, [.ref rtape, .int (nI rlength), .int (nI rmostBytes), .int (nI rplace), .int rkind, .int (nI rbegin), .int rword, .int rnumber, .long rletters, .int rfaultKind, .int rfaultPlace])), (rtape, .inl (ky 2, 940, .inl rtapeF))] sz)) 0 0 (va_A [(bk, .inr (0, [.ref blines, .int (nI blineCount), .int blived, .int bwhyWrong, .int bfineLines, .int bdayThen, .int beatenThen])), (blines, .inl (ky 0, 160, .inl blinesF)), (reader, .inr (5, [.ref rtape, .int (nI rlength), .int (nI rmostBytes), .int (nI rplace), .int rkind, .int (nI rbegin), .int rword, .int rnumber, .long rletters, .int rfaultKind, .int rfaultPlace])), (rtape, .inl (ky 2, 940, .inl rtapeF))] sz) := by
  refine Met.ofW (cc := cX0_readRest) (maxL := 12) (ret := (some .boolean)) (by decide) rfl ?_
  intro p e s m args below meth c s₁ B hml hv
  obtain ⟨rfl, hsz, hP, hK, hD0, hE⟩ := hv
  have hx := B.exec
  have hb := B.bytes
  have hr := B.returns
  have hts := atoms_spec (ws := wsX0_readRest) B.pre
  have hown : s.vm.findClass RX0 = some m.cls := findClass_of_methodNamed B.named
  have hlocks := B.notSynchronized
  subst hsz
  have hD := hD0.self (sz := s.heap.size)
  generalize hAe : va_A [(bk, .inr (0, [.ref blines, .int (nI blineCount), .int blived, .int bwhyWrong, .int bfineLines, .int bdayThen, .int beatenThen])), (blines, .inl (ky 0, 160, .inl blinesF)), (reader, .inr (5, [.ref rtape, .int (nI rlength), .int (nI rmostBytes), .int (nI rplace), .int rkind, .int (nI rbegin), .int rword, .int rnumber, .long rletters, .int rfaultKind, .int rfaultPlace])), (rtape, .inl (ky 2, 940, .inl rtapeF))] s.heap.size = A at hD hE ⊢
  have hA : ∀ q : Nat, s.heap.size ≤ q → A q := fun q h => by rw [← hAe]; exact Or.inr h
  have hS : va_S A s.heap s.heap [] := va_S.rf
  have hl := lv_entry ([.ref bk, .ref reader, .int x, .int y]) (n := 12) (Nat.le_of_ble_eq_true rfl)
  rw [lg_entry_eq]
  generalize (lg_sl ([.ref bk, .ref reader, .int x, .int y]) ++ List.replicate (12 - (lg_sl ([.ref bk, .ref reader, .int x, .int y])).length) Slot.unset).toArray = ls at hl ⊢
  have hl : lv_has ls 12 [(0, .ref bk), (1, .ref reader), (2, .int x), (3, .int y)] := hl
  refine q_name (fun Q hQ => ?_)
  generalize ([.ref bk, .ref reader, .int x, .int y] : List Value).toArray = args at hts hQ ⊢
  refine lv_iload_n hx hb dX0_readRest_0 rfl (lv_at hl 2 rfl) ?_
  rcases sw_0_3 x with c2 | c3 | c4 | c5 | c6
  · refine lv_tableOut (tgt := 211) hx hb dX0_readRest_1 c2 (by decide) ?_
    refine lv_aload_n hx hb dX0_readRest_211 rfl (lv_at hl 1 rfl) ?_
    refine lv_iconst (v := nI 1) hx hb dX0_readRest_212 (by decide) ?_
    refine lv_iload_n hx hb dX0_readRest_213 rfl (lv_at hl 2 rfl) ?_
    refine lv_iconst (v := nI 4) hx hb dX0_readRest_214 (by decide) ?_
    refine lv_icmp_ne (tgt := 223) hx hb dX0_readRest_215 (by decide) (fun c7 => ?_) (fun c7 => ?_)
    · refine lv_bipush (v := nI 60) hx hb dX0_readRest_223 (by decide) ?_
      refine r_call_i (wr := [(bk, .inr (0, [.ref blines, .int (nI blineCount), .int blived, .int bwhyWrong, .int bfineLines, .int bdayThen, .int beatenThen])), (blines, .inl (ky 0, 160, .inl blinesF))]) (va_runV (As := [.int (nI 1), .int (nI 60)]) (rest := []) ⟨hx, hb, hml, hown, hts⟩ (c_r_takeNumber l dC dI ky s.heap.size adK adV reader rtape rlength rmostBytes rplace rkind rbegin rword rnumber rletters rfaultKind rfaultPlace rtapeF 1 60 iv_rreader_0 iv_rreader_1 iv_rreader_2 iv_rreader_3 (lf_b_readRest_1) (lf_b_readRest_2)) (cwV 2 hts gX0_readRest_X5_takeNumber rfl rfl rfl (by decide +kernel) ⟨(Nat.le_of_ble_eq_true rfl), (Nat.le_of_ble_eq_true rfl)⟩) (pre_UEV hE hS hA hK hP hD [2, 3] (by decide) rfl (va_recv hK hP (ci := 5) (q0 := 2) rfl rfl)) rfl rfl hl.1 rfl (lv_room (Nat.le_of_ble_eq_true rfl)) dX0_readRest_225 ⟨(Nat.le_of_ble_eq_true rfl), (Nat.le_of_ble_eq_true rfl)⟩) hP hD hS hA [2, 3] [0, 1] rfl rfl (by decide) (by decide) (fun r10 u8 H locs p9 hP hD hS => ?_)
      obtain ⟨rplaceG_11, rkindG_12, rbeginG_13, rwordG_14, rnumberG_15, rlettersG_16, rfaultKindG_17, rfaultPlaceG_18⟩ := u8
      try dsimp only at p9
      obtain ⟨p19, p20, p21⟩ := p9
      refine W.widen (k := 0) (n := 0) (Nat.le_of_ble_eq_true rfl) (Nat.le_of_ble_eq_true rfl) ?_
      have hP : va_P (dC, dI) vwCl [(bk, .inr (0, [.ref blines, .int (nI blineCount), .int blived, .int bwhyWrong, .int bfineLines, .int bdayThen, .int beatenThen])), (blines, .inl (ky 0, 160, .inl blinesF)), (reader, .inr (5, [.ref rtape, .int (nI rlength), .int (nI rmostBytes), .int (nI rplaceG_11), .int rkindG_12, .int (nI rbeginG_13), .int rwordG_14, .int rnumberG_15, .long rlettersG_16, .int rfaultKindG_17, .int rfaultPlaceG_18])), (rtape, .inl (ky 2, 940, .inl rtapeF))] H := hP
      have hD : va_D A [(bk, .inr (0, [.ref blines, .int (nI blineCount), .int blived, .int bwhyWrong, .int bfineLines, .int bdayThen, .int beatenThen])), (blines, .inl (ky 0, 160, .inl blinesF)), (reader, .inr (5, [.ref rtape, .int (nI rlength), .int (nI rmostBytes), .int (nI rplaceG_11), .int rkindG_12, .int (nI rbeginG_13), .int rwordG_14, .int rnumberG_15, .long rlettersG_16, .int rfaultKindG_17, .int rfaultPlaceG_18])), (rtape, .inl (ky 2, 940, .inl rtapeF))] := hD
      rcases p19 with rfl | ⟨k22, ⟨h24, h25⟩, rfl⟩
      · refine lv_istore (lv' := [(11, .int (-1 : Int32)), (0, .ref bk), (1, .ref reader), (2, .int x), (3, .int y)]) hx hb dX0_readRest_228 hl (by decide) rfl (fun ls hl => ?_)
        refine lv_iload hx hb dX0_readRest_230 (lv_at hl 0 rfl) ?_
        refine lv_iconst (v := (-1 : Int32)) hx hb dX0_readRest_232 (by decide) ?_
        refine lv_icmp_eq (tgt := 252) hx hb dX0_readRest_233 (by decide) (fun c26 => ?_) (fun c26 => absurd (by decide) c26)
        refine lv_iconst (v := nI 0) hx hb dX0_readRest_252 (by decide) ?_
        rw [hQ]
        exact W.zret (v := nI 0) hx hb hr (by decide) (fun t9 ht9 hW9 => ⟨⟨nI 0, (blineCount, blinesF, rplaceG_11, rkindG_12, rbeginG_13, rwordG_14, rnumberG_15, rlettersG_16, rfaultKindG_17, rfaultPlaceG_18), rfl, ⟨(lf_b_readRest_3 blineCount iv_bbk_0), iv_bbk_0, p20, p21⟩, by rw [ht9]; exact hP, va_K.moved hW9.alike hK, hD⟩, hS.F ht9⟩) hS.2.2 dX0_readRest_253
      · refine lv_istore (lv' := [(11, .int (nI k22)), (0, .ref bk), (1, .ref reader), (2, .int x), (3, .int y)]) hx hb dX0_readRest_228 hl (by decide) rfl (fun ls hl => ?_)
        refine lv_iload hx hb dX0_readRest_230 (lv_at hl 0 rfl) ?_
        refine lv_iconst (v := (-1 : Int32)) hx hb dX0_readRest_232 (by decide) ?_
        refine lv_icmp_eq (tgt := 252) hx hb dX0_readRest_233 (by decide) (fun c27 => ?_) (fun c27 => ?_)
        · refine lv_iconst (v := nI 0) hx hb dX0_readRest_252 (by decide) ?_
          rw [hQ]
          exact W.zret (v := nI 0) hx hb hr (by decide) (fun t9 ht9 hW9 => ⟨⟨nI 0, (blineCount, blinesF, rplaceG_11, rkindG_12, rbeginG_13, rwordG_14, rnumberG_15, rlettersG_16, rfaultKindG_17, rfaultPlaceG_18), rfl, ⟨(lf_b_readRest_4 blineCount iv_bbk_0), iv_bbk_0, p20, p21⟩, by rw [ht9]; exact hP, va_K.moved hW9.alike hK, hD⟩, hS.F ht9⟩) hS.2.2 dX0_readRest_253
        · refine lv_aload_n hx hb dX0_readRest_236 rfl (lv_at hl 1 rfl) ?_
          refine lv_iload_n hx hb dX0_readRest_237 rfl (lv_at hl 3 rfl) ?_
          refine lv_iload hx hb dX0_readRest_238 (lv_at hl 0 rfl) ?_
          refine lv_iconst (v := nI 0) hx hb dX0_readRest_240 (by decide) ?_
          refine lv_iconst (v := nI 0) hx hb dX0_readRest_241 (by decide) ?_
          refine r_call_i (wr := [(reader, .inr (5, [.ref rtape, .int (nI rlength), .int (nI rmostBytes), .int (nI rplaceG_11), .int rkindG_12, .int (nI rbeginG_13), .int rwordG_14, .int rnumberG_15, .long rlettersG_16, .int rfaultKindG_17, .int rfaultPlaceG_18])), (rtape, .inl (ky 2, 940, .inl rtapeF))]) (va_runV (As := [.int x, .int (nI k22), .int (nI 0), .int (nI 0)]) (rest := []) ⟨hx, hb, hml, hown, hts⟩ (c_b_put l dC dI ky H.size bk blines blineCount blived bwhyWrong bfineLines bdayThen beatenThen blinesF x (nI k22) (nI 0) (nI 0) iv_bbk_0) (cwV 4 hts gX0_readRest_X0_put rfl rfl rfl (by decide +kernel) ⟨(Nat.le_of_ble_eq_true rfl), (Nat.le_of_ble_eq_true rfl)⟩) (pre_UV hK hP hD [0, 1] (by decide) rfl (ci := 0) (q0 := 0) rfl rfl) rfl rfl hl.1 rfl (lv_room (Nat.le_of_ble_eq_true rfl)) dX0_readRest_242 ⟨(Nat.le_of_ble_eq_true rfl), (Nat.le_of_ble_eq_true rfl)⟩) hP hD hS hA [0, 1] [2, 3] rfl rfl (by decide) (by decide) (fun r30 u28 H locs p29 hP hD hS => ?_)
          obtain ⟨blineCountG_31, blinesG_32⟩ := u28
          try dsimp only at p29
          obtain ⟨p33, p34⟩ := p29
          refine W.widen (k := 0) (n := 0) (Nat.le_of_ble_eq_true rfl) (Nat.le_of_ble_eq_true rfl) ?_
          have hP : va_P (dC, dI) vwCl [(reader, .inr (5, [.ref rtape, .int (nI rlength), .int (nI rmostBytes), .int (nI rplaceG_11), .int rkindG_12, .int (nI rbeginG_13), .int rwordG_14, .int rnumberG_15, .long rlettersG_16, .int rfaultKindG_17, .int rfaultPlaceG_18])), (rtape, .inl (ky 2, 940, .inl rtapeF)), (bk, .inr (0, [.ref blines, .int (nI blineCountG_31), .int blived, .int bwhyWrong, .int bfineLines, .int bdayThen, .int beatenThen])), (blines, .inl (ky 0, 160, .inl blinesG_32))] H := hP
          have hD : va_D A [(reader, .inr (5, [.ref rtape, .int (nI rlength), .int (nI rmostBytes), .int (nI rplaceG_11), .int rkindG_12, .int (nI rbeginG_13), .int rwordG_14, .int rnumberG_15, .long rlettersG_16, .int rfaultKindG_17, .int rfaultPlaceG_18])), (rtape, .inl (ky 2, 940, .inl rtapeF)), (bk, .inr (0, [.ref blines, .int (nI blineCountG_31), .int blived, .int bwhyWrong, .int bfineLines, .int bdayThen, .int beatenThen])), (blines, .inl (ky 0, 160, .inl blinesG_32))] := hD
          rcases p33 with ⟨rfl, t35⟩ | ⟨rfl, t36⟩
          · refine lv_if_eq (tgt := 252) hx hb dX0_readRest_245 (by decide) (fun c37 => absurd c37 (by decide)) (fun c37 => ?_)
            refine lv_iconst (v := nI 1) hx hb dX0_readRest_248 (by decide) ?_
            refine lv_goto (tgt := 253) hx hb dX0_readRest_249 (by decide) ?_
            rw [hQ]
            have hP9 := hP.sub (ws' := [(bk, .inr (0, [.ref blines, .int (nI blineCountG_31), .int blived, .int bwhyWrong, .int bfineLines, .int bdayThen, .int beatenThen])), (blines, .inl (ky 0, 160, .inl blinesG_32)), (reader, .inr (5, [.ref rtape, .int (nI rlength), .int (nI rmostBytes), .int (nI rplaceG_11), .int rkindG_12, .int (nI rbeginG_13), .int rwordG_14, .int rnumberG_15, .long rlettersG_16, .int rfaultKindG_17, .int rfaultPlaceG_18])), (rtape, .inl (ky 2, 940, .inl rtapeF))]) [2, 3, 0, 1] rfl
            have hD9 := hD.sub (ws' := [(bk, .inr (0, [.ref blines, .int (nI blineCountG_31), .int blived, .int bwhyWrong, .int bfineLines, .int bdayThen, .int beatenThen])), (blines, .inl (ky 0, 160, .inl blinesG_32)), (reader, .inr (5, [.ref rtape, .int (nI rlength), .int (nI rmostBytes), .int (nI rplaceG_11), .int rkindG_12, .int (nI rbeginG_13), .int rwordG_14, .int rnumberG_15, .long rlettersG_16, .int rfaultKindG_17, .int rfaultPlaceG_18])), (rtape, .inl (ky 2, 940, .inl rtapeF))]) [2, 3, 0, 1] (by decide) rfl
            exact W.zret (v := nI 1) hx hb hr (by decide) (fun t9 ht9 hW9 => ⟨⟨nI 1, (blineCountG_31, blinesG_32, rplaceG_11, rkindG_12, rbeginG_13, rwordG_14, rnumberG_15, rlettersG_16, rfaultKindG_17, rfaultPlaceG_18), rfl, ⟨(lf_b_readRest_5 blineCount blineCountG_31 iv_bbk_0 p34 t35), p34, p20, p21⟩, by rw [ht9]; exact hP9, va_K.moved hW9.alike hK, hD9⟩, hS.F ht9⟩) hS.2.2 dX0_readRest_253
          · refine lv_if_eq (tgt := 252) hx hb dX0_readRest_245 (by decide) (fun c38 => ?_) (fun c38 => absurd (by decide) c38)
            refine lv_iconst (v := nI 0) hx hb dX0_readRest_252 (by decide) ?_
            rw [hQ]
            have hP9 := hP.sub (ws' := [(bk, .inr (0, [.ref blines, .int (nI blineCountG_31), .int blived, .int bwhyWrong, .int bfineLines, .int bdayThen, .int beatenThen])), (blines, .inl (ky 0, 160, .inl blinesG_32)), (reader, .inr (5, [.ref rtape, .int (nI rlength), .int (nI rmostBytes), .int (nI rplaceG_11), .int rkindG_12, .int (nI rbeginG_13), .int rwordG_14, .int rnumberG_15, .long rlettersG_16, .int rfaultKindG_17, .int rfaultPlaceG_18])), (rtape, .inl (ky 2, 940, .inl rtapeF))]) [2, 3, 0, 1] rfl
            have hD9 := hD.sub (ws' := [(bk, .inr (0, [.ref blines, .int (nI blineCountG_31), .int blived, .int bwhyWrong, .int bfineLines, .int bdayThen, .int beatenThen])), (blines, .inl (ky 0, 160, .inl blinesG_32)), (reader, .inr (5, [.ref rtape, .int (nI rlength), .int (nI rmostBytes), .int (nI rplaceG_11), .int rkindG_12, .int (nI rbeginG_13), .int rwordG_14, .int rnumberG_15, .long rlettersG_16, .int rfaultKindG_17, .int rfaultPlaceG_18])), (rtape, .inl (ky 2, 940, .inl rtapeF))]) [2, 3, 0, 1] (by decide) rfl
            exact W.zret (v := nI 0) hx hb hr (by decide) (fun t9 ht9 hW9 => ⟨⟨nI 0, (blineCountG_31, blinesG_32, rplaceG_11, rkindG_12, rbeginG_13, rwordG_14, rnumberG_15, rlettersG_16, rfaultKindG_17, rfaultPlaceG_18), rfl, ⟨(lf_b_readRest_6 blineCount blineCountG_31 iv_bbk_0 p34 t36), p34, p20, p21⟩, by rw [ht9]; exact hP9, va_K.moved hW9.alike hK, hD9⟩, hS.F ht9⟩) hS.2.2 dX0_readRest_253
    · refine lv_bipush (v := nI 20) hx hb dX0_readRest_218 (by decide) ?_
      refine lv_goto (tgt := 225) hx hb dX0_readRest_220 (by decide) ?_
      refine r_call_i (wr := [(bk, .inr (0, [.ref blines, .int (nI blineCount), .int blived, .int bwhyWrong, .int bfineLines, .int bdayThen, .int beatenThen])), (blines, .inl (ky 0, 160, .inl blinesF))]) (va_runV (As := [.int (nI 1), .int (nI 20)]) (rest := []) ⟨hx, hb, hml, hown, hts⟩ (c_r_takeNumber l dC dI ky s.heap.size adK adV reader rtape rlength rmostBytes rplace rkind rbegin rword rnumber rletters rfaultKind rfaultPlace rtapeF 1 20 iv_rreader_0 iv_rreader_1 iv_rreader_2 iv_rreader_3 (lf_b_readRest_7) (lf_b_readRest_8)) (cwV 2 hts gX0_readRest_X5_takeNumber rfl rfl rfl (by decide +kernel) ⟨(Nat.le_of_ble_eq_true rfl), (Nat.le_of_ble_eq_true rfl)⟩) (pre_UEV hE hS hA hK hP hD [2, 3] (by decide) rfl (va_recv hK hP (ci := 5) (q0 := 2) rfl rfl)) rfl rfl hl.1 rfl (lv_room (Nat.le_of_ble_eq_true rfl)) dX0_readRest_225 ⟨(Nat.le_of_ble_eq_true rfl), (Nat.le_of_ble_eq_true rfl)⟩) hP hD hS hA [2, 3] [0, 1] rfl rfl (by decide) (by decide) (fun r41 u39 H locs p40 hP hD hS => ?_)
      obtain ⟨rplaceG_42, rkindG_43, rbeginG_44, rwordG_45, rnumberG_46, rlettersG_47, rfaultKindG_48, rfaultPlaceG_49⟩ := u39
      try dsimp only at p40
      obtain ⟨p50, p51, p52⟩ := p40
      refine W.widen (k := 0) (n := 0) (Nat.le_of_ble_eq_true rfl) (Nat.le_of_ble_eq_true rfl) ?_
      have hP : va_P (dC, dI) vwCl [(bk, .inr (0, [.ref blines, .int (nI blineCount), .int blived, .int bwhyWrong, .int bfineLines, .int bdayThen, .int beatenThen])), (blines, .inl (ky 0, 160, .inl blinesF)), (reader, .inr (5, [.ref rtape, .int (nI rlength), .int (nI rmostBytes), .int (nI rplaceG_42), .int rkindG_43, .int (nI rbeginG_44), .int rwordG_45, .int rnumberG_46, .long rlettersG_47, .int rfaultKindG_48, .int rfaultPlaceG_49])), (rtape, .inl (ky 2, 940, .inl rtapeF))] H := hP
      have hD : va_D A [(bk, .inr (0, [.ref blines, .int (nI blineCount), .int blived, .int bwhyWrong, .int bfineLines, .int bdayThen, .int beatenThen])), (blines, .inl (ky 0, 160, .inl blinesF)), (reader, .inr (5, [.ref rtape, .int (nI rlength), .int (nI rmostBytes), .int (nI rplaceG_42), .int rkindG_43, .int (nI rbeginG_44), .int rwordG_45, .int rnumberG_46, .long rlettersG_47, .int rfaultKindG_48, .int rfaultPlaceG_49])), (rtape, .inl (ky 2, 940, .inl rtapeF))] := hD
      rcases p50 with rfl | ⟨k53, ⟨h55, h56⟩, rfl⟩
      · refine lv_istore (lv' := [(11, .int (-1 : Int32)), (0, .ref bk), (1, .ref reader), (2, .int x), (3, .int y)]) hx hb dX0_readRest_228 hl (by decide) rfl (fun ls hl => ?_)
        refine lv_iload hx hb dX0_readRest_230 (lv_at hl 0 rfl) ?_
        refine lv_iconst (v := (-1 : Int32)) hx hb dX0_readRest_232 (by decide) ?_
        refine lv_icmp_eq (tgt := 252) hx hb dX0_readRest_233 (by decide) (fun c57 => ?_) (fun c57 => absurd (by decide) c57)
        refine lv_iconst (v := nI 0) hx hb dX0_readRest_252 (by decide) ?_
        rw [hQ]
        exact W.zret (v := nI 0) hx hb hr (by decide) (fun t9 ht9 hW9 => ⟨⟨nI 0, (blineCount, blinesF, rplaceG_42, rkindG_43, rbeginG_44, rwordG_45, rnumberG_46, rlettersG_47, rfaultKindG_48, rfaultPlaceG_49), rfl, ⟨(lf_b_readRest_9 blineCount iv_bbk_0), iv_bbk_0, p51, p52⟩, by rw [ht9]; exact hP, va_K.moved hW9.alike hK, hD⟩, hS.F ht9⟩) hS.2.2 dX0_readRest_253
      · refine lv_istore (lv' := [(11, .int (nI k53)), (0, .ref bk), (1, .ref reader), (2, .int x), (3, .int y)]) hx hb dX0_readRest_228 hl (by decide) rfl (fun ls hl => ?_)
        refine lv_iload hx hb dX0_readRest_230 (lv_at hl 0 rfl) ?_
        refine lv_iconst (v := (-1 : Int32)) hx hb dX0_readRest_232 (by decide) ?_
        refine lv_icmp_eq (tgt := 252) hx hb dX0_readRest_233 (by decide) (fun c58 => ?_) (fun c58 => ?_)
        · refine lv_iconst (v := nI 0) hx hb dX0_readRest_252 (by decide) ?_
          rw [hQ]
          exact W.zret (v := nI 0) hx hb hr (by decide) (fun t9 ht9 hW9 => ⟨⟨nI 0, (blineCount, blinesF, rplaceG_42, rkindG_43, rbeginG_44, rwordG_45, rnumberG_46, rlettersG_47, rfaultKindG_48, rfaultPlaceG_49), rfl, ⟨(lf_b_readRest_10 blineCount iv_bbk_0), iv_bbk_0, p51, p52⟩, by rw [ht9]; exact hP, va_K.moved hW9.alike hK, hD⟩, hS.F ht9⟩) hS.2.2 dX0_readRest_253
        · refine lv_aload_n hx hb dX0_readRest_236 rfl (lv_at hl 1 rfl) ?_
          refine lv_iload_n hx hb dX0_readRest_237 rfl (lv_at hl 3 rfl) ?_
          refine lv_iload hx hb dX0_readRest_238 (lv_at hl 0 rfl) ?_
          refine lv_iconst (v := nI 0) hx hb dX0_readRest_240 (by decide) ?_
          refine lv_iconst (v := nI 0) hx hb dX0_readRest_241 (by decide) ?_
          refine r_call_i (wr := [(reader, .inr (5, [.ref rtape, .int (nI rlength), .int (nI rmostBytes), .int (nI rplaceG_42), .int rkindG_43, .int (nI rbeginG_44), .int rwordG_45, .int rnumberG_46, .long rlettersG_47, .int rfaultKindG_48, .int rfaultPlaceG_49])), (rtape, .inl (ky 2, 940, .inl rtapeF))]) (va_runV (As := [.int x, .int (nI k53), .int (nI 0), .int (nI 0)]) (rest := []) ⟨hx, hb, hml, hown, hts⟩ (c_b_put l dC dI ky H.size bk blines blineCount blived bwhyWrong bfineLines bdayThen beatenThen blinesF x (nI k53) (nI 0) (nI 0) iv_bbk_0) (cwV 4 hts gX0_readRest_X0_put rfl rfl rfl (by decide +kernel) ⟨(Nat.le_of_ble_eq_true rfl), (Nat.le_of_ble_eq_true rfl)⟩) (pre_UV hK hP hD [0, 1] (by decide) rfl (ci := 0) (q0 := 0) rfl rfl) rfl rfl hl.1 rfl (lv_room (Nat.le_of_ble_eq_true rfl)) dX0_readRest_242 ⟨(Nat.le_of_ble_eq_true rfl), (Nat.le_of_ble_eq_true rfl)⟩) hP hD hS hA [0, 1] [2, 3] rfl rfl (by decide) (by decide) (fun r61 u59 H locs p60 hP hD hS => ?_)
          obtain ⟨blineCountG_62, blinesG_63⟩ := u59
          try dsimp only at p60
          obtain ⟨p64, p65⟩ := p60
          refine W.widen (k := 0) (n := 0) (Nat.le_of_ble_eq_true rfl) (Nat.le_of_ble_eq_true rfl) ?_
          have hP : va_P (dC, dI) vwCl [(reader, .inr (5, [.ref rtape, .int (nI rlength), .int (nI rmostBytes), .int (nI rplaceG_42), .int rkindG_43, .int (nI rbeginG_44), .int rwordG_45, .int rnumberG_46, .long rlettersG_47, .int rfaultKindG_48, .int rfaultPlaceG_49])), (rtape, .inl (ky 2, 940, .inl rtapeF)), (bk, .inr (0, [.ref blines, .int (nI blineCountG_62), .int blived, .int bwhyWrong, .int bfineLines, .int bdayThen, .int beatenThen])), (blines, .inl (ky 0, 160, .inl blinesG_63))] H := hP
          have hD : va_D A [(reader, .inr (5, [.ref rtape, .int (nI rlength), .int (nI rmostBytes), .int (nI rplaceG_42), .int rkindG_43, .int (nI rbeginG_44), .int rwordG_45, .int rnumberG_46, .long rlettersG_47, .int rfaultKindG_48, .int rfaultPlaceG_49])), (rtape, .inl (ky 2, 940, .inl rtapeF)), (bk, .inr (0, [.ref blines, .int (nI blineCountG_62), .int blived, .int bwhyWrong, .int bfineLines, .int bdayThen, .int beatenThen])), (blines, .inl (ky 0, 160, .inl blinesG_63))] := hD
          rcases p64 with ⟨rfl, t66⟩ | ⟨rfl, t67⟩
          · refine lv_if_eq (tgt := 252) hx hb dX0_readRest_245 (by decide) (fun c68 => absurd c68 (by decide)) (fun c68 => ?_)
            refine lv_iconst (v := nI 1) hx hb dX0_readRest_248 (by decide) ?_
            refine lv_goto (tgt := 253) hx hb dX0_readRest_249 (by decide) ?_
            rw [hQ]
            have hP9 := hP.sub (ws' := [(bk, .inr (0, [.ref blines, .int (nI blineCountG_62), .int blived, .int bwhyWrong, .int bfineLines, .int bdayThen, .int beatenThen])), (blines, .inl (ky 0, 160, .inl blinesG_63)), (reader, .inr (5, [.ref rtape, .int (nI rlength), .int (nI rmostBytes), .int (nI rplaceG_42), .int rkindG_43, .int (nI rbeginG_44), .int rwordG_45, .int rnumberG_46, .long rlettersG_47, .int rfaultKindG_48, .int rfaultPlaceG_49])), (rtape, .inl (ky 2, 940, .inl rtapeF))]) [2, 3, 0, 1] rfl
            have hD9 := hD.sub (ws' := [(bk, .inr (0, [.ref blines, .int (nI blineCountG_62), .int blived, .int bwhyWrong, .int bfineLines, .int bdayThen, .int beatenThen])), (blines, .inl (ky 0, 160, .inl blinesG_63)), (reader, .inr (5, [.ref rtape, .int (nI rlength), .int (nI rmostBytes), .int (nI rplaceG_42), .int rkindG_43, .int (nI rbeginG_44), .int rwordG_45, .int rnumberG_46, .long rlettersG_47, .int rfaultKindG_48, .int rfaultPlaceG_49])), (rtape, .inl (ky 2, 940, .inl rtapeF))]) [2, 3, 0, 1] (by decide) rfl
            exact W.zret (v := nI 1) hx hb hr (by decide) (fun t9 ht9 hW9 => ⟨⟨nI 1, (blineCountG_62, blinesG_63, rplaceG_42, rkindG_43, rbeginG_44, rwordG_45, rnumberG_46, rlettersG_47, rfaultKindG_48, rfaultPlaceG_49), rfl, ⟨(lf_b_readRest_11 blineCount blineCountG_62 iv_bbk_0 p65 t66), p65, p51, p52⟩, by rw [ht9]; exact hP9, va_K.moved hW9.alike hK, hD9⟩, hS.F ht9⟩) hS.2.2 dX0_readRest_253
          · refine lv_if_eq (tgt := 252) hx hb dX0_readRest_245 (by decide) (fun c69 => ?_) (fun c69 => absurd (by decide) c69)
            refine lv_iconst (v := nI 0) hx hb dX0_readRest_252 (by decide) ?_
            rw [hQ]
            have hP9 := hP.sub (ws' := [(bk, .inr (0, [.ref blines, .int (nI blineCountG_62), .int blived, .int bwhyWrong, .int bfineLines, .int bdayThen, .int beatenThen])), (blines, .inl (ky 0, 160, .inl blinesG_63)), (reader, .inr (5, [.ref rtape, .int (nI rlength), .int (nI rmostBytes), .int (nI rplaceG_42), .int rkindG_43, .int (nI rbeginG_44), .int rwordG_45, .int rnumberG_46, .long rlettersG_47, .int rfaultKindG_48, .int rfaultPlaceG_49])), (rtape, .inl (ky 2, 940, .inl rtapeF))]) [2, 3, 0, 1] rfl
            have hD9 := hD.sub (ws' := [(bk, .inr (0, [.ref blines, .int (nI blineCountG_62), .int blived, .int bwhyWrong, .int bfineLines, .int bdayThen, .int beatenThen])), (blines, .inl (ky 0, 160, .inl blinesG_63)), (reader, .inr (5, [.ref rtape, .int (nI rlength), .int (nI rmostBytes), .int (nI rplaceG_42), .int rkindG_43, .int (nI rbeginG_44), .int rwordG_45, .int rnumberG_46, .long rlettersG_47, .int rfaultKindG_48, .int rfaultPlaceG_49])), (rtape, .inl (ky 2, 940, .inl rtapeF))]) [2, 3, 0, 1] (by decide) rfl
            exact W.zret (v := nI 0) hx hb hr (by decide) (fun t9 ht9 hW9 => ⟨⟨nI 0, (blineCountG_62, blinesG_63, rplaceG_42, rkindG_43, rbeginG_44, rwordG_45, rnumberG_46, rlettersG_47, rfaultKindG_48, rfaultPlaceG_49), rfl, ⟨(lf_b_readRest_12 blineCount blineCountG_62 iv_bbk_0 p65 t67), p65, p51, p52⟩, by rw [ht9]; exact hP9, va_K.moved hW9.alike hK, hD9⟩, hS.F ht9⟩) hS.2.2 dX0_readRest_253
  · refine r_ti (nI 0) c3 ?_
    rw [c3] at hl
    refine lv_tableIn (off := 31) (tgt := 32) hx hb dX0_readRest_1 (by decide) (by decide) rfl (by decide) ?_
    refine lv_aload_n hx hb dX0_readRest_32 rfl (lv_at hl 1 rfl) ?_
    refine lv_bipush (v := nI 8) hx hb dX0_readRest_33 (by decide) ?_
    refine lv_bipush (v := nI 9) hx hb dX0_readRest_35 (by decide) ?_
    refine r_call_i (wr := [(bk, .inr (0, [.ref blines, .int (nI blineCount), .int blived, .int bwhyWrong, .int bfineLines, .int bdayThen, .int beatenThen])), (blines, .inl (ky 0, 160, .inl blinesF))]) (va_runV (As := [.int (nI 8), .int (nI 9)]) (rest := []) ⟨hx, hb, hml, hown, hts⟩ (c_r_takeWord l dC dI ky s.heap.size adK adV reader rtape rlength rmostBytes rplace rkind rbegin rword rnumber rletters rfaultKind rfaultPlace rtapeF (nI 8) (nI 9) iv_rreader_0 iv_rreader_1 iv_rreader_2 iv_rreader_3) (cwV 2 hts gX0_readRest_X5_takeWord rfl rfl rfl (by decide +kernel) ⟨(Nat.le_of_ble_eq_true rfl), (Nat.le_of_ble_eq_true rfl)⟩) (pre_UEV hE hS hA hK hP hD [2, 3] (by decide) rfl (va_recv hK hP (ci := 5) (q0 := 2) rfl rfl)) rfl rfl hl.1 rfl (lv_room (Nat.le_of_ble_eq_true rfl)) dX0_readRest_37 ⟨(Nat.le_of_ble_eq_true rfl), (Nat.le_of_ble_eq_true rfl)⟩) hP hD hS hA [2, 3] [0, 1] rfl rfl (by decide) (by decide) (fun r72 u70 H locs p71 hP hD hS => ?_)
    obtain ⟨rplaceG_73, rkindG_74, rbeginG_75, rwordG_76, rnumberG_77, rlettersG_78, rfaultKindG_79, rfaultPlaceG_80⟩ := u70
    try dsimp only at p71
    obtain ⟨p81, p82⟩ := p71
    refine W.widen (k := 0) (n := 0) (Nat.le_of_ble_eq_true rfl) (Nat.le_of_ble_eq_true rfl) ?_
    have hP : va_P (dC, dI) vwCl [(bk, .inr (0, [.ref blines, .int (nI blineCount), .int blived, .int bwhyWrong, .int bfineLines, .int bdayThen, .int beatenThen])), (blines, .inl (ky 0, 160, .inl blinesF)), (reader, .inr (5, [.ref rtape, .int (nI rlength), .int (nI rmostBytes), .int (nI rplaceG_73), .int rkindG_74, .int (nI rbeginG_75), .int rwordG_76, .int rnumberG_77, .long rlettersG_78, .int rfaultKindG_79, .int rfaultPlaceG_80])), (rtape, .inl (ky 2, 940, .inl rtapeF))] H := hP
    have hD : va_D A [(bk, .inr (0, [.ref blines, .int (nI blineCount), .int blived, .int bwhyWrong, .int bfineLines, .int bdayThen, .int beatenThen])), (blines, .inl (ky 0, 160, .inl blinesF)), (reader, .inr (5, [.ref rtape, .int (nI rlength), .int (nI rmostBytes), .int (nI rplaceG_73), .int rkindG_74, .int (nI rbeginG_75), .int rwordG_76, .int rnumberG_77, .long rlettersG_78, .int rfaultKindG_79, .int rfaultPlaceG_80])), (rtape, .inl (ky 2, 940, .inl rtapeF))] := hD
    refine lv_istore (lv' := [(4, .int r72), (0, .ref bk), (1, .ref reader), (2, .int (nI 0)), (3, .int y)]) hx hb dX0_readRest_40 hl (by decide) rfl (fun ls hl => ?_)
    refine lv_iload hx hb dX0_readRest_42 (lv_at hl 0 rfl) ?_
    refine lv_iconst (v := (-1 : Int32)) hx hb dX0_readRest_44 (by decide) ?_
    refine lv_icmp_ne (tgt := 52) hx hb dX0_readRest_45 (by decide) (fun c83 => ?_) (fun c83 => ?_)
    · refine lv_aload_n hx hb dX0_readRest_52 rfl (lv_at hl 2 rfl) ?_
      refine lv_iconst (v := nI 0) hx hb dX0_readRest_53 (by decide) ?_
      refine lv_iconst (v := nI 5) hx hb dX0_readRest_54 (by decide) ?_
      refine r_call_i (wr := [(bk, .inr (0, [.ref blines, .int (nI blineCount), .int blived, .int bwhyWrong, .int bfineLines, .int bdayThen, .int beatenThen])), (blines, .inl (ky 0, 160, .inl blinesF))]) (va_runV (As := [.int (nI 0), .int (nI 5)]) (rest := []) ⟨hx, hb, hml, hown, hts⟩ (c_r_takeNumber l dC dI ky H.size adK adV reader rtape rlength rmostBytes rplaceG_73 rkindG_74 rbeginG_75 rwordG_76 rnumberG_77 rlettersG_78 rfaultKindG_79 rfaultPlaceG_80 rtapeF 0 5 iv_rreader_0 p81 iv_rreader_2 p82 (lf_b_readRest_13) (lf_b_readRest_14)) (cwV 2 hts gX0_readRest_X5_takeNumber rfl rfl rfl (by decide +kernel) ⟨(Nat.le_of_ble_eq_true rfl), (Nat.le_of_ble_eq_true rfl)⟩) (pre_UEV hE hS hA hK hP hD [2, 3] (by decide) rfl (va_recv hK hP (ci := 5) (q0 := 2) rfl rfl)) rfl rfl hl.1 rfl (lv_room (Nat.le_of_ble_eq_true rfl)) dX0_readRest_55 ⟨(Nat.le_of_ble_eq_true rfl), (Nat.le_of_ble_eq_true rfl)⟩) hP hD hS hA [2, 3] [0, 1] rfl rfl (by decide) (by decide) (fun r86 u84 H locs p85 hP hD hS => ?_)
      obtain ⟨rplaceG_87, rkindG_88, rbeginG_89, rwordG_90, rnumberG_91, rlettersG_92, rfaultKindG_93, rfaultPlaceG_94⟩ := u84
      try dsimp only at p85
      obtain ⟨p95, p96, p97⟩ := p85
      refine W.widen (k := 0) (n := 0) (Nat.le_of_ble_eq_true rfl) (Nat.le_of_ble_eq_true rfl) ?_
      have hP : va_P (dC, dI) vwCl [(bk, .inr (0, [.ref blines, .int (nI blineCount), .int blived, .int bwhyWrong, .int bfineLines, .int bdayThen, .int beatenThen])), (blines, .inl (ky 0, 160, .inl blinesF)), (reader, .inr (5, [.ref rtape, .int (nI rlength), .int (nI rmostBytes), .int (nI rplaceG_87), .int rkindG_88, .int (nI rbeginG_89), .int rwordG_90, .int rnumberG_91, .long rlettersG_92, .int rfaultKindG_93, .int rfaultPlaceG_94])), (rtape, .inl (ky 2, 940, .inl rtapeF))] H := hP
      have hD : va_D A [(bk, .inr (0, [.ref blines, .int (nI blineCount), .int blived, .int bwhyWrong, .int bfineLines, .int bdayThen, .int beatenThen])), (blines, .inl (ky 0, 160, .inl blinesF)), (reader, .inr (5, [.ref rtape, .int (nI rlength), .int (nI rmostBytes), .int (nI rplaceG_87), .int rkindG_88, .int (nI rbeginG_89), .int rwordG_90, .int rnumberG_91, .long rlettersG_92, .int rfaultKindG_93, .int rfaultPlaceG_94])), (rtape, .inl (ky 2, 940, .inl rtapeF))] := hD
      rcases p95 with rfl | ⟨k98, ⟨h100, h101⟩, rfl⟩
      · refine lv_istore (lv' := [(5, .int (-1 : Int32)), (4, .int r72), (0, .ref bk), (1, .ref reader), (2, .int (nI 0)), (3, .int y)]) hx hb dX0_readRest_58 hl (by decide) rfl (fun ls hl => ?_)
        refine lv_iload hx hb dX0_readRest_60 (lv_at hl 0 rfl) ?_
        refine lv_iconst (v := (-1 : Int32)) hx hb dX0_readRest_62 (by decide) ?_
        refine lv_icmp_ne (tgt := 70) hx hb dX0_readRest_63 (by decide) (fun c102 => absurd c102 (by decide)) (fun c102 => ?_)
        refine lv_iconst (v := (-1 : Int32)) hx hb dX0_readRest_66 (by decide) ?_
        refine lv_goto (tgt := 78) hx hb dX0_readRest_67 (by decide) ?_
        refine lv_istore (lv' := [(6, .int (-1 : Int32)), (5, .int (-1 : Int32)), (4, .int r72), (0, .ref bk), (1, .ref reader), (2, .int (nI 0)), (3, .int y)]) hx hb dX0_readRest_78 hl (by decide) rfl (fun ls hl => ?_)
        refine lv_iload hx hb dX0_readRest_80 (lv_at hl 0 rfl) ?_
        refine lv_iconst (v := (-1 : Int32)) hx hb dX0_readRest_82 (by decide) ?_
        refine lv_icmp_eq (tgt := 104) hx hb dX0_readRest_83 (by decide) (fun c103 => ?_) (fun c103 => absurd (by decide) c103)
        refine lv_iconst (v := nI 0) hx hb dX0_readRest_104 (by decide) ?_
        rw [hQ]
        exact W.zret (v := nI 0) hx hb hr (by decide) (fun t9 ht9 hW9 => ⟨⟨nI 0, (blineCount, blinesF, rplaceG_87, rkindG_88, rbeginG_89, rwordG_90, rnumberG_91, rlettersG_92, rfaultKindG_93, rfaultPlaceG_94), rfl, ⟨(lf_b_readRest_15 blineCount iv_bbk_0), iv_bbk_0, p96, p97⟩, by rw [ht9]; exact hP, va_K.moved hW9.alike hK, hD⟩, hS.F ht9⟩) hS.2.2 dX0_readRest_105
      · refine lv_istore (lv' := [(5, .int (nI k98)), (4, .int r72), (0, .ref bk), (1, .ref reader), (2, .int (nI 0)), (3, .int y)]) hx hb dX0_readRest_58 hl (by decide) rfl (fun ls hl => ?_)
        refine lv_iload hx hb dX0_readRest_60 (lv_at hl 0 rfl) ?_
        refine lv_iconst (v := (-1 : Int32)) hx hb dX0_readRest_62 (by decide) ?_
        refine lv_icmp_ne (tgt := 70) hx hb dX0_readRest_63 (by decide) (fun c104 => ?_) (fun c104 => ?_)
        · refine lv_aload_n hx hb dX0_readRest_70 rfl (lv_at hl 3 rfl) ?_
          refine lv_bipush (v := nI 10) hx hb dX0_readRest_71 (by decide) ?_
          refine lv_bipush (v := nI 11) hx hb dX0_readRest_73 (by decide) ?_
          refine r_call_i (wr := [(bk, .inr (0, [.ref blines, .int (nI blineCount), .int blived, .int bwhyWrong, .int bfineLines, .int bdayThen, .int beatenThen])), (blines, .inl (ky 0, 160, .inl blinesF))]) (va_runV (As := [.int (nI 10), .int (nI 11)]) (rest := []) ⟨hx, hb, hml, hown, hts⟩ (c_r_takeWord l dC dI ky H.size adK adV reader rtape rlength rmostBytes rplaceG_87 rkindG_88 rbeginG_89 rwordG_90 rnumberG_91 rlettersG_92 rfaultKindG_93 rfaultPlaceG_94 rtapeF (nI 10) (nI 11) iv_rreader_0 p96 iv_rreader_2 p97) (cwV 2 hts gX0_readRest_X5_takeWord rfl rfl rfl (by decide +kernel) ⟨(Nat.le_of_ble_eq_true rfl), (Nat.le_of_ble_eq_true rfl)⟩) (pre_UEV hE hS hA hK hP hD [2, 3] (by decide) rfl (va_recv hK hP (ci := 5) (q0 := 2) rfl rfl)) rfl rfl hl.1 rfl (lv_room (Nat.le_of_ble_eq_true rfl)) dX0_readRest_75 ⟨(Nat.le_of_ble_eq_true rfl), (Nat.le_of_ble_eq_true rfl)⟩) hP hD hS hA [2, 3] [0, 1] rfl rfl (by decide) (by decide) (fun r107 u105 H locs p106 hP hD hS => ?_)
          obtain ⟨rplaceG_108, rkindG_109, rbeginG_110, rwordG_111, rnumberG_112, rlettersG_113, rfaultKindG_114, rfaultPlaceG_115⟩ := u105
          try dsimp only at p106
          obtain ⟨p116, p117⟩ := p106
          refine W.widen (k := 0) (n := 0) (Nat.le_of_ble_eq_true rfl) (Nat.le_of_ble_eq_true rfl) ?_
          have hP : va_P (dC, dI) vwCl [(bk, .inr (0, [.ref blines, .int (nI blineCount), .int blived, .int bwhyWrong, .int bfineLines, .int bdayThen, .int beatenThen])), (blines, .inl (ky 0, 160, .inl blinesF)), (reader, .inr (5, [.ref rtape, .int (nI rlength), .int (nI rmostBytes), .int (nI rplaceG_108), .int rkindG_109, .int (nI rbeginG_110), .int rwordG_111, .int rnumberG_112, .long rlettersG_113, .int rfaultKindG_114, .int rfaultPlaceG_115])), (rtape, .inl (ky 2, 940, .inl rtapeF))] H := hP
          have hD : va_D A [(bk, .inr (0, [.ref blines, .int (nI blineCount), .int blived, .int bwhyWrong, .int bfineLines, .int bdayThen, .int beatenThen])), (blines, .inl (ky 0, 160, .inl blinesF)), (reader, .inr (5, [.ref rtape, .int (nI rlength), .int (nI rmostBytes), .int (nI rplaceG_108), .int rkindG_109, .int (nI rbeginG_110), .int rwordG_111, .int rnumberG_112, .long rlettersG_113, .int rfaultKindG_114, .int rfaultPlaceG_115])), (rtape, .inl (ky 2, 940, .inl rtapeF))] := hD
          refine lv_istore (lv' := [(6, .int r107), (5, .int (nI k98)), (4, .int r72), (0, .ref bk), (1, .ref reader), (2, .int (nI 0)), (3, .int y)]) hx hb dX0_readRest_78 hl (by decide) rfl (fun ls hl => ?_)
          refine lv_iload hx hb dX0_readRest_80 (lv_at hl 0 rfl) ?_
          refine lv_iconst (v := (-1 : Int32)) hx hb dX0_readRest_82 (by decide) ?_
          refine lv_icmp_eq (tgt := 104) hx hb dX0_readRest_83 (by decide) (fun c118 => ?_) (fun c118 => ?_)
          · refine lv_iconst (v := nI 0) hx hb dX0_readRest_104 (by decide) ?_
            rw [hQ]
            exact W.zret (v := nI 0) hx hb hr (by decide) (fun t9 ht9 hW9 => ⟨⟨nI 0, (blineCount, blinesF, rplaceG_108, rkindG_109, rbeginG_110, rwordG_111, rnumberG_112, rlettersG_113, rfaultKindG_114, rfaultPlaceG_115), rfl, ⟨(lf_b_readRest_16 blineCount iv_bbk_0), iv_bbk_0, p116, p117⟩, by rw [ht9]; exact hP, va_K.moved hW9.alike hK, hD⟩, hS.F ht9⟩) hS.2.2 dX0_readRest_105
          · refine lv_aload_n hx hb dX0_readRest_86 rfl (lv_at hl 3 rfl) ?_
            refine lv_iload_n hx hb dX0_readRest_87 rfl (lv_at hl 5 rfl) ?_
            refine lv_iload hx hb dX0_readRest_88 (lv_at hl 2 rfl) ?_
            refine lv_iload hx hb dX0_readRest_90 (lv_at hl 1 rfl) ?_
            refine lv_iload hx hb dX0_readRest_92 (lv_at hl 0 rfl) ?_
            refine r_call_i (wr := [(reader, .inr (5, [.ref rtape, .int (nI rlength), .int (nI rmostBytes), .int (nI rplaceG_108), .int rkindG_109, .int (nI rbeginG_110), .int rwordG_111, .int rnumberG_112, .long rlettersG_113, .int rfaultKindG_114, .int rfaultPlaceG_115])), (rtape, .inl (ky 2, 940, .inl rtapeF))]) (va_runV (As := [.int (nI 0), .int r72, .int (nI k98), .int r107]) (rest := []) ⟨hx, hb, hml, hown, hts⟩ (c_b_put l dC dI ky H.size bk blines blineCount blived bwhyWrong bfineLines bdayThen beatenThen blinesF (nI 0) r72 (nI k98) r107 iv_bbk_0) (cwV 4 hts gX0_readRest_X0_put rfl rfl rfl (by decide +kernel) ⟨(Nat.le_of_ble_eq_true rfl), (Nat.le_of_ble_eq_true rfl)⟩) (pre_UV hK hP hD [0, 1] (by decide) rfl (ci := 0) (q0 := 0) rfl rfl) rfl rfl hl.1 rfl (lv_room (Nat.le_of_ble_eq_true rfl)) dX0_readRest_94 ⟨(Nat.le_of_ble_eq_true rfl), (Nat.le_of_ble_eq_true rfl)⟩) hP hD hS hA [0, 1] [2, 3] rfl rfl (by decide) (by decide) (fun r121 u119 H locs p120 hP hD hS => ?_)
            obtain ⟨blineCountG_122, blinesG_123⟩ := u119
            try dsimp only at p120
            obtain ⟨p124, p125⟩ := p120
            refine W.widen (k := 0) (n := 0) (Nat.le_of_ble_eq_true rfl) (Nat.le_of_ble_eq_true rfl) ?_
            have hP : va_P (dC, dI) vwCl [(reader, .inr (5, [.ref rtape, .int (nI rlength), .int (nI rmostBytes), .int (nI rplaceG_108), .int rkindG_109, .int (nI rbeginG_110), .int rwordG_111, .int rnumberG_112, .long rlettersG_113, .int rfaultKindG_114, .int rfaultPlaceG_115])), (rtape, .inl (ky 2, 940, .inl rtapeF)), (bk, .inr (0, [.ref blines, .int (nI blineCountG_122), .int blived, .int bwhyWrong, .int bfineLines, .int bdayThen, .int beatenThen])), (blines, .inl (ky 0, 160, .inl blinesG_123))] H := hP
            have hD : va_D A [(reader, .inr (5, [.ref rtape, .int (nI rlength), .int (nI rmostBytes), .int (nI rplaceG_108), .int rkindG_109, .int (nI rbeginG_110), .int rwordG_111, .int rnumberG_112, .long rlettersG_113, .int rfaultKindG_114, .int rfaultPlaceG_115])), (rtape, .inl (ky 2, 940, .inl rtapeF)), (bk, .inr (0, [.ref blines, .int (nI blineCountG_122), .int blived, .int bwhyWrong, .int bfineLines, .int bdayThen, .int beatenThen])), (blines, .inl (ky 0, 160, .inl blinesG_123))] := hD
            rcases p124 with ⟨rfl, t126⟩ | ⟨rfl, t127⟩
            · refine lv_if_eq (tgt := 104) hx hb dX0_readRest_97 (by decide) (fun c128 => absurd c128 (by decide)) (fun c128 => ?_)
              refine lv_iconst (v := nI 1) hx hb dX0_readRest_100 (by decide) ?_
              refine lv_goto (tgt := 105) hx hb dX0_readRest_101 (by decide) ?_
              rw [hQ]
              have hP9 := hP.sub (ws' := [(bk, .inr (0, [.ref blines, .int (nI blineCountG_122), .int blived, .int bwhyWrong, .int bfineLines, .int bdayThen, .int beatenThen])), (blines, .inl (ky 0, 160, .inl blinesG_123)), (reader, .inr (5, [.ref rtape, .int (nI rlength), .int (nI rmostBytes), .int (nI rplaceG_108), .int rkindG_109, .int (nI rbeginG_110), .int rwordG_111, .int rnumberG_112, .long rlettersG_113, .int rfaultKindG_114, .int rfaultPlaceG_115])), (rtape, .inl (ky 2, 940, .inl rtapeF))]) [2, 3, 0, 1] rfl
              have hD9 := hD.sub (ws' := [(bk, .inr (0, [.ref blines, .int (nI blineCountG_122), .int blived, .int bwhyWrong, .int bfineLines, .int bdayThen, .int beatenThen])), (blines, .inl (ky 0, 160, .inl blinesG_123)), (reader, .inr (5, [.ref rtape, .int (nI rlength), .int (nI rmostBytes), .int (nI rplaceG_108), .int rkindG_109, .int (nI rbeginG_110), .int rwordG_111, .int rnumberG_112, .long rlettersG_113, .int rfaultKindG_114, .int rfaultPlaceG_115])), (rtape, .inl (ky 2, 940, .inl rtapeF))]) [2, 3, 0, 1] (by decide) rfl
              exact W.zret (v := nI 1) hx hb hr (by decide) (fun t9 ht9 hW9 => ⟨⟨nI 1, (blineCountG_122, blinesG_123, rplaceG_108, rkindG_109, rbeginG_110, rwordG_111, rnumberG_112, rlettersG_113, rfaultKindG_114, rfaultPlaceG_115), rfl, ⟨(lf_b_readRest_17 blineCount blineCountG_122 iv_bbk_0 p125 t126), p125, p116, p117⟩, by rw [ht9]; exact hP9, va_K.moved hW9.alike hK, hD9⟩, hS.F ht9⟩) hS.2.2 dX0_readRest_105
            · refine lv_if_eq (tgt := 104) hx hb dX0_readRest_97 (by decide) (fun c129 => ?_) (fun c129 => absurd (by decide) c129)
              refine lv_iconst (v := nI 0) hx hb dX0_readRest_104 (by decide) ?_
              rw [hQ]
              have hP9 := hP.sub (ws' := [(bk, .inr (0, [.ref blines, .int (nI blineCountG_122), .int blived, .int bwhyWrong, .int bfineLines, .int bdayThen, .int beatenThen])), (blines, .inl (ky 0, 160, .inl blinesG_123)), (reader, .inr (5, [.ref rtape, .int (nI rlength), .int (nI rmostBytes), .int (nI rplaceG_108), .int rkindG_109, .int (nI rbeginG_110), .int rwordG_111, .int rnumberG_112, .long rlettersG_113, .int rfaultKindG_114, .int rfaultPlaceG_115])), (rtape, .inl (ky 2, 940, .inl rtapeF))]) [2, 3, 0, 1] rfl
              have hD9 := hD.sub (ws' := [(bk, .inr (0, [.ref blines, .int (nI blineCountG_122), .int blived, .int bwhyWrong, .int bfineLines, .int bdayThen, .int beatenThen])), (blines, .inl (ky 0, 160, .inl blinesG_123)), (reader, .inr (5, [.ref rtape, .int (nI rlength), .int (nI rmostBytes), .int (nI rplaceG_108), .int rkindG_109, .int (nI rbeginG_110), .int rwordG_111, .int rnumberG_112, .long rlettersG_113, .int rfaultKindG_114, .int rfaultPlaceG_115])), (rtape, .inl (ky 2, 940, .inl rtapeF))]) [2, 3, 0, 1] (by decide) rfl
              exact W.zret (v := nI 0) hx hb hr (by decide) (fun t9 ht9 hW9 => ⟨⟨nI 0, (blineCountG_122, blinesG_123, rplaceG_108, rkindG_109, rbeginG_110, rwordG_111, rnumberG_112, rlettersG_113, rfaultKindG_114, rfaultPlaceG_115), rfl, ⟨(lf_b_readRest_18 blineCount blineCountG_122 iv_bbk_0 p125 t127), p125, p116, p117⟩, by rw [ht9]; exact hP9, va_K.moved hW9.alike hK, hD9⟩, hS.F ht9⟩) hS.2.2 dX0_readRest_105
        · refine lv_iconst (v := (-1 : Int32)) hx hb dX0_readRest_66 (by decide) ?_
          refine lv_goto (tgt := 78) hx hb dX0_readRest_67 (by decide) ?_
          refine lv_istore (lv' := [(6, .int (-1 : Int32)), (5, .int (nI k98)), (4, .int r72), (0, .ref bk), (1, .ref reader), (2, .int (nI 0)), (3, .int y)]) hx hb dX0_readRest_78 hl (by decide) rfl (fun ls hl => ?_)
          refine lv_iload hx hb dX0_readRest_80 (lv_at hl 0 rfl) ?_
          refine lv_iconst (v := (-1 : Int32)) hx hb dX0_readRest_82 (by decide) ?_
          refine lv_icmp_eq (tgt := 104) hx hb dX0_readRest_83 (by decide) (fun c130 => ?_) (fun c130 => absurd (by decide) c130)
          refine lv_iconst (v := nI 0) hx hb dX0_readRest_104 (by decide) ?_
          rw [hQ]
          exact W.zret (v := nI 0) hx hb hr (by decide) (fun t9 ht9 hW9 => ⟨⟨nI 0, (blineCount, blinesF, rplaceG_87, rkindG_88, rbeginG_89, rwordG_90, rnumberG_91, rlettersG_92, rfaultKindG_93, rfaultPlaceG_94), rfl, ⟨(lf_b_readRest_19 blineCount iv_bbk_0), iv_bbk_0, p96, p97⟩, by rw [ht9]; exact hP, va_K.moved hW9.alike hK, hD⟩, hS.F ht9⟩) hS.2.2 dX0_readRest_105
    · refine lv_iconst (v := (-1 : Int32)) hx hb dX0_readRest_48 (by decide) ?_
      refine lv_goto (tgt := 58) hx hb dX0_readRest_49 (by decide) ?_
      refine lv_istore (lv' := [(5, .int (-1 : Int32)), (4, .int r72), (0, .ref bk), (1, .ref reader), (2, .int (nI 0)), (3, .int y)]) hx hb dX0_readRest_58 hl (by decide) rfl (fun ls hl => ?_)
      refine lv_iload hx hb dX0_readRest_60 (lv_at hl 0 rfl) ?_
      refine lv_iconst (v := (-1 : Int32)) hx hb dX0_readRest_62 (by decide) ?_
      refine lv_icmp_ne (tgt := 70) hx hb dX0_readRest_63 (by decide) (fun c131 => absurd c131 (by decide)) (fun c131 => ?_)
      refine lv_iconst (v := (-1 : Int32)) hx hb dX0_readRest_66 (by decide) ?_
      refine lv_goto (tgt := 78) hx hb dX0_readRest_67 (by decide) ?_
      refine lv_istore (lv' := [(6, .int (-1 : Int32)), (5, .int (-1 : Int32)), (4, .int r72), (0, .ref bk), (1, .ref reader), (2, .int (nI 0)), (3, .int y)]) hx hb dX0_readRest_78 hl (by decide) rfl (fun ls hl => ?_)
      refine lv_iload hx hb dX0_readRest_80 (lv_at hl 0 rfl) ?_
      refine lv_iconst (v := (-1 : Int32)) hx hb dX0_readRest_82 (by decide) ?_
      refine lv_icmp_eq (tgt := 104) hx hb dX0_readRest_83 (by decide) (fun c132 => ?_) (fun c132 => absurd (by decide) c132)
      refine lv_iconst (v := nI 0) hx hb dX0_readRest_104 (by decide) ?_
      rw [hQ]
      exact W.zret (v := nI 0) hx hb hr (by decide) (fun t9 ht9 hW9 => ⟨⟨nI 0, (blineCount, blinesF, rplaceG_73, rkindG_74, rbeginG_75, rwordG_76, rnumberG_77, rlettersG_78, rfaultKindG_79, rfaultPlaceG_80), rfl, ⟨(lf_b_readRest_20 blineCount iv_bbk_0), iv_bbk_0, p81, p82⟩, by rw [ht9]; exact hP, va_K.moved hW9.alike hK, hD⟩, hS.F ht9⟩) hS.2.2 dX0_readRest_105
  · refine r_ti (nI 1) c4 ?_
    rw [c4] at hl
    refine lv_tableIn (off := 105) (tgt := 106) hx hb dX0_readRest_1 (by decide) (by decide) rfl (by decide) ?_
    refine lv_aload_n hx hb dX0_readRest_106 rfl (lv_at hl 1 rfl) ?_
    refine lv_bipush (v := nI 12) hx hb dX0_readRest_107 (by decide) ?_
    refine lv_bipush (v := nI 15) hx hb dX0_readRest_109 (by decide) ?_
    refine r_call_i (wr := [(bk, .inr (0, [.ref blines, .int (nI blineCount), .int blived, .int bwhyWrong, .int bfineLines, .int bdayThen, .int beatenThen])), (blines, .inl (ky 0, 160, .inl blinesF))]) (va_runV (As := [.int (nI 12), .int (nI 15)]) (rest := []) ⟨hx, hb, hml, hown, hts⟩ (c_r_takeWord l dC dI ky s.heap.size adK adV reader rtape rlength rmostBytes rplace rkind rbegin rword rnumber rletters rfaultKind rfaultPlace rtapeF (nI 12) (nI 15) iv_rreader_0 iv_rreader_1 iv_rreader_2 iv_rreader_3) (cwV 2 hts gX0_readRest_X5_takeWord rfl rfl rfl (by decide +kernel) ⟨(Nat.le_of_ble_eq_true rfl), (Nat.le_of_ble_eq_true rfl)⟩) (pre_UEV hE hS hA hK hP hD [2, 3] (by decide) rfl (va_recv hK hP (ci := 5) (q0 := 2) rfl rfl)) rfl rfl hl.1 rfl (lv_room (Nat.le_of_ble_eq_true rfl)) dX0_readRest_111 ⟨(Nat.le_of_ble_eq_true rfl), (Nat.le_of_ble_eq_true rfl)⟩) hP hD hS hA [2, 3] [0, 1] rfl rfl (by decide) (by decide) (fun r135 u133 H locs p134 hP hD hS => ?_)
    obtain ⟨rplaceG_136, rkindG_137, rbeginG_138, rwordG_139, rnumberG_140, rlettersG_141, rfaultKindG_142, rfaultPlaceG_143⟩ := u133
    try dsimp only at p134
    obtain ⟨p144, p145⟩ := p134
    refine W.widen (k := 0) (n := 0) (Nat.le_of_ble_eq_true rfl) (Nat.le_of_ble_eq_true rfl) ?_
    have hP : va_P (dC, dI) vwCl [(bk, .inr (0, [.ref blines, .int (nI blineCount), .int blived, .int bwhyWrong, .int bfineLines, .int bdayThen, .int beatenThen])), (blines, .inl (ky 0, 160, .inl blinesF)), (reader, .inr (5, [.ref rtape, .int (nI rlength), .int (nI rmostBytes), .int (nI rplaceG_136), .int rkindG_137, .int (nI rbeginG_138), .int rwordG_139, .int rnumberG_140, .long rlettersG_141, .int rfaultKindG_142, .int rfaultPlaceG_143])), (rtape, .inl (ky 2, 940, .inl rtapeF))] H := hP
    have hD : va_D A [(bk, .inr (0, [.ref blines, .int (nI blineCount), .int blived, .int bwhyWrong, .int bfineLines, .int bdayThen, .int beatenThen])), (blines, .inl (ky 0, 160, .inl blinesF)), (reader, .inr (5, [.ref rtape, .int (nI rlength), .int (nI rmostBytes), .int (nI rplaceG_136), .int rkindG_137, .int (nI rbeginG_138), .int rwordG_139, .int rnumberG_140, .long rlettersG_141, .int rfaultKindG_142, .int rfaultPlaceG_143])), (rtape, .inl (ky 2, 940, .inl rtapeF))] := hD
    refine lv_istore (lv' := [(7, .int r135), (0, .ref bk), (1, .ref reader), (2, .int (nI 1)), (3, .int y)]) hx hb dX0_readRest_114 hl (by decide) rfl (fun ls hl => ?_)
    refine lv_iload hx hb dX0_readRest_116 (lv_at hl 0 rfl) ?_
    refine lv_iconst (v := (-1 : Int32)) hx hb dX0_readRest_118 (by decide) ?_
    refine lv_icmp_eq (tgt := 138) hx hb dX0_readRest_119 (by decide) (fun c146 => ?_) (fun c146 => ?_)
    · refine lv_iconst (v := nI 0) hx hb dX0_readRest_138 (by decide) ?_
      rw [hQ]
      exact W.zret (v := nI 0) hx hb hr (by decide) (fun t9 ht9 hW9 => ⟨⟨nI 0, (blineCount, blinesF, rplaceG_136, rkindG_137, rbeginG_138, rwordG_139, rnumberG_140, rlettersG_141, rfaultKindG_142, rfaultPlaceG_143), rfl, ⟨(lf_b_readRest_21 blineCount iv_bbk_0), iv_bbk_0, p144, p145⟩, by rw [ht9]; exact hP, va_K.moved hW9.alike hK, hD⟩, hS.F ht9⟩) hS.2.2 dX0_readRest_139
    · refine lv_aload_n hx hb dX0_readRest_122 rfl (lv_at hl 1 rfl) ?_
      refine lv_iload_n hx hb dX0_readRest_123 rfl (lv_at hl 3 rfl) ?_
      refine lv_iload_n hx hb dX0_readRest_124 rfl (lv_at hl 4 rfl) ?_
      refine lv_iload hx hb dX0_readRest_125 (lv_at hl 0 rfl) ?_
      refine lv_iconst (v := nI 0) hx hb dX0_readRest_127 (by decide) ?_
      refine r_call_i (wr := [(reader, .inr (5, [.ref rtape, .int (nI rlength), .int (nI rmostBytes), .int (nI rplaceG_136), .int rkindG_137, .int (nI rbeginG_138), .int rwordG_139, .int rnumberG_140, .long rlettersG_141, .int rfaultKindG_142, .int rfaultPlaceG_143])), (rtape, .inl (ky 2, 940, .inl rtapeF))]) (va_runV (As := [.int (nI 1), .int y, .int r135, .int (nI 0)]) (rest := []) ⟨hx, hb, hml, hown, hts⟩ (c_b_put l dC dI ky H.size bk blines blineCount blived bwhyWrong bfineLines bdayThen beatenThen blinesF (nI 1) y r135 (nI 0) iv_bbk_0) (cwV 4 hts gX0_readRest_X0_put rfl rfl rfl (by decide +kernel) ⟨(Nat.le_of_ble_eq_true rfl), (Nat.le_of_ble_eq_true rfl)⟩) (pre_UV hK hP hD [0, 1] (by decide) rfl (ci := 0) (q0 := 0) rfl rfl) rfl rfl hl.1 rfl (lv_room (Nat.le_of_ble_eq_true rfl)) dX0_readRest_128 ⟨(Nat.le_of_ble_eq_true rfl), (Nat.le_of_ble_eq_true rfl)⟩) hP hD hS hA [0, 1] [2, 3] rfl rfl (by decide) (by decide) (fun r149 u147 H locs p148 hP hD hS => ?_)
      obtain ⟨blineCountG_150, blinesG_151⟩ := u147
      try dsimp only at p148
      obtain ⟨p152, p153⟩ := p148
      refine W.widen (k := 0) (n := 0) (Nat.le_of_ble_eq_true rfl) (Nat.le_of_ble_eq_true rfl) ?_
      have hP : va_P (dC, dI) vwCl [(reader, .inr (5, [.ref rtape, .int (nI rlength), .int (nI rmostBytes), .int (nI rplaceG_136), .int rkindG_137, .int (nI rbeginG_138), .int rwordG_139, .int rnumberG_140, .long rlettersG_141, .int rfaultKindG_142, .int rfaultPlaceG_143])), (rtape, .inl (ky 2, 940, .inl rtapeF)), (bk, .inr (0, [.ref blines, .int (nI blineCountG_150), .int blived, .int bwhyWrong, .int bfineLines, .int bdayThen, .int beatenThen])), (blines, .inl (ky 0, 160, .inl blinesG_151))] H := hP
      have hD : va_D A [(reader, .inr (5, [.ref rtape, .int (nI rlength), .int (nI rmostBytes), .int (nI rplaceG_136), .int rkindG_137, .int (nI rbeginG_138), .int rwordG_139, .int rnumberG_140, .long rlettersG_141, .int rfaultKindG_142, .int rfaultPlaceG_143])), (rtape, .inl (ky 2, 940, .inl rtapeF)), (bk, .inr (0, [.ref blines, .int (nI blineCountG_150), .int blived, .int bwhyWrong, .int bfineLines, .int bdayThen, .int beatenThen])), (blines, .inl (ky 0, 160, .inl blinesG_151))] := hD
      rcases p152 with ⟨rfl, t154⟩ | ⟨rfl, t155⟩
      · refine lv_if_eq (tgt := 138) hx hb dX0_readRest_131 (by decide) (fun c156 => absurd c156 (by decide)) (fun c156 => ?_)
        refine lv_iconst (v := nI 1) hx hb dX0_readRest_134 (by decide) ?_
        refine lv_goto (tgt := 139) hx hb dX0_readRest_135 (by decide) ?_
        rw [hQ]
        have hP9 := hP.sub (ws' := [(bk, .inr (0, [.ref blines, .int (nI blineCountG_150), .int blived, .int bwhyWrong, .int bfineLines, .int bdayThen, .int beatenThen])), (blines, .inl (ky 0, 160, .inl blinesG_151)), (reader, .inr (5, [.ref rtape, .int (nI rlength), .int (nI rmostBytes), .int (nI rplaceG_136), .int rkindG_137, .int (nI rbeginG_138), .int rwordG_139, .int rnumberG_140, .long rlettersG_141, .int rfaultKindG_142, .int rfaultPlaceG_143])), (rtape, .inl (ky 2, 940, .inl rtapeF))]) [2, 3, 0, 1] rfl
        have hD9 := hD.sub (ws' := [(bk, .inr (0, [.ref blines, .int (nI blineCountG_150), .int blived, .int bwhyWrong, .int bfineLines, .int bdayThen, .int beatenThen])), (blines, .inl (ky 0, 160, .inl blinesG_151)), (reader, .inr (5, [.ref rtape, .int (nI rlength), .int (nI rmostBytes), .int (nI rplaceG_136), .int rkindG_137, .int (nI rbeginG_138), .int rwordG_139, .int rnumberG_140, .long rlettersG_141, .int rfaultKindG_142, .int rfaultPlaceG_143])), (rtape, .inl (ky 2, 940, .inl rtapeF))]) [2, 3, 0, 1] (by decide) rfl
        exact W.zret (v := nI 1) hx hb hr (by decide) (fun t9 ht9 hW9 => ⟨⟨nI 1, (blineCountG_150, blinesG_151, rplaceG_136, rkindG_137, rbeginG_138, rwordG_139, rnumberG_140, rlettersG_141, rfaultKindG_142, rfaultPlaceG_143), rfl, ⟨(lf_b_readRest_22 blineCount blineCountG_150 iv_bbk_0 p153 t154), p153, p144, p145⟩, by rw [ht9]; exact hP9, va_K.moved hW9.alike hK, hD9⟩, hS.F ht9⟩) hS.2.2 dX0_readRest_139
      · refine lv_if_eq (tgt := 138) hx hb dX0_readRest_131 (by decide) (fun c157 => ?_) (fun c157 => absurd (by decide) c157)
        refine lv_iconst (v := nI 0) hx hb dX0_readRest_138 (by decide) ?_
        rw [hQ]
        have hP9 := hP.sub (ws' := [(bk, .inr (0, [.ref blines, .int (nI blineCountG_150), .int blived, .int bwhyWrong, .int bfineLines, .int bdayThen, .int beatenThen])), (blines, .inl (ky 0, 160, .inl blinesG_151)), (reader, .inr (5, [.ref rtape, .int (nI rlength), .int (nI rmostBytes), .int (nI rplaceG_136), .int rkindG_137, .int (nI rbeginG_138), .int rwordG_139, .int rnumberG_140, .long rlettersG_141, .int rfaultKindG_142, .int rfaultPlaceG_143])), (rtape, .inl (ky 2, 940, .inl rtapeF))]) [2, 3, 0, 1] rfl
        have hD9 := hD.sub (ws' := [(bk, .inr (0, [.ref blines, .int (nI blineCountG_150), .int blived, .int bwhyWrong, .int bfineLines, .int bdayThen, .int beatenThen])), (blines, .inl (ky 0, 160, .inl blinesG_151)), (reader, .inr (5, [.ref rtape, .int (nI rlength), .int (nI rmostBytes), .int (nI rplaceG_136), .int rkindG_137, .int (nI rbeginG_138), .int rwordG_139, .int rnumberG_140, .long rlettersG_141, .int rfaultKindG_142, .int rfaultPlaceG_143])), (rtape, .inl (ky 2, 940, .inl rtapeF))]) [2, 3, 0, 1] (by decide) rfl
        exact W.zret (v := nI 0) hx hb hr (by decide) (fun t9 ht9 hW9 => ⟨⟨nI 0, (blineCountG_150, blinesG_151, rplaceG_136, rkindG_137, rbeginG_138, rwordG_139, rnumberG_140, rlettersG_141, rfaultKindG_142, rfaultPlaceG_143), rfl, ⟨(lf_b_readRest_23 blineCount blineCountG_150 iv_bbk_0 p153 t155), p153, p144, p145⟩, by rw [ht9]; exact hP9, va_K.moved hW9.alike hK, hD9⟩, hS.F ht9⟩) hS.2.2 dX0_readRest_139
  · refine r_ti (nI 2) c5 ?_
    rw [c5] at hl
    refine lv_tableIn (off := 139) (tgt := 140) hx hb dX0_readRest_1 (by decide) (by decide) rfl (by decide) ?_
    refine lv_aload_n hx hb dX0_readRest_140 rfl (lv_at hl 1 rfl) ?_
    refine lv_iconst (v := nI 0) hx hb dX0_readRest_141 (by decide) ?_
    refine lv_iconst (v := nI 5) hx hb dX0_readRest_142 (by decide) ?_
    refine r_call_i (wr := [(bk, .inr (0, [.ref blines, .int (nI blineCount), .int blived, .int bwhyWrong, .int bfineLines, .int bdayThen, .int beatenThen])), (blines, .inl (ky 0, 160, .inl blinesF))]) (va_runV (As := [.int (nI 0), .int (nI 5)]) (rest := []) ⟨hx, hb, hml, hown, hts⟩ (c_r_takeNumber l dC dI ky s.heap.size adK adV reader rtape rlength rmostBytes rplace rkind rbegin rword rnumber rletters rfaultKind rfaultPlace rtapeF 0 5 iv_rreader_0 iv_rreader_1 iv_rreader_2 iv_rreader_3 (lf_b_readRest_24) (lf_b_readRest_25)) (cwV 2 hts gX0_readRest_X5_takeNumber rfl rfl rfl (by decide +kernel) ⟨(Nat.le_of_ble_eq_true rfl), (Nat.le_of_ble_eq_true rfl)⟩) (pre_UEV hE hS hA hK hP hD [2, 3] (by decide) rfl (va_recv hK hP (ci := 5) (q0 := 2) rfl rfl)) rfl rfl hl.1 rfl (lv_room (Nat.le_of_ble_eq_true rfl)) dX0_readRest_143 ⟨(Nat.le_of_ble_eq_true rfl), (Nat.le_of_ble_eq_true rfl)⟩) hP hD hS hA [2, 3] [0, 1] rfl rfl (by decide) (by decide) (fun r160 u158 H locs p159 hP hD hS => ?_)
    obtain ⟨rplaceG_161, rkindG_162, rbeginG_163, rwordG_164, rnumberG_165, rlettersG_166, rfaultKindG_167, rfaultPlaceG_168⟩ := u158
    try dsimp only at p159
    obtain ⟨p169, p170, p171⟩ := p159
    refine W.widen (k := 0) (n := 0) (Nat.le_of_ble_eq_true rfl) (Nat.le_of_ble_eq_true rfl) ?_
    have hP : va_P (dC, dI) vwCl [(bk, .inr (0, [.ref blines, .int (nI blineCount), .int blived, .int bwhyWrong, .int bfineLines, .int bdayThen, .int beatenThen])), (blines, .inl (ky 0, 160, .inl blinesF)), (reader, .inr (5, [.ref rtape, .int (nI rlength), .int (nI rmostBytes), .int (nI rplaceG_161), .int rkindG_162, .int (nI rbeginG_163), .int rwordG_164, .int rnumberG_165, .long rlettersG_166, .int rfaultKindG_167, .int rfaultPlaceG_168])), (rtape, .inl (ky 2, 940, .inl rtapeF))] H := hP
    have hD : va_D A [(bk, .inr (0, [.ref blines, .int (nI blineCount), .int blived, .int bwhyWrong, .int bfineLines, .int bdayThen, .int beatenThen])), (blines, .inl (ky 0, 160, .inl blinesF)), (reader, .inr (5, [.ref rtape, .int (nI rlength), .int (nI rmostBytes), .int (nI rplaceG_161), .int rkindG_162, .int (nI rbeginG_163), .int rwordG_164, .int rnumberG_165, .long rlettersG_166, .int rfaultKindG_167, .int rfaultPlaceG_168])), (rtape, .inl (ky 2, 940, .inl rtapeF))] := hD
    rcases p169 with rfl | ⟨k172, ⟨h174, h175⟩, rfl⟩
    · refine lv_istore (lv' := [(8, .int (-1 : Int32)), (0, .ref bk), (1, .ref reader), (2, .int (nI 2)), (3, .int y)]) hx hb dX0_readRest_146 hl (by decide) rfl (fun ls hl => ?_)
      refine lv_iload hx hb dX0_readRest_148 (lv_at hl 0 rfl) ?_
      refine lv_iconst (v := (-1 : Int32)) hx hb dX0_readRest_150 (by decide) ?_
      refine lv_icmp_ne (tgt := 158) hx hb dX0_readRest_151 (by decide) (fun c176 => absurd c176 (by decide)) (fun c176 => ?_)
      refine lv_iconst (v := (-1 : Int32)) hx hb dX0_readRest_154 (by decide) ?_
      refine lv_goto (tgt := 164) hx hb dX0_readRest_155 (by decide) ?_
      refine lv_istore (lv' := [(9, .int (-1 : Int32)), (8, .int (-1 : Int32)), (0, .ref bk), (1, .ref reader), (2, .int (nI 2)), (3, .int y)]) hx hb dX0_readRest_164 hl (by decide) rfl (fun ls hl => ?_)
      refine lv_iload hx hb dX0_readRest_166 (lv_at hl 0 rfl) ?_
      refine lv_iconst (v := (-1 : Int32)) hx hb dX0_readRest_168 (by decide) ?_
      refine lv_icmp_ne (tgt := 176) hx hb dX0_readRest_169 (by decide) (fun c177 => absurd c177 (by decide)) (fun c177 => ?_)
      refine lv_iconst (v := (-1 : Int32)) hx hb dX0_readRest_172 (by decide) ?_
      refine lv_goto (tgt := 183) hx hb dX0_readRest_173 (by decide) ?_
      refine lv_istore (lv' := [(10, .int (-1 : Int32)), (9, .int (-1 : Int32)), (8, .int (-1 : Int32)), (0, .ref bk), (1, .ref reader), (2, .int (nI 2)), (3, .int y)]) hx hb dX0_readRest_183 hl (by decide) rfl (fun ls hl => ?_)
      refine lv_iload hx hb dX0_readRest_185 (lv_at hl 0 rfl) ?_
      refine lv_iconst (v := (-1 : Int32)) hx hb dX0_readRest_187 (by decide) ?_
      refine lv_icmp_eq (tgt := 209) hx hb dX0_readRest_188 (by decide) (fun c178 => ?_) (fun c178 => absurd (by decide) c178)
      refine lv_iconst (v := nI 0) hx hb dX0_readRest_209 (by decide) ?_
      rw [hQ]
      exact W.zret (v := nI 0) hx hb hr (by decide) (fun t9 ht9 hW9 => ⟨⟨nI 0, (blineCount, blinesF, rplaceG_161, rkindG_162, rbeginG_163, rwordG_164, rnumberG_165, rlettersG_166, rfaultKindG_167, rfaultPlaceG_168), rfl, ⟨(lf_b_readRest_26 blineCount iv_bbk_0), iv_bbk_0, p170, p171⟩, by rw [ht9]; exact hP, va_K.moved hW9.alike hK, hD⟩, hS.F ht9⟩) hS.2.2 dX0_readRest_210
    · refine lv_istore (lv' := [(8, .int (nI k172)), (0, .ref bk), (1, .ref reader), (2, .int (nI 2)), (3, .int y)]) hx hb dX0_readRest_146 hl (by decide) rfl (fun ls hl => ?_)
      refine lv_iload hx hb dX0_readRest_148 (lv_at hl 0 rfl) ?_
      refine lv_iconst (v := (-1 : Int32)) hx hb dX0_readRest_150 (by decide) ?_
      refine lv_icmp_ne (tgt := 158) hx hb dX0_readRest_151 (by decide) (fun c179 => ?_) (fun c179 => ?_)
      · refine lv_aload_n hx hb dX0_readRest_158 rfl (lv_at hl 2 rfl) ?_
        refine lv_iconst (v := nI 0) hx hb dX0_readRest_159 (by decide) ?_
        refine lv_iconst (v := nI 5) hx hb dX0_readRest_160 (by decide) ?_
        refine r_call_i (wr := [(bk, .inr (0, [.ref blines, .int (nI blineCount), .int blived, .int bwhyWrong, .int bfineLines, .int bdayThen, .int beatenThen])), (blines, .inl (ky 0, 160, .inl blinesF))]) (va_runV (As := [.int (nI 0), .int (nI 5)]) (rest := []) ⟨hx, hb, hml, hown, hts⟩ (c_r_takeNumber l dC dI ky H.size adK adV reader rtape rlength rmostBytes rplaceG_161 rkindG_162 rbeginG_163 rwordG_164 rnumberG_165 rlettersG_166 rfaultKindG_167 rfaultPlaceG_168 rtapeF 0 5 iv_rreader_0 p170 iv_rreader_2 p171 (lf_b_readRest_27) (lf_b_readRest_28)) (cwV 2 hts gX0_readRest_X5_takeNumber rfl rfl rfl (by decide +kernel) ⟨(Nat.le_of_ble_eq_true rfl), (Nat.le_of_ble_eq_true rfl)⟩) (pre_UEV hE hS hA hK hP hD [2, 3] (by decide) rfl (va_recv hK hP (ci := 5) (q0 := 2) rfl rfl)) rfl rfl hl.1 rfl (lv_room (Nat.le_of_ble_eq_true rfl)) dX0_readRest_161 ⟨(Nat.le_of_ble_eq_true rfl), (Nat.le_of_ble_eq_true rfl)⟩) hP hD hS hA [2, 3] [0, 1] rfl rfl (by decide) (by decide) (fun r182 u180 H locs p181 hP hD hS => ?_)
        obtain ⟨rplaceG_183, rkindG_184, rbeginG_185, rwordG_186, rnumberG_187, rlettersG_188, rfaultKindG_189, rfaultPlaceG_190⟩ := u180
        try dsimp only at p181
        obtain ⟨p191, p192, p193⟩ := p181
        refine W.widen (k := 0) (n := 0) (Nat.le_of_ble_eq_true rfl) (Nat.le_of_ble_eq_true rfl) ?_
        have hP : va_P (dC, dI) vwCl [(bk, .inr (0, [.ref blines, .int (nI blineCount), .int blived, .int bwhyWrong, .int bfineLines, .int bdayThen, .int beatenThen])), (blines, .inl (ky 0, 160, .inl blinesF)), (reader, .inr (5, [.ref rtape, .int (nI rlength), .int (nI rmostBytes), .int (nI rplaceG_183), .int rkindG_184, .int (nI rbeginG_185), .int rwordG_186, .int rnumberG_187, .long rlettersG_188, .int rfaultKindG_189, .int rfaultPlaceG_190])), (rtape, .inl (ky 2, 940, .inl rtapeF))] H := hP
        have hD : va_D A [(bk, .inr (0, [.ref blines, .int (nI blineCount), .int blived, .int bwhyWrong, .int bfineLines, .int bdayThen, .int beatenThen])), (blines, .inl (ky 0, 160, .inl blinesF)), (reader, .inr (5, [.ref rtape, .int (nI rlength), .int (nI rmostBytes), .int (nI rplaceG_183), .int rkindG_184, .int (nI rbeginG_185), .int rwordG_186, .int rnumberG_187, .long rlettersG_188, .int rfaultKindG_189, .int rfaultPlaceG_190])), (rtape, .inl (ky 2, 940, .inl rtapeF))] := hD
        rcases p191 with rfl | ⟨k194, ⟨h196, h197⟩, rfl⟩
        · refine lv_istore (lv' := [(9, .int (-1 : Int32)), (8, .int (nI k172)), (0, .ref bk), (1, .ref reader), (2, .int (nI 2)), (3, .int y)]) hx hb dX0_readRest_164 hl (by decide) rfl (fun ls hl => ?_)
          refine lv_iload hx hb dX0_readRest_166 (lv_at hl 0 rfl) ?_
          refine lv_iconst (v := (-1 : Int32)) hx hb dX0_readRest_168 (by decide) ?_
          refine lv_icmp_ne (tgt := 176) hx hb dX0_readRest_169 (by decide) (fun c198 => absurd c198 (by decide)) (fun c198 => ?_)
          refine lv_iconst (v := (-1 : Int32)) hx hb dX0_readRest_172 (by decide) ?_
          refine lv_goto (tgt := 183) hx hb dX0_readRest_173 (by decide) ?_
          refine lv_istore (lv' := [(10, .int (-1 : Int32)), (9, .int (-1 : Int32)), (8, .int (nI k172)), (0, .ref bk), (1, .ref reader), (2, .int (nI 2)), (3, .int y)]) hx hb dX0_readRest_183 hl (by decide) rfl (fun ls hl => ?_)
          refine lv_iload hx hb dX0_readRest_185 (lv_at hl 0 rfl) ?_
          refine lv_iconst (v := (-1 : Int32)) hx hb dX0_readRest_187 (by decide) ?_
          refine lv_icmp_eq (tgt := 209) hx hb dX0_readRest_188 (by decide) (fun c199 => ?_) (fun c199 => absurd (by decide) c199)
          refine lv_iconst (v := nI 0) hx hb dX0_readRest_209 (by decide) ?_
          rw [hQ]
          exact W.zret (v := nI 0) hx hb hr (by decide) (fun t9 ht9 hW9 => ⟨⟨nI 0, (blineCount, blinesF, rplaceG_183, rkindG_184, rbeginG_185, rwordG_186, rnumberG_187, rlettersG_188, rfaultKindG_189, rfaultPlaceG_190), rfl, ⟨(lf_b_readRest_29 blineCount iv_bbk_0), iv_bbk_0, p192, p193⟩, by rw [ht9]; exact hP, va_K.moved hW9.alike hK, hD⟩, hS.F ht9⟩) hS.2.2 dX0_readRest_210
        · refine lv_istore (lv' := [(9, .int (nI k194)), (8, .int (nI k172)), (0, .ref bk), (1, .ref reader), (2, .int (nI 2)), (3, .int y)]) hx hb dX0_readRest_164 hl (by decide) rfl (fun ls hl => ?_)
          refine lv_iload hx hb dX0_readRest_166 (lv_at hl 0 rfl) ?_
          refine lv_iconst (v := (-1 : Int32)) hx hb dX0_readRest_168 (by decide) ?_
          refine lv_icmp_ne (tgt := 176) hx hb dX0_readRest_169 (by decide) (fun c200 => ?_) (fun c200 => ?_)
          · refine lv_aload_n hx hb dX0_readRest_176 rfl (lv_at hl 3 rfl) ?_
            refine lv_iconst (v := nI 1) hx hb dX0_readRest_177 (by decide) ?_
            refine lv_bipush (v := nI 9) hx hb dX0_readRest_178 (by decide) ?_
            refine r_call_i (wr := [(bk, .inr (0, [.ref blines, .int (nI blineCount), .int blived, .int bwhyWrong, .int bfineLines, .int bdayThen, .int beatenThen])), (blines, .inl (ky 0, 160, .inl blinesF))]) (va_runV (As := [.int (nI 1), .int (nI 9)]) (rest := []) ⟨hx, hb, hml, hown, hts⟩ (c_r_takeNumber l dC dI ky H.size adK adV reader rtape rlength rmostBytes rplaceG_183 rkindG_184 rbeginG_185 rwordG_186 rnumberG_187 rlettersG_188 rfaultKindG_189 rfaultPlaceG_190 rtapeF 1 9 iv_rreader_0 p192 iv_rreader_2 p193 (lf_b_readRest_30) (lf_b_readRest_31)) (cwV 2 hts gX0_readRest_X5_takeNumber rfl rfl rfl (by decide +kernel) ⟨(Nat.le_of_ble_eq_true rfl), (Nat.le_of_ble_eq_true rfl)⟩) (pre_UEV hE hS hA hK hP hD [2, 3] (by decide) rfl (va_recv hK hP (ci := 5) (q0 := 2) rfl rfl)) rfl rfl hl.1 rfl (lv_room (Nat.le_of_ble_eq_true rfl)) dX0_readRest_180 ⟨(Nat.le_of_ble_eq_true rfl), (Nat.le_of_ble_eq_true rfl)⟩) hP hD hS hA [2, 3] [0, 1] rfl rfl (by decide) (by decide) (fun r203 u201 H locs p202 hP hD hS => ?_)
            obtain ⟨rplaceG_204, rkindG_205, rbeginG_206, rwordG_207, rnumberG_208, rlettersG_209, rfaultKindG_210, rfaultPlaceG_211⟩ := u201
            try dsimp only at p202
            obtain ⟨p212, p213, p214⟩ := p202
            refine W.widen (k := 0) (n := 0) (Nat.le_of_ble_eq_true rfl) (Nat.le_of_ble_eq_true rfl) ?_
            have hP : va_P (dC, dI) vwCl [(bk, .inr (0, [.ref blines, .int (nI blineCount), .int blived, .int bwhyWrong, .int bfineLines, .int bdayThen, .int beatenThen])), (blines, .inl (ky 0, 160, .inl blinesF)), (reader, .inr (5, [.ref rtape, .int (nI rlength), .int (nI rmostBytes), .int (nI rplaceG_204), .int rkindG_205, .int (nI rbeginG_206), .int rwordG_207, .int rnumberG_208, .long rlettersG_209, .int rfaultKindG_210, .int rfaultPlaceG_211])), (rtape, .inl (ky 2, 940, .inl rtapeF))] H := hP
            have hD : va_D A [(bk, .inr (0, [.ref blines, .int (nI blineCount), .int blived, .int bwhyWrong, .int bfineLines, .int bdayThen, .int beatenThen])), (blines, .inl (ky 0, 160, .inl blinesF)), (reader, .inr (5, [.ref rtape, .int (nI rlength), .int (nI rmostBytes), .int (nI rplaceG_204), .int rkindG_205, .int (nI rbeginG_206), .int rwordG_207, .int rnumberG_208, .long rlettersG_209, .int rfaultKindG_210, .int rfaultPlaceG_211])), (rtape, .inl (ky 2, 940, .inl rtapeF))] := hD
            rcases p212 with rfl | ⟨k215, ⟨h217, h218⟩, rfl⟩
            · refine lv_istore (lv' := [(10, .int (-1 : Int32)), (9, .int (nI k194)), (8, .int (nI k172)), (0, .ref bk), (1, .ref reader), (2, .int (nI 2)), (3, .int y)]) hx hb dX0_readRest_183 hl (by decide) rfl (fun ls hl => ?_)
              refine lv_iload hx hb dX0_readRest_185 (lv_at hl 0 rfl) ?_
              refine lv_iconst (v := (-1 : Int32)) hx hb dX0_readRest_187 (by decide) ?_
              refine lv_icmp_eq (tgt := 209) hx hb dX0_readRest_188 (by decide) (fun c219 => ?_) (fun c219 => absurd (by decide) c219)
              refine lv_iconst (v := nI 0) hx hb dX0_readRest_209 (by decide) ?_
              rw [hQ]
              exact W.zret (v := nI 0) hx hb hr (by decide) (fun t9 ht9 hW9 => ⟨⟨nI 0, (blineCount, blinesF, rplaceG_204, rkindG_205, rbeginG_206, rwordG_207, rnumberG_208, rlettersG_209, rfaultKindG_210, rfaultPlaceG_211), rfl, ⟨(lf_b_readRest_32 blineCount iv_bbk_0), iv_bbk_0, p213, p214⟩, by rw [ht9]; exact hP, va_K.moved hW9.alike hK, hD⟩, hS.F ht9⟩) hS.2.2 dX0_readRest_210
            · refine lv_istore (lv' := [(10, .int (nI k215)), (9, .int (nI k194)), (8, .int (nI k172)), (0, .ref bk), (1, .ref reader), (2, .int (nI 2)), (3, .int y)]) hx hb dX0_readRest_183 hl (by decide) rfl (fun ls hl => ?_)
              refine lv_iload hx hb dX0_readRest_185 (lv_at hl 0 rfl) ?_
              refine lv_iconst (v := (-1 : Int32)) hx hb dX0_readRest_187 (by decide) ?_
              refine lv_icmp_eq (tgt := 209) hx hb dX0_readRest_188 (by decide) (fun c220 => ?_) (fun c220 => ?_)
              · refine lv_iconst (v := nI 0) hx hb dX0_readRest_209 (by decide) ?_
                rw [hQ]
                exact W.zret (v := nI 0) hx hb hr (by decide) (fun t9 ht9 hW9 => ⟨⟨nI 0, (blineCount, blinesF, rplaceG_204, rkindG_205, rbeginG_206, rwordG_207, rnumberG_208, rlettersG_209, rfaultKindG_210, rfaultPlaceG_211), rfl, ⟨(lf_b_readRest_33 blineCount iv_bbk_0), iv_bbk_0, p213, p214⟩, by rw [ht9]; exact hP, va_K.moved hW9.alike hK, hD⟩, hS.F ht9⟩) hS.2.2 dX0_readRest_210
              · refine lv_aload_n hx hb dX0_readRest_191 rfl (lv_at hl 3 rfl) ?_
                refine lv_iload_n hx hb dX0_readRest_192 rfl (lv_at hl 5 rfl) ?_
                refine lv_iload hx hb dX0_readRest_193 (lv_at hl 2 rfl) ?_
                refine lv_iload hx hb dX0_readRest_195 (lv_at hl 1 rfl) ?_
                refine lv_iload hx hb dX0_readRest_197 (lv_at hl 0 rfl) ?_
                refine r_call_i (wr := [(reader, .inr (5, [.ref rtape, .int (nI rlength), .int (nI rmostBytes), .int (nI rplaceG_204), .int rkindG_205, .int (nI rbeginG_206), .int rwordG_207, .int rnumberG_208, .long rlettersG_209, .int rfaultKindG_210, .int rfaultPlaceG_211])), (rtape, .inl (ky 2, 940, .inl rtapeF))]) (va_runV (As := [.int (nI 2), .int (nI k172), .int (nI k194), .int (nI k215)]) (rest := []) ⟨hx, hb, hml, hown, hts⟩ (c_b_put l dC dI ky H.size bk blines blineCount blived bwhyWrong bfineLines bdayThen beatenThen blinesF (nI 2) (nI k172) (nI k194) (nI k215) iv_bbk_0) (cwV 4 hts gX0_readRest_X0_put rfl rfl rfl (by decide +kernel) ⟨(Nat.le_of_ble_eq_true rfl), (Nat.le_of_ble_eq_true rfl)⟩) (pre_UV hK hP hD [0, 1] (by decide) rfl (ci := 0) (q0 := 0) rfl rfl) rfl rfl hl.1 rfl (lv_room (Nat.le_of_ble_eq_true rfl)) dX0_readRest_199 ⟨(Nat.le_of_ble_eq_true rfl), (Nat.le_of_ble_eq_true rfl)⟩) hP hD hS hA [0, 1] [2, 3] rfl rfl (by decide) (by decide) (fun r223 u221 H locs p222 hP hD hS => ?_)
                obtain ⟨blineCountG_224, blinesG_225⟩ := u221
                try dsimp only at p222
                obtain ⟨p226, p227⟩ := p222
                refine W.widen (k := 0) (n := 0) (Nat.le_of_ble_eq_true rfl) (Nat.le_of_ble_eq_true rfl) ?_
                have hP : va_P (dC, dI) vwCl [(reader, .inr (5, [.ref rtape, .int (nI rlength), .int (nI rmostBytes), .int (nI rplaceG_204), .int rkindG_205, .int (nI rbeginG_206), .int rwordG_207, .int rnumberG_208, .long rlettersG_209, .int rfaultKindG_210, .int rfaultPlaceG_211])), (rtape, .inl (ky 2, 940, .inl rtapeF)), (bk, .inr (0, [.ref blines, .int (nI blineCountG_224), .int blived, .int bwhyWrong, .int bfineLines, .int bdayThen, .int beatenThen])), (blines, .inl (ky 0, 160, .inl blinesG_225))] H := hP
                have hD : va_D A [(reader, .inr (5, [.ref rtape, .int (nI rlength), .int (nI rmostBytes), .int (nI rplaceG_204), .int rkindG_205, .int (nI rbeginG_206), .int rwordG_207, .int rnumberG_208, .long rlettersG_209, .int rfaultKindG_210, .int rfaultPlaceG_211])), (rtape, .inl (ky 2, 940, .inl rtapeF)), (bk, .inr (0, [.ref blines, .int (nI blineCountG_224), .int blived, .int bwhyWrong, .int bfineLines, .int bdayThen, .int beatenThen])), (blines, .inl (ky 0, 160, .inl blinesG_225))] := hD
                rcases p226 with ⟨rfl, t228⟩ | ⟨rfl, t229⟩
                · refine lv_if_eq (tgt := 209) hx hb dX0_readRest_202 (by decide) (fun c230 => absurd c230 (by decide)) (fun c230 => ?_)
                  refine lv_iconst (v := nI 1) hx hb dX0_readRest_205 (by decide) ?_
                  refine lv_goto (tgt := 210) hx hb dX0_readRest_206 (by decide) ?_
                  rw [hQ]
                  have hP9 := hP.sub (ws' := [(bk, .inr (0, [.ref blines, .int (nI blineCountG_224), .int blived, .int bwhyWrong, .int bfineLines, .int bdayThen, .int beatenThen])), (blines, .inl (ky 0, 160, .inl blinesG_225)), (reader, .inr (5, [.ref rtape, .int (nI rlength), .int (nI rmostBytes), .int (nI rplaceG_204), .int rkindG_205, .int (nI rbeginG_206), .int rwordG_207, .int rnumberG_208, .long rlettersG_209, .int rfaultKindG_210, .int rfaultPlaceG_211])), (rtape, .inl (ky 2, 940, .inl rtapeF))]) [2, 3, 0, 1] rfl
                  have hD9 := hD.sub (ws' := [(bk, .inr (0, [.ref blines, .int (nI blineCountG_224), .int blived, .int bwhyWrong, .int bfineLines, .int bdayThen, .int beatenThen])), (blines, .inl (ky 0, 160, .inl blinesG_225)), (reader, .inr (5, [.ref rtape, .int (nI rlength), .int (nI rmostBytes), .int (nI rplaceG_204), .int rkindG_205, .int (nI rbeginG_206), .int rwordG_207, .int rnumberG_208, .long rlettersG_209, .int rfaultKindG_210, .int rfaultPlaceG_211])), (rtape, .inl (ky 2, 940, .inl rtapeF))]) [2, 3, 0, 1] (by decide) rfl
                  exact W.zret (v := nI 1) hx hb hr (by decide) (fun t9 ht9 hW9 => ⟨⟨nI 1, (blineCountG_224, blinesG_225, rplaceG_204, rkindG_205, rbeginG_206, rwordG_207, rnumberG_208, rlettersG_209, rfaultKindG_210, rfaultPlaceG_211), rfl, ⟨(lf_b_readRest_34 blineCount blineCountG_224 iv_bbk_0 p227 t228), p227, p213, p214⟩, by rw [ht9]; exact hP9, va_K.moved hW9.alike hK, hD9⟩, hS.F ht9⟩) hS.2.2 dX0_readRest_210
                · refine lv_if_eq (tgt := 209) hx hb dX0_readRest_202 (by decide) (fun c231 => ?_) (fun c231 => absurd (by decide) c231)
                  refine lv_iconst (v := nI 0) hx hb dX0_readRest_209 (by decide) ?_
                  rw [hQ]
                  have hP9 := hP.sub (ws' := [(bk, .inr (0, [.ref blines, .int (nI blineCountG_224), .int blived, .int bwhyWrong, .int bfineLines, .int bdayThen, .int beatenThen])), (blines, .inl (ky 0, 160, .inl blinesG_225)), (reader, .inr (5, [.ref rtape, .int (nI rlength), .int (nI rmostBytes), .int (nI rplaceG_204), .int rkindG_205, .int (nI rbeginG_206), .int rwordG_207, .int rnumberG_208, .long rlettersG_209, .int rfaultKindG_210, .int rfaultPlaceG_211])), (rtape, .inl (ky 2, 940, .inl rtapeF))]) [2, 3, 0, 1] rfl
                  have hD9 := hD.sub (ws' := [(bk, .inr (0, [.ref blines, .int (nI blineCountG_224), .int blived, .int bwhyWrong, .int bfineLines, .int bdayThen, .int beatenThen])), (blines, .inl (ky 0, 160, .inl blinesG_225)), (reader, .inr (5, [.ref rtape, .int (nI rlength), .int (nI rmostBytes), .int (nI rplaceG_204), .int rkindG_205, .int (nI rbeginG_206), .int rwordG_207, .int rnumberG_208, .long rlettersG_209, .int rfaultKindG_210, .int rfaultPlaceG_211])), (rtape, .inl (ky 2, 940, .inl rtapeF))]) [2, 3, 0, 1] (by decide) rfl
                  exact W.zret (v := nI 0) hx hb hr (by decide) (fun t9 ht9 hW9 => ⟨⟨nI 0, (blineCountG_224, blinesG_225, rplaceG_204, rkindG_205, rbeginG_206, rwordG_207, rnumberG_208, rlettersG_209, rfaultKindG_210, rfaultPlaceG_211), rfl, ⟨(lf_b_readRest_35 blineCount blineCountG_224 iv_bbk_0 p227 t229), p227, p213, p214⟩, by rw [ht9]; exact hP9, va_K.moved hW9.alike hK, hD9⟩, hS.F ht9⟩) hS.2.2 dX0_readRest_210
          · refine lv_iconst (v := (-1 : Int32)) hx hb dX0_readRest_172 (by decide) ?_
            refine lv_goto (tgt := 183) hx hb dX0_readRest_173 (by decide) ?_
            refine lv_istore (lv' := [(10, .int (-1 : Int32)), (9, .int (nI k194)), (8, .int (nI k172)), (0, .ref bk), (1, .ref reader), (2, .int (nI 2)), (3, .int y)]) hx hb dX0_readRest_183 hl (by decide) rfl (fun ls hl => ?_)
            refine lv_iload hx hb dX0_readRest_185 (lv_at hl 0 rfl) ?_
            refine lv_iconst (v := (-1 : Int32)) hx hb dX0_readRest_187 (by decide) ?_
            refine lv_icmp_eq (tgt := 209) hx hb dX0_readRest_188 (by decide) (fun c232 => ?_) (fun c232 => absurd (by decide) c232)
            refine lv_iconst (v := nI 0) hx hb dX0_readRest_209 (by decide) ?_
            rw [hQ]
            exact W.zret (v := nI 0) hx hb hr (by decide) (fun t9 ht9 hW9 => ⟨⟨nI 0, (blineCount, blinesF, rplaceG_183, rkindG_184, rbeginG_185, rwordG_186, rnumberG_187, rlettersG_188, rfaultKindG_189, rfaultPlaceG_190), rfl, ⟨(lf_b_readRest_36 blineCount iv_bbk_0), iv_bbk_0, p192, p193⟩, by rw [ht9]; exact hP, va_K.moved hW9.alike hK, hD⟩, hS.F ht9⟩) hS.2.2 dX0_readRest_210
      · refine lv_iconst (v := (-1 : Int32)) hx hb dX0_readRest_154 (by decide) ?_
        refine lv_goto (tgt := 164) hx hb dX0_readRest_155 (by decide) ?_
        refine lv_istore (lv' := [(9, .int (-1 : Int32)), (8, .int (nI k172)), (0, .ref bk), (1, .ref reader), (2, .int (nI 2)), (3, .int y)]) hx hb dX0_readRest_164 hl (by decide) rfl (fun ls hl => ?_)
        refine lv_iload hx hb dX0_readRest_166 (lv_at hl 0 rfl) ?_
        refine lv_iconst (v := (-1 : Int32)) hx hb dX0_readRest_168 (by decide) ?_
        refine lv_icmp_ne (tgt := 176) hx hb dX0_readRest_169 (by decide) (fun c233 => absurd c233 (by decide)) (fun c233 => ?_)
        refine lv_iconst (v := (-1 : Int32)) hx hb dX0_readRest_172 (by decide) ?_
        refine lv_goto (tgt := 183) hx hb dX0_readRest_173 (by decide) ?_
        refine lv_istore (lv' := [(10, .int (-1 : Int32)), (9, .int (-1 : Int32)), (8, .int (nI k172)), (0, .ref bk), (1, .ref reader), (2, .int (nI 2)), (3, .int y)]) hx hb dX0_readRest_183 hl (by decide) rfl (fun ls hl => ?_)
        refine lv_iload hx hb dX0_readRest_185 (lv_at hl 0 rfl) ?_
        refine lv_iconst (v := (-1 : Int32)) hx hb dX0_readRest_187 (by decide) ?_
        refine lv_icmp_eq (tgt := 209) hx hb dX0_readRest_188 (by decide) (fun c234 => ?_) (fun c234 => absurd (by decide) c234)
        refine lv_iconst (v := nI 0) hx hb dX0_readRest_209 (by decide) ?_
        rw [hQ]
        exact W.zret (v := nI 0) hx hb hr (by decide) (fun t9 ht9 hW9 => ⟨⟨nI 0, (blineCount, blinesF, rplaceG_161, rkindG_162, rbeginG_163, rwordG_164, rnumberG_165, rlettersG_166, rfaultKindG_167, rfaultPlaceG_168), rfl, ⟨(lf_b_readRest_37 blineCount iv_bbk_0), iv_bbk_0, p170, p171⟩, by rw [ht9]; exact hP, va_K.moved hW9.alike hK, hD⟩, hS.F ht9⟩) hS.2.2 dX0_readRest_210
  · refine r_ti (nI 3) c6 ?_
    rw [c6] at hl
    refine lv_tableIn (off := 139) (tgt := 140) hx hb dX0_readRest_1 (by decide) (by decide) rfl (by decide) ?_
    refine lv_aload_n hx hb dX0_readRest_140 rfl (lv_at hl 1 rfl) ?_
    refine lv_iconst (v := nI 0) hx hb dX0_readRest_141 (by decide) ?_
    refine lv_iconst (v := nI 5) hx hb dX0_readRest_142 (by decide) ?_
    refine r_call_i (wr := [(bk, .inr (0, [.ref blines, .int (nI blineCount), .int blived, .int bwhyWrong, .int bfineLines, .int bdayThen, .int beatenThen])), (blines, .inl (ky 0, 160, .inl blinesF))]) (va_runV (As := [.int (nI 0), .int (nI 5)]) (rest := []) ⟨hx, hb, hml, hown, hts⟩ (c_r_takeNumber l dC dI ky s.heap.size adK adV reader rtape rlength rmostBytes rplace rkind rbegin rword rnumber rletters rfaultKind rfaultPlace rtapeF 0 5 iv_rreader_0 iv_rreader_1 iv_rreader_2 iv_rreader_3 (lf_b_readRest_38) (lf_b_readRest_39)) (cwV 2 hts gX0_readRest_X5_takeNumber rfl rfl rfl (by decide +kernel) ⟨(Nat.le_of_ble_eq_true rfl), (Nat.le_of_ble_eq_true rfl)⟩) (pre_UEV hE hS hA hK hP hD [2, 3] (by decide) rfl (va_recv hK hP (ci := 5) (q0 := 2) rfl rfl)) rfl rfl hl.1 rfl (lv_room (Nat.le_of_ble_eq_true rfl)) dX0_readRest_143 ⟨(Nat.le_of_ble_eq_true rfl), (Nat.le_of_ble_eq_true rfl)⟩) hP hD hS hA [2, 3] [0, 1] rfl rfl (by decide) (by decide) (fun r237 u235 H locs p236 hP hD hS => ?_)
    obtain ⟨rplaceG_238, rkindG_239, rbeginG_240, rwordG_241, rnumberG_242, rlettersG_243, rfaultKindG_244, rfaultPlaceG_245⟩ := u235
    try dsimp only at p236
    obtain ⟨p246, p247, p248⟩ := p236
    refine W.widen (k := 0) (n := 0) (Nat.le_of_ble_eq_true rfl) (Nat.le_of_ble_eq_true rfl) ?_
    have hP : va_P (dC, dI) vwCl [(bk, .inr (0, [.ref blines, .int (nI blineCount), .int blived, .int bwhyWrong, .int bfineLines, .int bdayThen, .int beatenThen])), (blines, .inl (ky 0, 160, .inl blinesF)), (reader, .inr (5, [.ref rtape, .int (nI rlength), .int (nI rmostBytes), .int (nI rplaceG_238), .int rkindG_239, .int (nI rbeginG_240), .int rwordG_241, .int rnumberG_242, .long rlettersG_243, .int rfaultKindG_244, .int rfaultPlaceG_245])), (rtape, .inl (ky 2, 940, .inl rtapeF))] H := hP
    have hD : va_D A [(bk, .inr (0, [.ref blines, .int (nI blineCount), .int blived, .int bwhyWrong, .int bfineLines, .int bdayThen, .int beatenThen])), (blines, .inl (ky 0, 160, .inl blinesF)), (reader, .inr (5, [.ref rtape, .int (nI rlength), .int (nI rmostBytes), .int (nI rplaceG_238), .int rkindG_239, .int (nI rbeginG_240), .int rwordG_241, .int rnumberG_242, .long rlettersG_243, .int rfaultKindG_244, .int rfaultPlaceG_245])), (rtape, .inl (ky 2, 940, .inl rtapeF))] := hD
    rcases p246 with rfl | ⟨k249, ⟨h251, h252⟩, rfl⟩
    · refine lv_istore (lv' := [(8, .int (-1 : Int32)), (0, .ref bk), (1, .ref reader), (2, .int (nI 3)), (3, .int y)]) hx hb dX0_readRest_146 hl (by decide) rfl (fun ls hl => ?_)
      refine lv_iload hx hb dX0_readRest_148 (lv_at hl 0 rfl) ?_
      refine lv_iconst (v := (-1 : Int32)) hx hb dX0_readRest_150 (by decide) ?_
      refine lv_icmp_ne (tgt := 158) hx hb dX0_readRest_151 (by decide) (fun c253 => absurd c253 (by decide)) (fun c253 => ?_)
      refine lv_iconst (v := (-1 : Int32)) hx hb dX0_readRest_154 (by decide) ?_
      refine lv_goto (tgt := 164) hx hb dX0_readRest_155 (by decide) ?_
      refine lv_istore (lv' := [(9, .int (-1 : Int32)), (8, .int (-1 : Int32)), (0, .ref bk), (1, .ref reader), (2, .int (nI 3)), (3, .int y)]) hx hb dX0_readRest_164 hl (by decide) rfl (fun ls hl => ?_)
      refine lv_iload hx hb dX0_readRest_166 (lv_at hl 0 rfl) ?_
      refine lv_iconst (v := (-1 : Int32)) hx hb dX0_readRest_168 (by decide) ?_
      refine lv_icmp_ne (tgt := 176) hx hb dX0_readRest_169 (by decide) (fun c254 => absurd c254 (by decide)) (fun c254 => ?_)
      refine lv_iconst (v := (-1 : Int32)) hx hb dX0_readRest_172 (by decide) ?_
      refine lv_goto (tgt := 183) hx hb dX0_readRest_173 (by decide) ?_
      refine lv_istore (lv' := [(10, .int (-1 : Int32)), (9, .int (-1 : Int32)), (8, .int (-1 : Int32)), (0, .ref bk), (1, .ref reader), (2, .int (nI 3)), (3, .int y)]) hx hb dX0_readRest_183 hl (by decide) rfl (fun ls hl => ?_)
      refine lv_iload hx hb dX0_readRest_185 (lv_at hl 0 rfl) ?_
      refine lv_iconst (v := (-1 : Int32)) hx hb dX0_readRest_187 (by decide) ?_
      refine lv_icmp_eq (tgt := 209) hx hb dX0_readRest_188 (by decide) (fun c255 => ?_) (fun c255 => absurd (by decide) c255)
      refine lv_iconst (v := nI 0) hx hb dX0_readRest_209 (by decide) ?_
      rw [hQ]
      exact W.zret (v := nI 0) hx hb hr (by decide) (fun t9 ht9 hW9 => ⟨⟨nI 0, (blineCount, blinesF, rplaceG_238, rkindG_239, rbeginG_240, rwordG_241, rnumberG_242, rlettersG_243, rfaultKindG_244, rfaultPlaceG_245), rfl, ⟨(lf_b_readRest_40 blineCount iv_bbk_0), iv_bbk_0, p247, p248⟩, by rw [ht9]; exact hP, va_K.moved hW9.alike hK, hD⟩, hS.F ht9⟩) hS.2.2 dX0_readRest_210
    · refine lv_istore (lv' := [(8, .int (nI k249)), (0, .ref bk), (1, .ref reader), (2, .int (nI 3)), (3, .int y)]) hx hb dX0_readRest_146 hl (by decide) rfl (fun ls hl => ?_)
      refine lv_iload hx hb dX0_readRest_148 (lv_at hl 0 rfl) ?_
      refine lv_iconst (v := (-1 : Int32)) hx hb dX0_readRest_150 (by decide) ?_
      refine lv_icmp_ne (tgt := 158) hx hb dX0_readRest_151 (by decide) (fun c256 => ?_) (fun c256 => ?_)
      · refine lv_aload_n hx hb dX0_readRest_158 rfl (lv_at hl 2 rfl) ?_
        refine lv_iconst (v := nI 0) hx hb dX0_readRest_159 (by decide) ?_
        refine lv_iconst (v := nI 5) hx hb dX0_readRest_160 (by decide) ?_
        refine r_call_i (wr := [(bk, .inr (0, [.ref blines, .int (nI blineCount), .int blived, .int bwhyWrong, .int bfineLines, .int bdayThen, .int beatenThen])), (blines, .inl (ky 0, 160, .inl blinesF))]) (va_runV (As := [.int (nI 0), .int (nI 5)]) (rest := []) ⟨hx, hb, hml, hown, hts⟩ (c_r_takeNumber l dC dI ky H.size adK adV reader rtape rlength rmostBytes rplaceG_238 rkindG_239 rbeginG_240 rwordG_241 rnumberG_242 rlettersG_243 rfaultKindG_244 rfaultPlaceG_245 rtapeF 0 5 iv_rreader_0 p247 iv_rreader_2 p248 (lf_b_readRest_41) (lf_b_readRest_42)) (cwV 2 hts gX0_readRest_X5_takeNumber rfl rfl rfl (by decide +kernel) ⟨(Nat.le_of_ble_eq_true rfl), (Nat.le_of_ble_eq_true rfl)⟩) (pre_UEV hE hS hA hK hP hD [2, 3] (by decide) rfl (va_recv hK hP (ci := 5) (q0 := 2) rfl rfl)) rfl rfl hl.1 rfl (lv_room (Nat.le_of_ble_eq_true rfl)) dX0_readRest_161 ⟨(Nat.le_of_ble_eq_true rfl), (Nat.le_of_ble_eq_true rfl)⟩) hP hD hS hA [2, 3] [0, 1] rfl rfl (by decide) (by decide) (fun r259 u257 H locs p258 hP hD hS => ?_)
        obtain ⟨rplaceG_260, rkindG_261, rbeginG_262, rwordG_263, rnumberG_264, rlettersG_265, rfaultKindG_266, rfaultPlaceG_267⟩ := u257
        try dsimp only at p258
        obtain ⟨p268, p269, p270⟩ := p258
        refine W.widen (k := 0) (n := 0) (Nat.le_of_ble_eq_true rfl) (Nat.le_of_ble_eq_true rfl) ?_
        have hP : va_P (dC, dI) vwCl [(bk, .inr (0, [.ref blines, .int (nI blineCount), .int blived, .int bwhyWrong, .int bfineLines, .int bdayThen, .int beatenThen])), (blines, .inl (ky 0, 160, .inl blinesF)), (reader, .inr (5, [.ref rtape, .int (nI rlength), .int (nI rmostBytes), .int (nI rplaceG_260), .int rkindG_261, .int (nI rbeginG_262), .int rwordG_263, .int rnumberG_264, .long rlettersG_265, .int rfaultKindG_266, .int rfaultPlaceG_267])), (rtape, .inl (ky 2, 940, .inl rtapeF))] H := hP
        have hD : va_D A [(bk, .inr (0, [.ref blines, .int (nI blineCount), .int blived, .int bwhyWrong, .int bfineLines, .int bdayThen, .int beatenThen])), (blines, .inl (ky 0, 160, .inl blinesF)), (reader, .inr (5, [.ref rtape, .int (nI rlength), .int (nI rmostBytes), .int (nI rplaceG_260), .int rkindG_261, .int (nI rbeginG_262), .int rwordG_263, .int rnumberG_264, .long rlettersG_265, .int rfaultKindG_266, .int rfaultPlaceG_267])), (rtape, .inl (ky 2, 940, .inl rtapeF))] := hD
        rcases p268 with rfl | ⟨k271, ⟨h273, h274⟩, rfl⟩
        · refine lv_istore (lv' := [(9, .int (-1 : Int32)), (8, .int (nI k249)), (0, .ref bk), (1, .ref reader), (2, .int (nI 3)), (3, .int y)]) hx hb dX0_readRest_164 hl (by decide) rfl (fun ls hl => ?_)
          refine lv_iload hx hb dX0_readRest_166 (lv_at hl 0 rfl) ?_
          refine lv_iconst (v := (-1 : Int32)) hx hb dX0_readRest_168 (by decide) ?_
          refine lv_icmp_ne (tgt := 176) hx hb dX0_readRest_169 (by decide) (fun c275 => absurd c275 (by decide)) (fun c275 => ?_)
          refine lv_iconst (v := (-1 : Int32)) hx hb dX0_readRest_172 (by decide) ?_
          refine lv_goto (tgt := 183) hx hb dX0_readRest_173 (by decide) ?_
          refine lv_istore (lv' := [(10, .int (-1 : Int32)), (9, .int (-1 : Int32)), (8, .int (nI k249)), (0, .ref bk), (1, .ref reader), (2, .int (nI 3)), (3, .int y)]) hx hb dX0_readRest_183 hl (by decide) rfl (fun ls hl => ?_)
          refine lv_iload hx hb dX0_readRest_185 (lv_at hl 0 rfl) ?_
          refine lv_iconst (v := (-1 : Int32)) hx hb dX0_readRest_187 (by decide) ?_
          refine lv_icmp_eq (tgt := 209) hx hb dX0_readRest_188 (by decide) (fun c276 => ?_) (fun c276 => absurd (by decide) c276)
          refine lv_iconst (v := nI 0) hx hb dX0_readRest_209 (by decide) ?_
          rw [hQ]
          exact W.zret (v := nI 0) hx hb hr (by decide) (fun t9 ht9 hW9 => ⟨⟨nI 0, (blineCount, blinesF, rplaceG_260, rkindG_261, rbeginG_262, rwordG_263, rnumberG_264, rlettersG_265, rfaultKindG_266, rfaultPlaceG_267), rfl, ⟨(lf_b_readRest_43 blineCount iv_bbk_0), iv_bbk_0, p269, p270⟩, by rw [ht9]; exact hP, va_K.moved hW9.alike hK, hD⟩, hS.F ht9⟩) hS.2.2 dX0_readRest_210
        · refine lv_istore (lv' := [(9, .int (nI k271)), (8, .int (nI k249)), (0, .ref bk), (1, .ref reader), (2, .int (nI 3)), (3, .int y)]) hx hb dX0_readRest_164 hl (by decide) rfl (fun ls hl => ?_)
          refine lv_iload hx hb dX0_readRest_166 (lv_at hl 0 rfl) ?_
          refine lv_iconst (v := (-1 : Int32)) hx hb dX0_readRest_168 (by decide) ?_
          refine lv_icmp_ne (tgt := 176) hx hb dX0_readRest_169 (by decide) (fun c277 => ?_) (fun c277 => ?_)
          · refine lv_aload_n hx hb dX0_readRest_176 rfl (lv_at hl 3 rfl) ?_
            refine lv_iconst (v := nI 1) hx hb dX0_readRest_177 (by decide) ?_
            refine lv_bipush (v := nI 9) hx hb dX0_readRest_178 (by decide) ?_
            refine r_call_i (wr := [(bk, .inr (0, [.ref blines, .int (nI blineCount), .int blived, .int bwhyWrong, .int bfineLines, .int bdayThen, .int beatenThen])), (blines, .inl (ky 0, 160, .inl blinesF))]) (va_runV (As := [.int (nI 1), .int (nI 9)]) (rest := []) ⟨hx, hb, hml, hown, hts⟩ (c_r_takeNumber l dC dI ky H.size adK adV reader rtape rlength rmostBytes rplaceG_260 rkindG_261 rbeginG_262 rwordG_263 rnumberG_264 rlettersG_265 rfaultKindG_266 rfaultPlaceG_267 rtapeF 1 9 iv_rreader_0 p269 iv_rreader_2 p270 (lf_b_readRest_44) (lf_b_readRest_45)) (cwV 2 hts gX0_readRest_X5_takeNumber rfl rfl rfl (by decide +kernel) ⟨(Nat.le_of_ble_eq_true rfl), (Nat.le_of_ble_eq_true rfl)⟩) (pre_UEV hE hS hA hK hP hD [2, 3] (by decide) rfl (va_recv hK hP (ci := 5) (q0 := 2) rfl rfl)) rfl rfl hl.1 rfl (lv_room (Nat.le_of_ble_eq_true rfl)) dX0_readRest_180 ⟨(Nat.le_of_ble_eq_true rfl), (Nat.le_of_ble_eq_true rfl)⟩) hP hD hS hA [2, 3] [0, 1] rfl rfl (by decide) (by decide) (fun r280 u278 H locs p279 hP hD hS => ?_)
            obtain ⟨rplaceG_281, rkindG_282, rbeginG_283, rwordG_284, rnumberG_285, rlettersG_286, rfaultKindG_287, rfaultPlaceG_288⟩ := u278
            try dsimp only at p279
            obtain ⟨p289, p290, p291⟩ := p279
            refine W.widen (k := 0) (n := 0) (Nat.le_of_ble_eq_true rfl) (Nat.le_of_ble_eq_true rfl) ?_
            have hP : va_P (dC, dI) vwCl [(bk, .inr (0, [.ref blines, .int (nI blineCount), .int blived, .int bwhyWrong, .int bfineLines, .int bdayThen, .int beatenThen])), (blines, .inl (ky 0, 160, .inl blinesF)), (reader, .inr (5, [.ref rtape, .int (nI rlength), .int (nI rmostBytes), .int (nI rplaceG_281), .int rkindG_282, .int (nI rbeginG_283), .int rwordG_284, .int rnumberG_285, .long rlettersG_286, .int rfaultKindG_287, .int rfaultPlaceG_288])), (rtape, .inl (ky 2, 940, .inl rtapeF))] H := hP
            have hD : va_D A [(bk, .inr (0, [.ref blines, .int (nI blineCount), .int blived, .int bwhyWrong, .int bfineLines, .int bdayThen, .int beatenThen])), (blines, .inl (ky 0, 160, .inl blinesF)), (reader, .inr (5, [.ref rtape, .int (nI rlength), .int (nI rmostBytes), .int (nI rplaceG_281), .int rkindG_282, .int (nI rbeginG_283), .int rwordG_284, .int rnumberG_285, .long rlettersG_286, .int rfaultKindG_287, .int rfaultPlaceG_288])), (rtape, .inl (ky 2, 940, .inl rtapeF))] := hD
            rcases p289 with rfl | ⟨k292, ⟨h294, h295⟩, rfl⟩
            · refine lv_istore (lv' := [(10, .int (-1 : Int32)), (9, .int (nI k271)), (8, .int (nI k249)), (0, .ref bk), (1, .ref reader), (2, .int (nI 3)), (3, .int y)]) hx hb dX0_readRest_183 hl (by decide) rfl (fun ls hl => ?_)
              refine lv_iload hx hb dX0_readRest_185 (lv_at hl 0 rfl) ?_
              refine lv_iconst (v := (-1 : Int32)) hx hb dX0_readRest_187 (by decide) ?_
              refine lv_icmp_eq (tgt := 209) hx hb dX0_readRest_188 (by decide) (fun c296 => ?_) (fun c296 => absurd (by decide) c296)
              refine lv_iconst (v := nI 0) hx hb dX0_readRest_209 (by decide) ?_
              rw [hQ]
              exact W.zret (v := nI 0) hx hb hr (by decide) (fun t9 ht9 hW9 => ⟨⟨nI 0, (blineCount, blinesF, rplaceG_281, rkindG_282, rbeginG_283, rwordG_284, rnumberG_285, rlettersG_286, rfaultKindG_287, rfaultPlaceG_288), rfl, ⟨(lf_b_readRest_46 blineCount iv_bbk_0), iv_bbk_0, p290, p291⟩, by rw [ht9]; exact hP, va_K.moved hW9.alike hK, hD⟩, hS.F ht9⟩) hS.2.2 dX0_readRest_210
            · refine lv_istore (lv' := [(10, .int (nI k292)), (9, .int (nI k271)), (8, .int (nI k249)), (0, .ref bk), (1, .ref reader), (2, .int (nI 3)), (3, .int y)]) hx hb dX0_readRest_183 hl (by decide) rfl (fun ls hl => ?_)
              refine lv_iload hx hb dX0_readRest_185 (lv_at hl 0 rfl) ?_
              refine lv_iconst (v := (-1 : Int32)) hx hb dX0_readRest_187 (by decide) ?_
              refine lv_icmp_eq (tgt := 209) hx hb dX0_readRest_188 (by decide) (fun c297 => ?_) (fun c297 => ?_)
              · refine lv_iconst (v := nI 0) hx hb dX0_readRest_209 (by decide) ?_
                rw [hQ]
                exact W.zret (v := nI 0) hx hb hr (by decide) (fun t9 ht9 hW9 => ⟨⟨nI 0, (blineCount, blinesF, rplaceG_281, rkindG_282, rbeginG_283, rwordG_284, rnumberG_285, rlettersG_286, rfaultKindG_287, rfaultPlaceG_288), rfl, ⟨(lf_b_readRest_47 blineCount iv_bbk_0), iv_bbk_0, p290, p291⟩, by rw [ht9]; exact hP, va_K.moved hW9.alike hK, hD⟩, hS.F ht9⟩) hS.2.2 dX0_readRest_210
              · refine lv_aload_n hx hb dX0_readRest_191 rfl (lv_at hl 3 rfl) ?_
                refine lv_iload_n hx hb dX0_readRest_192 rfl (lv_at hl 5 rfl) ?_
                refine lv_iload hx hb dX0_readRest_193 (lv_at hl 2 rfl) ?_
                refine lv_iload hx hb dX0_readRest_195 (lv_at hl 1 rfl) ?_
                refine lv_iload hx hb dX0_readRest_197 (lv_at hl 0 rfl) ?_
                refine r_call_i (wr := [(reader, .inr (5, [.ref rtape, .int (nI rlength), .int (nI rmostBytes), .int (nI rplaceG_281), .int rkindG_282, .int (nI rbeginG_283), .int rwordG_284, .int rnumberG_285, .long rlettersG_286, .int rfaultKindG_287, .int rfaultPlaceG_288])), (rtape, .inl (ky 2, 940, .inl rtapeF))]) (va_runV (As := [.int (nI 3), .int (nI k249), .int (nI k271), .int (nI k292)]) (rest := []) ⟨hx, hb, hml, hown, hts⟩ (c_b_put l dC dI ky H.size bk blines blineCount blived bwhyWrong bfineLines bdayThen beatenThen blinesF (nI 3) (nI k249) (nI k271) (nI k292) iv_bbk_0) (cwV 4 hts gX0_readRest_X0_put rfl rfl rfl (by decide +kernel) ⟨(Nat.le_of_ble_eq_true rfl), (Nat.le_of_ble_eq_true rfl)⟩) (pre_UV hK hP hD [0, 1] (by decide) rfl (ci := 0) (q0 := 0) rfl rfl) rfl rfl hl.1 rfl (lv_room (Nat.le_of_ble_eq_true rfl)) dX0_readRest_199 ⟨(Nat.le_of_ble_eq_true rfl), (Nat.le_of_ble_eq_true rfl)⟩) hP hD hS hA [0, 1] [2, 3] rfl rfl (by decide) (by decide) (fun r300 u298 H locs p299 hP hD hS => ?_)
                obtain ⟨blineCountG_301, blinesG_302⟩ := u298
                try dsimp only at p299
                obtain ⟨p303, p304⟩ := p299
                refine W.widen (k := 0) (n := 0) (Nat.le_of_ble_eq_true rfl) (Nat.le_of_ble_eq_true rfl) ?_
                have hP : va_P (dC, dI) vwCl [(reader, .inr (5, [.ref rtape, .int (nI rlength), .int (nI rmostBytes), .int (nI rplaceG_281), .int rkindG_282, .int (nI rbeginG_283), .int rwordG_284, .int rnumberG_285, .long rlettersG_286, .int rfaultKindG_287, .int rfaultPlaceG_288])), (rtape, .inl (ky 2, 940, .inl rtapeF)), (bk, .inr (0, [.ref blines, .int (nI blineCountG_301), .int blived, .int bwhyWrong, .int bfineLines, .int bdayThen, .int beatenThen])), (blines, .inl (ky 0, 160, .inl blinesG_302))] H := hP
                have hD : va_D A [(reader, .inr (5, [.ref rtape, .int (nI rlength), .int (nI rmostBytes), .int (nI rplaceG_281), .int rkindG_282, .int (nI rbeginG_283), .int rwordG_284, .int rnumberG_285, .long rlettersG_286, .int rfaultKindG_287, .int rfaultPlaceG_288])), (rtape, .inl (ky 2, 940, .inl rtapeF)), (bk, .inr (0, [.ref blines, .int (nI blineCountG_301), .int blived, .int bwhyWrong, .int bfineLines, .int bdayThen, .int beatenThen])), (blines, .inl (ky 0, 160, .inl blinesG_302))] := hD
                rcases p303 with ⟨rfl, t305⟩ | ⟨rfl, t306⟩
                · refine lv_if_eq (tgt := 209) hx hb dX0_readRest_202 (by decide) (fun c307 => absurd c307 (by decide)) (fun c307 => ?_)
                  refine lv_iconst (v := nI 1) hx hb dX0_readRest_205 (by decide) ?_
                  refine lv_goto (tgt := 210) hx hb dX0_readRest_206 (by decide) ?_
                  rw [hQ]
                  have hP9 := hP.sub (ws' := [(bk, .inr (0, [.ref blines, .int (nI blineCountG_301), .int blived, .int bwhyWrong, .int bfineLines, .int bdayThen, .int beatenThen])), (blines, .inl (ky 0, 160, .inl blinesG_302)), (reader, .inr (5, [.ref rtape, .int (nI rlength), .int (nI rmostBytes), .int (nI rplaceG_281), .int rkindG_282, .int (nI rbeginG_283), .int rwordG_284, .int rnumberG_285, .long rlettersG_286, .int rfaultKindG_287, .int rfaultPlaceG_288])), (rtape, .inl (ky 2, 940, .inl rtapeF))]) [2, 3, 0, 1] rfl
                  have hD9 := hD.sub (ws' := [(bk, .inr (0, [.ref blines, .int (nI blineCountG_301), .int blived, .int bwhyWrong, .int bfineLines, .int bdayThen, .int beatenThen])), (blines, .inl (ky 0, 160, .inl blinesG_302)), (reader, .inr (5, [.ref rtape, .int (nI rlength), .int (nI rmostBytes), .int (nI rplaceG_281), .int rkindG_282, .int (nI rbeginG_283), .int rwordG_284, .int rnumberG_285, .long rlettersG_286, .int rfaultKindG_287, .int rfaultPlaceG_288])), (rtape, .inl (ky 2, 940, .inl rtapeF))]) [2, 3, 0, 1] (by decide) rfl
                  exact W.zret (v := nI 1) hx hb hr (by decide) (fun t9 ht9 hW9 => ⟨⟨nI 1, (blineCountG_301, blinesG_302, rplaceG_281, rkindG_282, rbeginG_283, rwordG_284, rnumberG_285, rlettersG_286, rfaultKindG_287, rfaultPlaceG_288), rfl, ⟨(lf_b_readRest_48 blineCount blineCountG_301 iv_bbk_0 p304 t305), p304, p290, p291⟩, by rw [ht9]; exact hP9, va_K.moved hW9.alike hK, hD9⟩, hS.F ht9⟩) hS.2.2 dX0_readRest_210
                · refine lv_if_eq (tgt := 209) hx hb dX0_readRest_202 (by decide) (fun c308 => ?_) (fun c308 => absurd (by decide) c308)
                  refine lv_iconst (v := nI 0) hx hb dX0_readRest_209 (by decide) ?_
                  rw [hQ]
                  have hP9 := hP.sub (ws' := [(bk, .inr (0, [.ref blines, .int (nI blineCountG_301), .int blived, .int bwhyWrong, .int bfineLines, .int bdayThen, .int beatenThen])), (blines, .inl (ky 0, 160, .inl blinesG_302)), (reader, .inr (5, [.ref rtape, .int (nI rlength), .int (nI rmostBytes), .int (nI rplaceG_281), .int rkindG_282, .int (nI rbeginG_283), .int rwordG_284, .int rnumberG_285, .long rlettersG_286, .int rfaultKindG_287, .int rfaultPlaceG_288])), (rtape, .inl (ky 2, 940, .inl rtapeF))]) [2, 3, 0, 1] rfl
                  have hD9 := hD.sub (ws' := [(bk, .inr (0, [.ref blines, .int (nI blineCountG_301), .int blived, .int bwhyWrong, .int bfineLines, .int bdayThen, .int beatenThen])), (blines, .inl (ky 0, 160, .inl blinesG_302)), (reader, .inr (5, [.ref rtape, .int (nI rlength), .int (nI rmostBytes), .int (nI rplaceG_281), .int rkindG_282, .int (nI rbeginG_283), .int rwordG_284, .int rnumberG_285, .long rlettersG_286, .int rfaultKindG_287, .int rfaultPlaceG_288])), (rtape, .inl (ky 2, 940, .inl rtapeF))]) [2, 3, 0, 1] (by decide) rfl
                  exact W.zret (v := nI 0) hx hb hr (by decide) (fun t9 ht9 hW9 => ⟨⟨nI 0, (blineCountG_301, blinesG_302, rplaceG_281, rkindG_282, rbeginG_283, rwordG_284, rnumberG_285, rlettersG_286, rfaultKindG_287, rfaultPlaceG_288), rfl, ⟨(lf_b_readRest_49 blineCount blineCountG_301 iv_bbk_0 p304 t306), p304, p290, p291⟩, by rw [ht9]; exact hP9, va_K.moved hW9.alike hK, hD9⟩, hS.F ht9⟩) hS.2.2 dX0_readRest_210
          · refine lv_iconst (v := (-1 : Int32)) hx hb dX0_readRest_172 (by decide) ?_
            refine lv_goto (tgt := 183) hx hb dX0_readRest_173 (by decide) ?_
            refine lv_istore (lv' := [(10, .int (-1 : Int32)), (9, .int (nI k271)), (8, .int (nI k249)), (0, .ref bk), (1, .ref reader), (2, .int (nI 3)), (3, .int y)]) hx hb dX0_readRest_183 hl (by decide) rfl (fun ls hl => ?_)
            refine lv_iload hx hb dX0_readRest_185 (lv_at hl 0 rfl) ?_
            refine lv_iconst (v := (-1 : Int32)) hx hb dX0_readRest_187 (by decide) ?_
            refine lv_icmp_eq (tgt := 209) hx hb dX0_readRest_188 (by decide) (fun c309 => ?_) (fun c309 => absurd (by decide) c309)
            refine lv_iconst (v := nI 0) hx hb dX0_readRest_209 (by decide) ?_
            rw [hQ]
            exact W.zret (v := nI 0) hx hb hr (by decide) (fun t9 ht9 hW9 => ⟨⟨nI 0, (blineCount, blinesF, rplaceG_260, rkindG_261, rbeginG_262, rwordG_263, rnumberG_264, rlettersG_265, rfaultKindG_266, rfaultPlaceG_267), rfl, ⟨(lf_b_readRest_50 blineCount iv_bbk_0), iv_bbk_0, p269, p270⟩, by rw [ht9]; exact hP, va_K.moved hW9.alike hK, hD⟩, hS.F ht9⟩) hS.2.2 dX0_readRest_210
      · refine lv_iconst (v := (-1 : Int32)) hx hb dX0_readRest_154 (by decide) ?_
        refine lv_goto (tgt := 164) hx hb dX0_readRest_155 (by decide) ?_
        refine lv_istore (lv' := [(9, .int (-1 : Int32)), (8, .int (nI k249)), (0, .ref bk), (1, .ref reader), (2, .int (nI 3)), (3, .int y)]) hx hb dX0_readRest_164 hl (by decide) rfl (fun ls hl => ?_)
        refine lv_iload hx hb dX0_readRest_166 (lv_at hl 0 rfl) ?_
        refine lv_iconst (v := (-1 : Int32)) hx hb dX0_readRest_168 (by decide) ?_
        refine lv_icmp_ne (tgt := 176) hx hb dX0_readRest_169 (by decide) (fun c310 => absurd c310 (by decide)) (fun c310 => ?_)
        refine lv_iconst (v := (-1 : Int32)) hx hb dX0_readRest_172 (by decide) ?_
        refine lv_goto (tgt := 183) hx hb dX0_readRest_173 (by decide) ?_
        refine lv_istore (lv' := [(10, .int (-1 : Int32)), (9, .int (-1 : Int32)), (8, .int (nI k249)), (0, .ref bk), (1, .ref reader), (2, .int (nI 3)), (3, .int y)]) hx hb dX0_readRest_183 hl (by decide) rfl (fun ls hl => ?_)
        refine lv_iload hx hb dX0_readRest_185 (lv_at hl 0 rfl) ?_
        refine lv_iconst (v := (-1 : Int32)) hx hb dX0_readRest_187 (by decide) ?_
        refine lv_icmp_eq (tgt := 209) hx hb dX0_readRest_188 (by decide) (fun c311 => ?_) (fun c311 => absurd (by decide) c311)
        refine lv_iconst (v := nI 0) hx hb dX0_readRest_209 (by decide) ?_
        rw [hQ]
        exact W.zret (v := nI 0) hx hb hr (by decide) (fun t9 ht9 hW9 => ⟨⟨nI 0, (blineCount, blinesF, rplaceG_238, rkindG_239, rbeginG_240, rwordG_241, rnumberG_242, rlettersG_243, rfaultKindG_244, rfaultPlaceG_245), rfl, ⟨(lf_b_readRest_51 blineCount iv_bbk_0), iv_bbk_0, p247, p248⟩, by rw [ht9]; exact hP, va_K.moved hW9.alike hK, hD⟩, hS.F ht9⟩) hS.2.2 dX0_readRest_210
set_option maxRecDepth 20000 in
theorem lf_b_read_1   : (nI 1) = nI 0 ∨ (nI 1) = nI 1 := by
  try have k_0 := ia_n 1 (by first | decide | omega)
  try have k_1 := ia_n 0 (by first | decide | omega)
  try simp only [ia_lt, ia_le, ia_eq, ia_m1, ia_0, ia_1, ne_eq, true_and, and_true, false_and, and_false, or_false, false_or, or_true, true_or, not_true_eq_false, not_false_eq_true] at *
  all_goals omega
set_option maxRecDepth 20000 in
theorem lf_b_read_2   : (nI 1) = nI 0 ∨ (nI 1) = nI 1 := by
  try have k_0 := ia_n 1 (by first | decide | omega)
  try have k_1 := ia_n 0 (by first | decide | omega)
  try simp only [ia_lt, ia_le, ia_eq, ia_m1, ia_0, ia_1, ne_eq, true_and, and_true, false_and, and_false, or_false, false_or, or_true, true_or, not_true_eq_false, not_false_eq_true] at *
  all_goals omega
set_option maxRecDepth 20000 in
theorem lf_b_read_3 (rlength : Nat) (rplace : Nat) (k17 : Nat) (rplaceG_49 : Nat) (rplaceG_62 : Nat) (rplaceG_80 : Nat) (iv_rreader_0 : rlength ≤ 940) (iv_rreader_1 : rplace ≤ rlength) (j26 : k17 ≤ 940) (j28 : k17 ≤ rlength) (p36 : True) (p38 : True) (p55 : rplaceG_49 ≤ rlength) (p72 : rplaceG_62 ≤ rlength) (p89 : rplaceG_80 ≤ rlength) : rplaceG_80 ≤ 940 := by
  try simp only [ia_lt, ia_le, ia_eq, ia_m1, ia_0, ia_1, ne_eq, true_and, and_true, false_and, and_false, or_false, false_or, or_true, true_or, not_true_eq_false, not_false_eq_true] at *
  all_goals omega
set_option maxRecDepth 20000 in
theorem lf_b_read_4 (k15 : Nat) (n30 : Nat) (blineCountG_60 : Nat) (j25 : k15 ≤ 40) (hm32 : 41 - k15 < n30 + 1) (c33 : k15 ≤ 40) (p36 : True) (p38 : True) (c46 : k15 < 40) (p71 : blineCountG_60 ≤ 40) (t74 : blineCountG_60 = k15 + 1) : 41 - blineCountG_60 < n30 := by
  try simp only [ia_lt, ia_le, ia_eq, ia_m1, ia_0, ia_1, ne_eq, true_and, and_true, false_and, and_false, or_false, false_or, or_true, true_or, not_true_eq_false, not_false_eq_true] at *
  all_goals omega
set_option maxRecDepth 20000 in
theorem lf_b_read_5  (p36 : True) (p38 : True) : (nI 0) = nI 0 ∨ (nI 0) = nI 1 := by
  try have k_0 := ia_n 0 (by first | decide | omega)
  try have k_1 := ia_n 1 (by first | decide | omega)
  try simp only [ia_lt, ia_le, ia_eq, ia_m1, ia_0, ia_1, ne_eq, true_and, and_true, false_and, and_false, or_false, false_or, or_true, true_or, not_true_eq_false, not_false_eq_true] at *
  all_goals omega
set_option maxRecDepth 20000 in
theorem lf_b_read_6  (p36 : True) (p38 : True) (t75 : True) : (nI 0) = nI 0 ∨ (nI 0) = nI 1 := by
  try have k_0 := ia_n 0 (by first | decide | omega)
  try have k_1 := ia_n 1 (by first | decide | omega)
  try simp only [ia_lt, ia_le, ia_eq, ia_m1, ia_0, ia_1, ne_eq, true_and, and_true, false_and, and_false, or_false, false_or, or_true, true_or, not_true_eq_false, not_false_eq_true] at *
  all_goals omega
set_option maxRecDepth 20000 in
theorem lf_b_read_7  (p36 : True) (p38 : True) : (nI 0) = nI 0 ∨ (nI 0) = nI 1 := by
  try have k_0 := ia_n 0 (by first | decide | omega)
  try have k_1 := ia_n 1 (by first | decide | omega)
  try simp only [ia_lt, ia_le, ia_eq, ia_m1, ia_0, ia_1, ne_eq, true_and, and_true, false_and, and_false, or_false, false_or, or_true, true_or, not_true_eq_false, not_false_eq_true] at *
  all_goals omega
set_option maxRecDepth 20000 in
theorem lf_b_read_8  (p36 : True) (p38 : True) : (nI 0) = nI 0 ∨ (nI 0) = nI 1 := by
  try have k_0 := ia_n 0 (by first | decide | omega)
  try have k_1 := ia_n 1 (by first | decide | omega)
  try simp only [ia_lt, ia_le, ia_eq, ia_m1, ia_0, ia_1, ne_eq, true_and, and_true, false_and, and_false, or_false, false_or, or_true, true_or, not_true_eq_false, not_false_eq_true] at *
  all_goals omega
set_option maxRecDepth 20000 in
theorem lf_b_read_9  (p36 : True) (p38 : True) : (nI 0) = nI 0 ∨ (nI 0) = nI 1 := by
  try have k_0 := ia_n 0 (by first | decide | omega)
  try have k_1 := ia_n 1 (by first | decide | omega)
  try simp only [ia_lt, ia_le, ia_eq, ia_m1, ia_0, ia_1, ne_eq, true_and, and_true, false_and, and_false, or_false, false_or, or_true, true_or, not_true_eq_false, not_false_eq_true] at *
  all_goals omega
set_option maxRecDepth 20000 in
theorem lf_b_read_10  (p36 : True) (p38 : True) : -1 ≤ (nI 0).toInt := by
  try have k_0 := ia_n 0 (by first | decide | omega)
  try simp only [ia_lt, ia_le, ia_eq, ia_m1, ia_0, ia_1, ne_eq, true_and, and_true, false_and, and_false, or_false, false_or, or_true, true_or, not_true_eq_false, not_false_eq_true] at *
  all_goals omega
set_option maxRecDepth 20000 in
theorem lf_b_read_11  (p36 : True) (p38 : True) : (nI 0).toInt ≤ 5 := by
  try have k_0 := ia_n 0 (by first | decide | omega)
  try simp only [ia_lt, ia_le, ia_eq, ia_m1, ia_0, ia_1, ne_eq, true_and, and_true, false_and, and_false, or_false, false_or, or_true, true_or, not_true_eq_false, not_false_eq_true] at *
  all_goals omega
set_option maxRecDepth 20000 in
theorem lf_b_read_12  (p36 : True) (p38 : True) : -1 ≤ (-1 : Int32).toInt := by
  try simp only [ia_lt, ia_le, ia_eq, ia_m1, ia_0, ia_1, ne_eq, true_and, and_true, false_and, and_false, or_false, false_or, or_true, true_or, not_true_eq_false, not_false_eq_true] at *
  all_goals omega
set_option maxRecDepth 20000 in
theorem lf_b_read_13  (p36 : True) (p38 : True) : (-1 : Int32).toInt ≤ 5 := by
  try simp only [ia_lt, ia_le, ia_eq, ia_m1, ia_0, ia_1, ne_eq, true_and, and_true, false_and, and_false, or_false, false_or, or_true, true_or, not_true_eq_false, not_false_eq_true] at *
  all_goals omega
set_option maxRecDepth 20000 in
theorem lf_b_read_14 (boats : Nat) (k113 : Nat) (iv_a_5 : boats ≤ 6) (p36 : True) (p38 : True) (h115 : k113 < boats) : -1 ≤ (nI k113).toInt := by
  try have k_0 := ia_n k113 (by first | decide | omega)
  try simp only [ia_lt, ia_le, ia_eq, ia_m1, ia_0, ia_1, ne_eq, true_and, and_true, false_and, and_false, or_false, false_or, or_true, true_or, not_true_eq_false, not_false_eq_true] at *
  all_goals omega
set_option maxRecDepth 20000 in
theorem lf_b_read_15 (boats : Nat) (k113 : Nat) (iv_a_5 : boats ≤ 6) (p36 : True) (p38 : True) (h115 : k113 < boats) : (nI k113).toInt ≤ 5 := by
  try have k_0 := ia_n k113 (by first | decide | omega)
  try simp only [ia_lt, ia_le, ia_eq, ia_m1, ia_0, ia_1, ne_eq, true_and, and_true, false_and, and_false, or_false, false_or, or_true, true_or, not_true_eq_false, not_false_eq_true] at *
  all_goals omega
set_option maxRecDepth 20000 in
theorem lf_b_read_16   : 0 ≤ 40 := by
  try simp only [ia_lt, ia_le, ia_eq, ia_m1, ia_0, ia_1, ne_eq, true_and, and_true, false_and, and_false, or_false, false_or, or_true, true_or, not_true_eq_false, not_false_eq_true] at *
  all_goals omega
set_option maxRecDepth 20000 in
theorem lf_b_read_17 (rlength : Nat) (rplace : Nat) (iv_rreader_0 : rlength ≤ 940) (iv_rreader_1 : rplace ≤ rlength) : rplace ≤ 940 := by
  try simp only [ia_lt, ia_le, ia_eq, ia_m1, ia_0, ia_1, ne_eq, true_and, and_true, false_and, and_false, or_false, false_or, or_true, true_or, not_true_eq_false, not_false_eq_true] at *
  all_goals omega
set_option maxHeartbeats 4000000 in
set_option maxRecDepth 100000 in
theorem c_b_read (l : Launch) (dC : Nat → ClassId) (dI : Nat → Nat → Nat) (ky : Nat → ClassId) (sz : Nat) (adK : Nat → Nat) (adV : Nat → Nat) (bk : Nat) (blines : Nat) (blineCount : Nat) (blived : Int32) (bwhyWrong : Int32) (bfineLines : Int32) (bdayThen : Int32) (beatenThen : Int32) (blinesF : Nat → Int32) (reader : Nat) (rtape : Nat) (rlength : Nat) (rmostBytes : Nat) (rplace : Nat) (rkind : Int32) (rbegin : Nat) (rword : Int32) (rnumber : Int32) (rletters : Int64) (rfaultKind : Int32) (rfaultPlace : Int32) (rtapeF : Nat → Int32) (a : Nat) (wide : Nat) (high : Nat) (heat : Int32) (cools : Int32) (skinHeat : Int32) (today : Int32) (stirs : Int32) (steps : Int32) (lumps : Nat) (boats : Nat) (thickness : Nat) (lumpNames : Nat) (lumpCells : Nat) (boatNames : Nat) (boatCells : Nat) (loads : Nat) (spoons : Nat) (spoonsLeft : Nat) (depths : Nat) (boatNamesF : Nat → Int64) (iv_bbk_0 : blineCount ≤ 40) (iv_rreader_0 : rlength ≤ 940) (iv_rreader_1 : rplace ≤ rlength) (iv_rreader_2 : rmostBytes ≤ 900) (iv_rreader_3 : rbegin ≤ 940) (iv_a_0 : 2 ≤ wide) (iv_a_1 : wide ≤ 6) (iv_a_2 : 2 ≤ high) (iv_a_3 : high ≤ 6) (iv_a_4 : lumps ≤ 6) (iv_a_5 : boats ≤ 6) : Met l yX0_read wsX0_read ({ frames := 8, cells := 0, slots := 0, locals := 185 }) (PcUE dC dI ky adK adV [.ref bk, .ref reader, .ref a] [(bk, .inr (0, [.ref blines, .int (nI blineCount), .int blived, .int bwhyWrong, .int bfineLines, .int bdayThen, .int beatenThen])), (blines, .inl (ky 0, 160, .inl blinesF)), (reader, .inr (5, [.ref rtape, .int (nI rlength), .int (nI rmostBytes), .int (nI rplace), .int rkind, .int (nI rbegin), .int rword, .int rnumber, .long rletters, .int rfaultKind, .int rfaultPlace])), (rtape, .inl (ky 2, 940, .inl rtapeF)), (a, .inr (7, [.int (nI wide), .int (nI high), .int heat, .int cools, .int skinHeat, .int today, .int stirs, .int steps, .int (nI lumps), .int (nI boats), .ref thickness, .ref lumpNames, .ref lumpCells, .ref boatNames, .ref boatCells, .ref loads, .ref spoons, .ref spoonsLeft, .ref depths])), (boatNames, .inl (ky 1, 6, .inr (.inl boatNamesF)))] sz) (va_Qi (fun (r : Int32) (u : Nat × (Nat → Int32) × Nat × Int32 × Nat × Int32 × Int32 × Int64 × Int32 × Int32) => match u with | (blineCountG, blinesG, rplaceG, rkindG, rbeginG, rwordG, rnumberG, rlettersG, rfaultKindG, rfaultPlaceG) => (r = nI 0 ∨ r = nI 1) ∧ (blineCountG ≤ 40) ∧ (rplaceG ≤ rlength) ∧ (rbeginG ≤ 940)) (BU dC dI ky (fun (u : Nat × (Nat → Int32) × Nat × Int32 × Nat × Int32 × Int32 × Int64 × Int32 × Int32) => match u with | (blineCountG, blinesG, rplaceG, rkindG, rbeginG, rwordG, rnumberG, rlettersG, rfaultKindG, rfaultPlaceG) => [(bk, .inr (0, [.ref blines, .int (nI blineCountG), .int blived, .int bwhyWrong, .int bfineLines, .int bdayThen, .int beatenThen])), (blines, .inl (ky 0, 160, .inl blinesG)), (reader, .inr (5, [.ref rtape, .int (nI rlength), .int (nI rmostBytes), .int (nI rplaceG), .int rkindG, .int (nI rbeginG), .int rwordG, .int rnumberG, .long rlettersG, .int rfaultKindG, .int rfaultPlaceG])), (rtape, .inl (ky 2, 940, .inl rtapeF)), (a, .inr (7, [.int (nI wide), .int (nI high), .int heat, .int cools, .int skinHeat, .int today, .int stirs, .int steps, .int (nI lumps), .int (nI boats), .ref thickness, .ref lumpNames, .ref lumpCells, .ref boatNames, .ref boatCells, .ref loads, .ref spoons, .ref spoonsLeft, .ref depths])), (boatNames, .inl (ky 1, 6, .inr (.inl boatNamesF)))]) (va_A [(bk, .inr (0, [.ref blines, .int (nI blineCount), .int blived, .int bwhyWrong, .int bfineLines, .int bdayThen, .int beatenThen])), (blines, .inl (ky 0, 160, .inl blinesF)), (reader, .inr (5, [.ref rtape, .int (nI rlength), .int (nI rmostBytes), .int (nI rplace), .int rkind, .int (nI rbegin), .int rword, .int rnumber, .long rletters, .int rfaultKind, .int rfaultPlace])), (rtape, .inl (ky 2, 940, .inl rtapeF)), (a, .inr (7, [.int (nI wide), .int (nI high), .int heat, .int cools, .int skinHeat, .int today, .int stirs, .int steps, .int (nI lumps), .int (nI boats), .ref thickness, .ref lumpNames, .ref lumpCells, .ref boatNames, .ref boatCells, .ref loads, .ref spoons, .ref spoonsLeft, .ref depths])), (boatNames, .inl (ky 1, 6, .inr (.inl boatNamesF)))] sz)) (va_A [(bk, .inr (0, [.ref blines, .int (nI blineCount), .int blived, .int bwhyWrong, .int bfineLines, .int bdayThen, .int beatenThen])), (blines, .inl (ky 0, 160, .inl blinesF)), (reader, .inr (5, [.ref rtape, .int (nI rlength), .int (nI rmostBytes), .int (nI rplace), .int rkind, .int (nI rbegin), .int rword, .int rnumber, .long rletters, .int rfaultKind, .int rfaultPlace])), (rtape, .inl (ky 2, 940, .inl rtapeF)), (a, .inr (7, [.int (nI wide), .int (nI high), .int heat, .int cools, .int skinHeat, .int today, .int stirs, .int steps, .int (nI lumps), .int (nI boats), .ref thickness, .ref lumpNames, .ref lumpCells, .ref boatNames, .ref boatCells, .ref loads, .ref spoons, .ref spoonsLeft, .ref depths])), (boatNames, .inl (ky 1, 6, .inr (.inl boatNamesF)))] sz)) 0 0 (va_A [(bk, .inr (0, [.ref blines, .int (nI blineCount), .int blived, .int bwhyWrong, .int bfineLines, .int bdayThen, .int beatenThen])), (blines, .inl (ky 0, 160, .inl blinesF)), (reader, .inr (5, [.ref rtape, .int (nI rlength), .int (nI rmostBytes), .int (nI rplace), .int rkind, .int (nI rbegin), .int rword, .int rnumber, .long rletters, .int rfaultKind, .int rfaultPlace])), (rtape, .inl (ky 2, 940, .inl rtapeF)), (a, .inr (7, [.int (nI wide), .int (nI high), .int heat, .int cools, .int skinHeat, .int today, .int stirs, .int steps, .int (nI lumps), .int (nI boats), .ref thickness, .ref lumpNames, .ref lumpCells, .ref boatNames, .ref boatCells, .ref loads, .ref spoons, .ref spoonsLeft, .ref depths])), (boatNames, .inl (ky 1, 6, .inr (.inl boatNamesF)))] sz) := by
  refine Met.ofW (cc := cX0_read) (maxL := 5) (ret := (some .boolean)) (by decide) rfl ?_
  intro p e s m args below meth c s₁ B hml hv
  obtain ⟨rfl, hsz, hP, hK, hD0, hE⟩ := hv
  have hx := B.exec
  have hb := B.bytes
  have hr := B.returns
  have hts := atoms_spec (ws := wsX0_read) B.pre
  have hown : s.vm.findClass RX0 = some m.cls := findClass_of_methodNamed B.named
  have hlocks := B.notSynchronized
  have hin0 : ∀ w ∈ u_ws RX0 TX0 7, w ∈ wsX0_read := by decide +kernel
  have hin5 : ∀ w ∈ u_ws RX5 TX5 11, w ∈ wsX0_read := by decide +kernel
  subst hsz
  have hD := hD0.self (sz := s.heap.size)
  generalize hAe : va_A [(bk, .inr (0, [.ref blines, .int (nI blineCount), .int blived, .int bwhyWrong, .int bfineLines, .int bdayThen, .int beatenThen])), (blines, .inl (ky 0, 160, .inl blinesF)), (reader, .inr (5, [.ref rtape, .int (nI rlength), .int (nI rmostBytes), .int (nI rplace), .int rkind, .int (nI rbegin), .int rword, .int rnumber, .long rletters, .int rfaultKind, .int rfaultPlace])), (rtape, .inl (ky 2, 940, .inl rtapeF)), (a, .inr (7, [.int (nI wide), .int (nI high), .int heat, .int cools, .int skinHeat, .int today, .int stirs, .int steps, .int (nI lumps), .int (nI boats), .ref thickness, .ref lumpNames, .ref lumpCells, .ref boatNames, .ref boatCells, .ref loads, .ref spoons, .ref spoonsLeft, .ref depths])), (boatNames, .inl (ky 1, 6, .inr (.inl boatNamesF)))] s.heap.size = A at hD hE ⊢
  have hA : ∀ q : Nat, s.heap.size ≤ q → A q := fun q h => by rw [← hAe]; exact Or.inr h
  have hS : va_S A s.heap s.heap [] := va_S.rf
  have hl := lv_entry ([.ref bk, .ref reader, .ref a]) (n := 5) (Nat.le_of_ble_eq_true rfl)
  rw [lg_entry_eq]
  generalize (lg_sl ([.ref bk, .ref reader, .ref a]) ++ List.replicate (5 - (lg_sl ([.ref bk, .ref reader, .ref a])).length) Slot.unset).toArray = ls at hl ⊢
  have hl : lv_has ls 5 [(0, .ref bk), (1, .ref reader), (2, .ref a)] := hl
  refine q_name (fun Q hQ => ?_)
  generalize ([.ref bk, .ref reader, .ref a] : List Value).toArray = args at hts hQ ⊢
  refine lv_aload_n hx hb dX0_read_0 rfl (lv_at hl 0 rfl) ?_
  refine lv_iconst (v := nI 0) hx hb dX0_read_1 (by decide) ?_
  refine va_put (D := (dC, dI)) (ci := 0) (v := .int (nI 0)) (ty := .int) (C := RX0) (T := TX0) (N := 7) hx hb hts hin0 tyX0 tyX0_ok nmX0 hown hK hP hD hS 0 rfl rfl 1 (by decide) (hts (.fieldLink RX0 15 "PorridgeSea$Book" "lineCount" "I") (List.mem_of_getElem? (i := 1) rfl)) (fun _ h9 => h9) rfl (by decide +kernel) rfl rfl (Nat.le_of_ble_eq_true rfl) dX0_read_2 (fun H locs hP hD hS => ?_)
  have hP : va_P (dC, dI) vwCl [(bk, .inr (0, [.ref blines, .int (nI 0), .int blived, .int bwhyWrong, .int bfineLines, .int bdayThen, .int beatenThen])), (blines, .inl (ky 0, 160, .inl blinesF)), (reader, .inr (5, [.ref rtape, .int (nI rlength), .int (nI rmostBytes), .int (nI rplace), .int rkind, .int (nI rbegin), .int rword, .int rnumber, .long rletters, .int rfaultKind, .int rfaultPlace])), (rtape, .inl (ky 2, 940, .inl rtapeF)), (a, .inr (7, [.int (nI wide), .int (nI high), .int heat, .int cools, .int skinHeat, .int today, .int stirs, .int steps, .int (nI lumps), .int (nI boats), .ref thickness, .ref lumpNames, .ref lumpCells, .ref boatNames, .ref boatCells, .ref loads, .ref spoons, .ref spoonsLeft, .ref depths])), (boatNames, .inl (ky 1, 6, .inr (.inl boatNamesF)))] H := hP
  have hD : va_D A [(bk, .inr (0, [.ref blines, .int (nI 0), .int blived, .int bwhyWrong, .int bfineLines, .int bdayThen, .int beatenThen])), (blines, .inl (ky 0, 160, .inl blinesF)), (reader, .inr (5, [.ref rtape, .int (nI rlength), .int (nI rmostBytes), .int (nI rplace), .int rkind, .int (nI rbegin), .int rword, .int rnumber, .long rletters, .int rfaultKind, .int rfaultPlace])), (rtape, .inl (ky 2, 940, .inl rtapeF)), (a, .inr (7, [.int (nI wide), .int (nI high), .int heat, .int cools, .int skinHeat, .int today, .int stirs, .int steps, .int (nI lumps), .int (nI boats), .ref thickness, .ref lumpNames, .ref lumpCells, .ref boatNames, .ref boatCells, .ref loads, .ref spoons, .ref spoonsLeft, .ref depths])), (boatNames, .inl (ky 1, 6, .inr (.inl boatNamesF)))] := hD
  have hL29 : ∀ (n30 : Nat) (k15 : Nat) (f16 : Nat → Int32) (k17 : Nat) (x18 : Int32) (k19 : Nat) (x20 : Int32) (x21 : Int32) (w22 : Int64) (x23 : Int32) (x24 : Int32), (k15 ≤ 40) → (k17 ≤ 940) → (k19 ≤ 940) → (k17 ≤ rlength) → 41 - k15 < n30 → ∀ (H : Heap) (locs : List Loc) (ls : Array Slot), va_P (dC, dI) vwCl [(bk, .inr (0, [.ref blines, .int (nI k15), .int blived, .int bwhyWrong, .int bfineLines, .int bdayThen, .int beatenThen])), (blines, .inl (ky 0, 160, .inl f16)), (reader, .inr (5, [.ref rtape, .int (nI rlength), .int (nI rmostBytes), .int (nI k17), .int x18, .int (nI k19), .int x20, .int x21, .long w22, .int x23, .int x24])), (rtape, .inl (ky 2, 940, .inl rtapeF)), (a, .inr (7, [.int (nI wide), .int (nI high), .int heat, .int cools, .int skinHeat, .int today, .int stirs, .int steps, .int (nI lumps), .int (nI boats), .ref thickness, .ref lumpNames, .ref lumpCells, .ref boatNames, .ref boatCells, .ref loads, .ref spoons, .ref spoonsLeft, .ref depths])), (boatNames, .inl (ky 1, 6, .inr (.inl boatNamesF)))] H → va_D A [(bk, .inr (0, [.ref blines, .int (nI k15), .int blived, .int bwhyWrong, .int bfineLines, .int bdayThen, .int beatenThen])), (blines, .inl (ky 0, 160, .inl f16)), (reader, .inr (5, [.ref rtape, .int (nI rlength), .int (nI rmostBytes), .int (nI k17), .int x18, .int (nI k19), .int x20, .int x21, .long w22, .int x23, .int x24])), (rtape, .inl (ky 2, 940, .inl rtapeF)), (a, .inr (7, [.int (nI wide), .int (nI high), .int heat, .int cools, .int skinHeat, .int today, .int stirs, .int steps, .int (nI lumps), .int (nI boats), .ref thickness, .ref lumpNames, .ref lumpCells, .ref boatNames, .ref boatCells, .ref loads, .ref spoons, .ref spoonsLeft, .ref depths])), (boatNames, .inl (ky 1, 6, .inr (.inl boatNamesF)))] → va_S A s.heap H locs → lv_has ls 5 [(0, .ref bk), (1, .ref reader), (2, .ref a)] → W p l e (headSpec wsX0_read ({ frames := 8, cells := 0, slots := 0, locals := 185 })).room s m args below meth c H locs 0 0 Q (F0 m 5 ls []) := by
    intro n30
    induction n30 with
    | zero => intro k15 f16 k17 x18 k19 x20 x21 w22 x23 x24 _ _ _ _ h9; exact absurd h9 (Nat.not_lt_zero _)
    | succ n30 ih31 =>
      intro k15 f16 k17 x18 k19 x20 x21 w22 x23 x24 j25 j26 j27 j28 hm32 H locs ls hP hD hS hl
      refine lv_aload_n hx hb dX0_read_5 rfl (lv_at hl 0 rfl) ?_
      refine va_get (D := (dC, dI)) (ci := 0) (v := .int (nI k15)) (C := RX0) (T := TX0) (N := 7) hx hb hts hin0 hown hK hP 0 rfl rfl 1 (by decide) (hts (.fieldLink RX0 15 "PorridgeSea$Book" "lineCount" "I") (List.mem_of_getElem? (i := 1) rfl)) (fun _ h9 => h9) rfl dX0_read_6 ?_
      refine lv_bipush (v := nI 40) hx hb dX0_read_9 (by decide) ?_
      refine n_icmp_gt (x := k15) (y := 40) (tgt := 115) hx hb (by omega) (by omega) dX0_read_11 (by decide) (fun c33 => ?_) (fun c33 => ?_)
      · refine lv_iconst (v := nI 1) hx hb dX0_read_115 (by decide) ?_
        rw [hQ]
        exact W.zret (v := nI 1) hx hb hr (by decide) (fun t9 ht9 hW9 => ⟨⟨nI 1, (k15, f16, k17, x18, k19, x20, x21, w22, x23, x24), rfl, ⟨(lf_b_read_1), j25, j28, j27⟩, by rw [ht9]; exact hP, va_K.moved hW9.alike hK, hD⟩, hS.F ht9⟩) hS.2.2 dX0_read_116
      · refine lv_aload_n hx hb dX0_read_14 rfl (lv_at hl 1 rfl) ?_
        refine va_get (D := (dC, dI)) (ci := 5) (v := .int x18) (C := RX5) (T := TX5) (N := 11) hx hb hts hin5 hown hK hP 2 rfl rfl 4 (by decide) (hts (.fieldLink RX0 23 "PorridgeSea$Reader" "kind" "I") (List.mem_of_getElem? (i := 2) rfl)) (fun _ h9 => h9) rfl dX0_read_15 ?_
        refine lv_if_eq (tgt := 115) hx hb dX0_read_18 (by decide) (fun c34 => ?_) (fun c34 => ?_)
        · refine lv_iconst (v := nI 1) hx hb dX0_read_115 (by decide) ?_
          rw [hQ]
          exact W.zret (v := nI 1) hx hb hr (by decide) (fun t9 ht9 hW9 => ⟨⟨nI 1, (k15, f16, k17, x18, k19, x20, x21, w22, x23, x24), rfl, ⟨(lf_b_read_2), j25, j28, j27⟩, by rw [ht9]; exact hP, va_K.moved hW9.alike hK, hD⟩, hS.F ht9⟩) hS.2.2 dX0_read_116
        · refine lv_aload_n hx hb dX0_read_21 rfl (lv_at hl 1 rfl) ?_
          refine vp_callSi (W.runV (As := []) (rest := []) ⟨hx, hb, hml, hown, hts⟩ (c_r_nextWord l dC dI ky reader rtape rlength rmostBytes k17 x18 k19 x20 x21 w22 x23 x24 iv_rreader_0 j28 iv_rreader_2 j27) (cwV 0 hts gX0_read_X5_nextWord rfl rfl rfl (by decide +kernel) ⟨(Nat.le_of_ble_eq_true rfl), (Nat.le_of_ble_eq_true rfl)⟩) (pre_PV hK hP [2] rfl (ci := 5) (q0 := 2) rfl rfl) rfl rfl hl.1 rfl (lv_room (Nat.le_of_ble_eq_true rfl)) dX0_read_22 ⟨(Nat.le_of_ble_eq_true rfl), (Nat.le_of_ble_eq_true rfl)⟩) (fun r35 p36 => ?_)
          refine vp_callSi (W.runS (As := [.int r35]) (rest := []) ⟨hx, hb, hml, hown, hts⟩ (c_b_sortOf l dC dI ky r35) (va_cwS 1 hts gX0_read_X0_sortOf rfl rfl rfl (by decide +kernel) ⟨(Nat.le_of_ble_eq_true rfl), (Nat.le_of_ble_eq_true rfl)⟩) (pre_PS hK hP [] rfl) rfl rfl hl.1 rfl (lv_room (Nat.le_of_ble_eq_true rfl)) dX0_read_25 ⟨(Nat.le_of_ble_eq_true rfl), (Nat.le_of_ble_eq_true rfl)⟩) (fun r37 p38 => ?_)
          refine lv_istore_n (lv' := [(3, .int r37), (0, .ref bk), (1, .ref reader), (2, .ref a)]) hx hb dX0_read_28 rfl hl (by decide) rfl (fun ls hl => ?_)
          refine lv_iload_n hx hb dX0_read_29 rfl (lv_at hl 0 rfl) ?_
          refine lv_iconst (v := nI 1) hx hb dX0_read_30 (by decide) ?_
          have hJ43 : ∀ (x40 : Int32), (-1 ≤ x40.toInt) → (x40.toInt ≤ 5) → ∀ (H : Heap) (locs : List Loc) (ls : Array Slot), va_P (dC, dI) vwCl [(bk, .inr (0, [.ref blines, .int (nI k15), .int blived, .int bwhyWrong, .int bfineLines, .int bdayThen, .int beatenThen])), (blines, .inl (ky 0, 160, .inl f16)), (reader, .inr (5, [.ref rtape, .int (nI rlength), .int (nI rmostBytes), .int (nI k17), .int x18, .int (nI k19), .int x20, .int x21, .long w22, .int x23, .int x24])), (rtape, .inl (ky 2, 940, .inl rtapeF)), (a, .inr (7, [.int (nI wide), .int (nI high), .int heat, .int cools, .int skinHeat, .int today, .int stirs, .int steps, .int (nI lumps), .int (nI boats), .ref thickness, .ref lumpNames, .ref lumpCells, .ref boatNames, .ref boatCells, .ref loads, .ref spoons, .ref spoonsLeft, .ref depths])), (boatNames, .inl (ky 1, 6, .inr (.inl boatNamesF)))] H → va_D A [(bk, .inr (0, [.ref blines, .int (nI k15), .int blived, .int bwhyWrong, .int bfineLines, .int bdayThen, .int beatenThen])), (blines, .inl (ky 0, 160, .inl f16)), (reader, .inr (5, [.ref rtape, .int (nI rlength), .int (nI rmostBytes), .int (nI k17), .int x18, .int (nI k19), .int x20, .int x21, .long w22, .int x23, .int x24])), (rtape, .inl (ky 2, 940, .inl rtapeF)), (a, .inr (7, [.int (nI wide), .int (nI high), .int heat, .int cools, .int skinHeat, .int today, .int stirs, .int steps, .int (nI lumps), .int (nI boats), .ref thickness, .ref lumpNames, .ref lumpCells, .ref boatNames, .ref boatCells, .ref loads, .ref spoons, .ref spoonsLeft, .ref depths])), (boatNames, .inl (ky 1, 6, .inr (.inl boatNamesF)))] → va_S A s.heap H locs → lv_has ls 5 [(3, .int r37), (0, .ref bk), (1, .ref reader), (2, .ref a)] → W p l e (headSpec wsX0_read ({ frames := 8, cells := 0, slots := 0, locals := 185 })).room s m args below meth c H locs 0 0 Q (F0 m 46 ls [.int x40]) := by
            intro x40 j41 j42 H locs ls hP hD hS hl
            refine lv_istore (lv' := [(4, .int x40), (3, .int r37), (0, .ref bk), (1, .ref reader), (2, .ref a)]) hx hb dX0_read_46 hl (by decide) rfl (fun ls hl => ?_)
            refine lv_iload_n hx hb dX0_read_48 rfl (lv_at hl 1 rfl) ?_
            refine lv_iconst (v := (-1 : Int32)) hx hb dX0_read_49 (by decide) ?_
            refine lv_icmp_ne (tgt := 59) hx hb dX0_read_50 (by decide) (fun c44 => ?_) (fun c44 => ?_)
            · refine lv_iload hx hb dX0_read_59 (lv_at hl 0 rfl) ?_
              refine lv_iconst (v := (-1 : Int32)) hx hb dX0_read_61 (by decide) ?_
              refine lv_icmp_ne (tgt := 71) hx hb dX0_read_62 (by decide) (fun c45 => ?_) (fun c45 => ?_)
              · refine lv_aload_n hx hb dX0_read_71 rfl (lv_at hl 2 rfl) ?_
                refine va_get (D := (dC, dI)) (ci := 0) (v := .int (nI k15)) (C := RX0) (T := TX0) (N := 7) hx hb hts hin0 hown hK hP 0 rfl rfl 1 (by decide) (hts (.fieldLink RX0 15 "PorridgeSea$Book" "lineCount" "I") (List.mem_of_getElem? (i := 1) rfl)) (fun _ h9 => h9) rfl dX0_read_72 ?_
                refine lv_bipush (v := nI 40) hx hb dX0_read_75 (by decide) ?_
                refine n_icmp_lt (x := k15) (y := 40) (tgt := 86) hx hb (by omega) (by omega) dX0_read_77 (by decide) (fun c46 => ?_) (fun c46 => ?_)
                · refine lv_aload_n hx hb dX0_read_86 rfl (lv_at hl 3 rfl) ?_
                  refine r_call_v (wr := [(bk, .inr (0, [.ref blines, .int (nI k15), .int blived, .int bwhyWrong, .int bfineLines, .int bdayThen, .int beatenThen])), (blines, .inl (ky 0, 160, .inl f16)), (a, .inr (7, [.int (nI wide), .int (nI high), .int heat, .int cools, .int skinHeat, .int today, .int stirs, .int steps, .int (nI lumps), .int (nI boats), .ref thickness, .ref lumpNames, .ref lumpCells, .ref boatNames, .ref boatCells, .ref loads, .ref spoons, .ref spoonsLeft, .ref depths])), (boatNames, .inl (ky 1, 6, .inr (.inl boatNamesF)))]) (va_runV (As := []) (rest := []) ⟨hx, hb, hml, hown, hts⟩ (c_r_advance l dC dI ky H.size adK adV reader rtape rlength rmostBytes k17 x18 k19 x20 x21 w22 x23 x24 rtapeF iv_rreader_0 j28 iv_rreader_2 j27) (cwV 0 hts gX0_read_X5_advance rfl rfl rfl (by decide +kernel) ⟨(Nat.le_of_ble_eq_true rfl), (Nat.le_of_ble_eq_true rfl)⟩) (pre_UEV hE hS hA hK hP hD [2, 3] (by decide) rfl (va_recv hK hP (ci := 5) (q0 := 2) rfl rfl)) rfl rfl hl.1 rfl (lv_room (Nat.le_of_ble_eq_true rfl)) dX0_read_87 ⟨(Nat.le_of_ble_eq_true rfl), (Nat.le_of_ble_eq_true rfl)⟩) hP hD hS hA [2, 3] [0, 1, 4, 5] rfl rfl (by decide) (by decide) (fun  u47 H locs p48 hP hD hS => ?_)
                  obtain ⟨rplaceG_49, rkindG_50, rbeginG_51, rwordG_52, rnumberG_53, rlettersG_54⟩ := u47
                  try dsimp only at p48
                  obtain ⟨p55, p56⟩ := p48
                  refine W.widen (k := 0) (n := 0) (Nat.le_of_ble_eq_true rfl) (Nat.le_of_ble_eq_true rfl) ?_
                  have hP : va_P (dC, dI) vwCl [(bk, .inr (0, [.ref blines, .int (nI k15), .int blived, .int bwhyWrong, .int bfineLines, .int bdayThen, .int beatenThen])), (blines, .inl (ky 0, 160, .inl f16)), (a, .inr (7, [.int (nI wide), .int (nI high), .int heat, .int cools, .int skinHeat, .int today, .int stirs, .int steps, .int (nI lumps), .int (nI boats), .ref thickness, .ref lumpNames, .ref lumpCells, .ref boatNames, .ref boatCells, .ref loads, .ref spoons, .ref spoonsLeft, .ref depths])), (boatNames, .inl (ky 1, 6, .inr (.inl boatNamesF))), (reader, .inr (5, [.ref rtape, .int (nI rlength), .int (nI rmostBytes), .int (nI rplaceG_49), .int rkindG_50, .int (nI rbeginG_51), .int rwordG_52, .int rnumberG_53, .long rlettersG_54, .int x23, .int x24])), (rtape, .inl (ky 2, 940, .inl rtapeF))] H := hP
                  have hD : va_D A [(bk, .inr (0, [.ref blines, .int (nI k15), .int blived, .int bwhyWrong, .int bfineLines, .int bdayThen, .int beatenThen])), (blines, .inl (ky 0, 160, .inl f16)), (a, .inr (7, [.int (nI wide), .int (nI high), .int heat, .int cools, .int skinHeat, .int today, .int stirs, .int steps, .int (nI lumps), .int (nI boats), .ref thickness, .ref lumpNames, .ref lumpCells, .ref boatNames, .ref boatCells, .ref loads, .ref spoons, .ref spoonsLeft, .ref depths])), (boatNames, .inl (ky 1, 6, .inr (.inl boatNamesF))), (reader, .inr (5, [.ref rtape, .int (nI rlength), .int (nI rmostBytes), .int (nI rplaceG_49), .int rkindG_50, .int (nI rbeginG_51), .int rwordG_52, .int rnumberG_53, .long rlettersG_54, .int x23, .int x24])), (rtape, .inl (ky 2, 940, .inl rtapeF))] := hD
                  refine lv_aload_n hx hb dX0_read_90 rfl (lv_at hl 2 rfl) ?_
                  refine lv_aload_n hx hb dX0_read_91 rfl (lv_at hl 3 rfl) ?_
                  refine lv_iload_n hx hb dX0_read_92 rfl (lv_at hl 1 rfl) ?_
                  refine lv_iload hx hb dX0_read_93 (lv_at hl 0 rfl) ?_
                  refine r_call_i (wr := [(a, .inr (7, [.int (nI wide), .int (nI high), .int heat, .int cools, .int skinHeat, .int today, .int stirs, .int steps, .int (nI lumps), .int (nI boats), .ref thickness, .ref lumpNames, .ref lumpCells, .ref boatNames, .ref boatCells, .ref loads, .ref spoons, .ref spoonsLeft, .ref depths])), (boatNames, .inl (ky 1, 6, .inr (.inl boatNamesF)))]) (va_runV (As := [.ref reader, .int r37, .int x40]) (rest := []) ⟨hx, hb, hml, hown, hts⟩ (c_b_readRest l dC dI ky H.size adK adV bk blines k15 blived bwhyWrong bfineLines bdayThen beatenThen f16 reader rtape rlength rmostBytes rplaceG_49 rkindG_50 rbeginG_51 rwordG_52 rnumberG_53 rlettersG_54 x23 x24 rtapeF r37 x40 j25 iv_rreader_0 p55 iv_rreader_2 p56) (cwV 3 hts gX0_read_X0_readRest rfl rfl rfl (by decide +kernel) ⟨(Nat.le_of_ble_eq_true rfl), (Nat.le_of_ble_eq_true rfl)⟩) (pre_UEV hE hS hA hK hP hD [0, 1, 4, 5] (by decide) rfl (va_recv hK hP (ci := 0) (q0 := 0) rfl rfl)) rfl rfl hl.1 rfl (lv_room (Nat.le_of_ble_eq_true rfl)) dX0_read_95 ⟨(Nat.le_of_ble_eq_true rfl), (Nat.le_of_ble_eq_true rfl)⟩) hP hD hS hA [0, 1, 4, 5] [2, 3] rfl rfl (by decide) (by decide) (fun r59 u57 H locs p58 hP hD hS => ?_)
                  obtain ⟨blineCountG_60, blinesG_61, rplaceG_62, rkindG_63, rbeginG_64, rwordG_65, rnumberG_66, rlettersG_67, rfaultKindG_68, rfaultPlaceG_69⟩ := u57
                  try dsimp only at p58
                  obtain ⟨p70, p71, p72, p73⟩ := p58
                  refine W.widen (k := 0) (n := 0) (Nat.le_of_ble_eq_true rfl) (Nat.le_of_ble_eq_true rfl) ?_
                  have hP : va_P (dC, dI) vwCl [(a, .inr (7, [.int (nI wide), .int (nI high), .int heat, .int cools, .int skinHeat, .int today, .int stirs, .int steps, .int (nI lumps), .int (nI boats), .ref thickness, .ref lumpNames, .ref lumpCells, .ref boatNames, .ref boatCells, .ref loads, .ref spoons, .ref spoonsLeft, .ref depths])), (boatNames, .inl (ky 1, 6, .inr (.inl boatNamesF))), (bk, .inr (0, [.ref blines, .int (nI blineCountG_60), .int blived, .int bwhyWrong, .int bfineLines, .int bdayThen, .int beatenThen])), (blines, .inl (ky 0, 160, .inl blinesG_61)), (reader, .inr (5, [.ref rtape, .int (nI rlength), .int (nI rmostBytes), .int (nI rplaceG_62), .int rkindG_63, .int (nI rbeginG_64), .int rwordG_65, .int rnumberG_66, .long rlettersG_67, .int rfaultKindG_68, .int rfaultPlaceG_69])), (rtape, .inl (ky 2, 940, .inl rtapeF))] H := hP
                  have hD : va_D A [(a, .inr (7, [.int (nI wide), .int (nI high), .int heat, .int cools, .int skinHeat, .int today, .int stirs, .int steps, .int (nI lumps), .int (nI boats), .ref thickness, .ref lumpNames, .ref lumpCells, .ref boatNames, .ref boatCells, .ref loads, .ref spoons, .ref spoonsLeft, .ref depths])), (boatNames, .inl (ky 1, 6, .inr (.inl boatNamesF))), (bk, .inr (0, [.ref blines, .int (nI blineCountG_60), .int blived, .int bwhyWrong, .int bfineLines, .int bdayThen, .int beatenThen])), (blines, .inl (ky 0, 160, .inl blinesG_61)), (reader, .inr (5, [.ref rtape, .int (nI rlength), .int (nI rmostBytes), .int (nI rplaceG_62), .int rkindG_63, .int (nI rbeginG_64), .int rwordG_65, .int rnumberG_66, .long rlettersG_67, .int rfaultKindG_68, .int rfaultPlaceG_69])), (rtape, .inl (ky 2, 940, .inl rtapeF))] := hD
                  rcases p70 with ⟨rfl, t74⟩ | ⟨rfl, t75⟩
                  · refine lv_if_eq (tgt := 110) hx hb dX0_read_98 (by decide) (fun c76 => absurd c76 (by decide)) (fun c76 => ?_)
                    refine lv_aload_n hx hb dX0_read_101 rfl (lv_at hl 3 rfl) ?_
                    refine lv_bipush (v := nI 59) hx hb dX0_read_102 (by decide) ?_
                    refine r_call_i (wr := [(a, .inr (7, [.int (nI wide), .int (nI high), .int heat, .int cools, .int skinHeat, .int today, .int stirs, .int steps, .int (nI lumps), .int (nI boats), .ref thickness, .ref lumpNames, .ref lumpCells, .ref boatNames, .ref boatCells, .ref loads, .ref spoons, .ref spoonsLeft, .ref depths])), (boatNames, .inl (ky 1, 6, .inr (.inl boatNamesF))), (bk, .inr (0, [.ref blines, .int (nI blineCountG_60), .int blived, .int bwhyWrong, .int bfineLines, .int bdayThen, .int beatenThen])), (blines, .inl (ky 0, 160, .inl blinesG_61))]) (va_runV (As := [.int (nI 59)]) (rest := []) ⟨hx, hb, hml, hown, hts⟩ (c_r_takeSign l dC dI ky H.size adK adV reader rtape rlength rmostBytes rplaceG_62 rkindG_63 rbeginG_64 rwordG_65 rnumberG_66 rlettersG_67 rfaultKindG_68 rfaultPlaceG_69 rtapeF (nI 59) iv_rreader_0 p72 iv_rreader_2 p73) (cwV 1 hts gX0_read_X5_takeSign rfl rfl rfl (by decide +kernel) ⟨(Nat.le_of_ble_eq_true rfl), (Nat.le_of_ble_eq_true rfl)⟩) (pre_UEV hE hS hA hK hP hD [4, 5] (by decide) rfl (va_recv hK hP (ci := 5) (q0 := 4) rfl rfl)) rfl rfl hl.1 rfl (lv_room (Nat.le_of_ble_eq_true rfl)) dX0_read_104 ⟨(Nat.le_of_ble_eq_true rfl), (Nat.le_of_ble_eq_true rfl)⟩) hP hD hS hA [4, 5] [0, 1, 2, 3] rfl rfl (by decide) (by decide) (fun r79 u77 H locs p78 hP hD hS => ?_)
                    obtain ⟨rplaceG_80, rkindG_81, rbeginG_82, rwordG_83, rnumberG_84, rlettersG_85, rfaultKindG_86, rfaultPlaceG_87⟩ := u77
                    try dsimp only at p78
                    obtain ⟨p88, p89, p90⟩ := p78
                    refine W.widen (k := 0) (n := 0) (Nat.le_of_ble_eq_true rfl) (Nat.le_of_ble_eq_true rfl) ?_
                    have hP : va_P (dC, dI) vwCl [(a, .inr (7, [.int (nI wide), .int (nI high), .int heat, .int cools, .int skinHeat, .int today, .int stirs, .int steps, .int (nI lumps), .int (nI boats), .ref thickness, .ref lumpNames, .ref lumpCells, .ref boatNames, .ref boatCells, .ref loads, .ref spoons, .ref spoonsLeft, .ref depths])), (boatNames, .inl (ky 1, 6, .inr (.inl boatNamesF))), (bk, .inr (0, [.ref blines, .int (nI blineCountG_60), .int blived, .int bwhyWrong, .int bfineLines, .int bdayThen, .int beatenThen])), (blines, .inl (ky 0, 160, .inl blinesG_61)), (reader, .inr (5, [.ref rtape, .int (nI rlength), .int (nI rmostBytes), .int (nI rplaceG_80), .int rkindG_81, .int (nI rbeginG_82), .int rwordG_83, .int rnumberG_84, .long rlettersG_85, .int rfaultKindG_86, .int rfaultPlaceG_87])), (rtape, .inl (ky 2, 940, .inl rtapeF))] H := hP
                    have hD : va_D A [(a, .inr (7, [.int (nI wide), .int (nI high), .int heat, .int cools, .int skinHeat, .int today, .int stirs, .int steps, .int (nI lumps), .int (nI boats), .ref thickness, .ref lumpNames, .ref lumpCells, .ref boatNames, .ref boatCells, .ref loads, .ref spoons, .ref spoonsLeft, .ref depths])), (boatNames, .inl (ky 1, 6, .inr (.inl boatNamesF))), (bk, .inr (0, [.ref blines, .int (nI blineCountG_60), .int blived, .int bwhyWrong, .int bfineLines, .int bdayThen, .int beatenThen])), (blines, .inl (ky 0, 160, .inl blinesG_61)), (reader, .inr (5, [.ref rtape, .int (nI rlength), .int (nI rmostBytes), .int (nI rplaceG_80), .int rkindG_81, .int (nI rbeginG_82), .int rwordG_83, .int rnumberG_84, .long rlettersG_85, .int rfaultKindG_86, .int rfaultPlaceG_87])), (rtape, .inl (ky 2, 940, .inl rtapeF))] := hD
                    refine lv_if_ne (tgt := 112) hx hb dX0_read_107 (by decide) (fun c91 => ?_) (fun c91 => ?_)
                    · refine lv_goto (tgt := 5) hx hb dX0_read_112 (by decide) ?_
                      exact ih31 blineCountG_60 blinesG_61 rplaceG_80 rkindG_81 rbeginG_82 rwordG_83 rnumberG_84 rlettersG_85 rfaultKindG_86 rfaultPlaceG_87 p71 (lf_b_read_3 rlength rplace k17 rplaceG_49 rplaceG_62 rplaceG_80 iv_rreader_0 iv_rreader_1 j26 j28 p36 p38 p55 p72 p89) p90 p89 (lf_b_read_4 k15 n30 blineCountG_60 j25 hm32 c33 p36 p38 c46 p71 t74) _ _ _ (hP.sub [2, 3, 4, 5, 0, 1] rfl) (hD.sub [2, 3, 4, 5, 0, 1] (by decide) rfl) hS (lv_sub hl [2, 3, 4] rfl)
                    · refine lv_iconst (v := nI 0) hx hb dX0_read_110 (by decide) ?_
                      rw [hQ]
                      have hP9 := hP.sub (ws' := [(bk, .inr (0, [.ref blines, .int (nI blineCountG_60), .int blived, .int bwhyWrong, .int bfineLines, .int bdayThen, .int beatenThen])), (blines, .inl (ky 0, 160, .inl blinesG_61)), (reader, .inr (5, [.ref rtape, .int (nI rlength), .int (nI rmostBytes), .int (nI rplaceG_80), .int rkindG_81, .int (nI rbeginG_82), .int rwordG_83, .int rnumberG_84, .long rlettersG_85, .int rfaultKindG_86, .int rfaultPlaceG_87])), (rtape, .inl (ky 2, 940, .inl rtapeF)), (a, .inr (7, [.int (nI wide), .int (nI high), .int heat, .int cools, .int skinHeat, .int today, .int stirs, .int steps, .int (nI lumps), .int (nI boats), .ref thickness, .ref lumpNames, .ref lumpCells, .ref boatNames, .ref boatCells, .ref loads, .ref spoons, .ref spoonsLeft, .ref depths])), (boatNames, .inl (ky 1, 6, .inr (.inl boatNamesF)))]) [2, 3, 4, 5, 0, 1] rfl
                      have hD9 := hD.sub (ws' := [(bk, .inr (0, [.ref blines, .int (nI blineCountG_60), .int blived, .int bwhyWrong, .int bfineLines, .int bdayThen, .int beatenThen])), (blines, .inl (ky 0, 160, .inl blinesG_61)), (reader, .inr (5, [.ref rtape, .int (nI rlength), .int (nI rmostBytes), .int (nI rplaceG_80), .int rkindG_81, .int (nI rbeginG_82), .int rwordG_83, .int rnumberG_84, .long rlettersG_85, .int rfaultKindG_86, .int rfaultPlaceG_87])), (rtape, .inl (ky 2, 940, .inl rtapeF)), (a, .inr (7, [.int (nI wide), .int (nI high), .int heat, .int cools, .int skinHeat, .int today, .int stirs, .int steps, .int (nI lumps), .int (nI boats), .ref thickness, .ref lumpNames, .ref lumpCells, .ref boatNames, .ref boatCells, .ref loads, .ref spoons, .ref spoonsLeft, .ref depths])), (boatNames, .inl (ky 1, 6, .inr (.inl boatNamesF)))]) [2, 3, 4, 5, 0, 1] (by decide) rfl
                      exact W.zret (v := nI 0) hx hb hr (by decide) (fun t9 ht9 hW9 => ⟨⟨nI 0, (blineCountG_60, blinesG_61, rplaceG_80, rkindG_81, rbeginG_82, rwordG_83, rnumberG_84, rlettersG_85, rfaultKindG_86, rfaultPlaceG_87), rfl, ⟨(lf_b_read_5 p36 p38), p71, p89, p90⟩, by rw [ht9]; exact hP9, va_K.moved hW9.alike hK, hD9⟩, hS.F ht9⟩) hS.2.2 dX0_read_111
                  · refine lv_if_eq (tgt := 110) hx hb dX0_read_98 (by decide) (fun c92 => ?_) (fun c92 => absurd (by decide) c92)
                    refine lv_iconst (v := nI 0) hx hb dX0_read_110 (by decide) ?_
                    rw [hQ]
                    have hP9 := hP.sub (ws' := [(bk, .inr (0, [.ref blines, .int (nI blineCountG_60), .int blived, .int bwhyWrong, .int bfineLines, .int bdayThen, .int beatenThen])), (blines, .inl (ky 0, 160, .inl blinesG_61)), (reader, .inr (5, [.ref rtape, .int (nI rlength), .int (nI rmostBytes), .int (nI rplaceG_62), .int rkindG_63, .int (nI rbeginG_64), .int rwordG_65, .int rnumberG_66, .long rlettersG_67, .int rfaultKindG_68, .int rfaultPlaceG_69])), (rtape, .inl (ky 2, 940, .inl rtapeF)), (a, .inr (7, [.int (nI wide), .int (nI high), .int heat, .int cools, .int skinHeat, .int today, .int stirs, .int steps, .int (nI lumps), .int (nI boats), .ref thickness, .ref lumpNames, .ref lumpCells, .ref boatNames, .ref boatCells, .ref loads, .ref spoons, .ref spoonsLeft, .ref depths])), (boatNames, .inl (ky 1, 6, .inr (.inl boatNamesF)))]) [2, 3, 4, 5, 0, 1] rfl
                    have hD9 := hD.sub (ws' := [(bk, .inr (0, [.ref blines, .int (nI blineCountG_60), .int blived, .int bwhyWrong, .int bfineLines, .int bdayThen, .int beatenThen])), (blines, .inl (ky 0, 160, .inl blinesG_61)), (reader, .inr (5, [.ref rtape, .int (nI rlength), .int (nI rmostBytes), .int (nI rplaceG_62), .int rkindG_63, .int (nI rbeginG_64), .int rwordG_65, .int rnumberG_66, .long rlettersG_67, .int rfaultKindG_68, .int rfaultPlaceG_69])), (rtape, .inl (ky 2, 940, .inl rtapeF)), (a, .inr (7, [.int (nI wide), .int (nI high), .int heat, .int cools, .int skinHeat, .int today, .int stirs, .int steps, .int (nI lumps), .int (nI boats), .ref thickness, .ref lumpNames, .ref lumpCells, .ref boatNames, .ref boatCells, .ref loads, .ref spoons, .ref spoonsLeft, .ref depths])), (boatNames, .inl (ky 1, 6, .inr (.inl boatNamesF)))]) [2, 3, 4, 5, 0, 1] (by decide) rfl
                    exact W.zret (v := nI 0) hx hb hr (by decide) (fun t9 ht9 hW9 => ⟨⟨nI 0, (blineCountG_60, blinesG_61, rplaceG_62, rkindG_63, rbeginG_64, rwordG_65, rnumberG_66, rlettersG_67, rfaultKindG_68, rfaultPlaceG_69), rfl, ⟨(lf_b_read_6 p36 p38 t75), p71, p72, p73⟩, by rw [ht9]; exact hP9, va_K.moved hW9.alike hK, hD9⟩, hS.F ht9⟩) hS.2.2 dX0_read_111
                · refine lv_aload_n hx hb dX0_read_80 rfl (lv_at hl 3 rfl) ?_
                  refine lv_iconst (v := nI 4) hx hb dX0_read_81 (by decide) ?_
                  refine r_call_i (wr := [(bk, .inr (0, [.ref blines, .int (nI k15), .int blived, .int bwhyWrong, .int bfineLines, .int bdayThen, .int beatenThen])), (blines, .inl (ky 0, 160, .inl f16)), (rtape, .inl (ky 2, 940, .inl rtapeF)), (a, .inr (7, [.int (nI wide), .int (nI high), .int heat, .int cools, .int skinHeat, .int today, .int stirs, .int steps, .int (nI lumps), .int (nI boats), .ref thickness, .ref lumpNames, .ref lumpCells, .ref boatNames, .ref boatCells, .ref loads, .ref spoons, .ref spoonsLeft, .ref depths])), (boatNames, .inl (ky 1, 6, .inr (.inl boatNamesF)))]) (va_runV (As := [.int (nI 4)]) (rest := []) ⟨hx, hb, hml, hown, hts⟩ (c_r_refuse l dC dI ky H.size reader rtape rlength rmostBytes k17 x18 k19 x20 x21 w22 x23 x24 (nI 4) iv_rreader_0 j28 iv_rreader_2 j27) (cwV 1 hts gX0_read_X5_refuse rfl rfl rfl (by decide +kernel) ⟨(Nat.le_of_ble_eq_true rfl), (Nat.le_of_ble_eq_true rfl)⟩) (pre_UV hK hP hD [2] (by decide) rfl (ci := 5) (q0 := 2) rfl rfl) rfl rfl hl.1 rfl (lv_room (Nat.le_of_ble_eq_true rfl)) dX0_read_82 ⟨(Nat.le_of_ble_eq_true rfl), (Nat.le_of_ble_eq_true rfl)⟩) hP hD hS hA [2] [0, 1, 3, 4, 5] rfl rfl (by decide) (by decide) (fun r95 u93 H locs p94 hP hD hS => ?_)
                  obtain ⟨rfaultKindG_96, rfaultPlaceG_97⟩ := u93
                  try dsimp only at p94
                  have p98 := p94
                  refine W.widen (k := 0) (n := 0) (Nat.le_of_ble_eq_true rfl) (Nat.le_of_ble_eq_true rfl) ?_
                  have hP : va_P (dC, dI) vwCl [(bk, .inr (0, [.ref blines, .int (nI k15), .int blived, .int bwhyWrong, .int bfineLines, .int bdayThen, .int beatenThen])), (blines, .inl (ky 0, 160, .inl f16)), (rtape, .inl (ky 2, 940, .inl rtapeF)), (a, .inr (7, [.int (nI wide), .int (nI high), .int heat, .int cools, .int skinHeat, .int today, .int stirs, .int steps, .int (nI lumps), .int (nI boats), .ref thickness, .ref lumpNames, .ref lumpCells, .ref boatNames, .ref boatCells, .ref loads, .ref spoons, .ref spoonsLeft, .ref depths])), (boatNames, .inl (ky 1, 6, .inr (.inl boatNamesF))), (reader, .inr (5, [.ref rtape, .int (nI rlength), .int (nI rmostBytes), .int (nI k17), .int x18, .int (nI k19), .int x20, .int x21, .long w22, .int rfaultKindG_96, .int rfaultPlaceG_97]))] H := hP
                  have hD : va_D A [(bk, .inr (0, [.ref blines, .int (nI k15), .int blived, .int bwhyWrong, .int bfineLines, .int bdayThen, .int beatenThen])), (blines, .inl (ky 0, 160, .inl f16)), (rtape, .inl (ky 2, 940, .inl rtapeF)), (a, .inr (7, [.int (nI wide), .int (nI high), .int heat, .int cools, .int skinHeat, .int today, .int stirs, .int steps, .int (nI lumps), .int (nI boats), .ref thickness, .ref lumpNames, .ref lumpCells, .ref boatNames, .ref boatCells, .ref loads, .ref spoons, .ref spoonsLeft, .ref depths])), (boatNames, .inl (ky 1, 6, .inr (.inl boatNamesF))), (reader, .inr (5, [.ref rtape, .int (nI rlength), .int (nI rmostBytes), .int (nI k17), .int x18, .int (nI k19), .int x20, .int x21, .long w22, .int rfaultKindG_96, .int rfaultPlaceG_97]))] := hD
                  subst p98
                  rw [hQ]
                  have hP9 := hP.sub (ws' := [(bk, .inr (0, [.ref blines, .int (nI k15), .int blived, .int bwhyWrong, .int bfineLines, .int bdayThen, .int beatenThen])), (blines, .inl (ky 0, 160, .inl f16)), (reader, .inr (5, [.ref rtape, .int (nI rlength), .int (nI rmostBytes), .int (nI k17), .int x18, .int (nI k19), .int x20, .int x21, .long w22, .int rfaultKindG_96, .int rfaultPlaceG_97])), (rtape, .inl (ky 2, 940, .inl rtapeF)), (a, .inr (7, [.int (nI wide), .int (nI high), .int heat, .int cools, .int skinHeat, .int today, .int stirs, .int steps, .int (nI lumps), .int (nI boats), .ref thickness, .ref lumpNames, .ref lumpCells, .ref boatNames, .ref boatCells, .ref loads, .ref spoons, .ref spoonsLeft, .ref depths])), (boatNames, .inl (ky 1, 6, .inr (.inl boatNamesF)))]) [0, 1, 5, 2, 3, 4] rfl
                  have hD9 := hD.sub (ws' := [(bk, .inr (0, [.ref blines, .int (nI k15), .int blived, .int bwhyWrong, .int bfineLines, .int bdayThen, .int beatenThen])), (blines, .inl (ky 0, 160, .inl f16)), (reader, .inr (5, [.ref rtape, .int (nI rlength), .int (nI rmostBytes), .int (nI k17), .int x18, .int (nI k19), .int x20, .int x21, .long w22, .int rfaultKindG_96, .int rfaultPlaceG_97])), (rtape, .inl (ky 2, 940, .inl rtapeF)), (a, .inr (7, [.int (nI wide), .int (nI high), .int heat, .int cools, .int skinHeat, .int today, .int stirs, .int steps, .int (nI lumps), .int (nI boats), .ref thickness, .ref lumpNames, .ref lumpCells, .ref boatNames, .ref boatCells, .ref loads, .ref spoons, .ref spoonsLeft, .ref depths])), (boatNames, .inl (ky 1, 6, .inr (.inl boatNamesF)))]) [0, 1, 5, 2, 3, 4] (by decide) rfl
                  exact W.zret (v := nI 0) hx hb hr (by decide) (fun t9 ht9 hW9 => ⟨⟨nI 0, (k15, f16, k17, x18, k19, x20, x21, w22, rfaultKindG_96, rfaultPlaceG_97), rfl, ⟨(lf_b_read_7 p36 p38), j25, j28, j27⟩, by rw [ht9]; exact hP9, va_K.moved hW9.alike hK, hD9⟩, hS.F ht9⟩) hS.2.2 dX0_read_85
              · refine lv_aload_n hx hb dX0_read_65 rfl (lv_at hl 3 rfl) ?_
                refine lv_iconst (v := nI 3) hx hb dX0_read_66 (by decide) ?_
                refine r_call_i (wr := [(bk, .inr (0, [.ref blines, .int (nI k15), .int blived, .int bwhyWrong, .int bfineLines, .int bdayThen, .int beatenThen])), (blines, .inl (ky 0, 160, .inl f16)), (rtape, .inl (ky 2, 940, .inl rtapeF)), (a, .inr (7, [.int (nI wide), .int (nI high), .int heat, .int cools, .int skinHeat, .int today, .int stirs, .int steps, .int (nI lumps), .int (nI boats), .ref thickness, .ref lumpNames, .ref lumpCells, .ref boatNames, .ref boatCells, .ref loads, .ref spoons, .ref spoonsLeft, .ref depths])), (boatNames, .inl (ky 1, 6, .inr (.inl boatNamesF)))]) (va_runV (As := [.int (nI 3)]) (rest := []) ⟨hx, hb, hml, hown, hts⟩ (c_r_refuse l dC dI ky H.size reader rtape rlength rmostBytes k17 x18 k19 x20 x21 w22 x23 x24 (nI 3) iv_rreader_0 j28 iv_rreader_2 j27) (cwV 1 hts gX0_read_X5_refuse rfl rfl rfl (by decide +kernel) ⟨(Nat.le_of_ble_eq_true rfl), (Nat.le_of_ble_eq_true rfl)⟩) (pre_UV hK hP hD [2] (by decide) rfl (ci := 5) (q0 := 2) rfl rfl) rfl rfl hl.1 rfl (lv_room (Nat.le_of_ble_eq_true rfl)) dX0_read_67 ⟨(Nat.le_of_ble_eq_true rfl), (Nat.le_of_ble_eq_true rfl)⟩) hP hD hS hA [2] [0, 1, 3, 4, 5] rfl rfl (by decide) (by decide) (fun r101 u99 H locs p100 hP hD hS => ?_)
                obtain ⟨rfaultKindG_102, rfaultPlaceG_103⟩ := u99
                try dsimp only at p100
                have p104 := p100
                refine W.widen (k := 0) (n := 0) (Nat.le_of_ble_eq_true rfl) (Nat.le_of_ble_eq_true rfl) ?_
                have hP : va_P (dC, dI) vwCl [(bk, .inr (0, [.ref blines, .int (nI k15), .int blived, .int bwhyWrong, .int bfineLines, .int bdayThen, .int beatenThen])), (blines, .inl (ky 0, 160, .inl f16)), (rtape, .inl (ky 2, 940, .inl rtapeF)), (a, .inr (7, [.int (nI wide), .int (nI high), .int heat, .int cools, .int skinHeat, .int today, .int stirs, .int steps, .int (nI lumps), .int (nI boats), .ref thickness, .ref lumpNames, .ref lumpCells, .ref boatNames, .ref boatCells, .ref loads, .ref spoons, .ref spoonsLeft, .ref depths])), (boatNames, .inl (ky 1, 6, .inr (.inl boatNamesF))), (reader, .inr (5, [.ref rtape, .int (nI rlength), .int (nI rmostBytes), .int (nI k17), .int x18, .int (nI k19), .int x20, .int x21, .long w22, .int rfaultKindG_102, .int rfaultPlaceG_103]))] H := hP
                have hD : va_D A [(bk, .inr (0, [.ref blines, .int (nI k15), .int blived, .int bwhyWrong, .int bfineLines, .int bdayThen, .int beatenThen])), (blines, .inl (ky 0, 160, .inl f16)), (rtape, .inl (ky 2, 940, .inl rtapeF)), (a, .inr (7, [.int (nI wide), .int (nI high), .int heat, .int cools, .int skinHeat, .int today, .int stirs, .int steps, .int (nI lumps), .int (nI boats), .ref thickness, .ref lumpNames, .ref lumpCells, .ref boatNames, .ref boatCells, .ref loads, .ref spoons, .ref spoonsLeft, .ref depths])), (boatNames, .inl (ky 1, 6, .inr (.inl boatNamesF))), (reader, .inr (5, [.ref rtape, .int (nI rlength), .int (nI rmostBytes), .int (nI k17), .int x18, .int (nI k19), .int x20, .int x21, .long w22, .int rfaultKindG_102, .int rfaultPlaceG_103]))] := hD
                subst p104
                rw [hQ]
                have hP9 := hP.sub (ws' := [(bk, .inr (0, [.ref blines, .int (nI k15), .int blived, .int bwhyWrong, .int bfineLines, .int bdayThen, .int beatenThen])), (blines, .inl (ky 0, 160, .inl f16)), (reader, .inr (5, [.ref rtape, .int (nI rlength), .int (nI rmostBytes), .int (nI k17), .int x18, .int (nI k19), .int x20, .int x21, .long w22, .int rfaultKindG_102, .int rfaultPlaceG_103])), (rtape, .inl (ky 2, 940, .inl rtapeF)), (a, .inr (7, [.int (nI wide), .int (nI high), .int heat, .int cools, .int skinHeat, .int today, .int stirs, .int steps, .int (nI lumps), .int (nI boats), .ref thickness, .ref lumpNames, .ref lumpCells, .ref boatNames, .ref boatCells, .ref loads, .ref spoons, .ref spoonsLeft, .ref depths])), (boatNames, .inl (ky 1, 6, .inr (.inl boatNamesF)))]) [0, 1, 5, 2, 3, 4] rfl
                have hD9 := hD.sub (ws' := [(bk, .inr (0, [.ref blines, .int (nI k15), .int blived, .int bwhyWrong, .int bfineLines, .int bdayThen, .int beatenThen])), (blines, .inl (ky 0, 160, .inl f16)), (reader, .inr (5, [.ref rtape, .int (nI rlength), .int (nI rmostBytes), .int (nI k17), .int x18, .int (nI k19), .int x20, .int x21, .long w22, .int rfaultKindG_102, .int rfaultPlaceG_103])), (rtape, .inl (ky 2, 940, .inl rtapeF)), (a, .inr (7, [.int (nI wide), .int (nI high), .int heat, .int cools, .int skinHeat, .int today, .int stirs, .int steps, .int (nI lumps), .int (nI boats), .ref thickness, .ref lumpNames, .ref lumpCells, .ref boatNames, .ref boatCells, .ref loads, .ref spoons, .ref spoonsLeft, .ref depths])), (boatNames, .inl (ky 1, 6, .inr (.inl boatNamesF)))]) [0, 1, 5, 2, 3, 4] (by decide) rfl
                exact W.zret (v := nI 0) hx hb hr (by decide) (fun t9 ht9 hW9 => ⟨⟨nI 0, (k15, f16, k17, x18, k19, x20, x21, w22, rfaultKindG_102, rfaultPlaceG_103), rfl, ⟨(lf_b_read_8 p36 p38), j25, j28, j27⟩, by rw [ht9]; exact hP9, va_K.moved hW9.alike hK, hD9⟩, hS.F ht9⟩) hS.2.2 dX0_read_70
            · refine lv_aload_n hx hb dX0_read_53 rfl (lv_at hl 3 rfl) ?_
              refine lv_iconst (v := nI 1) hx hb dX0_read_54 (by decide) ?_
              refine r_call_i (wr := [(bk, .inr (0, [.ref blines, .int (nI k15), .int blived, .int bwhyWrong, .int bfineLines, .int bdayThen, .int beatenThen])), (blines, .inl (ky 0, 160, .inl f16)), (rtape, .inl (ky 2, 940, .inl rtapeF)), (a, .inr (7, [.int (nI wide), .int (nI high), .int heat, .int cools, .int skinHeat, .int today, .int stirs, .int steps, .int (nI lumps), .int (nI boats), .ref thickness, .ref lumpNames, .ref lumpCells, .ref boatNames, .ref boatCells, .ref loads, .ref spoons, .ref spoonsLeft, .ref depths])), (boatNames, .inl (ky 1, 6, .inr (.inl boatNamesF)))]) (va_runV (As := [.int (nI 1)]) (rest := []) ⟨hx, hb, hml, hown, hts⟩ (c_r_refuse l dC dI ky H.size reader rtape rlength rmostBytes k17 x18 k19 x20 x21 w22 x23 x24 (nI 1) iv_rreader_0 j28 iv_rreader_2 j27) (cwV 1 hts gX0_read_X5_refuse rfl rfl rfl (by decide +kernel) ⟨(Nat.le_of_ble_eq_true rfl), (Nat.le_of_ble_eq_true rfl)⟩) (pre_UV hK hP hD [2] (by decide) rfl (ci := 5) (q0 := 2) rfl rfl) rfl rfl hl.1 rfl (lv_room (Nat.le_of_ble_eq_true rfl)) dX0_read_55 ⟨(Nat.le_of_ble_eq_true rfl), (Nat.le_of_ble_eq_true rfl)⟩) hP hD hS hA [2] [0, 1, 3, 4, 5] rfl rfl (by decide) (by decide) (fun r107 u105 H locs p106 hP hD hS => ?_)
              obtain ⟨rfaultKindG_108, rfaultPlaceG_109⟩ := u105
              try dsimp only at p106
              have p110 := p106
              refine W.widen (k := 0) (n := 0) (Nat.le_of_ble_eq_true rfl) (Nat.le_of_ble_eq_true rfl) ?_
              have hP : va_P (dC, dI) vwCl [(bk, .inr (0, [.ref blines, .int (nI k15), .int blived, .int bwhyWrong, .int bfineLines, .int bdayThen, .int beatenThen])), (blines, .inl (ky 0, 160, .inl f16)), (rtape, .inl (ky 2, 940, .inl rtapeF)), (a, .inr (7, [.int (nI wide), .int (nI high), .int heat, .int cools, .int skinHeat, .int today, .int stirs, .int steps, .int (nI lumps), .int (nI boats), .ref thickness, .ref lumpNames, .ref lumpCells, .ref boatNames, .ref boatCells, .ref loads, .ref spoons, .ref spoonsLeft, .ref depths])), (boatNames, .inl (ky 1, 6, .inr (.inl boatNamesF))), (reader, .inr (5, [.ref rtape, .int (nI rlength), .int (nI rmostBytes), .int (nI k17), .int x18, .int (nI k19), .int x20, .int x21, .long w22, .int rfaultKindG_108, .int rfaultPlaceG_109]))] H := hP
              have hD : va_D A [(bk, .inr (0, [.ref blines, .int (nI k15), .int blived, .int bwhyWrong, .int bfineLines, .int bdayThen, .int beatenThen])), (blines, .inl (ky 0, 160, .inl f16)), (rtape, .inl (ky 2, 940, .inl rtapeF)), (a, .inr (7, [.int (nI wide), .int (nI high), .int heat, .int cools, .int skinHeat, .int today, .int stirs, .int steps, .int (nI lumps), .int (nI boats), .ref thickness, .ref lumpNames, .ref lumpCells, .ref boatNames, .ref boatCells, .ref loads, .ref spoons, .ref spoonsLeft, .ref depths])), (boatNames, .inl (ky 1, 6, .inr (.inl boatNamesF))), (reader, .inr (5, [.ref rtape, .int (nI rlength), .int (nI rmostBytes), .int (nI k17), .int x18, .int (nI k19), .int x20, .int x21, .long w22, .int rfaultKindG_108, .int rfaultPlaceG_109]))] := hD
              subst p110
              rw [hQ]
              have hP9 := hP.sub (ws' := [(bk, .inr (0, [.ref blines, .int (nI k15), .int blived, .int bwhyWrong, .int bfineLines, .int bdayThen, .int beatenThen])), (blines, .inl (ky 0, 160, .inl f16)), (reader, .inr (5, [.ref rtape, .int (nI rlength), .int (nI rmostBytes), .int (nI k17), .int x18, .int (nI k19), .int x20, .int x21, .long w22, .int rfaultKindG_108, .int rfaultPlaceG_109])), (rtape, .inl (ky 2, 940, .inl rtapeF)), (a, .inr (7, [.int (nI wide), .int (nI high), .int heat, .int cools, .int skinHeat, .int today, .int stirs, .int steps, .int (nI lumps), .int (nI boats), .ref thickness, .ref lumpNames, .ref lumpCells, .ref boatNames, .ref boatCells, .ref loads, .ref spoons, .ref spoonsLeft, .ref depths])), (boatNames, .inl (ky 1, 6, .inr (.inl boatNamesF)))]) [0, 1, 5, 2, 3, 4] rfl
              have hD9 := hD.sub (ws' := [(bk, .inr (0, [.ref blines, .int (nI k15), .int blived, .int bwhyWrong, .int bfineLines, .int bdayThen, .int beatenThen])), (blines, .inl (ky 0, 160, .inl f16)), (reader, .inr (5, [.ref rtape, .int (nI rlength), .int (nI rmostBytes), .int (nI k17), .int x18, .int (nI k19), .int x20, .int x21, .long w22, .int rfaultKindG_108, .int rfaultPlaceG_109])), (rtape, .inl (ky 2, 940, .inl rtapeF)), (a, .inr (7, [.int (nI wide), .int (nI high), .int heat, .int cools, .int skinHeat, .int today, .int stirs, .int steps, .int (nI lumps), .int (nI boats), .ref thickness, .ref lumpNames, .ref lumpCells, .ref boatNames, .ref boatCells, .ref loads, .ref spoons, .ref spoonsLeft, .ref depths])), (boatNames, .inl (ky 1, 6, .inr (.inl boatNamesF)))]) [0, 1, 5, 2, 3, 4] (by decide) rfl
              exact W.zret (v := nI 0) hx hb hr (by decide) (fun t9 ht9 hW9 => ⟨⟨nI 0, (k15, f16, k17, x18, k19, x20, x21, w22, rfaultKindG_108, rfaultPlaceG_109), rfl, ⟨(lf_b_read_9 p36 p38), j25, j28, j27⟩, by rw [ht9]; exact hP9, va_K.moved hW9.alike hK, hD9⟩, hS.F ht9⟩) hS.2.2 dX0_read_58
          refine lv_icmp_ne (tgt := 45) hx hb dX0_read_31 (by decide) (fun c39 => ?_) (fun c39 => ?_)
          · refine lv_iconst (v := nI 0) hx hb dX0_read_45 (by decide) ?_
            exact hJ43 (nI 0) (lf_b_read_10 p36 p38) (lf_b_read_11 p36 p38) _ _ _ hP hD hS (lv_sub hl [0, 1, 2, 3] rfl)
          · refine lv_aload_n hx hb dX0_read_34 rfl (lv_at hl 3 rfl) ?_
            refine lv_aload_n hx hb dX0_read_35 rfl (lv_at hl 2 rfl) ?_
            refine va_get (D := (dC, dI)) (ci := 5) (v := .long w22) (C := RX5) (T := TX5) (N := 11) hx hb hts hin5 hown hK hP 2 rfl rfl 8 (by decide) (hts (.fieldLink RX0 36 "PorridgeSea$Reader" "letters" "J") (List.mem_of_getElem? (i := 3) rfl)) (fun _ h9 => h9) rfl dX0_read_36 ?_
            refine vp_callSi (W.runV (As := [.long w22]) (rest := []) ⟨hx, hb, hml, hown, hts⟩ (c_s_boatNamed l dC dI ky a wide high heat cools skinHeat today stirs steps lumps boats thickness lumpNames lumpCells boatNames boatCells loads spoons spoonsLeft depths boatNamesF w22 iv_a_0 iv_a_1 iv_a_2 iv_a_3 iv_a_4 iv_a_5) (cwV 1 hts gX0_read_X7_boatNamed rfl rfl rfl (by decide +kernel) ⟨(Nat.le_of_ble_eq_true rfl), (Nat.le_of_ble_eq_true rfl)⟩) (pre_PV hK hP [4, 5] rfl (ci := 7) (q0 := 4) rfl rfl) rfl rfl hl.1 rfl (lv_room (Nat.le_of_ble_eq_true rfl)) dX0_read_39 ⟨(Nat.le_of_ble_eq_true rfl), (Nat.le_of_ble_eq_true rfl)⟩) (fun r111 p112 => ?_)
            rcases p112 with rfl | ⟨k113, h115, rfl⟩
            · refine lv_goto (tgt := 46) hx hb dX0_read_42 (by decide) ?_
              exact hJ43 (-1 : Int32) (lf_b_read_12 p36 p38) (lf_b_read_13 p36 p38) _ _ _ hP hD hS (lv_sub hl [0, 1, 2, 3] rfl)
            · refine lv_goto (tgt := 46) hx hb dX0_read_42 (by decide) ?_
              exact hJ43 (nI k113) (lf_b_read_14 boats k113 iv_a_5 p36 p38 h115) (lf_b_read_15 boats k113 iv_a_5 p36 p38 h115) _ _ _ hP hD hS (lv_sub hl [0, 1, 2, 3] rfl)
  exact hL29 ((41 - 0) + 1) 0 blinesF rplace rkind rbegin rword rnumber rletters rfaultKind rfaultPlace (lf_b_read_16) (lf_b_read_17 rlength rplace iv_rreader_0 iv_rreader_1) iv_rreader_3 iv_rreader_1 (Nat.lt_succ_self _) _ _ _ hP hD hS (lv_sub hl [0, 1, 2] rfl)
set_option maxHeartbeats 4000000 in
set_option maxRecDepth 100000 in
theorem c_b_whyNot (l : Launch) (dC : Nat → ClassId) (dI : Nat → Nat → Nat) (ky : Nat → ClassId) (a : Nat) (wide : Nat) (high : Nat) (heat : Int32) (cools : Int32) (skinHeat : Int32) (today : Int32) (stirs : Int32) (steps : Int32) (lumps : Nat) (boats : Nat) (thickness : Nat) (lumpNames : Nat) (lumpCells : Nat) (boatNames : Nat) (boatCells : Nat) (loads : Nat) (spoons : Nat) (spoonsLeft : Nat) (depths : Nat) (thicknessF : Nat → Int32) (boatCellsF : Nat → Int32) (spoonsLeftF : Nat → Int32) (depthsF : Nat → Int32) (x : Int32) (y : Int32) (z : Int32) (u : Int32) (iv_a_0 : 2 ≤ wide) (iv_a_1 : wide ≤ 6) (iv_a_2 : 2 ≤ high) (iv_a_3 : high ≤ 6) (iv_a_4 : lumps ≤ 6) (iv_a_5 : boats ≤ 6) : Met l yX0_whyNot wsX0_whyNot ({ frames := 3, cells := 0, slots := 0, locals := 69 }) (PcP dC dI ky [.ref a, .int x, .int y, .int z, .int u] [(a, .inr (7, [.int (nI wide), .int (nI high), .int heat, .int cools, .int skinHeat, .int today, .int stirs, .int steps, .int (nI lumps), .int (nI boats), .ref thickness, .ref lumpNames, .ref lumpCells, .ref boatNames, .ref boatCells, .ref loads, .ref spoons, .ref spoonsLeft, .ref depths])), (thickness, .inl (ky 0, 36, .inl thicknessF)), (boatCells, .inl (ky 0, 6, .inl boatCellsF)), (spoonsLeft, .inl (ky 0, 6, .inl spoonsLeftF)), (depths, .inl (ky 0, 6, .inl depthsF))]) (vp_Si (fun r : Int32 => True)) 0 0 (fun _ => False) := by
  refine Met.ofW (cc := cX0_whyNot) (maxL := 5) (ret := (some .int)) (by decide) rfl ?_
  intro p e s m args below meth c s₁ B hml hv
  obtain ⟨rfl, hP, hK⟩ := hv
  have hx := B.exec
  have hb := B.bytes
  have hr := B.returns
  have hts := atoms_spec (ws := wsX0_whyNot) B.pre
  have hown : s.vm.findClass RX0 = some m.cls := findClass_of_methodNamed B.named
  have hlocks := B.notSynchronized
  have hl := lv_entry ([.ref a, .int x, .int y, .int z, .int u]) (n := 5) (Nat.le_of_ble_eq_true rfl)
  rw [lg_entry_eq]
  generalize (lg_sl ([.ref a, .int x, .int y, .int z, .int u]) ++ List.replicate (5 - (lg_sl ([.ref a, .int x, .int y, .int z, .int u])).length) Slot.unset).toArray = ls at hl ⊢
  have hl : lv_has ls 5 [(0, .ref a), (1, .int x), (2, .int y), (3, .int z), (4, .int u)] := hl
  refine q_name (fun Q hQ => ?_)
  generalize ([.ref a, .int x, .int y, .int z, .int u] : List Value).toArray = args at hts hQ ⊢
  refine lv_iload_n hx hb dX0_whyNot_0 rfl (lv_at hl 1 rfl) ?_
  rcases sw_0_4 x with c2 | c3 | c4 | c5 | c6 | c7
  · refine lv_tableOut (tgt := 76) hx hb dX0_whyNot_1 c2 (by decide) ?_
    refine lv_aload_n hx hb dX0_whyNot_76 rfl (lv_at hl 0 rfl) ?_
    refine vp_callSi (W.runV (As := []) (rest := []) ⟨hx, hb, hml, hown, hts⟩ (c_s_daysLeft l dC dI ky a wide high heat cools skinHeat today stirs steps lumps boats thickness lumpNames lumpCells boatNames boatCells loads spoons spoonsLeft depths iv_a_0 iv_a_1 iv_a_2 iv_a_3 iv_a_4 iv_a_5) (cwV 0 hts gX0_whyNot_X7_daysLeft rfl rfl rfl (by decide +kernel) ⟨(Nat.le_of_ble_eq_true rfl), (Nat.le_of_ble_eq_true rfl)⟩) (pre_PV hK hP [0] rfl (ci := 7) (q0 := 0) rfl rfl) rfl rfl hl.1 rfl (lv_room (Nat.le_of_ble_eq_true rfl)) dX0_whyNot_77 ⟨(Nat.le_of_ble_eq_true rfl), (Nat.le_of_ble_eq_true rfl)⟩) (fun r8 p9 => ?_)
    refine lv_iload_n hx hb dX0_whyNot_80 rfl (lv_at hl 2 rfl) ?_
    refine lv_icmp_ge (tgt := 88) hx hb dX0_whyNot_81 (by decide) (fun c10 => ?_) (fun c10 => ?_)
    · refine lv_iconst (v := nI 0) hx hb dX0_whyNot_88 (by decide) ?_
      rw [hQ]
      exact W.iret (v := nI 0) hx hb hr (fun t9 ht9 hW9 => ⟨nI 0, rfl, trivial, ht9⟩) (fun _ h => absurd h List.not_mem_nil) dX0_whyNot_89
    · refine lv_iconst (v := nI 1) hx hb dX0_whyNot_84 (by decide) ?_
      refine lv_goto (tgt := 89) hx hb dX0_whyNot_85 (by decide) ?_
      rw [hQ]
      exact W.iret (v := nI 1) hx hb hr (fun t9 ht9 hW9 => ⟨nI 1, rfl, trivial, ht9⟩) (fun _ h => absurd h List.not_mem_nil) dX0_whyNot_89
  · refine r_ti (nI 0) c3 ?_
    rw [c3] at hl
    refine lv_tableIn (off := 35) (tgt := 36) hx hb dX0_whyNot_1 (by decide) (by decide) rfl (by decide) ?_
    refine lv_aload_n hx hb dX0_whyNot_36 rfl (lv_at hl 0 rfl) ?_
    refine lv_iload_n hx hb dX0_whyNot_37 rfl (lv_at hl 2 rfl) ?_
    refine lv_iload_n hx hb dX0_whyNot_38 rfl (lv_at hl 3 rfl) ?_
    refine lv_iload hx hb dX0_whyNot_39 (lv_at hl 4 rfl) ?_
    refine vp_callSi (W.runV (As := [.int y, .int z, .int u]) (rest := []) ⟨hx, hb, hml, hown, hts⟩ (c_s_whyNotStirred l dC dI ky a wide high heat cools skinHeat today stirs steps lumps boats thickness lumpNames lumpCells boatNames boatCells loads spoons spoonsLeft depths y z u iv_a_0 iv_a_1 iv_a_2 iv_a_3 iv_a_4 iv_a_5) (cwV 3 hts gX0_whyNot_X7_whyNotStirred rfl rfl rfl (by decide +kernel) ⟨(Nat.le_of_ble_eq_true rfl), (Nat.le_of_ble_eq_true rfl)⟩) (pre_PV hK hP [0] rfl (ci := 7) (q0 := 0) rfl rfl) rfl rfl hl.1 rfl (lv_room (Nat.le_of_ble_eq_true rfl)) dX0_whyNot_41 ⟨(Nat.le_of_ble_eq_true rfl), (Nat.le_of_ble_eq_true rfl)⟩) (fun r11 p12 => ?_)
    rw [hQ]
    exact W.iret (v := r11) hx hb hr (fun t9 ht9 hW9 => ⟨r11, rfl, trivial, ht9⟩) (fun _ h => absurd h List.not_mem_nil) dX0_whyNot_44
  · refine r_ti (nI 1) c4 ?_
    rw [c4] at hl
    refine lv_tableIn (off := 44) (tgt := 45) hx hb dX0_whyNot_1 (by decide) (by decide) rfl (by decide) ?_
    refine lv_aload_n hx hb dX0_whyNot_45 rfl (lv_at hl 0 rfl) ?_
    refine lv_iload_n hx hb dX0_whyNot_46 rfl (lv_at hl 2 rfl) ?_
    refine lv_iload_n hx hb dX0_whyNot_47 rfl (lv_at hl 3 rfl) ?_
    refine vp_callSi (W.runV (As := [.int y, .int z]) (rest := []) ⟨hx, hb, hml, hown, hts⟩ (c_s_whyNotRowed l dC dI ky a wide high heat cools skinHeat today stirs steps lumps boats thickness lumpNames lumpCells boatNames boatCells loads spoons spoonsLeft depths thicknessF boatCellsF spoonsLeftF depthsF y z iv_a_0 iv_a_1 iv_a_2 iv_a_3 iv_a_4 iv_a_5) (cwV 2 hts gX0_whyNot_X7_whyNotRowed rfl rfl rfl (by decide +kernel) ⟨(Nat.le_of_ble_eq_true rfl), (Nat.le_of_ble_eq_true rfl)⟩) (pre_PV hK hP [0, 1, 2, 3, 4] rfl (ci := 7) (q0 := 0) rfl rfl) rfl rfl hl.1 rfl (lv_room (Nat.le_of_ble_eq_true rfl)) dX0_whyNot_48 ⟨(Nat.le_of_ble_eq_true rfl), (Nat.le_of_ble_eq_true rfl)⟩) (fun r13 p14 => ?_)
    rw [hQ]
    exact W.iret (v := r13) hx hb hr (fun t9 ht9 hW9 => ⟨r13, rfl, trivial, ht9⟩) (fun _ h => absurd h List.not_mem_nil) dX0_whyNot_51
  · refine r_ti (nI 2) c5 ?_
    rw [c5] at hl
    refine lv_tableIn (off := 51) (tgt := 52) hx hb dX0_whyNot_1 (by decide) (by decide) rfl (by decide) ?_
    refine lv_aload_n hx hb dX0_whyNot_52 rfl (lv_at hl 0 rfl) ?_
    refine lv_iload_n hx hb dX0_whyNot_53 rfl (lv_at hl 2 rfl) ?_
    refine lv_iload_n hx hb dX0_whyNot_54 rfl (lv_at hl 3 rfl) ?_
    refine lv_iload hx hb dX0_whyNot_55 (lv_at hl 4 rfl) ?_
    refine vp_callSi (W.runV (As := [.int y, .int z, .int u]) (rest := []) ⟨hx, hb, hml, hown, hts⟩ (c_s_whyNotFloured l dC dI ky a wide high heat cools skinHeat today stirs steps lumps boats thickness lumpNames lumpCells boatNames boatCells loads spoons spoonsLeft depths thicknessF y z u iv_a_0 iv_a_1 iv_a_2 iv_a_3 iv_a_4 iv_a_5) (cwV 3 hts gX0_whyNot_X7_whyNotFloured rfl rfl rfl (by decide +kernel) ⟨(Nat.le_of_ble_eq_true rfl), (Nat.le_of_ble_eq_true rfl)⟩) (pre_PV hK hP [0, 1] rfl (ci := 7) (q0 := 0) rfl rfl) rfl rfl hl.1 rfl (lv_room (Nat.le_of_ble_eq_true rfl)) dX0_whyNot_57 ⟨(Nat.le_of_ble_eq_true rfl), (Nat.le_of_ble_eq_true rfl)⟩) (fun r15 p16 => ?_)
    rw [hQ]
    exact W.iret (v := r15) hx hb hr (fun t9 ht9 hW9 => ⟨r15, rfl, trivial, ht9⟩) (fun _ h => absurd h List.not_mem_nil) dX0_whyNot_60
  · refine r_ti (nI 3) c6 ?_
    rw [c6] at hl
    refine lv_tableIn (off := 60) (tgt := 61) hx hb dX0_whyNot_1 (by decide) (by decide) rfl (by decide) ?_
    refine lv_aload_n hx hb dX0_whyNot_61 rfl (lv_at hl 0 rfl) ?_
    refine lv_iload_n hx hb dX0_whyNot_62 rfl (lv_at hl 2 rfl) ?_
    refine lv_iload_n hx hb dX0_whyNot_63 rfl (lv_at hl 3 rfl) ?_
    refine lv_iload hx hb dX0_whyNot_64 (lv_at hl 4 rfl) ?_
    refine vp_callSi (W.runV (As := [.int y, .int z, .int u]) (rest := []) ⟨hx, hb, hml, hown, hts⟩ (c_s_whyNotMilked l dC dI ky a wide high heat cools skinHeat today stirs steps lumps boats thickness lumpNames lumpCells boatNames boatCells loads spoons spoonsLeft depths thicknessF y z u iv_a_0 iv_a_1 iv_a_2 iv_a_3 iv_a_4 iv_a_5) (cwV 3 hts gX0_whyNot_X7_whyNotMilked rfl rfl rfl (by decide +kernel) ⟨(Nat.le_of_ble_eq_true rfl), (Nat.le_of_ble_eq_true rfl)⟩) (pre_PV hK hP [0, 1] rfl (ci := 7) (q0 := 0) rfl rfl) rfl rfl hl.1 rfl (lv_room (Nat.le_of_ble_eq_true rfl)) dX0_whyNot_66 ⟨(Nat.le_of_ble_eq_true rfl), (Nat.le_of_ble_eq_true rfl)⟩) (fun r17 p18 => ?_)
    rw [hQ]
    exact W.iret (v := r17) hx hb hr (fun t9 ht9 hW9 => ⟨r17, rfl, trivial, ht9⟩) (fun _ h => absurd h List.not_mem_nil) dX0_whyNot_69
  · refine r_ti (nI 4) c7 ?_
    rw [c7] at hl
    refine lv_tableIn (off := 69) (tgt := 70) hx hb dX0_whyNot_1 (by decide) (by decide) rfl (by decide) ?_
    refine lv_aload_n hx hb dX0_whyNot_70 rfl (lv_at hl 0 rfl) ?_
    refine lv_iload_n hx hb dX0_whyNot_71 rfl (lv_at hl 2 rfl) ?_
    refine vp_callSi (W.runV (As := [.int y]) (rest := []) ⟨hx, hb, hml, hown, hts⟩ (c_s_whyNotWarmed l dC dI ky a wide high heat cools skinHeat today stirs steps lumps boats thickness lumpNames lumpCells boatNames boatCells loads spoons spoonsLeft depths y iv_a_0 iv_a_1 iv_a_2 iv_a_3 iv_a_4 iv_a_5) (cwV 1 hts gX0_whyNot_X7_whyNotWarmed rfl rfl rfl (by decide +kernel) ⟨(Nat.le_of_ble_eq_true rfl), (Nat.le_of_ble_eq_true rfl)⟩) (pre_PV hK hP [0] rfl (ci := 7) (q0 := 0) rfl rfl) rfl rfl hl.1 rfl (lv_room (Nat.le_of_ble_eq_true rfl)) dX0_whyNot_72 ⟨(Nat.le_of_ble_eq_true rfl), (Nat.le_of_ble_eq_true rfl)⟩) (fun r19 p20 => ?_)
    rw [hQ]
    exact W.iret (v := r19) hx hb hr (fun t9 ht9 hW9 => ⟨r19, rfl, trivial, ht9⟩) (fun _ h => absurd h List.not_mem_nil) dX0_whyNot_75
