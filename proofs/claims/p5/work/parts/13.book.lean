theorem dX0_sortOf_0 : decode cX0_sortOf 0 = .ok (.iload_n 0, 1) := by decide +kernel
theorem dX0_sortOf_1 : decode cX0_sortOf 1 = .ok (.lookupswitch 71 #[(7, 59), (16, 63), (17, 65), (18, 67), (19, 69), (31, 61)], 59) := by decide +kernel
theorem dX0_sortOf_60 : decode cX0_sortOf 60 = .ok (.iconst 0, 1) := by decide +kernel
theorem dX0_sortOf_61 : decode cX0_sortOf 61 = .ok (.ireturn, 1) := by decide +kernel
theorem dX0_sortOf_64 : decode cX0_sortOf 64 = .ok (.iconst 2, 1) := by decide +kernel
theorem dX0_sortOf_65 : decode cX0_sortOf 65 = .ok (.ireturn, 1) := by decide +kernel
theorem dX0_sortOf_66 : decode cX0_sortOf 66 = .ok (.iconst 3, 1) := by decide +kernel
theorem dX0_sortOf_67 : decode cX0_sortOf 67 = .ok (.ireturn, 1) := by decide +kernel
theorem dX0_sortOf_68 : decode cX0_sortOf 68 = .ok (.iconst 4, 1) := by decide +kernel
theorem dX0_sortOf_69 : decode cX0_sortOf 69 = .ok (.ireturn, 1) := by decide +kernel
theorem dX0_sortOf_70 : decode cX0_sortOf 70 = .ok (.iconst 5, 1) := by decide +kernel
theorem dX0_sortOf_71 : decode cX0_sortOf 71 = .ok (.ireturn, 1) := by decide +kernel
theorem dX0_sortOf_62 : decode cX0_sortOf 62 = .ok (.iconst 1, 1) := by decide +kernel
theorem dX0_sortOf_63 : decode cX0_sortOf 63 = .ok (.ireturn, 1) := by decide +kernel
theorem dX0_sortOf_72 : decode cX0_sortOf 72 = .ok (.iconst (-1), 1) := by decide +kernel
theorem dX0_sortOf_73 : decode cX0_sortOf 73 = .ok (.ireturn, 1) := by decide +kernel
theorem dX0_put_0 : decode cX0_put 0 = .ok (.aload_n 0, 1) := by decide +kernel
theorem dX0_put_1 : decode cX0_put 1 = .ok (.getfield 15, 3) := by decide +kernel
theorem dX0_put_4 : decode cX0_put 4 = .ok (.bipush 40, 2) := by decide +kernel
theorem dX0_put_6 : decode cX0_put 6 = .ok (.if_icmp .lt 5, 3) := by decide +kernel
theorem dX0_put_11 : decode cX0_put 11 = .ok (.iconst 4, 1) := by decide +kernel
theorem dX0_put_12 : decode cX0_put 12 = .ok (.aload_n 0, 1) := by decide +kernel
theorem dX0_put_13 : decode cX0_put 13 = .ok (.getfield 15, 3) := by decide +kernel
theorem dX0_put_16 : decode cX0_put 16 = .ok (.imul, 1) := by decide +kernel
theorem dX0_put_17 : decode cX0_put 17 = .ok (.istore 5, 2) := by decide +kernel
theorem dX0_put_19 : decode cX0_put 19 = .ok (.aload_n 0, 1) := by decide +kernel
theorem dX0_put_20 : decode cX0_put 20 = .ok (.getfield 11, 3) := by decide +kernel
theorem dX0_put_23 : decode cX0_put 23 = .ok (.iload 5, 2) := by decide +kernel
theorem dX0_put_25 : decode cX0_put 25 = .ok (.iload_n 1, 1) := by decide +kernel
theorem dX0_put_26 : decode cX0_put 26 = .ok (.iastore, 1) := by decide +kernel
theorem dX0_put_27 : decode cX0_put 27 = .ok (.aload_n 0, 1) := by decide +kernel
theorem dX0_put_28 : decode cX0_put 28 = .ok (.getfield 11, 3) := by decide +kernel
theorem dX0_put_31 : decode cX0_put 31 = .ok (.iload 5, 2) := by decide +kernel
theorem dX0_put_33 : decode cX0_put 33 = .ok (.iconst 1, 1) := by decide +kernel
theorem dX0_put_34 : decode cX0_put 34 = .ok (.iadd, 1) := by decide +kernel
theorem dX0_put_35 : decode cX0_put 35 = .ok (.iload_n 2, 1) := by decide +kernel
theorem dX0_put_36 : decode cX0_put 36 = .ok (.iastore, 1) := by decide +kernel
theorem dX0_put_37 : decode cX0_put 37 = .ok (.aload_n 0, 1) := by decide +kernel
theorem dX0_put_38 : decode cX0_put 38 = .ok (.getfield 11, 3) := by decide +kernel
theorem dX0_put_41 : decode cX0_put 41 = .ok (.iload 5, 2) := by decide +kernel
theorem dX0_put_43 : decode cX0_put 43 = .ok (.iconst 2, 1) := by decide +kernel
theorem dX0_put_44 : decode cX0_put 44 = .ok (.iadd, 1) := by decide +kernel
theorem dX0_put_45 : decode cX0_put 45 = .ok (.iload_n 3, 1) := by decide +kernel
theorem dX0_put_46 : decode cX0_put 46 = .ok (.iastore, 1) := by decide +kernel
theorem dX0_put_47 : decode cX0_put 47 = .ok (.aload_n 0, 1) := by decide +kernel
theorem dX0_put_48 : decode cX0_put 48 = .ok (.getfield 11, 3) := by decide +kernel
theorem dX0_put_51 : decode cX0_put 51 = .ok (.iload 5, 2) := by decide +kernel
theorem dX0_put_53 : decode cX0_put 53 = .ok (.iconst 3, 1) := by decide +kernel
theorem dX0_put_54 : decode cX0_put 54 = .ok (.iadd, 1) := by decide +kernel
theorem dX0_put_55 : decode cX0_put 55 = .ok (.iload 4, 2) := by decide +kernel
theorem dX0_put_57 : decode cX0_put 57 = .ok (.iastore, 1) := by decide +kernel
theorem dX0_put_58 : decode cX0_put 58 = .ok (.aload_n 0, 1) := by decide +kernel
theorem dX0_put_59 : decode cX0_put 59 = .ok (.dup, 1) := by decide +kernel
theorem dX0_put_60 : decode cX0_put 60 = .ok (.getfield 15, 3) := by decide +kernel
theorem dX0_put_63 : decode cX0_put 63 = .ok (.iconst 1, 1) := by decide +kernel
theorem dX0_put_64 : decode cX0_put 64 = .ok (.iadd, 1) := by decide +kernel
theorem dX0_put_65 : decode cX0_put 65 = .ok (.putfield 15, 3) := by decide +kernel
theorem dX0_put_68 : decode cX0_put 68 = .ok (.iconst 1, 1) := by decide +kernel
theorem dX0_put_69 : decode cX0_put 69 = .ok (.ireturn, 1) := by decide +kernel
theorem dX0_readRest_0 : decode cX0_readRest 0 = .ok (.iload_n 2, 1) := by decide +kernel
theorem dX0_readRest_1 : decode cX0_readRest 1 = .ok (.tableswitch 210 0 3 #[31, 105, 139, 139], 31) := by decide +kernel
theorem dX0_readRest_211 : decode cX0_readRest 211 = .ok (.aload_n 1, 1) := by decide +kernel
theorem dX0_readRest_212 : decode cX0_readRest 212 = .ok (.iconst 1, 1) := by decide +kernel
theorem dX0_readRest_213 : decode cX0_readRest 213 = .ok (.iload_n 2, 1) := by decide +kernel
theorem dX0_readRest_214 : decode cX0_readRest 214 = .ok (.iconst 4, 1) := by decide +kernel
theorem dX0_readRest_215 : decode cX0_readRest 215 = .ok (.if_icmp .ne 8, 3) := by decide +kernel
theorem dX0_readRest_223 : decode cX0_readRest 223 = .ok (.bipush 60, 2) := by decide +kernel
theorem dX0_readRest_225 : decode cX0_readRest 225 = .ok (.invokevirtual 64, 3) := by decide +kernel
theorem dX0_readRest_228 : decode cX0_readRest 228 = .ok (.istore 11, 2) := by decide +kernel
theorem dX0_readRest_230 : decode cX0_readRest 230 = .ok (.iload 11, 2) := by decide +kernel
theorem dX0_readRest_232 : decode cX0_readRest 232 = .ok (.iconst (-1), 1) := by decide +kernel
theorem dX0_readRest_233 : decode cX0_readRest 233 = .ok (.if_icmp .eq 19, 3) := by decide +kernel
theorem dX0_readRest_252 : decode cX0_readRest 252 = .ok (.iconst 0, 1) := by decide +kernel
theorem dX0_readRest_253 : decode cX0_readRest 253 = .ok (.ireturn, 1) := by decide +kernel
theorem dX0_readRest_236 : decode cX0_readRest 236 = .ok (.aload_n 0, 1) := by decide +kernel
theorem dX0_readRest_237 : decode cX0_readRest 237 = .ok (.iload_n 2, 1) := by decide +kernel
theorem dX0_readRest_238 : decode cX0_readRest 238 = .ok (.iload 11, 2) := by decide +kernel
theorem dX0_readRest_240 : decode cX0_readRest 240 = .ok (.iconst 0, 1) := by decide +kernel
theorem dX0_readRest_241 : decode cX0_readRest 241 = .ok (.iconst 0, 1) := by decide +kernel
theorem dX0_readRest_242 : decode cX0_readRest 242 = .ok (.invokevirtual 67, 3) := by decide +kernel
theorem dX0_readRest_245 : decode cX0_readRest 245 = .ok (.ifCond .eq 7, 3) := by decide +kernel
theorem dX0_readRest_248 : decode cX0_readRest 248 = .ok (.iconst 1, 1) := by decide +kernel
theorem dX0_readRest_249 : decode cX0_readRest 249 = .ok (.goto 4, 3) := by decide +kernel
theorem dX0_readRest_218 : decode cX0_readRest 218 = .ok (.bipush 20, 2) := by decide +kernel
theorem dX0_readRest_220 : decode cX0_readRest 220 = .ok (.goto 5, 3) := by decide +kernel
theorem dX0_readRest_32 : decode cX0_readRest 32 = .ok (.aload_n 1, 1) := by decide +kernel
theorem dX0_readRest_33 : decode cX0_readRest 33 = .ok (.bipush 8, 2) := by decide +kernel
theorem dX0_readRest_35 : decode cX0_readRest 35 = .ok (.bipush 9, 2) := by decide +kernel
theorem dX0_readRest_37 : decode cX0_readRest 37 = .ok (.invokevirtual 60, 3) := by decide +kernel
theorem dX0_readRest_40 : decode cX0_readRest 40 = .ok (.istore 4, 2) := by decide +kernel
theorem dX0_readRest_42 : decode cX0_readRest 42 = .ok (.iload 4, 2) := by decide +kernel
theorem dX0_readRest_44 : decode cX0_readRest 44 = .ok (.iconst (-1), 1) := by decide +kernel
theorem dX0_readRest_45 : decode cX0_readRest 45 = .ok (.if_icmp .ne 7, 3) := by decide +kernel
theorem dX0_readRest_52 : decode cX0_readRest 52 = .ok (.aload_n 1, 1) := by decide +kernel
theorem dX0_readRest_53 : decode cX0_readRest 53 = .ok (.iconst 0, 1) := by decide +kernel
theorem dX0_readRest_54 : decode cX0_readRest 54 = .ok (.iconst 5, 1) := by decide +kernel
theorem dX0_readRest_55 : decode cX0_readRest 55 = .ok (.invokevirtual 64, 3) := by decide +kernel
theorem dX0_readRest_58 : decode cX0_readRest 58 = .ok (.istore 5, 2) := by decide +kernel
theorem dX0_readRest_60 : decode cX0_readRest 60 = .ok (.iload 5, 2) := by decide +kernel
theorem dX0_readRest_62 : decode cX0_readRest 62 = .ok (.iconst (-1), 1) := by decide +kernel
theorem dX0_readRest_63 : decode cX0_readRest 63 = .ok (.if_icmp .ne 7, 3) := by decide +kernel
theorem dX0_readRest_66 : decode cX0_readRest 66 = .ok (.iconst (-1), 1) := by decide +kernel
theorem dX0_readRest_67 : decode cX0_readRest 67 = .ok (.goto 11, 3) := by decide +kernel
theorem dX0_readRest_78 : decode cX0_readRest 78 = .ok (.istore 6, 2) := by decide +kernel
theorem dX0_readRest_80 : decode cX0_readRest 80 = .ok (.iload 6, 2) := by decide +kernel
theorem dX0_readRest_82 : decode cX0_readRest 82 = .ok (.iconst (-1), 1) := by decide +kernel
theorem dX0_readRest_83 : decode cX0_readRest 83 = .ok (.if_icmp .eq 21, 3) := by decide +kernel
theorem dX0_readRest_104 : decode cX0_readRest 104 = .ok (.iconst 0, 1) := by decide +kernel
theorem dX0_readRest_105 : decode cX0_readRest 105 = .ok (.ireturn, 1) := by decide +kernel
theorem dX0_readRest_70 : decode cX0_readRest 70 = .ok (.aload_n 1, 1) := by decide +kernel
theorem dX0_readRest_71 : decode cX0_readRest 71 = .ok (.bipush 10, 2) := by decide +kernel
theorem dX0_readRest_73 : decode cX0_readRest 73 = .ok (.bipush 11, 2) := by decide +kernel
theorem dX0_readRest_75 : decode cX0_readRest 75 = .ok (.invokevirtual 60, 3) := by decide +kernel
theorem dX0_readRest_86 : decode cX0_readRest 86 = .ok (.aload_n 0, 1) := by decide +kernel
theorem dX0_readRest_87 : decode cX0_readRest 87 = .ok (.iload_n 2, 1) := by decide +kernel
theorem dX0_readRest_88 : decode cX0_readRest 88 = .ok (.iload 4, 2) := by decide +kernel
theorem dX0_readRest_90 : decode cX0_readRest 90 = .ok (.iload 5, 2) := by decide +kernel
theorem dX0_readRest_92 : decode cX0_readRest 92 = .ok (.iload 6, 2) := by decide +kernel
theorem dX0_readRest_94 : decode cX0_readRest 94 = .ok (.invokevirtual 67, 3) := by decide +kernel
theorem dX0_readRest_97 : decode cX0_readRest 97 = .ok (.ifCond .eq 7, 3) := by decide +kernel
theorem dX0_readRest_100 : decode cX0_readRest 100 = .ok (.iconst 1, 1) := by decide +kernel
theorem dX0_readRest_101 : decode cX0_readRest 101 = .ok (.goto 4, 3) := by decide +kernel
theorem dX0_readRest_48 : decode cX0_readRest 48 = .ok (.iconst (-1), 1) := by decide +kernel
theorem dX0_readRest_49 : decode cX0_readRest 49 = .ok (.goto 9, 3) := by decide +kernel
theorem dX0_readRest_106 : decode cX0_readRest 106 = .ok (.aload_n 1, 1) := by decide +kernel
theorem dX0_readRest_107 : decode cX0_readRest 107 = .ok (.bipush 12, 2) := by decide +kernel
theorem dX0_readRest_109 : decode cX0_readRest 109 = .ok (.bipush 15, 2) := by decide +kernel
theorem dX0_readRest_111 : decode cX0_readRest 111 = .ok (.invokevirtual 60, 3) := by decide +kernel
theorem dX0_readRest_114 : decode cX0_readRest 114 = .ok (.istore 7, 2) := by decide +kernel
theorem dX0_readRest_116 : decode cX0_readRest 116 = .ok (.iload 7, 2) := by decide +kernel
theorem dX0_readRest_118 : decode cX0_readRest 118 = .ok (.iconst (-1), 1) := by decide +kernel
theorem dX0_readRest_119 : decode cX0_readRest 119 = .ok (.if_icmp .eq 19, 3) := by decide +kernel
theorem dX0_readRest_138 : decode cX0_readRest 138 = .ok (.iconst 0, 1) := by decide +kernel
theorem dX0_readRest_139 : decode cX0_readRest 139 = .ok (.ireturn, 1) := by decide +kernel
theorem dX0_readRest_122 : decode cX0_readRest 122 = .ok (.aload_n 0, 1) := by decide +kernel
theorem dX0_readRest_123 : decode cX0_readRest 123 = .ok (.iload_n 2, 1) := by decide +kernel
theorem dX0_readRest_124 : decode cX0_readRest 124 = .ok (.iload_n 3, 1) := by decide +kernel
theorem dX0_readRest_125 : decode cX0_readRest 125 = .ok (.iload 7, 2) := by decide +kernel
theorem dX0_readRest_127 : decode cX0_readRest 127 = .ok (.iconst 0, 1) := by decide +kernel
theorem dX0_readRest_128 : decode cX0_readRest 128 = .ok (.invokevirtual 67, 3) := by decide +kernel
theorem dX0_readRest_131 : decode cX0_readRest 131 = .ok (.ifCond .eq 7, 3) := by decide +kernel
theorem dX0_readRest_134 : decode cX0_readRest 134 = .ok (.iconst 1, 1) := by decide +kernel
theorem dX0_readRest_135 : decode cX0_readRest 135 = .ok (.goto 4, 3) := by decide +kernel
theorem dX0_readRest_140 : decode cX0_readRest 140 = .ok (.aload_n 1, 1) := by decide +kernel
theorem dX0_readRest_141 : decode cX0_readRest 141 = .ok (.iconst 0, 1) := by decide +kernel
theorem dX0_readRest_142 : decode cX0_readRest 142 = .ok (.iconst 5, 1) := by decide +kernel
theorem dX0_readRest_143 : decode cX0_readRest 143 = .ok (.invokevirtual 64, 3) := by decide +kernel
theorem dX0_readRest_146 : decode cX0_readRest 146 = .ok (.istore 8, 2) := by decide +kernel
theorem dX0_readRest_148 : decode cX0_readRest 148 = .ok (.iload 8, 2) := by decide +kernel
theorem dX0_readRest_150 : decode cX0_readRest 150 = .ok (.iconst (-1), 1) := by decide +kernel
theorem dX0_readRest_151 : decode cX0_readRest 151 = .ok (.if_icmp .ne 7, 3) := by decide +kernel
theorem dX0_readRest_154 : decode cX0_readRest 154 = .ok (.iconst (-1), 1) := by decide +kernel
theorem dX0_readRest_155 : decode cX0_readRest 155 = .ok (.goto 9, 3) := by decide +kernel
theorem dX0_readRest_164 : decode cX0_readRest 164 = .ok (.istore 9, 2) := by decide +kernel
theorem dX0_readRest_166 : decode cX0_readRest 166 = .ok (.iload 9, 2) := by decide +kernel
theorem dX0_readRest_168 : decode cX0_readRest 168 = .ok (.iconst (-1), 1) := by decide +kernel
theorem dX0_readRest_169 : decode cX0_readRest 169 = .ok (.if_icmp .ne 7, 3) := by decide +kernel
theorem dX0_readRest_172 : decode cX0_readRest 172 = .ok (.iconst (-1), 1) := by decide +kernel
theorem dX0_readRest_173 : decode cX0_readRest 173 = .ok (.goto 10, 3) := by decide +kernel
theorem dX0_readRest_183 : decode cX0_readRest 183 = .ok (.istore 10, 2) := by decide +kernel
theorem dX0_readRest_185 : decode cX0_readRest 185 = .ok (.iload 10, 2) := by decide +kernel
theorem dX0_readRest_187 : decode cX0_readRest 187 = .ok (.iconst (-1), 1) := by decide +kernel
theorem dX0_readRest_188 : decode cX0_readRest 188 = .ok (.if_icmp .eq 21, 3) := by decide +kernel
theorem dX0_readRest_209 : decode cX0_readRest 209 = .ok (.iconst 0, 1) := by decide +kernel
theorem dX0_readRest_210 : decode cX0_readRest 210 = .ok (.ireturn, 1) := by decide +kernel
theorem dX0_readRest_158 : decode cX0_readRest 158 = .ok (.aload_n 1, 1) := by decide +kernel
theorem dX0_readRest_159 : decode cX0_readRest 159 = .ok (.iconst 0, 1) := by decide +kernel
theorem dX0_readRest_160 : decode cX0_readRest 160 = .ok (.iconst 5, 1) := by decide +kernel
theorem dX0_readRest_161 : decode cX0_readRest 161 = .ok (.invokevirtual 64, 3) := by decide +kernel
theorem dX0_readRest_176 : decode cX0_readRest 176 = .ok (.aload_n 1, 1) := by decide +kernel
theorem dX0_readRest_177 : decode cX0_readRest 177 = .ok (.iconst 1, 1) := by decide +kernel
theorem dX0_readRest_178 : decode cX0_readRest 178 = .ok (.bipush 9, 2) := by decide +kernel
theorem dX0_readRest_180 : decode cX0_readRest 180 = .ok (.invokevirtual 64, 3) := by decide +kernel
theorem dX0_readRest_191 : decode cX0_readRest 191 = .ok (.aload_n 0, 1) := by decide +kernel
theorem dX0_readRest_192 : decode cX0_readRest 192 = .ok (.iload_n 2, 1) := by decide +kernel
theorem dX0_readRest_193 : decode cX0_readRest 193 = .ok (.iload 8, 2) := by decide +kernel
theorem dX0_readRest_195 : decode cX0_readRest 195 = .ok (.iload 9, 2) := by decide +kernel
theorem dX0_readRest_197 : decode cX0_readRest 197 = .ok (.iload 10, 2) := by decide +kernel
theorem dX0_readRest_199 : decode cX0_readRest 199 = .ok (.invokevirtual 67, 3) := by decide +kernel
theorem dX0_readRest_202 : decode cX0_readRest 202 = .ok (.ifCond .eq 7, 3) := by decide +kernel
theorem dX0_readRest_205 : decode cX0_readRest 205 = .ok (.iconst 1, 1) := by decide +kernel
theorem dX0_readRest_206 : decode cX0_readRest 206 = .ok (.goto 4, 3) := by decide +kernel
theorem dX0_read_0 : decode cX0_read 0 = .ok (.aload_n 0, 1) := by decide +kernel
theorem dX0_read_1 : decode cX0_read 1 = .ok (.iconst 0, 1) := by decide +kernel
theorem dX0_read_2 : decode cX0_read 2 = .ok (.putfield 15, 3) := by decide +kernel
theorem dX0_read_5 : decode cX0_read 5 = .ok (.aload_n 0, 1) := by decide +kernel
theorem dX0_read_6 : decode cX0_read 6 = .ok (.getfield 15, 3) := by decide +kernel
theorem dX0_read_9 : decode cX0_read 9 = .ok (.bipush 40, 2) := by decide +kernel
theorem dX0_read_11 : decode cX0_read 11 = .ok (.if_icmp .gt 104, 3) := by decide +kernel
theorem dX0_read_14 : decode cX0_read 14 = .ok (.aload_n 1, 1) := by decide +kernel
theorem dX0_read_15 : decode cX0_read 15 = .ok (.getfield 23, 3) := by decide +kernel
theorem dX0_read_18 : decode cX0_read 18 = .ok (.ifCond .eq 97, 3) := by decide +kernel
theorem dX0_read_115 : decode cX0_read 115 = .ok (.iconst 1, 1) := by decide +kernel
theorem dX0_read_116 : decode cX0_read 116 = .ok (.ireturn, 1) := by decide +kernel
theorem dX0_read_21 : decode cX0_read 21 = .ok (.aload_n 1, 1) := by decide +kernel
theorem dX0_read_22 : decode cX0_read 22 = .ok (.invokevirtual 28, 3) := by decide +kernel
theorem dX0_read_25 : decode cX0_read 25 = .ok (.invokestatic 32, 3) := by decide +kernel
theorem dX0_read_28 : decode cX0_read 28 = .ok (.istore_n 3, 1) := by decide +kernel
theorem dX0_read_29 : decode cX0_read 29 = .ok (.iload_n 3, 1) := by decide +kernel
theorem dX0_read_30 : decode cX0_read 30 = .ok (.iconst 1, 1) := by decide +kernel
theorem dX0_read_31 : decode cX0_read 31 = .ok (.if_icmp .ne 14, 3) := by decide +kernel
theorem dX0_read_45 : decode cX0_read 45 = .ok (.iconst 0, 1) := by decide +kernel
theorem dX0_read_34 : decode cX0_read 34 = .ok (.aload_n 2, 1) := by decide +kernel
theorem dX0_read_35 : decode cX0_read 35 = .ok (.aload_n 1, 1) := by decide +kernel
theorem dX0_read_36 : decode cX0_read 36 = .ok (.getfield 36, 3) := by decide +kernel
theorem dX0_read_39 : decode cX0_read 39 = .ok (.invokevirtual 40, 3) := by decide +kernel
theorem dX0_read_42 : decode cX0_read 42 = .ok (.goto 4, 3) := by decide +kernel
theorem dX0_read_46 : decode cX0_read 46 = .ok (.istore 4, 2) := by decide +kernel
theorem dX0_read_48 : decode cX0_read 48 = .ok (.iload_n 3, 1) := by decide +kernel
theorem dX0_read_49 : decode cX0_read 49 = .ok (.iconst (-1), 1) := by decide +kernel
theorem dX0_read_50 : decode cX0_read 50 = .ok (.if_icmp .ne 9, 3) := by decide +kernel
theorem dX0_read_59 : decode cX0_read 59 = .ok (.iload 4, 2) := by decide +kernel
theorem dX0_read_61 : decode cX0_read 61 = .ok (.iconst (-1), 1) := by decide +kernel
theorem dX0_read_62 : decode cX0_read 62 = .ok (.if_icmp .ne 9, 3) := by decide +kernel
theorem dX0_read_71 : decode cX0_read 71 = .ok (.aload_n 0, 1) := by decide +kernel
theorem dX0_read_72 : decode cX0_read 72 = .ok (.getfield 15, 3) := by decide +kernel
theorem dX0_read_75 : decode cX0_read 75 = .ok (.bipush 40, 2) := by decide +kernel
theorem dX0_read_77 : decode cX0_read 77 = .ok (.if_icmp .lt 9, 3) := by decide +kernel
theorem dX0_read_86 : decode cX0_read 86 = .ok (.aload_n 1, 1) := by decide +kernel
theorem dX0_read_87 : decode cX0_read 87 = .ok (.invokevirtual 50, 3) := by decide +kernel
theorem dX0_read_90 : decode cX0_read 90 = .ok (.aload_n 0, 1) := by decide +kernel
theorem dX0_read_91 : decode cX0_read 91 = .ok (.aload_n 1, 1) := by decide +kernel
theorem dX0_read_92 : decode cX0_read 92 = .ok (.iload_n 3, 1) := by decide +kernel
theorem dX0_read_93 : decode cX0_read 93 = .ok (.iload 4, 2) := by decide +kernel
theorem dX0_read_95 : decode cX0_read 95 = .ok (.invokevirtual 53, 3) := by decide +kernel
theorem dX0_read_98 : decode cX0_read 98 = .ok (.ifCond .eq 12, 3) := by decide +kernel
theorem dX0_read_101 : decode cX0_read 101 = .ok (.aload_n 1, 1) := by decide +kernel
theorem dX0_read_102 : decode cX0_read 102 = .ok (.bipush 59, 2) := by decide +kernel
theorem dX0_read_104 : decode cX0_read 104 = .ok (.invokevirtual 57, 3) := by decide +kernel
theorem dX0_read_107 : decode cX0_read 107 = .ok (.ifCond .ne 5, 3) := by decide +kernel
theorem dX0_read_112 : decode cX0_read 112 = .ok (.goto (-107), 3) := by decide +kernel
theorem dX0_read_110 : decode cX0_read 110 = .ok (.iconst 0, 1) := by decide +kernel
theorem dX0_read_111 : decode cX0_read 111 = .ok (.ireturn, 1) := by decide +kernel
theorem dX0_read_65 : decode cX0_read 65 = .ok (.aload_n 1, 1) := by decide +kernel
theorem dX0_read_66 : decode cX0_read 66 = .ok (.iconst 3, 1) := by decide +kernel
theorem dX0_read_67 : decode cX0_read 67 = .ok (.invokevirtual 46, 3) := by decide +kernel
theorem dX0_read_70 : decode cX0_read 70 = .ok (.ireturn, 1) := by decide +kernel
theorem dX0_read_53 : decode cX0_read 53 = .ok (.aload_n 1, 1) := by decide +kernel
theorem dX0_read_54 : decode cX0_read 54 = .ok (.iconst 1, 1) := by decide +kernel
theorem dX0_read_55 : decode cX0_read 55 = .ok (.invokevirtual 46, 3) := by decide +kernel
theorem dX0_read_58 : decode cX0_read 58 = .ok (.ireturn, 1) := by decide +kernel
theorem dX0_read_80 : decode cX0_read 80 = .ok (.aload_n 1, 1) := by decide +kernel
theorem dX0_read_81 : decode cX0_read 81 = .ok (.iconst 4, 1) := by decide +kernel
theorem dX0_read_82 : decode cX0_read 82 = .ok (.invokevirtual 46, 3) := by decide +kernel
theorem dX0_read_85 : decode cX0_read 85 = .ok (.ireturn, 1) := by decide +kernel
theorem dX0_whyNot_0 : decode cX0_whyNot 0 = .ok (.iload_n 1, 1) := by decide +kernel
theorem dX0_whyNot_1 : decode cX0_whyNot 1 = .ok (.tableswitch 75 0 4 #[35, 44, 51, 60, 69], 35) := by decide +kernel
theorem dX0_whyNot_76 : decode cX0_whyNot 76 = .ok (.aload_n 0, 1) := by decide +kernel
theorem dX0_whyNot_77 : decode cX0_whyNot 77 = .ok (.invokevirtual 131, 3) := by decide +kernel
theorem dX0_whyNot_80 : decode cX0_whyNot 80 = .ok (.iload_n 2, 1) := by decide +kernel
theorem dX0_whyNot_81 : decode cX0_whyNot 81 = .ok (.if_icmp .ge 7, 3) := by decide +kernel
theorem dX0_whyNot_88 : decode cX0_whyNot 88 = .ok (.iconst 0, 1) := by decide +kernel
theorem dX0_whyNot_89 : decode cX0_whyNot 89 = .ok (.ireturn, 1) := by decide +kernel
theorem dX0_whyNot_84 : decode cX0_whyNot 84 = .ok (.iconst 1, 1) := by decide +kernel
theorem dX0_whyNot_85 : decode cX0_whyNot 85 = .ok (.goto 4, 3) := by decide +kernel
theorem dX0_whyNot_36 : decode cX0_whyNot 36 = .ok (.aload_n 0, 1) := by decide +kernel
theorem dX0_whyNot_37 : decode cX0_whyNot 37 = .ok (.iload_n 2, 1) := by decide +kernel
theorem dX0_whyNot_38 : decode cX0_whyNot 38 = .ok (.iload_n 3, 1) := by decide +kernel
theorem dX0_whyNot_39 : decode cX0_whyNot 39 = .ok (.iload 4, 2) := by decide +kernel
theorem dX0_whyNot_41 : decode cX0_whyNot 41 = .ok (.invokevirtual 115, 3) := by decide +kernel
theorem dX0_whyNot_44 : decode cX0_whyNot 44 = .ok (.ireturn, 1) := by decide +kernel
theorem dX0_whyNot_45 : decode cX0_whyNot 45 = .ok (.aload_n 0, 1) := by decide +kernel
theorem dX0_whyNot_46 : decode cX0_whyNot 46 = .ok (.iload_n 2, 1) := by decide +kernel
theorem dX0_whyNot_47 : decode cX0_whyNot 47 = .ok (.iload_n 3, 1) := by decide +kernel
theorem dX0_whyNot_48 : decode cX0_whyNot 48 = .ok (.invokevirtual 119, 3) := by decide +kernel
theorem dX0_whyNot_51 : decode cX0_whyNot 51 = .ok (.ireturn, 1) := by decide +kernel
theorem dX0_whyNot_52 : decode cX0_whyNot 52 = .ok (.aload_n 0, 1) := by decide +kernel
theorem dX0_whyNot_53 : decode cX0_whyNot 53 = .ok (.iload_n 2, 1) := by decide +kernel
theorem dX0_whyNot_54 : decode cX0_whyNot 54 = .ok (.iload_n 3, 1) := by decide +kernel
theorem dX0_whyNot_55 : decode cX0_whyNot 55 = .ok (.iload 4, 2) := by decide +kernel
theorem dX0_whyNot_57 : decode cX0_whyNot 57 = .ok (.invokevirtual 122, 3) := by decide +kernel
theorem dX0_whyNot_60 : decode cX0_whyNot 60 = .ok (.ireturn, 1) := by decide +kernel
theorem dX0_whyNot_61 : decode cX0_whyNot 61 = .ok (.aload_n 0, 1) := by decide +kernel
theorem dX0_whyNot_62 : decode cX0_whyNot 62 = .ok (.iload_n 2, 1) := by decide +kernel
theorem dX0_whyNot_63 : decode cX0_whyNot 63 = .ok (.iload_n 3, 1) := by decide +kernel
theorem dX0_whyNot_64 : decode cX0_whyNot 64 = .ok (.iload 4, 2) := by decide +kernel
theorem dX0_whyNot_66 : decode cX0_whyNot 66 = .ok (.invokevirtual 125, 3) := by decide +kernel
theorem dX0_whyNot_69 : decode cX0_whyNot 69 = .ok (.ireturn, 1) := by decide +kernel
theorem dX0_whyNot_70 : decode cX0_whyNot 70 = .ok (.aload_n 0, 1) := by decide +kernel
theorem dX0_whyNot_71 : decode cX0_whyNot 71 = .ok (.iload_n 2, 1) := by decide +kernel
theorem dX0_whyNot_72 : decode cX0_whyNot 72 = .ok (.invokevirtual 128, 3) := by decide +kernel
theorem dX0_whyNot_75 : decode cX0_whyNot 75 = .ok (.ireturn, 1) := by decide +kernel
set_option maxRecDepth 100000 in
theorem ggX0_readRest_X5_takeNumber : GoodIn wsX0_readRest wsX5_takeNumber := goodIn_r _ [99, 26, 38, 7, 8, 9, 4, 10, 11, 12, 13, 14, 15, 16, 17, 18, 19, 20, 21, 22, 23, 24, 6, 25, 27, 28, 29, 30, 31, 32, 33, 34, 35, 36, 37, 39, 40, 41, 42, 43, 44, 45, 46, 47, 48, 49, 50, 51, 52, 53, 54, 55, 56, 57, 58, 59, 60, 61, 62, 63, 64, 65, 66, 67, 68, 69, 70, 71, 72, 73, 74, 75, 76, 77, 78, 79, 80, 81, 82, 83, 84, 85, 86, 87, 88, 89, 90, 91, 92, 93, 94, 95, 107, 108, 109, 110, 111, 112, 113, 114, 115, 116, 117] rfl (by decide +kernel)
set_option maxRecDepth 100000 in
theorem ggX0_readRest_X0_put : GoodIn wsX0_readRest wsX0_put := goodIn_r _ [104, 105, 106, 118, 119, 120, 121, 122, 123, 124] rfl (by decide +kernel)
set_option maxRecDepth 100000 in
theorem ggX0_readRest_X5_takeWord : GoodIn wsX0_readRest wsX5_takeWord := goodIn_r _ [5, 6, 7, 8, 9, 4, 10, 11, 12, 13, 14, 15, 16, 17, 18, 19, 20, 21, 22, 23, 24, 25, 26, 27, 28, 29, 30, 31, 32, 33, 34, 35, 36, 37, 38, 39, 40, 41, 42, 43, 44, 45, 46, 47, 48, 49, 50, 51, 52, 53, 54, 55, 56, 57, 58, 59, 60, 61, 62, 63, 64, 65, 66, 67, 68, 69, 70, 71, 72, 73, 74, 75, 76, 77, 78, 79, 80, 81, 82, 83, 84, 85, 86, 87, 88, 89, 90, 91, 92, 93, 94, 95, 107, 108, 109, 110, 111, 112, 113, 114, 115, 116, 117] rfl (by decide +kernel)
set_option maxRecDepth 100000 in
theorem ggX0_read_X5_nextWord : GoodIn wsX0_read wsX5_nextWord := goodIn_r _ [8, 9, 140, 141, 142, 143, 144, 145, 146, 147, 148, 149, 150] rfl (by decide +kernel)
set_option maxRecDepth 100000 in
theorem ggX0_read_X0_sortOf : GoodIn wsX0_read wsX0_sortOf := goodIn_r _ [13] rfl (by decide +kernel)
set_option maxRecDepth 100000 in
theorem ggX0_read_X7_boatNamed : GoodIn wsX0_read wsX7_boatNamed := goodIn_r _ [18, 19, 20, 151, 152, 153, 154, 155, 156, 157, 158, 159, 160, 161, 162, 163, 164, 165, 166, 167, 168, 169] rfl (by decide +kernel)
set_option maxRecDepth 100000 in
theorem ggX0_read_X5_advance : GoodIn wsX0_read wsX5_advance := goodIn_r _ [35, 36, 37, 38, 25, 9, 39, 40, 41, 42, 7, 43, 44, 45, 46, 47, 48, 49, 50, 51, 52, 53, 54, 55, 56, 57, 58, 59, 60, 61, 62, 63, 64, 65, 66, 67, 68, 69, 70, 71, 72, 73, 74, 75, 76, 77, 78, 79, 80, 81, 82, 83, 84, 85, 86, 87, 88, 89, 90, 91, 92, 93, 94, 95, 96, 97, 98, 99, 100, 101, 102, 103, 104, 105, 106, 107, 108, 109, 140, 141, 142, 143, 144, 145, 146, 147, 148, 149, 150] rfl (by decide +kernel)
set_option maxRecDepth 100000 in
theorem ggX0_read_X0_readRest : GoodIn wsX0_read wsX0_readRest := goodIn_r _ [113, 114, 115, 116, 7, 117, 9, 118, 22, 23, 24, 25, 26, 27, 28, 29, 30, 31, 119, 33, 34, 35, 36, 37, 38, 39, 40, 41, 42, 43, 44, 45, 46, 47, 48, 49, 50, 51, 52, 53, 54, 55, 56, 57, 58, 59, 60, 61, 62, 63, 64, 65, 66, 67, 68, 69, 70, 71, 72, 73, 74, 75, 76, 77, 78, 79, 80, 81, 82, 83, 84, 85, 86, 87, 88, 89, 90, 91, 92, 93, 94, 95, 96, 97, 98, 99, 100, 101, 102, 103, 104, 105, 106, 107, 108, 109, 120, 121, 122, 123, 124, 125, 126, 12, 127, 1, 128, 140, 141, 142, 143, 144, 145, 146, 147, 148, 149, 150, 133, 134, 135, 136, 137, 138, 139] rfl (by decide +kernel)
set_option maxRecDepth 100000 in
theorem ggX0_read_X5_takeSign : GoodIn wsX0_read wsX5_takeSign := goodIn_r _ [132, 40, 118, 22, 23, 7, 24, 25, 26, 27, 28, 29, 30, 31, 119, 33, 34, 35, 36, 37, 38, 9, 39, 41, 42, 43, 44, 45, 46, 47, 48, 49, 50, 51, 52, 53, 54, 55, 56, 57, 58, 59, 60, 61, 62, 63, 64, 65, 66, 67, 68, 69, 70, 71, 72, 73, 74, 75, 76, 77, 78, 79, 80, 81, 82, 83, 84, 85, 86, 87, 88, 89, 90, 91, 92, 93, 94, 95, 96, 97, 98, 99, 100, 101, 102, 103, 104, 105, 106, 107, 108, 109, 140, 141, 142, 143, 144, 145, 146, 147, 148, 149, 150] rfl (by decide +kernel)
set_option maxRecDepth 100000 in
theorem ggX0_read_X5_refuse : GoodIn wsX0_read wsX5_refuse := goodIn_r _ [24, 25, 26, 27, 28, 7, 29, 30, 31, 140, 141, 142, 143, 144, 145, 146, 147, 148, 149, 150] rfl (by decide +kernel)
set_option maxRecDepth 100000 in
theorem ggX0_whyNot_X7_daysLeft : GoodIn wsX0_whyNot wsX7_daysLeft := goodIn_r _ [66, 67, 68, 69, 70, 71, 72, 73, 74, 75, 76, 77, 78, 79, 80, 81, 82, 83, 84, 85, 86] rfl (by decide +kernel)
set_option maxRecDepth 100000 in
theorem ggX0_whyNot_X7_whyNotStirred : GoodIn wsX0_whyNot wsX7_whyNotStirred := goodIn_r _ [5, 6, 7, 8, 4, 9, 10, 11, 12, 13, 14, 15, 16, 17, 68, 69, 70, 71, 72, 73, 74, 75, 76, 77, 78, 79, 80, 81, 82, 83, 84, 85, 86] rfl (by decide +kernel)
set_option maxRecDepth 100000 in
theorem ggX0_whyNot_X7_whyNotRowed : GoodIn wsX0_whyNot wsX7_whyNotRowed := goodIn_r _ [21, 22, 23, 24, 25, 26, 4, 27, 28, 29, 30, 31, 32, 33, 34, 35, 36, 37, 38, 39, 40, 41, 10, 11, 42, 43, 44, 45, 12, 13, 14, 15, 16, 17, 46, 47, 48, 49, 50, 68, 69, 70, 71, 72, 73, 74, 75, 76, 77, 78, 79, 80, 81, 82, 83, 84, 85, 86] rfl (by decide +kernel)
set_option maxRecDepth 100000 in
theorem ggX0_whyNot_X7_whyNotFloured : GoodIn wsX0_whyNot wsX7_whyNotFloured := goodIn_r _ [54, 38, 39, 40, 4, 41, 10, 11, 46, 47, 48, 49, 50, 68, 69, 70, 71, 72, 73, 74, 75, 76, 77, 78, 79, 80, 81, 82, 83, 84, 85, 86] rfl (by decide +kernel)
set_option maxRecDepth 100000 in
theorem ggX0_whyNot_X7_whyNotMilked : GoodIn wsX0_whyNot wsX7_whyNotMilked := goodIn_r _ [58, 38, 39, 40, 4, 41, 10, 11, 46, 47, 48, 49, 50, 68, 69, 70, 71, 72, 73, 74, 75, 76, 77, 78, 79, 80, 81, 82, 83, 84, 85, 86] rfl (by decide +kernel)
set_option maxRecDepth 100000 in
theorem ggX0_whyNot_X7_whyNotWarmed : GoodIn wsX0_whyNot wsX7_whyNotWarmed := goodIn_r _ [62, 16, 68, 69, 70, 71, 72, 73, 74, 75, 76, 77, 78, 79, 80, 81, 82, 83, 84, 85, 86] rfl (by decide +kernel)
set_option maxRecDepth 100000 in
theorem gX0_readRest_X5_takeNumber : GoodIn wsX0_readRest (wsV RX0 64 RX5 yX5_takeNumber wsX5_takeNumber) := goodIn_app (goodIn_of _ (by decide +kernel)) ggX0_readRest_X5_takeNumber
set_option maxRecDepth 100000 in
theorem gX0_readRest_X0_put : GoodIn wsX0_readRest (wsV RX0 67 RX0 yX0_put wsX0_put) := goodIn_app (goodIn_of _ (by decide +kernel)) ggX0_readRest_X0_put
set_option maxRecDepth 100000 in
theorem gX0_readRest_X5_takeWord : GoodIn wsX0_readRest (wsV RX0 60 RX5 yX5_takeWord wsX5_takeWord) := goodIn_app (goodIn_of _ (by decide +kernel)) ggX0_readRest_X5_takeWord
set_option maxRecDepth 100000 in
theorem gX0_read_X5_nextWord : GoodIn wsX0_read (wsV RX0 28 RX5 yX5_nextWord wsX5_nextWord) := goodIn_app (goodIn_of _ (by decide +kernel)) ggX0_read_X5_nextWord
set_option maxRecDepth 100000 in
theorem gX0_read_X0_sortOf : GoodIn wsX0_read (va_wsS RX0 32 yX0_sortOf wsX0_sortOf) := goodIn_app (goodIn_of _ (by decide +kernel)) ggX0_read_X0_sortOf
set_option maxRecDepth 100000 in
theorem gX0_read_X7_boatNamed : GoodIn wsX0_read (wsV RX0 40 RX7 yX7_boatNamed wsX7_boatNamed) := goodIn_app (goodIn_of _ (by decide +kernel)) ggX0_read_X7_boatNamed
set_option maxRecDepth 100000 in
theorem gX0_read_X5_advance : GoodIn wsX0_read (wsV RX0 50 RX5 yX5_advance wsX5_advance) := goodIn_app (goodIn_of _ (by decide +kernel)) ggX0_read_X5_advance
set_option maxRecDepth 100000 in
theorem gX0_read_X0_readRest : GoodIn wsX0_read (wsV RX0 53 RX0 yX0_readRest wsX0_readRest) := goodIn_app (goodIn_of _ (by decide +kernel)) ggX0_read_X0_readRest
set_option maxRecDepth 100000 in
theorem gX0_read_X5_takeSign : GoodIn wsX0_read (wsV RX0 57 RX5 yX5_takeSign wsX5_takeSign) := goodIn_app (goodIn_of _ (by decide +kernel)) ggX0_read_X5_takeSign
set_option maxRecDepth 100000 in
theorem gX0_read_X5_refuse : GoodIn wsX0_read (wsV RX0 46 RX5 yX5_refuse wsX5_refuse) := goodIn_app (goodIn_of _ (by decide +kernel)) ggX0_read_X5_refuse
set_option maxRecDepth 100000 in
theorem gX0_whyNot_X7_daysLeft : GoodIn wsX0_whyNot (wsV RX0 131 RX7 yX7_daysLeft wsX7_daysLeft) := goodIn_app (goodIn_of _ (by decide +kernel)) ggX0_whyNot_X7_daysLeft
set_option maxRecDepth 100000 in
theorem gX0_whyNot_X7_whyNotStirred : GoodIn wsX0_whyNot (wsV RX0 115 RX7 yX7_whyNotStirred wsX7_whyNotStirred) := goodIn_app (goodIn_of _ (by decide +kernel)) ggX0_whyNot_X7_whyNotStirred
set_option maxRecDepth 100000 in
theorem gX0_whyNot_X7_whyNotRowed : GoodIn wsX0_whyNot (wsV RX0 119 RX7 yX7_whyNotRowed wsX7_whyNotRowed) := goodIn_app (goodIn_of _ (by decide +kernel)) ggX0_whyNot_X7_whyNotRowed
set_option maxRecDepth 100000 in
theorem gX0_whyNot_X7_whyNotFloured : GoodIn wsX0_whyNot (wsV RX0 122 RX7 yX7_whyNotFloured wsX7_whyNotFloured) := goodIn_app (goodIn_of _ (by decide +kernel)) ggX0_whyNot_X7_whyNotFloured
set_option maxRecDepth 100000 in
theorem gX0_whyNot_X7_whyNotMilked : GoodIn wsX0_whyNot (wsV RX0 125 RX7 yX7_whyNotMilked wsX7_whyNotMilked) := goodIn_app (goodIn_of _ (by decide +kernel)) ggX0_whyNot_X7_whyNotMilked
set_option maxRecDepth 100000 in
theorem gX0_whyNot_X7_whyNotWarmed : GoodIn wsX0_whyNot (wsV RX0 128 RX7 yX7_whyNotWarmed wsX7_whyNotWarmed) := goodIn_app (goodIn_of _ (by decide +kernel)) ggX0_whyNot_X7_whyNotWarmed
set_option maxHeartbeats 4000000 in
set_option maxRecDepth 100000 in
theorem c_b_whyNot (l : Launch) (dC : Nat → ClassId) (dI : Nat → Nat → Nat) (ky : Nat → ClassId) (a : Nat) (wide : Nat) (high : Nat) (heat : Int32) (cools : Int32) (skinHeat : Int32) (today : Int32) (stirs : Int32) (steps : Int32) (lumps : Nat) (boats : Nat) (thickness : Nat) (lumpNames : Nat) (lumpCells : Nat) (boatNames : Nat) (boatCells : Nat) (loads : Nat) (spoons : Nat) (spoonsLeft : Nat) (depths : Nat) (thicknessF : Nat → Int32) (boatCellsF : Nat → Int32) (spoonsLeftF : Nat → Int32) (depthsF : Nat → Int32) (x : Int32) (y : Int32) (z : Int32) (u : Int32) (iv_a_0 : 2 ≤ wide) (iv_a_1 : wide ≤ 6) (iv_a_2 : 2 ≤ high) (iv_a_3 : high ≤ 6) (iv_a_4 : lumps ≤ 6) (iv_a_5 : boats ≤ 6) : Met l yX0_whyNot wsX0_whyNot ({ frames := 3, cells := 0, slots := 0, locals := 69 }) (PcP dC dI ky [.ref a, .int x, .int y, .int z, .int u] [(a, .inr (7, [.int (nI wide), .int (nI high), .int heat, .int cools, .int skinHeat, .int today, .int stirs, .int steps, .int (nI lumps), .int (nI boats), .ref thickness, .ref lumpNames, .ref lumpCells, .ref boatNames, .ref boatCells, .ref loads, .ref spoons, .ref spoonsLeft, .ref depths])), (thickness, .inl (ky 0, 36, .inl thicknessF)), (boatCells, .inl (ky 0, 6, .inl boatCellsF)), (spoonsLeft, .inl (ky 0, 6, .inl spoonsLeftF)), (depths, .inl (ky 0, 6, .inl depthsF))]) (vp_Si (fun r : Int32 => True)) 0 0 (fun _ => False) := by
  refine Met.ofW (cc := cX0_whyNot) (maxL := 5) (ret := (some .int)) (by decide) rfl ?_
  intro p e s m args below meth c s₁ B hml hv
  obtain ⟨rfl, hP, hK⟩ := hv
  have hx := B.exec
  have hb := B.bytes
  have hr := B.returns
  have hts := atoms_spec (ws := wsX0_whyNot) B.pre
  have hown : s.vm.findClass RX0 = some m.cls := findClass_of_methodNamed B.named
  have hlocks := B.notSynchronized
  have hl := lv_entry ([.ref a, .int x, .int y, .int z, .int u]) (n := 5) (Nat.le_of_ble_eq_true rfl)
  rw [lg_entry_eq]
  generalize (lg_sl ([.ref a, .int x, .int y, .int z, .int u]) ++ List.replicate (5 - (lg_sl ([.ref a, .int x, .int y, .int z, .int u])).length) Slot.unset).toArray = ls at hl ⊢
  have hl : lv_has ls 5 [(0, .ref a), (1, .int x), (2, .int y), (3, .int z), (4, .int u)] := hl
  refine q_name (fun Q hQ => ?_)
  generalize ([.ref a, .int x, .int y, .int z, .int u] : List Value).toArray = args at hts hQ ⊢
  refine lv_iload_n hx hb dX0_whyNot_0 rfl (lv_at hl 1 rfl) ?_
  rcases sw_0_4 x with c2 | c3 | c4 | c5 | c6 | c7
  · refine lv_tableOut (tgt := 76) hx hb dX0_whyNot_1 c2 (by decide) ?_
    refine lv_aload_n hx hb dX0_whyNot_76 rfl (lv_at hl 0 rfl) ?_
    refine vp_callSi (W.runV (As := []) (rest := []) ⟨hx, hb, hml, hown, hts⟩ (c_s_daysLeft l dC dI ky a wide high heat cools skinHeat today stirs steps lumps boats thickness lumpNames lumpCells boatNames boatCells loads spoons spoonsLeft depths iv_a_0 iv_a_1 iv_a_2 iv_a_3 iv_a_4 iv_a_5) (cwV 0 hts gX0_whyNot_X7_daysLeft rfl rfl rfl (by decide +kernel) ⟨(Nat.le_of_ble_eq_true rfl), (Nat.le_of_ble_eq_true rfl)⟩) (pre_PV hK hP [0] rfl (ci := 7) (q0 := 0) rfl rfl) rfl rfl hl.1 rfl (lv_room (Nat.le_of_ble_eq_true rfl)) dX0_whyNot_77 ⟨(Nat.le_of_ble_eq_true rfl), (Nat.le_of_ble_eq_true rfl)⟩) (fun r8 p9 => ?_)
    refine lv_iload_n hx hb dX0_whyNot_80 rfl (lv_at hl 2 rfl) ?_
    refine lv_icmp_ge (tgt := 88) hx hb dX0_whyNot_81 (by decide) (fun c10 => ?_) (fun c10 => ?_)
    · refine lv_iconst (v := nI 0) hx hb dX0_whyNot_88 (by decide) ?_
      rw [hQ]
      exact W.iret (v := nI 0) hx hb hr (fun t9 ht9 hW9 => ⟨nI 0, rfl, trivial, ht9⟩) (fun _ h => absurd h List.not_mem_nil) dX0_whyNot_89
    · refine lv_iconst (v := nI 1) hx hb dX0_whyNot_84 (by decide) ?_
      refine lv_goto (tgt := 89) hx hb dX0_whyNot_85 (by decide) ?_
      rw [hQ]
      exact W.iret (v := nI 1) hx hb hr (fun t9 ht9 hW9 => ⟨nI 1, rfl, trivial, ht9⟩) (fun _ h => absurd h List.not_mem_nil) dX0_whyNot_89
  · refine r_ti (nI 0) c3 ?_
    rw [c3] at hl
    refine lv_tableIn (off := 35) (tgt := 36) hx hb dX0_whyNot_1 (by decide) (by decide) rfl (by decide) ?_
    refine lv_aload_n hx hb dX0_whyNot_36 rfl (lv_at hl 0 rfl) ?_
    refine lv_iload_n hx hb dX0_whyNot_37 rfl (lv_at hl 2 rfl) ?_
    refine lv_iload_n hx hb dX0_whyNot_38 rfl (lv_at hl 3 rfl) ?_
    refine lv_iload hx hb dX0_whyNot_39 (lv_at hl 4 rfl) ?_
    refine vp_callSi (W.runV (As := [.int y, .int z, .int u]) (rest := []) ⟨hx, hb, hml, hown, hts⟩ (c_s_whyNotStirred l dC dI ky a wide high heat cools skinHeat today stirs steps lumps boats thickness lumpNames lumpCells boatNames boatCells loads spoons spoonsLeft depths y z u iv_a_0 iv_a_1 iv_a_2 iv_a_3 iv_a_4 iv_a_5) (cwV 3 hts gX0_whyNot_X7_whyNotStirred rfl rfl rfl (by decide +kernel) ⟨(Nat.le_of_ble_eq_true rfl), (Nat.le_of_ble_eq_true rfl)⟩) (pre_PV hK hP [0] rfl (ci := 7) (q0 := 0) rfl rfl) rfl rfl hl.1 rfl (lv_room (Nat.le_of_ble_eq_true rfl)) dX0_whyNot_41 ⟨(Nat.le_of_ble_eq_true rfl), (Nat.le_of_ble_eq_true rfl)⟩) (fun r11 p12 => ?_)
    rw [hQ]
    exact W.iret (v := r11) hx hb hr (fun t9 ht9 hW9 => ⟨r11, rfl, trivial, ht9⟩) (fun _ h => absurd h List.not_mem_nil) dX0_whyNot_44
  · refine r_ti (nI 1) c4 ?_
    rw [c4] at hl
    refine lv_tableIn (off := 44) (tgt := 45) hx hb dX0_whyNot_1 (by decide) (by decide) rfl (by decide) ?_
    refine lv_aload_n hx hb dX0_whyNot_45 rfl (lv_at hl 0 rfl) ?_
    refine lv_iload_n hx hb dX0_whyNot_46 rfl (lv_at hl 2 rfl) ?_
    refine lv_iload_n hx hb dX0_whyNot_47 rfl (lv_at hl 3 rfl) ?_
    refine vp_callSi (W.runV (As := [.int y, .int z]) (rest := []) ⟨hx, hb, hml, hown, hts⟩ (c_s_whyNotRowed l dC dI ky a wide high heat cools skinHeat today stirs steps lumps boats thickness lumpNames lumpCells boatNames boatCells loads spoons spoonsLeft depths thicknessF boatCellsF spoonsLeftF depthsF y z iv_a_0 iv_a_1 iv_a_2 iv_a_3 iv_a_4 iv_a_5) (cwV 2 hts gX0_whyNot_X7_whyNotRowed rfl rfl rfl (by decide +kernel) ⟨(Nat.le_of_ble_eq_true rfl), (Nat.le_of_ble_eq_true rfl)⟩) (pre_PV hK hP [0, 1, 2, 3, 4] rfl (ci := 7) (q0 := 0) rfl rfl) rfl rfl hl.1 rfl (lv_room (Nat.le_of_ble_eq_true rfl)) dX0_whyNot_48 ⟨(Nat.le_of_ble_eq_true rfl), (Nat.le_of_ble_eq_true rfl)⟩) (fun r13 p14 => ?_)
    rw [hQ]
    exact W.iret (v := r13) hx hb hr (fun t9 ht9 hW9 => ⟨r13, rfl, trivial, ht9⟩) (fun _ h => absurd h List.not_mem_nil) dX0_whyNot_51
  · refine r_ti (nI 2) c5 ?_
    rw [c5] at hl
    refine lv_tableIn (off := 51) (tgt := 52) hx hb dX0_whyNot_1 (by decide) (by decide) rfl (by decide) ?_
    refine lv_aload_n hx hb dX0_whyNot_52 rfl (lv_at hl 0 rfl) ?_
    refine lv_iload_n hx hb dX0_whyNot_53 rfl (lv_at hl 2 rfl) ?_
    refine lv_iload_n hx hb dX0_whyNot_54 rfl (lv_at hl 3 rfl) ?_
    refine lv_iload hx hb dX0_whyNot_55 (lv_at hl 4 rfl) ?_
    refine vp_callSi (W.runV (As := [.int y, .int z, .int u]) (rest := []) ⟨hx, hb, hml, hown, hts⟩ (c_s_whyNotFloured l dC dI ky a wide high heat cools skinHeat today stirs steps lumps boats thickness lumpNames lumpCells boatNames boatCells loads spoons spoonsLeft depths thicknessF y z u iv_a_0 iv_a_1 iv_a_2 iv_a_3 iv_a_4 iv_a_5) (cwV 3 hts gX0_whyNot_X7_whyNotFloured rfl rfl rfl (by decide +kernel) ⟨(Nat.le_of_ble_eq_true rfl), (Nat.le_of_ble_eq_true rfl)⟩) (pre_PV hK hP [0, 1] rfl (ci := 7) (q0 := 0) rfl rfl) rfl rfl hl.1 rfl (lv_room (Nat.le_of_ble_eq_true rfl)) dX0_whyNot_57 ⟨(Nat.le_of_ble_eq_true rfl), (Nat.le_of_ble_eq_true rfl)⟩) (fun r15 p16 => ?_)
    rw [hQ]
    exact W.iret (v := r15) hx hb hr (fun t9 ht9 hW9 => ⟨r15, rfl, trivial, ht9⟩) (fun _ h => absurd h List.not_mem_nil) dX0_whyNot_60
  · refine r_ti (nI 3) c6 ?_
    rw [c6] at hl
    refine lv_tableIn (off := 60) (tgt := 61) hx hb dX0_whyNot_1 (by decide) (by decide) rfl (by decide) ?_
    refine lv_aload_n hx hb dX0_whyNot_61 rfl (lv_at hl 0 rfl) ?_
    refine lv_iload_n hx hb dX0_whyNot_62 rfl (lv_at hl 2 rfl) ?_
    refine lv_iload_n hx hb dX0_whyNot_63 rfl (lv_at hl 3 rfl) ?_
    refine lv_iload hx hb dX0_whyNot_64 (lv_at hl 4 rfl) ?_
    refine vp_callSi (W.runV (As := [.int y, .int z, .int u]) (rest := []) ⟨hx, hb, hml, hown, hts⟩ (c_s_whyNotMilked l dC dI ky a wide high heat cools skinHeat today stirs steps lumps boats thickness lumpNames lumpCells boatNames boatCells loads spoons spoonsLeft depths thicknessF y z u iv_a_0 iv_a_1 iv_a_2 iv_a_3 iv_a_4 iv_a_5) (cwV 3 hts gX0_whyNot_X7_whyNotMilked rfl rfl rfl (by decide +kernel) ⟨(Nat.le_of_ble_eq_true rfl), (Nat.le_of_ble_eq_true rfl)⟩) (pre_PV hK hP [0, 1] rfl (ci := 7) (q0 := 0) rfl rfl) rfl rfl hl.1 rfl (lv_room (Nat.le_of_ble_eq_true rfl)) dX0_whyNot_66 ⟨(Nat.le_of_ble_eq_true rfl), (Nat.le_of_ble_eq_true rfl)⟩) (fun r17 p18 => ?_)
    rw [hQ]
    exact W.iret (v := r17) hx hb hr (fun t9 ht9 hW9 => ⟨r17, rfl, trivial, ht9⟩) (fun _ h => absurd h List.not_mem_nil) dX0_whyNot_69
  · refine r_ti (nI 4) c7 ?_
    rw [c7] at hl
    refine lv_tableIn (off := 69) (tgt := 70) hx hb dX0_whyNot_1 (by decide) (by decide) rfl (by decide) ?_
    refine lv_aload_n hx hb dX0_whyNot_70 rfl (lv_at hl 0 rfl) ?_
    refine lv_iload_n hx hb dX0_whyNot_71 rfl (lv_at hl 2 rfl) ?_
    refine vp_callSi (W.runV (As := [.int y]) (rest := []) ⟨hx, hb, hml, hown, hts⟩ (c_s_whyNotWarmed l dC dI ky a wide high heat cools skinHeat today stirs steps lumps boats thickness lumpNames lumpCells boatNames boatCells loads spoons spoonsLeft depths y iv_a_0 iv_a_1 iv_a_2 iv_a_3 iv_a_4 iv_a_5) (cwV 1 hts gX0_whyNot_X7_whyNotWarmed rfl rfl rfl (by decide +kernel) ⟨(Nat.le_of_ble_eq_true rfl), (Nat.le_of_ble_eq_true rfl)⟩) (pre_PV hK hP [0] rfl (ci := 7) (q0 := 0) rfl rfl) rfl rfl hl.1 rfl (lv_room (Nat.le_of_ble_eq_true rfl)) dX0_whyNot_72 ⟨(Nat.le_of_ble_eq_true rfl), (Nat.le_of_ble_eq_true rfl)⟩) (fun r19 p20 => ?_)
    rw [hQ]
    exact W.iret (v := r19) hx hb hr (fun t9 ht9 hW9 => ⟨r19, rfl, trivial, ht9⟩) (fun _ h => absurd h List.not_mem_nil) dX0_whyNot_75
