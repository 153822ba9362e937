theorem dX12_leftBy_0 : decode cX12_leftBy 0 = .ok (.iconst 0, 1) := by decide +kernel
theorem dX12_leftBy_1 : decode cX12_leftBy 1 = .ok (.istore_n 3, 1) := by decide +kernel
theorem dX12_leftBy_2 : decode cX12_leftBy 2 = .ok (.iconst 0, 1) := by decide +kernel
theorem dX12_leftBy_3 : decode cX12_leftBy 3 = .ok (.istore 4, 2) := by decide +kernel
theorem dX12_leftBy_5 : decode cX12_leftBy 5 = .ok (.iload 4, 2) := by decide +kernel
theorem dX12_leftBy_7 : decode cX12_leftBy 7 = .ok (.iload_n 2, 1) := by decide +kernel
theorem dX12_leftBy_8 : decode cX12_leftBy 8 = .ok (.if_icmp .ge 27, 3) := by decide +kernel
theorem dX12_leftBy_11 : decode cX12_leftBy 11 = .ok (.aload_n 0, 1) := by decide +kernel
theorem dX12_leftBy_12 : decode cX12_leftBy 12 = .ok (.iload_n 1, 1) := by decide +kernel
theorem dX12_leftBy_13 : decode cX12_leftBy 13 = .ok (.aload_n 0, 1) := by decide +kernel
theorem dX12_leftBy_14 : decode cX12_leftBy 14 = .ok (.getfield 151, 3) := by decide +kernel
theorem dX12_leftBy_17 : decode cX12_leftBy 17 = .ok (.iload 4, 2) := by decide +kernel
theorem dX12_leftBy_19 : decode cX12_leftBy 19 = .ok (.iaload, 1) := by decide +kernel
theorem dX12_leftBy_20 : decode cX12_leftBy 20 = .ok (.invokevirtual 249, 3) := by decide +kernel
theorem dX12_leftBy_23 : decode cX12_leftBy 23 = .ok (.ifCond .eq 6, 3) := by decide +kernel
theorem dX12_leftBy_29 : decode cX12_leftBy 29 = .ok (.iinc 4 1, 3) := by decide +kernel
theorem dX12_leftBy_32 : decode cX12_leftBy 32 = .ok (.goto (-27), 3) := by decide +kernel
theorem dX12_leftBy_26 : decode cX12_leftBy 26 = .ok (.iinc 3 1, 3) := by decide +kernel
theorem dX12_leftBy_35 : decode cX12_leftBy 35 = .ok (.iload_n 3, 1) := by decide +kernel
theorem dX12_leftBy_36 : decode cX12_leftBy 36 = .ok (.iload_n 2, 1) := by decide +kernel
theorem dX12_leftBy_37 : decode cX12_leftBy 37 = .ok (.iload_n 3, 1) := by decide +kernel
theorem dX12_leftBy_38 : decode cX12_leftBy 38 = .ok (.isub, 1) := by decide +kernel
theorem dX12_leftBy_39 : decode cX12_leftBy 39 = .ok (.if_icmp .le 7, 3) := by decide +kernel
theorem dX12_leftBy_46 : decode cX12_leftBy 46 = .ok (.iload_n 2, 1) := by decide +kernel
theorem dX12_leftBy_47 : decode cX12_leftBy 47 = .ok (.iload_n 3, 1) := by decide +kernel
theorem dX12_leftBy_48 : decode cX12_leftBy 48 = .ok (.isub, 1) := by decide +kernel
theorem dX12_leftBy_49 : decode cX12_leftBy 49 = .ok (.ireturn, 1) := by decide +kernel
theorem dX12_leftBy_42 : decode cX12_leftBy 42 = .ok (.iload_n 3, 1) := by decide +kernel
theorem dX12_leftBy_43 : decode cX12_leftBy 43 = .ok (.goto 6, 3) := by decide +kernel
theorem dX12_sunk_0 : decode cX12_sunk 0 = .ok (.aload_n 0, 1) := by decide +kernel
theorem dX12_sunk_1 : decode cX12_sunk 1 = .ok (.iconst 0, 1) := by decide +kernel
theorem dX12_sunk_2 : decode cX12_sunk 2 = .ok (.putfield 1, 3) := by decide +kernel
theorem dX12_sunk_5 : decode cX12_sunk 5 = .ok (.aload_n 0, 1) := by decide +kernel
theorem dX12_sunk_6 : decode cX12_sunk 6 = .ok (.invokevirtual 89, 3) := by decide +kernel
theorem dX12_sunk_9 : decode cX12_sunk 9 = .ok (.istore_n 1, 1) := by decide +kernel
theorem dX12_sunk_10 : decode cX12_sunk 10 = .ok (.iload_n 1, 1) := by decide +kernel
theorem dX12_sunk_11 : decode cX12_sunk 11 = .ok (.iconst 2, 1) := by decide +kernel
theorem dX12_sunk_12 : decode cX12_sunk 12 = .ok (.irem, 1) := by decide +kernel
theorem dX12_sunk_13 : decode cX12_sunk 13 = .ok (.ifCond .ne 15, 3) := by decide +kernel
theorem dX12_sunk_28 : decode cX12_sunk 28 = .ok (.iconst (-1), 1) := by decide +kernel
theorem dX12_sunk_29 : decode cX12_sunk 29 = .ok (.ireturn, 1) := by decide +kernel
theorem dX12_sunk_16 : decode cX12_sunk 16 = .ok (.iload_n 1, 1) := by decide +kernel
theorem dX12_sunk_17 : decode cX12_sunk 17 = .ok (.iconst 2, 1) := by decide +kernel
theorem dX12_sunk_18 : decode cX12_sunk 18 = .ok (.idiv, 1) := by decide +kernel
theorem dX12_sunk_19 : decode cX12_sunk 19 = .ok (.iconst 1, 1) := by decide +kernel
theorem dX12_sunk_20 : decode cX12_sunk 20 = .ok (.bipush 6, 2) := by decide +kernel
theorem dX12_sunk_22 : decode cX12_sunk 22 = .ok (.invokestatic 75, 3) := by decide +kernel
theorem dX12_sunk_25 : decode cX12_sunk 25 = .ok (.ifCond .ne 5, 3) := by decide +kernel
theorem dX12_sunk_30 : decode cX12_sunk 30 = .ok (.iconst 0, 1) := by decide +kernel
theorem dX12_sunk_31 : decode cX12_sunk 31 = .ok (.istore_n 2, 1) := by decide +kernel
theorem dX12_sunk_32 : decode cX12_sunk 32 = .ok (.iload_n 2, 1) := by decide +kernel
theorem dX12_sunk_33 : decode cX12_sunk 33 = .ok (.iload_n 1, 1) := by decide +kernel
theorem dX12_sunk_34 : decode cX12_sunk 34 = .ok (.if_icmp .ge 36, 3) := by decide +kernel
theorem dX12_sunk_70 : decode cX12_sunk 70 = .ok (.iconst 0, 1) := by decide +kernel
theorem dX12_sunk_71 : decode cX12_sunk 71 = .ok (.istore_n 2, 1) := by decide +kernel
theorem dX12_sunk_72 : decode cX12_sunk 72 = .ok (.iconst 0, 1) := by decide +kernel
theorem dX12_sunk_73 : decode cX12_sunk 73 = .ok (.istore_n 3, 1) := by decide +kernel
theorem dX12_sunk_74 : decode cX12_sunk 74 = .ok (.iload_n 3, 1) := by decide +kernel
theorem dX12_sunk_75 : decode cX12_sunk 75 = .ok (.bipush 36, 2) := by decide +kernel
theorem dX12_sunk_77 : decode cX12_sunk 77 = .ok (.if_icmp .ge 94, 3) := by decide +kernel
theorem dX12_sunk_80 : decode cX12_sunk 80 = .ok (.aload_n 0, 1) := by decide +kernel
theorem dX12_sunk_81 : decode cX12_sunk 81 = .ok (.iload_n 3, 1) := by decide +kernel
theorem dX12_sunk_82 : decode cX12_sunk 82 = .ok (.invokevirtual 279, 3) := by decide +kernel
theorem dX12_sunk_85 : decode cX12_sunk 85 = .ok (.istore 4, 2) := by decide +kernel
theorem dX12_sunk_87 : decode cX12_sunk 87 = .ok (.iconst 0, 1) := by decide +kernel
theorem dX12_sunk_88 : decode cX12_sunk 88 = .ok (.istore 5, 2) := by decide +kernel
theorem dX12_sunk_90 : decode cX12_sunk 90 = .ok (.iload 5, 2) := by decide +kernel
theorem dX12_sunk_92 : decode cX12_sunk 92 = .ok (.iload_n 1, 1) := by decide +kernel
theorem dX12_sunk_93 : decode cX12_sunk 93 = .ok (.if_icmp .ge 54, 3) := by decide +kernel
theorem dX12_sunk_96 : decode cX12_sunk 96 = .ok (.iload 4, 2) := by decide +kernel
theorem dX12_sunk_98 : decode cX12_sunk 98 = .ok (.ifCond .eq 40, 3) := by decide +kernel
theorem dX12_sunk_138 : decode cX12_sunk 138 = .ok (.iconst 0, 1) := by decide +kernel
theorem dX12_sunk_139 : decode cX12_sunk 139 = .ok (.istore 4, 2) := by decide +kernel
theorem dX12_sunk_141 : decode cX12_sunk 141 = .ok (.iinc 5 2, 3) := by decide +kernel
theorem dX12_sunk_144 : decode cX12_sunk 144 = .ok (.goto (-54), 3) := by decide +kernel
theorem dX12_sunk_101 : decode cX12_sunk 101 = .ok (.aload_n 0, 1) := by decide +kernel
theorem dX12_sunk_102 : decode cX12_sunk 102 = .ok (.aload_n 0, 1) := by decide +kernel
theorem dX12_sunk_103 : decode cX12_sunk 103 = .ok (.getfield 7, 3) := by decide +kernel
theorem dX12_sunk_106 : decode cX12_sunk 106 = .ok (.iload 5, 2) := by decide +kernel
theorem dX12_sunk_108 : decode cX12_sunk 108 = .ok (.iaload, 1) := by decide +kernel
theorem dX12_sunk_109 : decode cX12_sunk 109 = .ok (.iload_n 3, 1) := by decide +kernel
theorem dX12_sunk_110 : decode cX12_sunk 110 = .ok (.invokevirtual 249, 3) := by decide +kernel
theorem dX12_sunk_113 : decode cX12_sunk 113 = .ok (.aload_n 0, 1) := by decide +kernel
theorem dX12_sunk_114 : decode cX12_sunk 114 = .ok (.getfield 7, 3) := by decide +kernel
theorem dX12_sunk_117 : decode cX12_sunk 117 = .ok (.iload 5, 2) := by decide +kernel
theorem dX12_sunk_119 : decode cX12_sunk 119 = .ok (.iconst 1, 1) := by decide +kernel
theorem dX12_sunk_120 : decode cX12_sunk 120 = .ok (.iadd, 1) := by decide +kernel
theorem dX12_sunk_121 : decode cX12_sunk 121 = .ok (.iaload, 1) := by decide +kernel
theorem dX12_sunk_122 : decode cX12_sunk 122 = .ok (.iconst 1, 1) := by decide +kernel
theorem dX12_sunk_123 : decode cX12_sunk 123 = .ok (.if_icmp .ne 7, 3) := by decide +kernel
theorem dX12_sunk_130 : decode cX12_sunk 130 = .ok (.iconst 0, 1) := by decide +kernel
theorem dX12_sunk_131 : decode cX12_sunk 131 = .ok (.if_icmp .ne 7, 3) := by decide +kernel
theorem dX12_sunk_134 : decode cX12_sunk 134 = .ok (.iconst 1, 1) := by decide +kernel
theorem dX12_sunk_135 : decode cX12_sunk 135 = .ok (.goto 4, 3) := by decide +kernel
theorem dX12_sunk_126 : decode cX12_sunk 126 = .ok (.iconst 1, 1) := by decide +kernel
theorem dX12_sunk_127 : decode cX12_sunk 127 = .ok (.goto 4, 3) := by decide +kernel
theorem dX12_sunk_147 : decode cX12_sunk 147 = .ok (.iload 4, 2) := by decide +kernel
theorem dX12_sunk_149 : decode cX12_sunk 149 = .ok (.ifCond .ne 6, 3) := by decide +kernel
theorem dX12_sunk_155 : decode cX12_sunk 155 = .ok (.aload_n 0, 1) := by decide +kernel
theorem dX12_sunk_156 : decode cX12_sunk 156 = .ok (.getfield 151, 3) := by decide +kernel
theorem dX12_sunk_159 : decode cX12_sunk 159 = .ok (.iload_n 2, 1) := by decide +kernel
theorem dX12_sunk_160 : decode cX12_sunk 160 = .ok (.iload_n 3, 1) := by decide +kernel
theorem dX12_sunk_161 : decode cX12_sunk 161 = .ok (.iastore, 1) := by decide +kernel
theorem dX12_sunk_162 : decode cX12_sunk 162 = .ok (.iinc 2 1, 3) := by decide +kernel
theorem dX12_sunk_165 : decode cX12_sunk 165 = .ok (.iinc 3 1, 3) := by decide +kernel
theorem dX12_sunk_168 : decode cX12_sunk 168 = .ok (.goto (-94), 3) := by decide +kernel
theorem dX12_sunk_152 : decode cX12_sunk 152 = .ok (.goto 13, 3) := by decide +kernel
theorem dX12_sunk_171 : decode cX12_sunk 171 = .ok (.iload_n 2, 1) := by decide +kernel
theorem dX12_sunk_172 : decode cX12_sunk 172 = .ok (.ifCond .ne 5, 3) := by decide +kernel
theorem dX12_sunk_177 : decode cX12_sunk 177 = .ok (.iconst 0, 1) := by decide +kernel
theorem dX12_sunk_178 : decode cX12_sunk 178 = .ok (.istore_n 3, 1) := by decide +kernel
theorem dX12_sunk_179 : decode cX12_sunk 179 = .ok (.iload_n 3, 1) := by decide +kernel
theorem dX12_sunk_180 : decode cX12_sunk 180 = .ok (.iload_n 2, 1) := by decide +kernel
theorem dX12_sunk_181 : decode cX12_sunk 181 = .ok (.if_icmp .ge 21, 3) := by decide +kernel
theorem dX12_sunk_184 : decode cX12_sunk 184 = .ok (.aload_n 0, 1) := by decide +kernel
theorem dX12_sunk_185 : decode cX12_sunk 185 = .ok (.getfield 148, 3) := by decide +kernel
theorem dX12_sunk_188 : decode cX12_sunk 188 = .ok (.iload_n 3, 1) := by decide +kernel
theorem dX12_sunk_189 : decode cX12_sunk 189 = .ok (.aload_n 0, 1) := by decide +kernel
theorem dX12_sunk_190 : decode cX12_sunk 190 = .ok (.getfield 151, 3) := by decide +kernel
theorem dX12_sunk_193 : decode cX12_sunk 193 = .ok (.iload_n 3, 1) := by decide +kernel
theorem dX12_sunk_194 : decode cX12_sunk 194 = .ok (.iaload, 1) := by decide +kernel
theorem dX12_sunk_195 : decode cX12_sunk 195 = .ok (.iastore, 1) := by decide +kernel
theorem dX12_sunk_196 : decode cX12_sunk 196 = .ok (.iinc 3 1, 3) := by decide +kernel
theorem dX12_sunk_199 : decode cX12_sunk 199 = .ok (.goto (-20), 3) := by decide +kernel
theorem dX12_sunk_202 : decode cX12_sunk 202 = .ok (.aload_n 0, 1) := by decide +kernel
theorem dX12_sunk_203 : decode cX12_sunk 203 = .ok (.iload_n 2, 1) := by decide +kernel
theorem dX12_sunk_204 : decode cX12_sunk 204 = .ok (.putfield 342, 3) := by decide +kernel
theorem dX12_sunk_207 : decode cX12_sunk 207 = .ok (.aload_n 0, 1) := by decide +kernel
theorem dX12_sunk_208 : decode cX12_sunk 208 = .ok (.iconst 0, 1) := by decide +kernel
theorem dX12_sunk_209 : decode cX12_sunk 209 = .ok (.putfield 154, 3) := by decide +kernel
theorem dX12_sunk_212 : decode cX12_sunk 212 = .ok (.iconst 1, 1) := by decide +kernel
theorem dX12_sunk_213 : decode cX12_sunk 213 = .ok (.istore_n 3, 1) := by decide +kernel
theorem dX12_sunk_214 : decode cX12_sunk 214 = .ok (.iload_n 3, 1) := by decide +kernel
theorem dX12_sunk_215 : decode cX12_sunk 215 = .ok (.aload_n 0, 1) := by decide +kernel
theorem dX12_sunk_216 : decode cX12_sunk 216 = .ok (.getfield 98, 3) := by decide +kernel
theorem dX12_sunk_219 : decode cX12_sunk 219 = .ok (.iconst 3, 1) := by decide +kernel
theorem dX12_sunk_220 : decode cX12_sunk 220 = .ok (.iaload, 1) := by decide +kernel
theorem dX12_sunk_221 : decode cX12_sunk 221 = .ok (.if_icmp .ge 32, 3) := by decide +kernel
theorem dX12_sunk_253 : decode cX12_sunk 253 = .ok (.iload_n 2, 1) := by decide +kernel
theorem dX12_sunk_254 : decode cX12_sunk 254 = .ok (.ireturn, 1) := by decide +kernel
theorem dX12_sunk_224 : decode cX12_sunk 224 = .ok (.aload_n 0, 1) := by decide +kernel
theorem dX12_sunk_225 : decode cX12_sunk 225 = .ok (.iload_n 3, 1) := by decide +kernel
theorem dX12_sunk_226 : decode cX12_sunk 226 = .ok (.iload_n 2, 1) := by decide +kernel
theorem dX12_sunk_227 : decode cX12_sunk 227 = .ok (.invokevirtual 345, 3) := by decide +kernel
theorem dX12_sunk_230 : decode cX12_sunk 230 = .ok (.aload_n 0, 1) := by decide +kernel
theorem dX12_sunk_231 : decode cX12_sunk 231 = .ok (.aload_n 0, 1) := by decide +kernel
theorem dX12_sunk_232 : decode cX12_sunk 232 = .ok (.getfield 154, 3) := by decide +kernel
theorem dX12_sunk_235 : decode cX12_sunk 235 = .ok (.iload_n 2, 1) := by decide +kernel
theorem dX12_sunk_236 : decode cX12_sunk 236 = .ok (.invokevirtual 345, 3) := by decide +kernel
theorem dX12_sunk_239 : decode cX12_sunk 239 = .ok (.if_icmp .ge 8, 3) := by decide +kernel
theorem dX12_sunk_247 : decode cX12_sunk 247 = .ok (.iinc 3 1, 3) := by decide +kernel
theorem dX12_sunk_250 : decode cX12_sunk 250 = .ok (.goto (-36), 3) := by decide +kernel
theorem dX12_sunk_242 : decode cX12_sunk 242 = .ok (.aload_n 0, 1) := by decide +kernel
theorem dX12_sunk_243 : decode cX12_sunk 243 = .ok (.iload_n 3, 1) := by decide +kernel
theorem dX12_sunk_244 : decode cX12_sunk 244 = .ok (.putfield 154, 3) := by decide +kernel
theorem dX12_sunk_175 : decode cX12_sunk 175 = .ok (.iconst 0, 1) := by decide +kernel
theorem dX12_sunk_176 : decode cX12_sunk 176 = .ok (.ireturn, 1) := by decide +kernel
theorem dX12_sunk_37 : decode cX12_sunk 37 = .ok (.aload_n 0, 1) := by decide +kernel
theorem dX12_sunk_38 : decode cX12_sunk 38 = .ok (.aload_n 0, 1) := by decide +kernel
theorem dX12_sunk_39 : decode cX12_sunk 39 = .ok (.getfield 7, 3) := by decide +kernel
theorem dX12_sunk_42 : decode cX12_sunk 42 = .ok (.iload_n 2, 1) := by decide +kernel
theorem dX12_sunk_43 : decode cX12_sunk 43 = .ok (.iaload, 1) := by decide +kernel
theorem dX12_sunk_44 : decode cX12_sunk 44 = .ok (.invokevirtual 260, 3) := by decide +kernel
theorem dX12_sunk_47 : decode cX12_sunk 47 = .ok (.ifCond .eq 15, 3) := by decide +kernel
theorem dX12_sunk_50 : decode cX12_sunk 50 = .ok (.aload_n 0, 1) := by decide +kernel
theorem dX12_sunk_51 : decode cX12_sunk 51 = .ok (.getfield 7, 3) := by decide +kernel
theorem dX12_sunk_54 : decode cX12_sunk 54 = .ok (.iload_n 2, 1) := by decide +kernel
theorem dX12_sunk_55 : decode cX12_sunk 55 = .ok (.iconst 1, 1) := by decide +kernel
theorem dX12_sunk_56 : decode cX12_sunk 56 = .ok (.iadd, 1) := by decide +kernel
theorem dX12_sunk_57 : decode cX12_sunk 57 = .ok (.iaload, 1) := by decide +kernel
theorem dX12_sunk_58 : decode cX12_sunk 58 = .ok (.iconst 1, 1) := by decide +kernel
theorem dX12_sunk_59 : decode cX12_sunk 59 = .ok (.if_icmp .le 5, 3) := by decide +kernel
theorem dX12_sunk_64 : decode cX12_sunk 64 = .ok (.iinc 2 2, 3) := by decide +kernel
theorem dX12_sunk_67 : decode cX12_sunk 67 = .ok (.goto (-35), 3) := by decide +kernel
theorem dX12_sunk_62 : decode cX12_sunk 62 = .ok (.iconst (-1), 1) := by decide +kernel
theorem dX12_sunk_63 : decode cX12_sunk 63 = .ok (.ireturn, 1) := by decide +kernel
set_option maxRecDepth 100000 in
theorem ggX12_leftBy_X12_wouldFloat : GoodIn wsX12_leftBy wsX12_wouldFloat := goodIn_r _ [6, 7, 8, 9, 10, 5, 11, 12, 13, 14, 15, 16, 17, 18, 19, 20, 21, 22, 23, 24, 25, 26, 27, 28, 29, 30, 31, 32, 33, 34, 35, 36, 37, 38, 39, 40, 41, 42, 43, 44, 45, 46, 47, 48, 49, 50, 51, 52, 53, 54, 55, 56, 57, 58, 59, 60, 61, 62, 63, 64, 65, 66, 67] rfl (by decide +kernel)
set_option maxRecDepth 100000 in
theorem ggX12_sunk_X12_take : GoodIn wsX12_sunk wsX12_take := goodIn_r _ [12, 13, 41, 42, 43, 44, 45, 46, 47, 48, 49, 50, 51, 52, 53, 54, 55, 56, 57, 58, 59, 60, 61, 62, 63, 64, 65, 66, 67, 68, 69, 70, 71, 72, 73, 74, 75, 76, 77, 78, 79, 80, 81, 82, 83, 84, 85, 86, 87, 88, 89, 90, 91, 92] rfl (by decide +kernel)
set_option maxRecDepth 100000 in
theorem ggX12_sunk_X12_isIn : GoodIn wsX12_sunk wsX12_isIn := goodIn_r _ [16] rfl (by decide +kernel)
set_option maxRecDepth 100000 in
theorem ggX12_sunk_X12_isInSea : GoodIn wsX12_sunk wsX12_isInSea := goodIn_r _ [24, 7, 41, 42, 43, 44, 45, 46, 47, 48, 49, 50, 51, 52, 53, 54, 55, 56, 57, 58, 59, 60, 61, 62, 63, 64, 65, 66, 67, 68, 69, 70, 71, 72, 73, 74, 75, 76, 77, 78, 79, 80, 81, 82, 83, 84, 85, 86, 87, 88, 89, 90, 91, 92] rfl (by decide +kernel)
set_option maxRecDepth 100000 in
theorem ggX12_sunk_X12_wouldFloat : GoodIn wsX12_sunk wsX12_wouldFloat := goodIn_r _ [28, 7, 29, 30, 31, 11, 32, 33, 34, 35, 36, 41, 42, 43, 44, 45, 46, 47, 48, 49, 50, 51, 52, 53, 54, 55, 56, 57, 58, 59, 60, 61, 62, 63, 64, 65, 66, 67, 68, 69, 70, 71, 72, 73, 74, 75, 76, 77, 78, 79, 80, 81, 82, 83, 84, 85, 86, 87, 88, 89, 90, 91, 92] rfl (by decide +kernel)
set_option maxRecDepth 100000 in
theorem ggX12_sunk_X12_leftBy : GoodIn wsX12_sunk wsX12_leftBy := goodIn_r _ [40, 3, 25, 26, 27, 11, 28, 7, 29, 30, 31, 32, 33, 34, 35, 36, 41, 42, 43, 44, 45, 46, 47, 48, 49, 50, 51, 52, 53, 54, 55, 56, 57, 58, 59, 60, 61, 62, 63, 64, 65, 66, 67, 68, 69, 70, 71, 72, 73, 74, 75, 76, 77, 78, 79, 80, 81, 82, 83, 84, 85, 86, 87, 88, 89, 90, 91, 92] rfl (by decide +kernel)
set_option maxRecDepth 100000 in
theorem ggX12_sunk_X12_isBoat : GoodIn wsX12_sunk wsX12_isBoat := goodIn_r _ [20, 7, 14, 15, 11, 16, 41, 42, 43, 44, 45, 46, 47, 48, 49, 50, 51, 52, 53, 54, 55, 56, 57, 58, 59, 60, 61, 62, 63, 64, 65, 66, 67, 68, 69, 70, 71, 72, 73, 74, 75, 76, 77, 78, 79, 80, 81, 82, 83, 84, 85, 86, 87, 88, 89, 90, 91, 92] rfl (by decide +kernel)
set_option maxRecDepth 100000 in
theorem gX12_leftBy_X12_wouldFloat : GoodIn wsX12_leftBy (wsV RX12 249 RX12 yX12_wouldFloat wsX12_wouldFloat) := goodIn_app (goodIn_of _ (by decide +kernel)) ggX12_leftBy_X12_wouldFloat
set_option maxRecDepth 100000 in
theorem gX12_sunk_X12_take : GoodIn wsX12_sunk (wsV RX12 89 RX12 yX12_take wsX12_take) := goodIn_app (goodIn_of _ (by decide +kernel)) ggX12_sunk_X12_take
set_option maxRecDepth 100000 in
theorem gX12_sunk_X12_isIn : GoodIn wsX12_sunk (va_wsS RX12 75 yX12_isIn wsX12_isIn) := goodIn_app (goodIn_of _ (by decide +kernel)) ggX12_sunk_X12_isIn
set_option maxRecDepth 100000 in
theorem gX12_sunk_X12_isInSea : GoodIn wsX12_sunk (wsV RX12 279 RX12 yX12_isInSea wsX12_isInSea) := goodIn_app (goodIn_of _ (by decide +kernel)) ggX12_sunk_X12_isInSea
set_option maxRecDepth 100000 in
theorem gX12_sunk_X12_wouldFloat : GoodIn wsX12_sunk (wsV RX12 249 RX12 yX12_wouldFloat wsX12_wouldFloat) := goodIn_app (goodIn_of _ (by decide +kernel)) ggX12_sunk_X12_wouldFloat
set_option maxRecDepth 100000 in
theorem gX12_sunk_X12_leftBy : GoodIn wsX12_sunk (wsV RX12 345 RX12 yX12_leftBy wsX12_leftBy) := goodIn_app (goodIn_of _ (by decide +kernel)) ggX12_sunk_X12_leftBy
set_option maxRecDepth 100000 in
theorem gX12_sunk_X12_isBoat : GoodIn wsX12_sunk (wsV RX12 260 RX12 yX12_isBoat wsX12_isBoat) := goodIn_app (goodIn_of _ (by decide +kernel)) ggX12_sunk_X12_isBoat
set_option maxRecDepth 20000 in
theorem lf_x_leftBy_1 (ktryingF : Nat → Int32) (nq : Nat) (k8 : Nat) (n12 : Nat) (y21 : Int32) (ab_trying : AB36 ktryingF) (hn9 : nq ≤ 36) (j10 : k8 ≤ 36) (hm14 : 36 - k8 < n12 + 1) (c15 : k8 < nq) (e22 : y21 = ktryingF k8) : k8 < 36 := by
  have b_y21 := ia_b y21
  try simp only [ia_lt, ia_le, ia_eq, ia_m1, ia_0, ia_1, ne_eq, true_and, and_true, false_and, and_false, or_false, false_or, or_true, true_or, not_true_eq_false, not_false_eq_true] at *
  all_goals omega
set_option maxRecDepth 20000 in
theorem lf_x_leftBy_2 (ktryingF : Nat → Int32) (nq : Nat) (k8 : Nat) (n12 : Nat) (y21 : Int32) (ab_trying : AB36 ktryingF) (hn9 : nq ≤ 36) (j10 : k8 ≤ 36) (hm14 : 36 - k8 < n12 + 1) (c15 : k8 < nq) (e22 : y21 = ktryingF k8) : 0 ≤ k8 := by
  have b_y21 := ia_b y21
  try simp only [ia_lt, ia_le, ia_eq, ia_m1, ia_0, ia_1, ne_eq, true_and, and_true, false_and, and_false, or_false, false_or, or_true, true_or, not_true_eq_false, not_false_eq_true] at *
  all_goals omega
set_option maxRecDepth 20000 in
theorem lf_x_leftBy_3 (ktryingF : Nat → Int32) (nq : Nat) (k8 : Nat) (n12 : Nat) (y21 : Int32) (ab_trying : AB36 ktryingF) (hn9 : nq ≤ 36) (j10 : k8 ≤ 36) (hm14 : 36 - k8 < n12 + 1) (c15 : k8 < nq) (e22 : y21 = ktryingF k8) : k8 < 36 := by
  have b_y21 := ia_b y21
  try simp only [ia_lt, ia_le, ia_eq, ia_m1, ia_0, ia_1, ne_eq, true_and, and_true, false_and, and_false, or_false, false_or, or_true, true_or, not_true_eq_false, not_false_eq_true] at *
  all_goals omega
set_option maxRecDepth 20000 in
theorem lf_x_leftBy_4 (ktryingF : Nat → Int32) (nq : Nat) (k8 : Nat) (n12 : Nat) (y21 : Int32) (ab_trying : AB36 ktryingF) (hn9 : nq ≤ 36) (j10 : k8 ≤ 36) (hm14 : 36 - k8 < n12 + 1) (c15 : k8 < nq) (e22 : y21 = ktryingF k8) (b23 : 0 ≤ y21.toInt) (b24 : y21.toInt ≤ 35) : 0 ≤ y21.toInt ∧ y21.toInt ≤ 35 := by
  have b_y21 := ia_b y21
  try simp only [ia_lt, ia_le, ia_eq, ia_m1, ia_0, ia_1, ne_eq, true_and, and_true, false_and, and_false, or_false, false_or, or_true, true_or, not_true_eq_false, not_false_eq_true] at *
  all_goals omega
set_option maxRecDepth 20000 in
theorem lf_x_leftBy_5 (ktryingF : Nat → Int32) (nq : Nat) (k8 : Nat) (n12 : Nat) (y21 : Int32) (ab_trying : AB36 ktryingF) (hn9 : nq ≤ 36) (j10 : k8 ≤ 36) (hm14 : 36 - k8 < n12 + 1) (c15 : k8 < nq) (e22 : y21 = ktryingF k8) (b23 : 0 ≤ y21.toInt) (b24 : y21.toInt ≤ 35) : (k8 + 1) ≤ 36 := by
  have b_y21 := ia_b y21
  try simp only [ia_lt, ia_le, ia_eq, ia_m1, ia_0, ia_1, ne_eq, true_and, and_true, false_and, and_false, or_false, false_or, or_true, true_or, not_true_eq_false, not_false_eq_true] at *
  all_goals omega
set_option maxRecDepth 20000 in
theorem lf_x_leftBy_6 (ktryingF : Nat → Int32) (nq : Nat) (k8 : Nat) (n12 : Nat) (y21 : Int32) (ab_trying : AB36 ktryingF) (hn9 : nq ≤ 36) (j10 : k8 ≤ 36) (hm14 : 36 - k8 < n12 + 1) (c15 : k8 < nq) (e22 : y21 = ktryingF k8) (b23 : 0 ≤ y21.toInt) (b24 : y21.toInt ≤ 35) : 36 - (k8 + 1) < n12 := by
  have b_y21 := ia_b y21
  try simp only [ia_lt, ia_le, ia_eq, ia_m1, ia_0, ia_1, ne_eq, true_and, and_true, false_and, and_false, or_false, false_or, or_true, true_or, not_true_eq_false, not_false_eq_true] at *
  all_goals omega
set_option maxRecDepth 20000 in
theorem lf_x_leftBy_7 (ktryingF : Nat → Int32) (nq : Nat) (k8 : Nat) (n12 : Nat) (y21 : Int32) (ab_trying : AB36 ktryingF) (hn9 : nq ≤ 36) (j10 : k8 ≤ 36) (hm14 : 36 - k8 < n12 + 1) (c15 : k8 < nq) (e22 : y21 = ktryingF k8) (b23 : 0 ≤ y21.toInt) (b24 : y21.toInt ≤ 35) : (k8 + 1) ≤ 36 := by
  have b_y21 := ia_b y21
  try simp only [ia_lt, ia_le, ia_eq, ia_m1, ia_0, ia_1, ne_eq, true_and, and_true, false_and, and_false, or_false, false_or, or_true, true_or, not_true_eq_false, not_false_eq_true] at *
  all_goals omega
set_option maxRecDepth 20000 in
theorem lf_x_leftBy_8 (ktryingF : Nat → Int32) (nq : Nat) (k8 : Nat) (n12 : Nat) (y21 : Int32) (ab_trying : AB36 ktryingF) (hn9 : nq ≤ 36) (j10 : k8 ≤ 36) (hm14 : 36 - k8 < n12 + 1) (c15 : k8 < nq) (e22 : y21 = ktryingF k8) (b23 : 0 ≤ y21.toInt) (b24 : y21.toInt ≤ 35) : 36 - (k8 + 1) < n12 := by
  have b_y21 := ia_b y21
  try simp only [ia_lt, ia_le, ia_eq, ia_m1, ia_0, ia_1, ne_eq, true_and, and_true, false_and, and_false, or_false, false_or, or_true, true_or, not_true_eq_false, not_false_eq_true] at *
  all_goals omega
set_option maxRecDepth 20000 in
theorem lf_x_leftBy_9   : 0 ≤ 36 := by
  try simp only [ia_lt, ia_le, ia_eq, ia_m1, ia_0, ia_1, ne_eq, true_and, and_true, false_and, and_false, or_false, false_or, or_true, true_or, not_true_eq_false, not_false_eq_true] at *
  all_goals omega
set_option maxHeartbeats 4000000 in
set_option maxRecDepth 100000 in
theorem c_x_leftBy (l : Launch) (dC : Nat → ClassId) (dI : Nat → Nat → Nat) (ky : Nat → ClassId) (o : Nat) (kthrown : Int32) (ktape : Nat) (ktaped : Nat) (ksize : Nat) (klimit : Nat) (kto : Nat) (kfrom : Nat) (kkind : Int32) (knumber : Int32) (ksign : Int32) (kfault : Int32) (kplace : Int32) (kword : Int64) (ktold : Int32) (know : Nat) (kread : Nat) (kkept : Nat) (ksnaps : Nat) (kaside : Nat) (kname : Nat) (kreadName : Nat) (kkeptName : Nat) (kisKept : Nat) (konces : Nat) (ksnapMany : Nat) (khasCells : Int32) (kpoured : Nat) (kfar : Nat) (ksides : Nat) (ksideMany : Nat) (kwayDays : Int32) (khasWay : Int32) (klines : Nat) (kmet : Nat) (kmetMany : Nat) (ksunk : Nat) (ktrying : Nat) (ksunkMany : Nat) (ksending : Int32) (kfleets : Int32) (ktext : Nat) (ktexts : Nat) (kseed : Int32) (kline : Nat) (kwritten : Nat) (klineMany : Nat) (khasWritten : Int32) (knode : Nat) (knodes : Nat) (konesMany : Nat) (kwithin : Nat) (ktop : Nat) (knowF : Nat → Int32) (ktryingF : Nat → Int32) (x : Int32) (nq : Nat) (iv_ko_0 : ktaped ≤ 940) (iv_ko_1 : ksize ≤ 940) (iv_ko_2 : klimit ≤ 900) (iv_ko_3 : kto ≤ ksize) (iv_ko_4 : kfrom ≤ 940) (iv_ko_5 : ksnapMany ≤ 8) (iv_ko_6 : ksideMany ≤ 36) (iv_ko_7 : kmetMany ≤ 3) (iv_ko_8 : ksunkMany ≤ 36) (iv_ko_9 : ktexts ≤ 64) (iv_ko_10 : klineMany ≤ 40) (iv_ko_11 : knodes ≤ 60) (iv_ko_12 : konesMany ≤ 20) (iv_ko_13 : kwithin ≤ 8) (iv_ko_14 : ktop ≤ 59) (ab_now : NB knowF) (ab_trying : AB36 ktryingF) (hb_x : 0 ≤ x.toInt ∧ x.toInt ≤ 5) (hn9 : nq ≤ 36) : Met l yX12_leftBy wsX12_leftBy ({ frames := 2, cells := 0, slots := 0, locals := 44 }) (PcP dC dI ky [.ref o, .int x, .int (nI nq)] [(o, .inr (12, [.int kthrown, .ref ktape, .int (nI ktaped), .int (nI ksize), .int (nI klimit), .int (nI kto), .int (nI kfrom), .int kkind, .int knumber, .int ksign, .int kfault, .int kplace, .long kword, .int ktold, .ref know, .ref kread, .ref kkept, .ref ksnaps, .ref kaside, .ref kname, .ref kreadName, .ref kkeptName, .ref kisKept, .ref konces, .int (nI ksnapMany), .int khasCells, .ref kpoured, .ref kfar, .ref ksides, .int (nI ksideMany), .int kwayDays, .int khasWay, .ref klines, .ref kmet, .int (nI kmetMany), .ref ksunk, .ref ktrying, .int (nI ksunkMany), .int ksending, .int kfleets, .ref ktext, .int (nI ktexts), .int kseed, .ref kline, .ref kwritten, .int (nI klineMany), .int khasWritten, .ref knode, .int (nI knodes), .int (nI konesMany), .int (nI kwithin), .int (nI ktop)])), (know, .inl (ky 0, 373, .inl knowF)), (ktrying, .inl (ky 0, 36, .inl ktryingF))]) (vp_Si (fun r : Int32 => True)) 0 0 (fun _ => False) := by
  refine Met.ofW (cc := cX12_leftBy) (maxL := 5) (ret := (some .int)) (by decide) rfl ?_
  intro p e s m args below meth c s₁ B hml hv
  obtain ⟨rfl, hP, hK⟩ := hv
  have hx := B.exec
  have hb := B.bytes
  have hr := B.returns
  have hts := atoms_spec (ws := wsX12_leftBy) B.pre
  have hown : s.vm.findClass RX12 = some m.cls := findClass_of_methodNamed B.named
  have hlocks := B.notSynchronized
  have hin12 : ∀ w ∈ u_ws RX12 TX12 52, w ∈ wsX12_leftBy := by decide +kernel
  have hl := lv_entry ([.ref o, .int x, .int (nI nq)]) (n := 5) (Nat.le_of_ble_eq_true rfl)
  rw [lg_entry_eq]
  generalize (lg_sl ([.ref o, .int x, .int (nI nq)]) ++ List.replicate (5 - (lg_sl ([.ref o, .int x, .int (nI nq)])).length) Slot.unset).toArray = ls at hl ⊢
  have hl : lv_has ls 5 [(0, .ref o), (1, .int x), (2, .int (nI nq))] := hl
  refine q_name (fun Q hQ => ?_)
  generalize ([.ref o, .int x, .int (nI nq)] : List Value).toArray = args at hts hQ ⊢
  refine lv_iconst (v := nI 0) hx hb dX12_leftBy_0 (by decide) ?_
  refine lv_istore_n (lv' := [(3, .int (nI 0)), (0, .ref o), (1, .int x), (2, .int (nI nq))]) hx hb dX12_leftBy_1 rfl hl (by decide) rfl (fun ls hl => ?_)
  refine lv_iconst (v := nI 0) hx hb dX12_leftBy_2 (by decide) ?_
  refine lv_istore (lv' := [(4, .int (nI 0)), (3, .int (nI 0)), (0, .ref o), (1, .int x), (2, .int (nI nq))]) hx hb dX12_leftBy_3 hl (by decide) rfl (fun ls hl => ?_)
  have hL11 : ∀ (n12 : Nat) (k8 : Nat) (x9 : Int32), (k8 ≤ 36) → 36 - k8 < n12 → ∀ (ls : Array Slot), lv_has ls 5 [(4, .int (nI k8)), (3, .int x9), (0, .ref o), (1, .int x), (2, .int (nI nq))] → W p l e (headSpec wsX12_leftBy ({ frames := 2, cells := 0, slots := 0, locals := 44 })).room s m args below meth c s.heap [] 0 0 Q (F0 m 5 ls []) := by
    intro n12
    induction n12 with
    | zero => intro k8 x9 _ h9; exact absurd h9 (Nat.not_lt_zero _)
    | succ n12 ih13 =>
      intro k8 x9 j10 hm14 ls hl
      refine lv_iload hx hb dX12_leftBy_5 (lv_at hl 0 rfl) ?_
      refine lv_iload_n hx hb dX12_leftBy_7 rfl (lv_at hl 4 rfl) ?_
      refine n_icmp_ge (x := k8) (y := nq) (tgt := 35) hx hb (by omega) (by omega) dX12_leftBy_8 (by decide) (fun c15 => ?_) (fun c15 => ?_)
      · refine lv_iload_n hx hb dX12_leftBy_35 rfl (lv_at hl 1 rfl) ?_
        refine lv_iload_n hx hb dX12_leftBy_36 rfl (lv_at hl 4 rfl) ?_
        refine lv_iload_n hx hb dX12_leftBy_37 rfl (lv_at hl 1 rfl) ?_
        refine lv_isub hx hb dX12_leftBy_38 ?_
        refine lv_topi (fun y16 e17 => ?_)
        refine lv_icmp_le (tgt := 46) hx hb dX12_leftBy_39 (by decide) (fun c18 => ?_) (fun c18 => ?_)
        · refine lv_iload_n hx hb dX12_leftBy_46 rfl (lv_at hl 4 rfl) ?_
          refine lv_iload_n hx hb dX12_leftBy_47 rfl (lv_at hl 1 rfl) ?_
          refine lv_isub hx hb dX12_leftBy_48 ?_
          refine lv_topi (fun y19 e20 => ?_)
          rw [hQ]
          exact W.iret (v := y19) hx hb hr (fun t9 ht9 hW9 => ⟨y19, rfl, trivial, ht9⟩) (fun _ h => absurd h List.not_mem_nil) dX12_leftBy_49
        · refine lv_iload_n hx hb dX12_leftBy_42 rfl (lv_at hl 1 rfl) ?_
          refine lv_goto (tgt := 49) hx hb dX12_leftBy_43 (by decide) ?_
          rw [hQ]
          exact W.iret (v := x9) hx hb hr (fun t9 ht9 hW9 => ⟨x9, rfl, trivial, ht9⟩) (fun _ h => absurd h List.not_mem_nil) dX12_leftBy_49
      · refine lv_aload_n hx hb dX12_leftBy_11 rfl (lv_at hl 2 rfl) ?_
        refine lv_iload_n hx hb dX12_leftBy_12 rfl (lv_at hl 3 rfl) ?_
        refine lv_aload_n hx hb dX12_leftBy_13 rfl (lv_at hl 2 rfl) ?_
        refine va_get (D := (dC, dI)) (ci := 12) (v := .ref ktrying) (C := RX12) (T := TX12) (N := 52) hx hb hts hin12 hown hK hP 0 rfl rfl 36 (by decide) (hts (.fieldLink RX12 151 "PorridgeSeaModel" "trying" "[I") (List.mem_of_getElem? (i := 1) rfl)) (fun _ h9 => h9) rfl dX12_leftBy_14 ?_
        refine lv_iload hx hb dX12_leftBy_17 (lv_at hl 0 rfl) ?_
        obtain ⟨y21, e22⟩ : ∃ z9, z9 = ktryingF k8 := ⟨_, rfl⟩
        refine r_iald hx hb hK hP 2 rfl k8 (lf_x_leftBy_1 ktryingF nq k8 n12 y21 ab_trying hn9 j10 hm14 c15 e22) (by decide) y21 e22.symm dX12_leftBy_19 ?_
        obtain ⟨b23, b24⟩ : (0 : Int) ≤ y21.toInt ∧ y21.toInt ≤ 35 := by rw [e22]; exact ld_AB36_0 ab_trying k8 (lf_x_leftBy_2 ktryingF nq k8 n12 y21 ab_trying hn9 j10 hm14 c15 e22) (lf_x_leftBy_3 ktryingF nq k8 n12 y21 ab_trying hn9 j10 hm14 c15 e22)
        refine vp_callSi (W.runV (As := [.int x, .int y21]) (rest := []) ⟨hx, hb, hml, hown, hts⟩ (c_x_wouldFloat l dC dI ky o kthrown ktape ktaped ksize klimit kto kfrom kkind knumber ksign kfault kplace kword ktold know kread kkept ksnaps kaside kname kreadName kkeptName kisKept konces ksnapMany khasCells kpoured kfar ksides ksideMany kwayDays khasWay klines kmet kmetMany ksunk ktrying ksunkMany ksending kfleets ktext ktexts kseed kline kwritten klineMany khasWritten knode knodes konesMany kwithin ktop knowF x y21 iv_ko_0 iv_ko_1 iv_ko_2 iv_ko_3 iv_ko_4 iv_ko_5 iv_ko_6 iv_ko_7 iv_ko_8 iv_ko_9 iv_ko_10 iv_ko_11 iv_ko_12 iv_ko_13 iv_ko_14 ab_now hb_x (lf_x_leftBy_4 ktryingF nq k8 n12 y21 ab_trying hn9 j10 hm14 c15 e22 b23 b24)) (cwV 2 hts gX12_leftBy_X12_wouldFloat rfl rfl rfl (by decide +kernel) ⟨(Nat.le_of_ble_eq_true rfl), (Nat.le_of_ble_eq_true rfl)⟩) (pre_PV hK hP [0, 1] rfl (ci := 12) (q0 := 0) rfl rfl) rfl rfl hl.1 rfl (lv_room (Nat.le_of_ble_eq_true rfl)) dX12_leftBy_20 ⟨(Nat.le_of_ble_eq_true rfl), (Nat.le_of_ble_eq_true rfl)⟩) (fun r25 p26 => ?_)
        refine lv_if_eq (tgt := 29) hx hb dX12_leftBy_23 (by decide) (fun c27 => ?_) (fun c27 => ?_)
        · refine lv_iinc (v := nI (k8 + 1)) (lv' := [(4, .int (nI (k8 + 1))), (3, .int x9), (0, .ref o), (1, .int x), (2, .int (nI nq))]) hx hb dX12_leftBy_29 hl (k := 0) rfl (show nI k8 + nI 1 = nI (k8 + 1) from nI_add _ _) (by decide) rfl (fun ls hl => ?_)
          refine lv_goto (tgt := 5) hx hb dX12_leftBy_32 (by decide) ?_
          exact ih13 (k8 + 1) x9 (lf_x_leftBy_5 ktryingF nq k8 n12 y21 ab_trying hn9 j10 hm14 c15 e22 b23 b24) (lf_x_leftBy_6 ktryingF nq k8 n12 y21 ab_trying hn9 j10 hm14 c15 e22 b23 b24) _ (lv_sub hl [0, 1, 2, 3, 4] rfl)
        · obtain ⟨y28, e29⟩ : ∃ z9 : Int32, z9 = x9 + Int32.ofInt (1) := ⟨_, rfl⟩
          refine lv_iinc (v := y28) (lv' := [(3, .int y28), (4, .int (nI k8)), (0, .ref o), (1, .int x), (2, .int (nI nq))]) hx hb dX12_leftBy_26 hl (k := 1) rfl e29.symm (by decide) rfl (fun ls hl => ?_)
          refine lv_iinc (v := nI (k8 + 1)) (lv' := [(4, .int (nI (k8 + 1))), (3, .int y28), (0, .ref o), (1, .int x), (2, .int (nI nq))]) hx hb dX12_leftBy_29 hl (k := 1) rfl (show nI k8 + nI 1 = nI (k8 + 1) from nI_add _ _) (by decide) rfl (fun ls hl => ?_)
          refine lv_goto (tgt := 5) hx hb dX12_leftBy_32 (by decide) ?_
          exact ih13 (k8 + 1) y28 (lf_x_leftBy_7 ktryingF nq k8 n12 y21 ab_trying hn9 j10 hm14 c15 e22 b23 b24) (lf_x_leftBy_8 ktryingF nq k8 n12 y21 ab_trying hn9 j10 hm14 c15 e22 b23 b24) _ (lv_sub hl [0, 1, 2, 3, 4] rfl)
  exact hL11 ((36 - 0) + 1) 0 (nI 0) (lf_x_leftBy_9) (Nat.lt_succ_self _) _ (lv_sub hl [0, 1, 2, 3, 4] rfl)
set_option maxRecDepth 20000 in
theorem lf_x_sunk_1 (knowF : Nat → Int32) (k84 : Nat) (n90 : Nat) (y93 : Int32) (ab_now : NB knowF) (j86 : k84 ≤ 6) (hm92 : 6 - k84 < n90 + 1) (e94 : y93 = knowF 3) (b95 : 0 ≤ y93.toInt) (b96 : y93.toInt ≤ 6) (c97 : ¬ y93 ≤ nI k84) : 0 ≤ (nI k84).toInt ∧ (nI k84).toInt ≤ 5 := by
  have b_y93 := ia_b y93
  try have k_0 := ia_n k84 (by first | decide | omega)
  try simp only [ia_lt, ia_le, ia_eq, ia_m1, ia_0, ia_1, ne_eq, true_and, and_true, false_and, and_false, or_false, false_or, or_true, true_or, not_true_eq_false, not_false_eq_true] at *
  all_goals omega
set_option maxRecDepth 20000 in
theorem lf_x_sunk_2 (x85 : Int32) (j87 : 0 ≤ x85.toInt) (j88 : x85.toInt ≤ 5) (p99 : True) : 0 ≤ x85.toInt ∧ x85.toInt ≤ 5 := by
  have b_x85 := ia_b x85
  try simp only [ia_lt, ia_le, ia_eq, ia_m1, ia_0, ia_1, ne_eq, true_and, and_true, false_and, and_false, or_false, false_or, or_true, true_or, not_true_eq_false, not_false_eq_true] at *
  all_goals omega
set_option maxRecDepth 20000 in
theorem lf_x_sunk_3 (knowF : Nat → Int32) (k84 : Nat) (n90 : Nat) (y93 : Int32) (ab_now : NB knowF) (j86 : k84 ≤ 6) (hm92 : 6 - k84 < n90 + 1) (e94 : y93 = knowF 3) (b95 : 0 ≤ y93.toInt) (b96 : y93.toInt ≤ 6) (c97 : ¬ y93 ≤ nI k84) (p99 : True) (p101 : True) : (k84 + 1) ≤ 6 := by
  have b_y93 := ia_b y93
  try have k_0 := ia_n k84 (by first | decide | omega)
  try simp only [ia_lt, ia_le, ia_eq, ia_m1, ia_0, ia_1, ne_eq, true_and, and_true, false_and, and_false, or_false, false_or, or_true, true_or, not_true_eq_false, not_false_eq_true] at *
  all_goals omega
set_option maxRecDepth 20000 in
theorem lf_x_sunk_4 (knowF : Nat → Int32) (k84 : Nat) (n90 : Nat) (y93 : Int32) (ab_now : NB knowF) (j86 : k84 ≤ 6) (hm92 : 6 - k84 < n90 + 1) (e94 : y93 = knowF 3) (b95 : 0 ≤ y93.toInt) (b96 : y93.toInt ≤ 6) (c97 : ¬ y93 ≤ nI k84) (p99 : True) (p101 : True) : 6 - (k84 + 1) < n90 := by
  have b_y93 := ia_b y93
  try have k_0 := ia_n k84 (by first | decide | omega)
  try simp only [ia_lt, ia_le, ia_eq, ia_m1, ia_0, ia_1, ne_eq, true_and, and_true, false_and, and_false, or_false, false_or, or_true, true_or, not_true_eq_false, not_false_eq_true] at *
  all_goals omega
set_option maxRecDepth 20000 in
theorem lf_x_sunk_5 (knowF : Nat → Int32) (k84 : Nat) (n90 : Nat) (y93 : Int32) (ab_now : NB knowF) (j86 : k84 ≤ 6) (hm92 : 6 - k84 < n90 + 1) (e94 : y93 = knowF 3) (b95 : 0 ≤ y93.toInt) (b96 : y93.toInt ≤ 6) (c97 : ¬ y93 ≤ nI k84) (p99 : True) (p101 : True) : (k84 + 1) ≤ 6 := by
  have b_y93 := ia_b y93
  try have k_0 := ia_n k84 (by first | decide | omega)
  try simp only [ia_lt, ia_le, ia_eq, ia_m1, ia_0, ia_1, ne_eq, true_and, and_true, false_and, and_false, or_false, false_or, or_true, true_or, not_true_eq_false, not_false_eq_true] at *
  all_goals omega
set_option maxRecDepth 20000 in
theorem lf_x_sunk_6 (knowF : Nat → Int32) (k84 : Nat) (n90 : Nat) (y93 : Int32) (ab_now : NB knowF) (j86 : k84 ≤ 6) (hm92 : 6 - k84 < n90 + 1) (e94 : y93 = knowF 3) (b95 : 0 ≤ y93.toInt) (b96 : y93.toInt ≤ 6) (c97 : ¬ y93 ≤ nI k84) (p99 : True) (p101 : True) : 0 ≤ (nI k84).toInt := by
  have b_y93 := ia_b y93
  try have k_0 := ia_n k84 (by first | decide | omega)
  try simp only [ia_lt, ia_le, ia_eq, ia_m1, ia_0, ia_1, ne_eq, true_and, and_true, false_and, and_false, or_false, false_or, or_true, true_or, not_true_eq_false, not_false_eq_true] at *
  all_goals omega
set_option maxRecDepth 20000 in
theorem lf_x_sunk_7 (knowF : Nat → Int32) (k84 : Nat) (n90 : Nat) (y93 : Int32) (ab_now : NB knowF) (j86 : k84 ≤ 6) (hm92 : 6 - k84 < n90 + 1) (e94 : y93 = knowF 3) (b95 : 0 ≤ y93.toInt) (b96 : y93.toInt ≤ 6) (c97 : ¬ y93 ≤ nI k84) (p99 : True) (p101 : True) : (nI k84).toInt ≤ 5 := by
  have b_y93 := ia_b y93
  try have k_0 := ia_n k84 (by first | decide | omega)
  try simp only [ia_lt, ia_le, ia_eq, ia_m1, ia_0, ia_1, ne_eq, true_and, and_true, false_and, and_false, or_false, false_or, or_true, true_or, not_true_eq_false, not_false_eq_true] at *
  all_goals omega
set_option maxRecDepth 20000 in
theorem lf_x_sunk_8 (knowF : Nat → Int32) (k84 : Nat) (n90 : Nat) (y93 : Int32) (ab_now : NB knowF) (j86 : k84 ≤ 6) (hm92 : 6 - k84 < n90 + 1) (e94 : y93 = knowF 3) (b95 : 0 ≤ y93.toInt) (b96 : y93.toInt ≤ 6) (c97 : ¬ y93 ≤ nI k84) (p99 : True) (p101 : True) : 6 - (k84 + 1) < n90 := by
  have b_y93 := ia_b y93
  try have k_0 := ia_n k84 (by first | decide | omega)
  try simp only [ia_lt, ia_le, ia_eq, ia_m1, ia_0, ia_1, ne_eq, true_and, and_true, false_and, and_false, or_false, false_or, or_true, true_or, not_true_eq_false, not_false_eq_true] at *
  all_goals omega
set_option maxRecDepth 20000 in
theorem lf_x_sunk_9   : 1 ≤ 6 := by
  try simp only [ia_lt, ia_le, ia_eq, ia_m1, ia_0, ia_1, ne_eq, true_and, and_true, false_and, and_false, or_false, false_or, or_true, true_or, not_true_eq_false, not_false_eq_true] at *
  all_goals omega
set_option maxRecDepth 20000 in
theorem lf_x_sunk_10   : 0 ≤ (nI 0).toInt := by
  try have k_0 := ia_n 0 (by first | decide | omega)
  try simp only [ia_lt, ia_le, ia_eq, ia_m1, ia_0, ia_1, ne_eq, true_and, and_true, false_and, and_false, or_false, false_or, or_true, true_or, not_true_eq_false, not_false_eq_true] at *
  all_goals omega
set_option maxRecDepth 20000 in
theorem lf_x_sunk_11   : (nI 0).toInt ≤ 5 := by
  try have k_0 := ia_n 0 (by first | decide | omega)
  try simp only [ia_lt, ia_le, ia_eq, ia_m1, ia_0, ia_1, ne_eq, true_and, and_true, false_and, and_false, or_false, false_or, or_true, true_or, not_true_eq_false, not_false_eq_true] at *
  all_goals omega
set_option maxRecDepth 20000 in
theorem lf_x_sunk_12 (k43 : Nat) (k44 : Nat) (f45 : Nat → Int32) (n51 : Nat) (k64 : Nat) (n69 : Nat) (y103 : Int32) (j46 : k43 ≤ 36) (j47 : k44 ≤ 36) (j48 : AB36 f45) (j49 : k44 ≤ k43) (hm53 : 36 - k43 < n51 + 1) (c54 : 36 ≤ k43) (c55 : 0 < k44) (j66 : k64 ≤ 36) (hm71 : 36 - k64 < n69 + 1) (c72 : k64 < k44) (e104 : y103 = f45 k64) : k64 < 36 := by
  have b_y103 := ia_b y103
  try simp only [ia_lt, ia_le, ia_eq, ia_m1, ia_0, ia_1, ne_eq, true_and, and_true, false_and, and_false, or_false, false_or, or_true, true_or, not_true_eq_false, not_false_eq_true] at *
  all_goals omega
set_option maxRecDepth 20000 in
theorem lf_x_sunk_13 (k43 : Nat) (k44 : Nat) (f45 : Nat → Int32) (n51 : Nat) (k64 : Nat) (n69 : Nat) (y103 : Int32) (j46 : k43 ≤ 36) (j47 : k44 ≤ 36) (j48 : AB36 f45) (j49 : k44 ≤ k43) (hm53 : 36 - k43 < n51 + 1) (c54 : 36 ≤ k43) (c55 : 0 < k44) (j66 : k64 ≤ 36) (hm71 : 36 - k64 < n69 + 1) (c72 : k64 < k44) (e104 : y103 = f45 k64) : 0 ≤ k64 := by
  have b_y103 := ia_b y103
  try simp only [ia_lt, ia_le, ia_eq, ia_m1, ia_0, ia_1, ne_eq, true_and, and_true, false_and, and_false, or_false, false_or, or_true, true_or, not_true_eq_false, not_false_eq_true] at *
  all_goals omega
set_option maxRecDepth 20000 in
theorem lf_x_sunk_14 (k43 : Nat) (k44 : Nat) (f45 : Nat → Int32) (n51 : Nat) (k64 : Nat) (n69 : Nat) (y103 : Int32) (j46 : k43 ≤ 36) (j47 : k44 ≤ 36) (j48 : AB36 f45) (j49 : k44 ≤ k43) (hm53 : 36 - k43 < n51 + 1) (c54 : 36 ≤ k43) (c55 : 0 < k44) (j66 : k64 ≤ 36) (hm71 : 36 - k64 < n69 + 1) (c72 : k64 < k44) (e104 : y103 = f45 k64) : k64 < 36 := by
  have b_y103 := ia_b y103
  try simp only [ia_lt, ia_le, ia_eq, ia_m1, ia_0, ia_1, ne_eq, true_and, and_true, false_and, and_false, or_false, false_or, or_true, true_or, not_true_eq_false, not_false_eq_true] at *
  all_goals omega
set_option maxRecDepth 20000 in
theorem lf_x_sunk_15 (k43 : Nat) (k44 : Nat) (f45 : Nat → Int32) (n51 : Nat) (k64 : Nat) (n69 : Nat) (y103 : Int32) (j46 : k43 ≤ 36) (j47 : k44 ≤ 36) (j48 : AB36 f45) (j49 : k44 ≤ k43) (hm53 : 36 - k43 < n51 + 1) (c54 : 36 ≤ k43) (c55 : 0 < k44) (j66 : k64 ≤ 36) (hm71 : 36 - k64 < n69 + 1) (c72 : k64 < k44) (e104 : y103 = f45 k64) (b105 : 0 ≤ y103.toInt) (b106 : y103.toInt ≤ 35) : 0 ≤ (y103).toInt := by
  have b_y103 := ia_b y103
  try simp only [ia_lt, ia_le, ia_eq, ia_m1, ia_0, ia_1, ne_eq, true_and, and_true, false_and, and_false, or_false, false_or, or_true, true_or, not_true_eq_false, not_false_eq_true] at *
  all_goals omega
set_option maxRecDepth 20000 in
theorem lf_x_sunk_16 (k43 : Nat) (k44 : Nat) (f45 : Nat → Int32) (n51 : Nat) (k64 : Nat) (n69 : Nat) (y103 : Int32) (j46 : k43 ≤ 36) (j47 : k44 ≤ 36) (j48 : AB36 f45) (j49 : k44 ≤ k43) (hm53 : 36 - k43 < n51 + 1) (c54 : 36 ≤ k43) (c55 : 0 < k44) (j66 : k64 ≤ 36) (hm71 : 36 - k64 < n69 + 1) (c72 : k64 < k44) (e104 : y103 = f45 k64) (b105 : 0 ≤ y103.toInt) (b106 : y103.toInt ≤ 35) : (y103).toInt ≤ 35 := by
  have b_y103 := ia_b y103
  try simp only [ia_lt, ia_le, ia_eq, ia_m1, ia_0, ia_1, ne_eq, true_and, and_true, false_and, and_false, or_false, false_or, or_true, true_or, not_true_eq_false, not_false_eq_true] at *
  all_goals omega
set_option maxRecDepth 20000 in
theorem lf_x_sunk_17 (k43 : Nat) (k44 : Nat) (f45 : Nat → Int32) (n51 : Nat) (k64 : Nat) (n69 : Nat) (y103 : Int32) (j46 : k43 ≤ 36) (j47 : k44 ≤ 36) (j48 : AB36 f45) (j49 : k44 ≤ k43) (hm53 : 36 - k43 < n51 + 1) (c54 : 36 ≤ k43) (c55 : 0 < k44) (j66 : k64 ≤ 36) (hm71 : 36 - k64 < n69 + 1) (c72 : k64 < k44) (e104 : y103 = f45 k64) (b105 : 0 ≤ y103.toInt) (b106 : y103.toInt ≤ 35) : k64 < 36 := by
  have b_y103 := ia_b y103
  try simp only [ia_lt, ia_le, ia_eq, ia_m1, ia_0, ia_1, ne_eq, true_and, and_true, false_and, and_false, or_false, false_or, or_true, true_or, not_true_eq_false, not_false_eq_true] at *
  all_goals omega
set_option maxRecDepth 20000 in
theorem lf_x_sunk_18 (k43 : Nat) (k44 : Nat) (f45 : Nat → Int32) (n51 : Nat) (k64 : Nat) (n69 : Nat) (y103 : Int32) (j46 : k43 ≤ 36) (j47 : k44 ≤ 36) (j48 : AB36 f45) (j49 : k44 ≤ k43) (hm53 : 36 - k43 < n51 + 1) (c54 : 36 ≤ k43) (c55 : 0 < k44) (j66 : k64 ≤ 36) (hm71 : 36 - k64 < n69 + 1) (c72 : k64 < k44) (e104 : y103 = f45 k64) (b105 : 0 ≤ y103.toInt) (b106 : y103.toInt ≤ 35) : 0 ≤ k64 := by
  have b_y103 := ia_b y103
  try simp only [ia_lt, ia_le, ia_eq, ia_m1, ia_0, ia_1, ne_eq, true_and, and_true, false_and, and_false, or_false, false_or, or_true, true_or, not_true_eq_false, not_false_eq_true] at *
  all_goals omega
set_option maxRecDepth 20000 in
theorem lf_x_sunk_19 (k43 : Nat) (k44 : Nat) (f45 : Nat → Int32) (n51 : Nat) (k64 : Nat) (n69 : Nat) (y103 : Int32) (j46 : k43 ≤ 36) (j47 : k44 ≤ 36) (j48 : AB36 f45) (j49 : k44 ≤ k43) (hm53 : 36 - k43 < n51 + 1) (c54 : 36 ≤ k43) (c55 : 0 < k44) (j66 : k64 ≤ 36) (hm71 : 36 - k64 < n69 + 1) (c72 : k64 < k44) (e104 : y103 = f45 k64) (b105 : 0 ≤ y103.toInt) (b106 : y103.toInt ≤ 35) : k64 < 36 := by
  have b_y103 := ia_b y103
  try simp only [ia_lt, ia_le, ia_eq, ia_m1, ia_0, ia_1, ne_eq, true_and, and_true, false_and, and_false, or_false, false_or, or_true, true_or, not_true_eq_false, not_false_eq_true] at *
  all_goals omega
set_option maxRecDepth 20000 in
theorem lf_x_sunk_20 (k43 : Nat) (k44 : Nat) (f45 : Nat → Int32) (n51 : Nat) (k64 : Nat) (n69 : Nat) (y103 : Int32) (j46 : k43 ≤ 36) (j47 : k44 ≤ 36) (j48 : AB36 f45) (j49 : k44 ≤ k43) (hm53 : 36 - k43 < n51 + 1) (c54 : 36 ≤ k43) (c55 : 0 < k44) (j66 : k64 ≤ 36) (hm71 : 36 - k64 < n69 + 1) (c72 : k64 < k44) (e104 : y103 = f45 k64) (b105 : 0 ≤ y103.toInt) (b106 : y103.toInt ≤ 35) : (k64 + 1) ≤ 36 := by
  have b_y103 := ia_b y103
  try simp only [ia_lt, ia_le, ia_eq, ia_m1, ia_0, ia_1, ne_eq, true_and, and_true, false_and, and_false, or_false, false_or, or_true, true_or, not_true_eq_false, not_false_eq_true] at *
  all_goals omega
set_option maxRecDepth 20000 in
theorem lf_x_sunk_21 (k43 : Nat) (k44 : Nat) (f45 : Nat → Int32) (n51 : Nat) (k64 : Nat) (n69 : Nat) (y103 : Int32) (j46 : k43 ≤ 36) (j47 : k44 ≤ 36) (j48 : AB36 f45) (j49 : k44 ≤ k43) (hm53 : 36 - k43 < n51 + 1) (c54 : 36 ≤ k43) (c55 : 0 < k44) (j66 : k64 ≤ 36) (hm71 : 36 - k64 < n69 + 1) (c72 : k64 < k44) (e104 : y103 = f45 k64) (b105 : 0 ≤ y103.toInt) (b106 : y103.toInt ≤ 35) : 36 - (k64 + 1) < n69 := by
  have b_y103 := ia_b y103
  try simp only [ia_lt, ia_le, ia_eq, ia_m1, ia_0, ia_1, ne_eq, true_and, and_true, false_and, and_false, or_false, false_or, or_true, true_or, not_true_eq_false, not_false_eq_true] at *
  all_goals omega
set_option maxRecDepth 20000 in
theorem lf_x_sunk_22   : 0 ≤ 36 := by
  try simp only [ia_lt, ia_le, ia_eq, ia_m1, ia_0, ia_1, ne_eq, true_and, and_true, false_and, and_false, or_false, false_or, or_true, true_or, not_true_eq_false, not_false_eq_true] at *
  all_goals omega
set_option maxRecDepth 20000 in
theorem lf_x_sunk_23 (k43 : Nat) (k44 : Nat) (n51 : Nat) (j46 : k43 ≤ 36) (j47 : k44 ≤ 36) (j49 : k44 ≤ k43) (hm53 : 36 - k43 < n51 + 1) (c54 : k43 < 36) : 0 ≤ (nI k43).toInt := by
  try have k_0 := ia_n k43 (by first | decide | omega)
  try simp only [ia_lt, ia_le, ia_eq, ia_m1, ia_0, ia_1, ne_eq, true_and, and_true, false_and, and_false, or_false, false_or, or_true, true_or, not_true_eq_false, not_false_eq_true] at *
  all_goals omega
set_option maxRecDepth 20000 in
theorem lf_x_sunk_24 (k43 : Nat) (k44 : Nat) (n51 : Nat) (j46 : k43 ≤ 36) (j47 : k44 ≤ 36) (j49 : k44 ≤ k43) (hm53 : 36 - k43 < n51 + 1) (c54 : k43 < 36) : (nI k43).toInt ≤ 35 := by
  try have k_0 := ia_n k43 (by first | decide | omega)
  try simp only [ia_lt, ia_le, ia_eq, ia_m1, ia_0, ia_1, ne_eq, true_and, and_true, false_and, and_false, or_false, false_or, or_true, true_or, not_true_eq_false, not_false_eq_true] at *
  all_goals omega
set_option maxRecDepth 20000 in
theorem lf_x_sunk_25 (k43 : Nat) (k44 : Nat) (n51 : Nat) (j46 : k43 ≤ 36) (j47 : k44 ≤ 36) (j49 : k44 ≤ k43) (hm53 : 36 - k43 < n51 + 1) (c54 : k43 < 36) : k44 < 36 := by
  try simp only [ia_lt, ia_le, ia_eq, ia_m1, ia_0, ia_1, ne_eq, true_and, and_true, false_and, and_false, or_false, false_or, or_true, true_or, not_true_eq_false, not_false_eq_true] at *
  all_goals omega
set_option maxRecDepth 20000 in
theorem lf_x_sunk_26 (k43 : Nat) (k44 : Nat) (n51 : Nat) (j46 : k43 ≤ 36) (j47 : k44 ≤ 36) (j49 : k44 ≤ k43) (hm53 : 36 - k43 < n51 + 1) (c54 : k43 < 36) : 0 ≤ k44 := by
  try simp only [ia_lt, ia_le, ia_eq, ia_m1, ia_0, ia_1, ne_eq, true_and, and_true, false_and, and_false, or_false, false_or, or_true, true_or, not_true_eq_false, not_false_eq_true] at *
  all_goals omega
set_option maxRecDepth 20000 in
theorem lf_x_sunk_27 (k43 : Nat) (k44 : Nat) (n51 : Nat) (j46 : k43 ≤ 36) (j47 : k44 ≤ 36) (j49 : k44 ≤ k43) (hm53 : 36 - k43 < n51 + 1) (c54 : k43 < 36) : k44 < 36 := by
  try simp only [ia_lt, ia_le, ia_eq, ia_m1, ia_0, ia_1, ne_eq, true_and, and_true, false_and, and_false, or_false, false_or, or_true, true_or, not_true_eq_false, not_false_eq_true] at *
  all_goals omega
set_option maxRecDepth 20000 in
theorem lf_x_sunk_28 (k43 : Nat) (k44 : Nat) (n51 : Nat) (j46 : k43 ≤ 36) (j47 : k44 ≤ 36) (j49 : k44 ≤ k43) (hm53 : 36 - k43 < n51 + 1) (c54 : k43 < 36) : (k43 + 1) ≤ 36 := by
  try simp only [ia_lt, ia_le, ia_eq, ia_m1, ia_0, ia_1, ne_eq, true_and, and_true, false_and, and_false, or_false, false_or, or_true, true_or, not_true_eq_false, not_false_eq_true] at *
  all_goals omega
set_option maxRecDepth 20000 in
theorem lf_x_sunk_29 (k43 : Nat) (k44 : Nat) (n51 : Nat) (j46 : k43 ≤ 36) (j47 : k44 ≤ 36) (j49 : k44 ≤ k43) (hm53 : 36 - k43 < n51 + 1) (c54 : k43 < 36) : (k44 + 1) ≤ 36 := by
  try simp only [ia_lt, ia_le, ia_eq, ia_m1, ia_0, ia_1, ne_eq, true_and, and_true, false_and, and_false, or_false, false_or, or_true, true_or, not_true_eq_false, not_false_eq_true] at *
  all_goals omega
set_option maxRecDepth 20000 in
theorem lf_x_sunk_30 (k43 : Nat) (k44 : Nat) (n51 : Nat) (j46 : k43 ≤ 36) (j47 : k44 ≤ 36) (j49 : k44 ≤ k43) (hm53 : 36 - k43 < n51 + 1) (c54 : k43 < 36) : (k44 + 1) ≤ (k43 + 1) := by
  try simp only [ia_lt, ia_le, ia_eq, ia_m1, ia_0, ia_1, ne_eq, true_and, and_true, false_and, and_false, or_false, false_or, or_true, true_or, not_true_eq_false, not_false_eq_true] at *
  all_goals omega
set_option maxRecDepth 20000 in
theorem lf_x_sunk_31 (k43 : Nat) (k44 : Nat) (n51 : Nat) (j46 : k43 ≤ 36) (j47 : k44 ≤ 36) (j49 : k44 ≤ k43) (hm53 : 36 - k43 < n51 + 1) (c54 : k43 < 36) : 36 - (k43 + 1) < n51 := by
  try simp only [ia_lt, ia_le, ia_eq, ia_m1, ia_0, ia_1, ne_eq, true_and, and_true, false_and, and_false, or_false, false_or, or_true, true_or, not_true_eq_false, not_false_eq_true] at *
  all_goals omega
set_option maxRecDepth 20000 in
theorem lf_x_sunk_32 (k43 : Nat) (k44 : Nat) (n51 : Nat) (j46 : k43 ≤ 36) (j47 : k44 ≤ 36) (j49 : k44 ≤ k43) (hm53 : 36 - k43 < n51 + 1) (c54 : k43 < 36) : (k43 + 1) ≤ 36 := by
  try simp only [ia_lt, ia_le, ia_eq, ia_m1, ia_0, ia_1, ne_eq, true_and, and_true, false_and, and_false, or_false, false_or, or_true, true_or, not_true_eq_false, not_false_eq_true] at *
  all_goals omega
set_option maxRecDepth 20000 in
theorem lf_x_sunk_33 (k43 : Nat) (k44 : Nat) (n51 : Nat) (j46 : k43 ≤ 36) (j47 : k44 ≤ 36) (j49 : k44 ≤ k43) (hm53 : 36 - k43 < n51 + 1) (c54 : k43 < 36) : k44 ≤ (k43 + 1) := by
  try simp only [ia_lt, ia_le, ia_eq, ia_m1, ia_0, ia_1, ne_eq, true_and, and_true, false_and, and_false, or_false, false_or, or_true, true_or, not_true_eq_false, not_false_eq_true] at *
  all_goals omega
set_option maxRecDepth 20000 in
theorem lf_x_sunk_34 (k43 : Nat) (k44 : Nat) (n51 : Nat) (j46 : k43 ≤ 36) (j47 : k44 ≤ 36) (j49 : k44 ≤ k43) (hm53 : 36 - k43 < n51 + 1) (c54 : k43 < 36) : 36 - (k43 + 1) < n51 := by
  try simp only [ia_lt, ia_le, ia_eq, ia_m1, ia_0, ia_1, ne_eq, true_and, and_true, false_and, and_false, or_false, false_or, or_true, true_or, not_true_eq_false, not_false_eq_true] at *
  all_goals omega
set_option maxRecDepth 20000 in
theorem lf_x_sunk_35 (ktaped : Nat) (ktapeF : Nat → Int32) (k21 : Nat) (n25 : Nat) (k122 : Nat) (n128 : Nat) (iv_ko_0 : ktaped ≤ 940) (c8 : (ktaped % 2) = 0) (t11 : (nI 1).toInt ≤ (nI (ktaped / 2)).toInt) (t12 : (nI (ktaped / 2)).toInt ≤ (nI 6).toInt) (j22 : k21 ≤ 941) (j23 : k21 % 2 = 0) (hall : ∀ j, j < k21 → j % 2 = 0 → 0 ≤ (ktapeF j).toInt ∧ (ktapeF j).toInt ≤ 5) (hm27 : 941 - k21 < n25 + 1) (c28 : ktaped ≤ k21) (j124 : k122 ≤ 941) (j126 : k122 % 2 = 0) (hm130 : 941 - k122 < n128 + 1) (c131 : k122 < ktaped) : (k122 + 2) ≤ 941 := by
  try have k_0 := ia_n 1 (by first | decide | omega)
  try have k_1 := ia_n (ktaped / 2) (by first | decide | omega)
  try have k_2 := ia_n 6 (by first | decide | omega)
  try simp only [ia_lt, ia_le, ia_eq, ia_m1, ia_0, ia_1, ne_eq, true_and, and_true, false_and, and_false, or_false, false_or, or_true, true_or, not_true_eq_false, not_false_eq_true] at *
  all_goals omega
set_option maxRecDepth 20000 in
theorem lf_x_sunk_36   : (nI 0) = nI 0 ∨ (nI 0) = nI 1 := by
  try have k_0 := ia_n 0 (by first | decide | omega)
  try have k_1 := ia_n 1 (by first | decide | omega)
  try simp only [ia_lt, ia_le, ia_eq, ia_m1, ia_0, ia_1, ne_eq, true_and, and_true, false_and, and_false, or_false, false_or, or_true, true_or, not_true_eq_false, not_false_eq_true] at *
  all_goals omega
set_option maxRecDepth 20000 in
theorem lf_x_sunk_37 (ktaped : Nat) (ktapeF : Nat → Int32) (k21 : Nat) (n25 : Nat) (k122 : Nat) (n128 : Nat) (iv_ko_0 : ktaped ≤ 940) (c8 : (ktaped % 2) = 0) (t11 : (nI 1).toInt ≤ (nI (ktaped / 2)).toInt) (t12 : (nI (ktaped / 2)).toInt ≤ (nI 6).toInt) (j22 : k21 ≤ 941) (j23 : k21 % 2 = 0) (hall : ∀ j, j < k21 → j % 2 = 0 → 0 ≤ (ktapeF j).toInt ∧ (ktapeF j).toInt ≤ 5) (hm27 : 941 - k21 < n25 + 1) (c28 : ktaped ≤ k21) (j124 : k122 ≤ 941) (j126 : k122 % 2 = 0) (hm130 : 941 - k122 < n128 + 1) (c131 : k122 < ktaped) : (k122 + 2) % 2 = 0 := by
  try have k_0 := ia_n 1 (by first | decide | omega)
  try have k_1 := ia_n (ktaped / 2) (by first | decide | omega)
  try have k_2 := ia_n 6 (by first | decide | omega)
  try simp only [ia_lt, ia_le, ia_eq, ia_m1, ia_0, ia_1, ne_eq, true_and, and_true, false_and, and_false, or_false, false_or, or_true, true_or, not_true_eq_false, not_false_eq_true] at *
  all_goals omega
set_option maxRecDepth 20000 in
theorem lf_x_sunk_38 (ktaped : Nat) (ktapeF : Nat → Int32) (k21 : Nat) (n25 : Nat) (k122 : Nat) (n128 : Nat) (iv_ko_0 : ktaped ≤ 940) (c8 : (ktaped % 2) = 0) (t11 : (nI 1).toInt ≤ (nI (ktaped / 2)).toInt) (t12 : (nI (ktaped / 2)).toInt ≤ (nI 6).toInt) (j22 : k21 ≤ 941) (j23 : k21 % 2 = 0) (hall : ∀ j, j < k21 → j % 2 = 0 → 0 ≤ (ktapeF j).toInt ∧ (ktapeF j).toInt ≤ 5) (hm27 : 941 - k21 < n25 + 1) (c28 : ktaped ≤ k21) (j124 : k122 ≤ 941) (j126 : k122 % 2 = 0) (hm130 : 941 - k122 < n128 + 1) (c131 : k122 < ktaped) : 941 - (k122 + 2) < n128 := by
  try have k_0 := ia_n 1 (by first | decide | omega)
  try have k_1 := ia_n (ktaped / 2) (by first | decide | omega)
  try have k_2 := ia_n 6 (by first | decide | omega)
  try simp only [ia_lt, ia_le, ia_eq, ia_m1, ia_0, ia_1, ne_eq, true_and, and_true, false_and, and_false, or_false, false_or, or_true, true_or, not_true_eq_false, not_false_eq_true] at *
  all_goals omega
set_option maxRecDepth 20000 in
theorem lf_x_sunk_39 (ktaped : Nat) (ktapeF : Nat → Int32) (k21 : Nat) (n25 : Nat) (k122 : Nat) (n128 : Nat) (y137 : Int32) (iv_ko_0 : ktaped ≤ 940) (c8 : (ktaped % 2) = 0) (t11 : (nI 1).toInt ≤ (nI (ktaped / 2)).toInt) (t12 : (nI (ktaped / 2)).toInt ≤ (nI 6).toInt) (j22 : k21 ≤ 941) (j23 : k21 % 2 = 0) (hall : ∀ j, j < k21 → j % 2 = 0 → 0 ≤ (ktapeF j).toInt ∧ (ktapeF j).toInt ≤ 5) (hm27 : 941 - k21 < n25 + 1) (c28 : ktaped ≤ k21) (j124 : k122 ≤ 941) (j126 : k122 % 2 = 0) (hm130 : 941 - k122 < n128 + 1) (c131 : k122 < ktaped) (e138 : y137 = ktapeF k122) : k122 < 940 := by
  have b_y137 := ia_b y137
  try have k_0 := ia_n 1 (by first | decide | omega)
  try have k_1 := ia_n (ktaped / 2) (by first | decide | omega)
  try have k_2 := ia_n 6 (by first | decide | omega)
  try simp only [ia_lt, ia_le, ia_eq, ia_m1, ia_0, ia_1, ne_eq, true_and, and_true, false_and, and_false, or_false, false_or, or_true, true_or, not_true_eq_false, not_false_eq_true] at *
  all_goals omega
set_option maxRecDepth 20000 in
theorem lf_x_sunk_40 (ktaped : Nat) (ktapeF : Nat → Int32) (k21 : Nat) (n25 : Nat) (k122 : Nat) (n128 : Nat) (y137 : Int32) (iv_ko_0 : ktaped ≤ 940) (c8 : (ktaped % 2) = 0) (t11 : (nI 1).toInt ≤ (nI (ktaped / 2)).toInt) (t12 : (nI (ktaped / 2)).toInt ≤ (nI 6).toInt) (j22 : k21 ≤ 941) (j23 : k21 % 2 = 0) (hall : ∀ j, j < k21 → j % 2 = 0 → 0 ≤ (ktapeF j).toInt ∧ (ktapeF j).toInt ≤ 5) (hm27 : 941 - k21 < n25 + 1) (c28 : ktaped ≤ k21) (j124 : k122 ≤ 941) (j126 : k122 % 2 = 0) (hm130 : 941 - k122 < n128 + 1) (c131 : k122 < ktaped) (e138 : y137 = ktapeF k122) (b139 : 0 ≤ y137.toInt) (b140 : y137.toInt ≤ 5) : 0 ≤ y137.toInt ∧ y137.toInt ≤ 5 := by
  have b_y137 := ia_b y137
  try have k_0 := ia_n 1 (by first | decide | omega)
  try have k_1 := ia_n (ktaped / 2) (by first | decide | omega)
  try have k_2 := ia_n 6 (by first | decide | omega)
  try simp only [ia_lt, ia_le, ia_eq, ia_m1, ia_0, ia_1, ne_eq, true_and, and_true, false_and, and_false, or_false, false_or, or_true, true_or, not_true_eq_false, not_false_eq_true] at *
  all_goals omega
set_option maxRecDepth 20000 in
theorem lf_x_sunk_41 (k43 : Nat) (k44 : Nat) (n51 : Nat) (j46 : k43 ≤ 36) (j47 : k44 ≤ 36) (j49 : k44 ≤ k43) (hm53 : 36 - k43 < n51 + 1) (c54 : k43 < 36) : 0 ≤ (nI k43).toInt ∧ (nI k43).toInt ≤ 35 := by
  try have k_0 := ia_n k43 (by first | decide | omega)
  try simp only [ia_lt, ia_le, ia_eq, ia_m1, ia_0, ia_1, ne_eq, true_and, and_true, false_and, and_false, or_false, false_or, or_true, true_or, not_true_eq_false, not_false_eq_true] at *
  all_goals omega
set_option maxRecDepth 20000 in
theorem lf_x_sunk_42 (ktaped : Nat) (ktapeF : Nat → Int32) (k21 : Nat) (n25 : Nat) (k122 : Nat) (n128 : Nat) (y137 : Int32) (y143 : Int32) (iv_ko_0 : ktaped ≤ 940) (c8 : (ktaped % 2) = 0) (t11 : (nI 1).toInt ≤ (nI (ktaped / 2)).toInt) (t12 : (nI (ktaped / 2)).toInt ≤ (nI 6).toInt) (j22 : k21 ≤ 941) (j23 : k21 % 2 = 0) (hall : ∀ j, j < k21 → j % 2 = 0 → 0 ≤ (ktapeF j).toInt ∧ (ktapeF j).toInt ≤ 5) (hm27 : 941 - k21 < n25 + 1) (c28 : ktaped ≤ k21) (j124 : k122 ≤ 941) (j126 : k122 % 2 = 0) (hm130 : 941 - k122 < n128 + 1) (c131 : k122 < ktaped) (e138 : y137 = ktapeF k122) (b139 : 0 ≤ y137.toInt) (b140 : y137.toInt ≤ 5) (e144 : y143 = ktapeF (k122 + 1)) : (k122 + 1) < 940 := by
  have b_y137 := ia_b y137
  have b_y143 := ia_b y143
  try have k_0 := ia_n 1 (by first | decide | omega)
  try have k_1 := ia_n (ktaped / 2) (by first | decide | omega)
  try have k_2 := ia_n 6 (by first | decide | omega)
  try simp only [ia_lt, ia_le, ia_eq, ia_m1, ia_0, ia_1, ne_eq, true_and, and_true, false_and, and_false, or_false, false_or, or_true, true_or, not_true_eq_false, not_false_eq_true] at *
  all_goals omega
set_option maxRecDepth 20000 in
theorem lf_x_sunk_43 (ktaped : Nat) (ktapeF : Nat → Int32) (k21 : Nat) (n25 : Nat) (k122 : Nat) (n128 : Nat) (y137 : Int32) (y143 : Int32) (iv_ko_0 : ktaped ≤ 940) (c8 : (ktaped % 2) = 0) (t11 : (nI 1).toInt ≤ (nI (ktaped / 2)).toInt) (t12 : (nI (ktaped / 2)).toInt ≤ (nI 6).toInt) (j22 : k21 ≤ 941) (j23 : k21 % 2 = 0) (hall : ∀ j, j < k21 → j % 2 = 0 → 0 ≤ (ktapeF j).toInt ∧ (ktapeF j).toInt ≤ 5) (hm27 : 941 - k21 < n25 + 1) (c28 : ktaped ≤ k21) (j124 : k122 ≤ 941) (j126 : k122 % 2 = 0) (hm130 : 941 - k122 < n128 + 1) (c131 : k122 < ktaped) (e138 : y137 = ktapeF k122) (b139 : 0 ≤ y137.toInt) (b140 : y137.toInt ≤ 5) (e144 : y143 = ktapeF (k122 + 1)) (c145 : y143 ≠ nI 1) : (k122 + 2) ≤ 941 := by
  have b_y137 := ia_b y137
  have b_y143 := ia_b y143
  try have k_0 := ia_n 1 (by first | decide | omega)
  try have k_1 := ia_n (ktaped / 2) (by first | decide | omega)
  try have k_2 := ia_n 6 (by first | decide | omega)
  try simp only [ia_lt, ia_le, ia_eq, ia_m1, ia_0, ia_1, ne_eq, true_and, and_true, false_and, and_false, or_false, false_or, or_true, true_or, not_true_eq_false, not_false_eq_true] at *
  all_goals omega
set_option maxRecDepth 20000 in
theorem lf_x_sunk_44   : (nI 0) = nI 0 ∨ (nI 0) = nI 1 := by
  try have k_0 := ia_n 0 (by first | decide | omega)
  try have k_1 := ia_n 1 (by first | decide | omega)
  try simp only [ia_lt, ia_le, ia_eq, ia_m1, ia_0, ia_1, ne_eq, true_and, and_true, false_and, and_false, or_false, false_or, or_true, true_or, not_true_eq_false, not_false_eq_true] at *
  all_goals omega
set_option maxRecDepth 20000 in
theorem lf_x_sunk_45 (ktaped : Nat) (ktapeF : Nat → Int32) (k21 : Nat) (n25 : Nat) (k122 : Nat) (n128 : Nat) (y137 : Int32) (y143 : Int32) (iv_ko_0 : ktaped ≤ 940) (c8 : (ktaped % 2) = 0) (t11 : (nI 1).toInt ≤ (nI (ktaped / 2)).toInt) (t12 : (nI (ktaped / 2)).toInt ≤ (nI 6).toInt) (j22 : k21 ≤ 941) (j23 : k21 % 2 = 0) (hall : ∀ j, j < k21 → j % 2 = 0 → 0 ≤ (ktapeF j).toInt ∧ (ktapeF j).toInt ≤ 5) (hm27 : 941 - k21 < n25 + 1) (c28 : ktaped ≤ k21) (j124 : k122 ≤ 941) (j126 : k122 % 2 = 0) (hm130 : 941 - k122 < n128 + 1) (c131 : k122 < ktaped) (e138 : y137 = ktapeF k122) (b139 : 0 ≤ y137.toInt) (b140 : y137.toInt ≤ 5) (e144 : y143 = ktapeF (k122 + 1)) (c145 : y143 ≠ nI 1) : (k122 + 2) % 2 = 0 := by
  have b_y137 := ia_b y137
  have b_y143 := ia_b y143
  try have k_0 := ia_n 1 (by first | decide | omega)
  try have k_1 := ia_n (ktaped / 2) (by first | decide | omega)
  try have k_2 := ia_n 6 (by first | decide | omega)
  try simp only [ia_lt, ia_le, ia_eq, ia_m1, ia_0, ia_1, ne_eq, true_and, and_true, false_and, and_false, or_false, false_or, or_true, true_or, not_true_eq_false, not_false_eq_true] at *
  all_goals omega
set_option maxRecDepth 20000 in
theorem lf_x_sunk_46 (ktaped : Nat) (ktapeF : Nat → Int32) (k21 : Nat) (n25 : Nat) (k122 : Nat) (n128 : Nat) (y137 : Int32) (y143 : Int32) (iv_ko_0 : ktaped ≤ 940) (c8 : (ktaped % 2) = 0) (t11 : (nI 1).toInt ≤ (nI (ktaped / 2)).toInt) (t12 : (nI (ktaped / 2)).toInt ≤ (nI 6).toInt) (j22 : k21 ≤ 941) (j23 : k21 % 2 = 0) (hall : ∀ j, j < k21 → j % 2 = 0 → 0 ≤ (ktapeF j).toInt ∧ (ktapeF j).toInt ≤ 5) (hm27 : 941 - k21 < n25 + 1) (c28 : ktaped ≤ k21) (j124 : k122 ≤ 941) (j126 : k122 % 2 = 0) (hm130 : 941 - k122 < n128 + 1) (c131 : k122 < ktaped) (e138 : y137 = ktapeF k122) (b139 : 0 ≤ y137.toInt) (b140 : y137.toInt ≤ 5) (e144 : y143 = ktapeF (k122 + 1)) (c145 : y143 ≠ nI 1) : 941 - (k122 + 2) < n128 := by
  have b_y137 := ia_b y137
  have b_y143 := ia_b y143
  try have k_0 := ia_n 1 (by first | decide | omega)
  try have k_1 := ia_n (ktaped / 2) (by first | decide | omega)
  try have k_2 := ia_n 6 (by first | decide | omega)
  try simp only [ia_lt, ia_le, ia_eq, ia_m1, ia_0, ia_1, ne_eq, true_and, and_true, false_and, and_false, or_false, false_or, or_true, true_or, not_true_eq_false, not_false_eq_true] at *
  all_goals omega
set_option maxRecDepth 20000 in
theorem lf_x_sunk_47 (ktaped : Nat) (ktapeF : Nat → Int32) (k21 : Nat) (n25 : Nat) (k122 : Nat) (n128 : Nat) (y137 : Int32) (y143 : Int32) (iv_ko_0 : ktaped ≤ 940) (c8 : (ktaped % 2) = 0) (t11 : (nI 1).toInt ≤ (nI (ktaped / 2)).toInt) (t12 : (nI (ktaped / 2)).toInt ≤ (nI 6).toInt) (j22 : k21 ≤ 941) (j23 : k21 % 2 = 0) (hall : ∀ j, j < k21 → j % 2 = 0 → 0 ≤ (ktapeF j).toInt ∧ (ktapeF j).toInt ≤ 5) (hm27 : 941 - k21 < n25 + 1) (c28 : ktaped ≤ k21) (j124 : k122 ≤ 941) (j126 : k122 % 2 = 0) (hm130 : 941 - k122 < n128 + 1) (c131 : k122 < ktaped) (e138 : y137 = ktapeF k122) (b139 : 0 ≤ y137.toInt) (b140 : y137.toInt ≤ 5) (e144 : y143 = ktapeF (k122 + 1)) (c145 : y143 ≠ nI 1) : (k122 + 2) ≤ 941 := by
  have b_y137 := ia_b y137
  have b_y143 := ia_b y143
  try have k_0 := ia_n 1 (by first | decide | omega)
  try have k_1 := ia_n (ktaped / 2) (by first | decide | omega)
  try have k_2 := ia_n 6 (by first | decide | omega)
  try simp only [ia_lt, ia_le, ia_eq, ia_m1, ia_0, ia_1, ne_eq, true_and, and_true, false_and, and_false, or_false, false_or, or_true, true_or, not_true_eq_false, not_false_eq_true] at *
  all_goals omega
set_option maxRecDepth 20000 in
theorem lf_x_sunk_48   : (nI 1) = nI 0 ∨ (nI 1) = nI 1 := by
  try have k_0 := ia_n 1 (by first | decide | omega)
  try have k_1 := ia_n 0 (by first | decide | omega)
  try simp only [ia_lt, ia_le, ia_eq, ia_m1, ia_0, ia_1, ne_eq, true_and, and_true, false_and, and_false, or_false, false_or, or_true, true_or, not_true_eq_false, not_false_eq_true] at *
  all_goals omega
set_option maxRecDepth 20000 in
theorem lf_x_sunk_49 (ktaped : Nat) (ktapeF : Nat → Int32) (k21 : Nat) (n25 : Nat) (k122 : Nat) (n128 : Nat) (y137 : Int32) (y143 : Int32) (iv_ko_0 : ktaped ≤ 940) (c8 : (ktaped % 2) = 0) (t11 : (nI 1).toInt ≤ (nI (ktaped / 2)).toInt) (t12 : (nI (ktaped / 2)).toInt ≤ (nI 6).toInt) (j22 : k21 ≤ 941) (j23 : k21 % 2 = 0) (hall : ∀ j, j < k21 → j % 2 = 0 → 0 ≤ (ktapeF j).toInt ∧ (ktapeF j).toInt ≤ 5) (hm27 : 941 - k21 < n25 + 1) (c28 : ktaped ≤ k21) (j124 : k122 ≤ 941) (j126 : k122 % 2 = 0) (hm130 : 941 - k122 < n128 + 1) (c131 : k122 < ktaped) (e138 : y137 = ktapeF k122) (b139 : 0 ≤ y137.toInt) (b140 : y137.toInt ≤ 5) (e144 : y143 = ktapeF (k122 + 1)) (c145 : y143 ≠ nI 1) : (k122 + 2) % 2 = 0 := by
  have b_y137 := ia_b y137
  have b_y143 := ia_b y143
  try have k_0 := ia_n 1 (by first | decide | omega)
  try have k_1 := ia_n (ktaped / 2) (by first | decide | omega)
  try have k_2 := ia_n 6 (by first | decide | omega)
  try simp only [ia_lt, ia_le, ia_eq, ia_m1, ia_0, ia_1, ne_eq, true_and, and_true, false_and, and_false, or_false, false_or, or_true, true_or, not_true_eq_false, not_false_eq_true] at *
  all_goals omega
set_option maxRecDepth 20000 in
theorem lf_x_sunk_50 (ktaped : Nat) (ktapeF : Nat → Int32) (k21 : Nat) (n25 : Nat) (k122 : Nat) (n128 : Nat) (y137 : Int32) (y143 : Int32) (iv_ko_0 : ktaped ≤ 940) (c8 : (ktaped % 2) = 0) (t11 : (nI 1).toInt ≤ (nI (ktaped / 2)).toInt) (t12 : (nI (ktaped / 2)).toInt ≤ (nI 6).toInt) (j22 : k21 ≤ 941) (j23 : k21 % 2 = 0) (hall : ∀ j, j < k21 → j % 2 = 0 → 0 ≤ (ktapeF j).toInt ∧ (ktapeF j).toInt ≤ 5) (hm27 : 941 - k21 < n25 + 1) (c28 : ktaped ≤ k21) (j124 : k122 ≤ 941) (j126 : k122 % 2 = 0) (hm130 : 941 - k122 < n128 + 1) (c131 : k122 < ktaped) (e138 : y137 = ktapeF k122) (b139 : 0 ≤ y137.toInt) (b140 : y137.toInt ≤ 5) (e144 : y143 = ktapeF (k122 + 1)) (c145 : y143 ≠ nI 1) : 941 - (k122 + 2) < n128 := by
  have b_y137 := ia_b y137
  have b_y143 := ia_b y143
  try have k_0 := ia_n 1 (by first | decide | omega)
  try have k_1 := ia_n (ktaped / 2) (by first | decide | omega)
  try have k_2 := ia_n 6 (by first | decide | omega)
  try simp only [ia_lt, ia_le, ia_eq, ia_m1, ia_0, ia_1, ne_eq, true_and, and_true, false_and, and_false, or_false, false_or, or_true, true_or, not_true_eq_false, not_false_eq_true] at *
  all_goals omega
set_option maxRecDepth 20000 in
theorem lf_x_sunk_51 (ktaped : Nat) (ktapeF : Nat → Int32) (k21 : Nat) (n25 : Nat) (k122 : Nat) (n128 : Nat) (y137 : Int32) (y143 : Int32) (iv_ko_0 : ktaped ≤ 940) (c8 : (ktaped % 2) = 0) (t11 : (nI 1).toInt ≤ (nI (ktaped / 2)).toInt) (t12 : (nI (ktaped / 2)).toInt ≤ (nI 6).toInt) (j22 : k21 ≤ 941) (j23 : k21 % 2 = 0) (hall : ∀ j, j < k21 → j % 2 = 0 → 0 ≤ (ktapeF j).toInt ∧ (ktapeF j).toInt ≤ 5) (hm27 : 941 - k21 < n25 + 1) (c28 : ktaped ≤ k21) (j124 : k122 ≤ 941) (j126 : k122 % 2 = 0) (hm130 : 941 - k122 < n128 + 1) (c131 : k122 < ktaped) (e138 : y137 = ktapeF k122) (b139 : 0 ≤ y137.toInt) (b140 : y137.toInt ≤ 5) (e144 : y143 = ktapeF (k122 + 1)) (c145 : y143 = nI 1) : (k122 + 2) ≤ 941 := by
  have b_y137 := ia_b y137
  have b_y143 := ia_b y143
  try have k_0 := ia_n 1 (by first | decide | omega)
  try have k_1 := ia_n (ktaped / 2) (by first | decide | omega)
  try have k_2 := ia_n 6 (by first | decide | omega)
  try simp only [ia_lt, ia_le, ia_eq, ia_m1, ia_0, ia_1, ne_eq, true_and, and_true, false_and, and_false, or_false, false_or, or_true, true_or, not_true_eq_false, not_false_eq_true] at *
  all_goals omega
set_option maxRecDepth 20000 in
theorem lf_x_sunk_52   : (nI 0) = nI 0 ∨ (nI 0) = nI 1 := by
  try have k_0 := ia_n 0 (by first | decide | omega)
  try have k_1 := ia_n 1 (by first | decide | omega)
  try simp only [ia_lt, ia_le, ia_eq, ia_m1, ia_0, ia_1, ne_eq, true_and, and_true, false_and, and_false, or_false, false_or, or_true, true_or, not_true_eq_false, not_false_eq_true] at *
  all_goals omega
set_option maxRecDepth 20000 in
theorem lf_x_sunk_53 (ktaped : Nat) (ktapeF : Nat → Int32) (k21 : Nat) (n25 : Nat) (k122 : Nat) (n128 : Nat) (y137 : Int32) (y143 : Int32) (iv_ko_0 : ktaped ≤ 940) (c8 : (ktaped % 2) = 0) (t11 : (nI 1).toInt ≤ (nI (ktaped / 2)).toInt) (t12 : (nI (ktaped / 2)).toInt ≤ (nI 6).toInt) (j22 : k21 ≤ 941) (j23 : k21 % 2 = 0) (hall : ∀ j, j < k21 → j % 2 = 0 → 0 ≤ (ktapeF j).toInt ∧ (ktapeF j).toInt ≤ 5) (hm27 : 941 - k21 < n25 + 1) (c28 : ktaped ≤ k21) (j124 : k122 ≤ 941) (j126 : k122 % 2 = 0) (hm130 : 941 - k122 < n128 + 1) (c131 : k122 < ktaped) (e138 : y137 = ktapeF k122) (b139 : 0 ≤ y137.toInt) (b140 : y137.toInt ≤ 5) (e144 : y143 = ktapeF (k122 + 1)) (c145 : y143 = nI 1) : (k122 + 2) % 2 = 0 := by
  have b_y137 := ia_b y137
  have b_y143 := ia_b y143
  try have k_0 := ia_n 1 (by first | decide | omega)
  try have k_1 := ia_n (ktaped / 2) (by first | decide | omega)
  try have k_2 := ia_n 6 (by first | decide | omega)
  try simp only [ia_lt, ia_le, ia_eq, ia_m1, ia_0, ia_1, ne_eq, true_and, and_true, false_and, and_false, or_false, false_or, or_true, true_or, not_true_eq_false, not_false_eq_true] at *
  all_goals omega
set_option maxRecDepth 20000 in
theorem lf_x_sunk_54 (ktaped : Nat) (ktapeF : Nat → Int32) (k21 : Nat) (n25 : Nat) (k122 : Nat) (n128 : Nat) (y137 : Int32) (y143 : Int32) (iv_ko_0 : ktaped ≤ 940) (c8 : (ktaped % 2) = 0) (t11 : (nI 1).toInt ≤ (nI (ktaped / 2)).toInt) (t12 : (nI (ktaped / 2)).toInt ≤ (nI 6).toInt) (j22 : k21 ≤ 941) (j23 : k21 % 2 = 0) (hall : ∀ j, j < k21 → j % 2 = 0 → 0 ≤ (ktapeF j).toInt ∧ (ktapeF j).toInt ≤ 5) (hm27 : 941 - k21 < n25 + 1) (c28 : ktaped ≤ k21) (j124 : k122 ≤ 941) (j126 : k122 % 2 = 0) (hm130 : 941 - k122 < n128 + 1) (c131 : k122 < ktaped) (e138 : y137 = ktapeF k122) (b139 : 0 ≤ y137.toInt) (b140 : y137.toInt ≤ 5) (e144 : y143 = ktapeF (k122 + 1)) (c145 : y143 = nI 1) : 941 - (k122 + 2) < n128 := by
  have b_y137 := ia_b y137
  have b_y143 := ia_b y143
  try have k_0 := ia_n 1 (by first | decide | omega)
  try have k_1 := ia_n (ktaped / 2) (by first | decide | omega)
  try have k_2 := ia_n 6 (by first | decide | omega)
  try simp only [ia_lt, ia_le, ia_eq, ia_m1, ia_0, ia_1, ne_eq, true_and, and_true, false_and, and_false, or_false, false_or, or_true, true_or, not_true_eq_false, not_false_eq_true] at *
  all_goals omega
set_option maxRecDepth 20000 in
theorem lf_x_sunk_55 (ktaped : Nat) (ktapeF : Nat → Int32) (k21 : Nat) (n25 : Nat) (k122 : Nat) (n128 : Nat) (y137 : Int32) (y143 : Int32) (iv_ko_0 : ktaped ≤ 940) (c8 : (ktaped % 2) = 0) (t11 : (nI 1).toInt ≤ (nI (ktaped / 2)).toInt) (t12 : (nI (ktaped / 2)).toInt ≤ (nI 6).toInt) (j22 : k21 ≤ 941) (j23 : k21 % 2 = 0) (hall : ∀ j, j < k21 → j % 2 = 0 → 0 ≤ (ktapeF j).toInt ∧ (ktapeF j).toInt ≤ 5) (hm27 : 941 - k21 < n25 + 1) (c28 : ktaped ≤ k21) (j124 : k122 ≤ 941) (j126 : k122 % 2 = 0) (hm130 : 941 - k122 < n128 + 1) (c131 : k122 < ktaped) (e138 : y137 = ktapeF k122) (b139 : 0 ≤ y137.toInt) (b140 : y137.toInt ≤ 5) (e144 : y143 = ktapeF (k122 + 1)) (c145 : y143 = nI 1) : (k122 + 2) ≤ 941 := by
  have b_y137 := ia_b y137
  have b_y143 := ia_b y143
  try have k_0 := ia_n 1 (by first | decide | omega)
  try have k_1 := ia_n (ktaped / 2) (by first | decide | omega)
  try have k_2 := ia_n 6 (by first | decide | omega)
  try simp only [ia_lt, ia_le, ia_eq, ia_m1, ia_0, ia_1, ne_eq, true_and, and_true, false_and, and_false, or_false, false_or, or_true, true_or, not_true_eq_false, not_false_eq_true] at *
  all_goals omega
set_option maxRecDepth 20000 in
theorem lf_x_sunk_56   : (nI 1) = nI 0 ∨ (nI 1) = nI 1 := by
  try have k_0 := ia_n 1 (by first | decide | omega)
  try have k_1 := ia_n 0 (by first | decide | omega)
  try simp only [ia_lt, ia_le, ia_eq, ia_m1, ia_0, ia_1, ne_eq, true_and, and_true, false_and, and_false, or_false, false_or, or_true, true_or, not_true_eq_false, not_false_eq_true] at *
  all_goals omega
set_option maxRecDepth 20000 in
theorem lf_x_sunk_57 (ktaped : Nat) (ktapeF : Nat → Int32) (k21 : Nat) (n25 : Nat) (k122 : Nat) (n128 : Nat) (y137 : Int32) (y143 : Int32) (iv_ko_0 : ktaped ≤ 940) (c8 : (ktaped % 2) = 0) (t11 : (nI 1).toInt ≤ (nI (ktaped / 2)).toInt) (t12 : (nI (ktaped / 2)).toInt ≤ (nI 6).toInt) (j22 : k21 ≤ 941) (j23 : k21 % 2 = 0) (hall : ∀ j, j < k21 → j % 2 = 0 → 0 ≤ (ktapeF j).toInt ∧ (ktapeF j).toInt ≤ 5) (hm27 : 941 - k21 < n25 + 1) (c28 : ktaped ≤ k21) (j124 : k122 ≤ 941) (j126 : k122 % 2 = 0) (hm130 : 941 - k122 < n128 + 1) (c131 : k122 < ktaped) (e138 : y137 = ktapeF k122) (b139 : 0 ≤ y137.toInt) (b140 : y137.toInt ≤ 5) (e144 : y143 = ktapeF (k122 + 1)) (c145 : y143 = nI 1) : (k122 + 2) % 2 = 0 := by
  have b_y137 := ia_b y137
  have b_y143 := ia_b y143
  try have k_0 := ia_n 1 (by first | decide | omega)
  try have k_1 := ia_n (ktaped / 2) (by first | decide | omega)
  try have k_2 := ia_n 6 (by first | decide | omega)
  try simp only [ia_lt, ia_le, ia_eq, ia_m1, ia_0, ia_1, ne_eq, true_and, and_true, false_and, and_false, or_false, false_or, or_true, true_or, not_true_eq_false, not_false_eq_true] at *
  all_goals omega
set_option maxRecDepth 20000 in
theorem lf_x_sunk_58 (ktaped : Nat) (ktapeF : Nat → Int32) (k21 : Nat) (n25 : Nat) (k122 : Nat) (n128 : Nat) (y137 : Int32) (y143 : Int32) (iv_ko_0 : ktaped ≤ 940) (c8 : (ktaped % 2) = 0) (t11 : (nI 1).toInt ≤ (nI (ktaped / 2)).toInt) (t12 : (nI (ktaped / 2)).toInt ≤ (nI 6).toInt) (j22 : k21 ≤ 941) (j23 : k21 % 2 = 0) (hall : ∀ j, j < k21 → j % 2 = 0 → 0 ≤ (ktapeF j).toInt ∧ (ktapeF j).toInt ≤ 5) (hm27 : 941 - k21 < n25 + 1) (c28 : ktaped ≤ k21) (j124 : k122 ≤ 941) (j126 : k122 % 2 = 0) (hm130 : 941 - k122 < n128 + 1) (c131 : k122 < ktaped) (e138 : y137 = ktapeF k122) (b139 : 0 ≤ y137.toInt) (b140 : y137.toInt ≤ 5) (e144 : y143 = ktapeF (k122 + 1)) (c145 : y143 = nI 1) : 941 - (k122 + 2) < n128 := by
  have b_y137 := ia_b y137
  have b_y143 := ia_b y143
  try have k_0 := ia_n 1 (by first | decide | omega)
  try have k_1 := ia_n (ktaped / 2) (by first | decide | omega)
  try have k_2 := ia_n 6 (by first | decide | omega)
  try simp only [ia_lt, ia_le, ia_eq, ia_m1, ia_0, ia_1, ne_eq, true_and, and_true, false_and, and_false, or_false, false_or, or_true, true_or, not_true_eq_false, not_false_eq_true] at *
  all_goals omega
set_option maxRecDepth 20000 in
theorem lf_x_sunk_59   : 0 ≤ 941 := by
  try simp only [ia_lt, ia_le, ia_eq, ia_m1, ia_0, ia_1, ne_eq, true_and, and_true, false_and, and_false, or_false, false_or, or_true, true_or, not_true_eq_false, not_false_eq_true] at *
  all_goals omega
set_option maxRecDepth 20000 in
theorem lf_x_sunk_60   : 0 % 2 = 0 := by
  try simp only [ia_lt, ia_le, ia_eq, ia_m1, ia_0, ia_1, ne_eq, true_and, and_true, false_and, and_false, or_false, false_or, or_true, true_or, not_true_eq_false, not_false_eq_true] at *
  all_goals omega
set_option maxRecDepth 20000 in
theorem lf_x_sunk_61   : 0 ≤ 36 := by
  try simp only [ia_lt, ia_le, ia_eq, ia_m1, ia_0, ia_1, ne_eq, true_and, and_true, false_and, and_false, or_false, false_or, or_true, true_or, not_true_eq_false, not_false_eq_true] at *
  all_goals omega
set_option maxRecDepth 20000 in
theorem lf_x_sunk_62   : 0 ≤ 36 := by
  try simp only [ia_lt, ia_le, ia_eq, ia_m1, ia_0, ia_1, ne_eq, true_and, and_true, false_and, and_false, or_false, false_or, or_true, true_or, not_true_eq_false, not_false_eq_true] at *
  all_goals omega
set_option maxRecDepth 20000 in
theorem lf_x_sunk_63   : 0 ≤ 0 := by
  try simp only [ia_lt, ia_le, ia_eq, ia_m1, ia_0, ia_1, ne_eq, true_and, and_true, false_and, and_false, or_false, false_or, or_true, true_or, not_true_eq_false, not_false_eq_true] at *
  all_goals omega
set_option maxRecDepth 20000 in
theorem lf_x_sunk_64 (ktaped : Nat) (ktapeF : Nat → Int32) (k21 : Nat) (n25 : Nat) (y148 : Int32) (iv_ko_0 : ktaped ≤ 940) (c8 : (ktaped % 2) = 0) (t11 : (nI 1).toInt ≤ (nI (ktaped / 2)).toInt) (t12 : (nI (ktaped / 2)).toInt ≤ (nI 6).toInt) (j22 : k21 ≤ 941) (j23 : k21 % 2 = 0) (hall : ∀ j, j < k21 → j % 2 = 0 → 0 ≤ (ktapeF j).toInt ∧ (ktapeF j).toInt ≤ 5) (hm27 : 941 - k21 < n25 + 1) (c28 : k21 < ktaped) (e149 : y148 = ktapeF k21) : k21 < 940 := by
  have b_y148 := ia_b y148
  try have k_0 := ia_n 1 (by first | decide | omega)
  try have k_1 := ia_n (ktaped / 2) (by first | decide | omega)
  try have k_2 := ia_n 6 (by first | decide | omega)
  try simp only [ia_lt, ia_le, ia_eq, ia_m1, ia_0, ia_1, ne_eq, true_and, and_true, false_and, and_false, or_false, false_or, or_true, true_or, not_true_eq_false, not_false_eq_true] at *
  all_goals omega
set_option maxRecDepth 20000 in
theorem lf_x_sunk_65 (ktaped : Nat) (knowF : Nat → Int32) (ktapeF : Nat → Int32) (k21 : Nat) (n25 : Nat) (y148 : Int32) (y157 : Int32) (iv_ko_0 : ktaped ≤ 940) (ab_now : NB knowF) (c8 : (ktaped % 2) = 0) (t11 : (nI 1).toInt ≤ (nI (ktaped / 2)).toInt) (t12 : (nI (ktaped / 2)).toInt ≤ (nI 6).toInt) (j22 : k21 ≤ 941) (j23 : k21 % 2 = 0) (hall : ∀ j, j < k21 → j % 2 = 0 → 0 ≤ (ktapeF j).toInt ∧ (ktapeF j).toInt ≤ 5) (hm27 : 941 - k21 < n25 + 1) (c28 : k21 < ktaped) (e149 : y148 = ktapeF k21) (t152 : 0 ≤ y148.toInt) (t153 : y148.toInt < (knowF 3).toInt) (t154 : y148.toInt ≤ 5) (e158 : y157 = ktapeF (k21 + 1)) : (k21 + 1) < 940 := by
  have b_y148 := ia_b y148
  have b_y157 := ia_b y157
  try have k_0 := ia_n 1 (by first | decide | omega)
  try have k_1 := ia_n (ktaped / 2) (by first | decide | omega)
  try have k_2 := ia_n 6 (by first | decide | omega)
  try simp only [ia_lt, ia_le, ia_eq, ia_m1, ia_0, ia_1, ne_eq, true_and, and_true, false_and, and_false, or_false, false_or, or_true, true_or, not_true_eq_false, not_false_eq_true] at *
  all_goals omega
set_option maxRecDepth 20000 in
theorem lf_x_sunk_66 (ktaped : Nat) (knowF : Nat → Int32) (ktapeF : Nat → Int32) (k21 : Nat) (n25 : Nat) (y148 : Int32) (y157 : Int32) (iv_ko_0 : ktaped ≤ 940) (ab_now : NB knowF) (c8 : (ktaped % 2) = 0) (t11 : (nI 1).toInt ≤ (nI (ktaped / 2)).toInt) (t12 : (nI (ktaped / 2)).toInt ≤ (nI 6).toInt) (j22 : k21 ≤ 941) (j23 : k21 % 2 = 0) (hall : ∀ j, j < k21 → j % 2 = 0 → 0 ≤ (ktapeF j).toInt ∧ (ktapeF j).toInt ≤ 5) (hm27 : 941 - k21 < n25 + 1) (c28 : k21 < ktaped) (e149 : y148 = ktapeF k21) (t152 : 0 ≤ y148.toInt) (t153 : y148.toInt < (knowF 3).toInt) (t154 : y148.toInt ≤ 5) (e158 : y157 = ktapeF (k21 + 1)) (c159 : y157 ≤ nI 1) : (k21 + 2) ≤ 941 := by
  have b_y148 := ia_b y148
  have b_y157 := ia_b y157
  try have k_0 := ia_n 1 (by first | decide | omega)
  try have k_1 := ia_n (ktaped / 2) (by first | decide | omega)
  try have k_2 := ia_n 6 (by first | decide | omega)
  try simp only [ia_lt, ia_le, ia_eq, ia_m1, ia_0, ia_1, ne_eq, true_and, and_true, false_and, and_false, or_false, false_or, or_true, true_or, not_true_eq_false, not_false_eq_true] at *
  all_goals omega
set_option maxRecDepth 20000 in
theorem lf_x_sunk_67 (ktaped : Nat) (knowF : Nat → Int32) (ktapeF : Nat → Int32) (k21 : Nat) (n25 : Nat) (y148 : Int32) (y157 : Int32) (iv_ko_0 : ktaped ≤ 940) (ab_now : NB knowF) (c8 : (ktaped % 2) = 0) (t11 : (nI 1).toInt ≤ (nI (ktaped / 2)).toInt) (t12 : (nI (ktaped / 2)).toInt ≤ (nI 6).toInt) (j22 : k21 ≤ 941) (j23 : k21 % 2 = 0) (hall : ∀ j, j < k21 → j % 2 = 0 → 0 ≤ (ktapeF j).toInt ∧ (ktapeF j).toInt ≤ 5) (hm27 : 941 - k21 < n25 + 1) (c28 : k21 < ktaped) (e149 : y148 = ktapeF k21) (t152 : 0 ≤ y148.toInt) (t153 : y148.toInt < (knowF 3).toInt) (t154 : y148.toInt ≤ 5) (e158 : y157 = ktapeF (k21 + 1)) (c159 : y157 ≤ nI 1) : (k21 + 2) % 2 = 0 := by
  have b_y148 := ia_b y148
  have b_y157 := ia_b y157
  try have k_0 := ia_n 1 (by first | decide | omega)
  try have k_1 := ia_n (ktaped / 2) (by first | decide | omega)
  try have k_2 := ia_n 6 (by first | decide | omega)
  try simp only [ia_lt, ia_le, ia_eq, ia_m1, ia_0, ia_1, ne_eq, true_and, and_true, false_and, and_false, or_false, false_or, or_true, true_or, not_true_eq_false, not_false_eq_true] at *
  all_goals omega
set_option maxRecDepth 20000 in
theorem lf_x_sunk_68 (ktaped : Nat) (knowF : Nat → Int32) (ktapeF : Nat → Int32) (k21 : Nat) (n25 : Nat) (y148 : Int32) (y157 : Int32) (iv_ko_0 : ktaped ≤ 940) (ab_now : NB knowF) (c8 : (ktaped % 2) = 0) (t11 : (nI 1).toInt ≤ (nI (ktaped / 2)).toInt) (t12 : (nI (ktaped / 2)).toInt ≤ (nI 6).toInt) (j22 : k21 ≤ 941) (j23 : k21 % 2 = 0) (hall : ∀ j, j < k21 → j % 2 = 0 → 0 ≤ (ktapeF j).toInt ∧ (ktapeF j).toInt ≤ 5) (hm27 : 941 - k21 < n25 + 1) (c28 : k21 < ktaped) (e149 : y148 = ktapeF k21) (t152 : 0 ≤ y148.toInt) (t153 : y148.toInt < (knowF 3).toInt) (t154 : y148.toInt ≤ 5) (e158 : y157 = ktapeF (k21 + 1)) (c159 : y157 ≤ nI 1) : ∀ j, j < (k21 + 2) → j % 2 = 0 → 0 ≤ (ktapeF j).toInt ∧ (ktapeF j).toInt ≤ 5 := by
  intro j h1 h2
  by_cases h3 : j < k21
  · exact hall j h3 h2
  · have h4 : j = k21 := by omega
    rw [h4, ← e149]
    clear hall h1 h2 h3 h4
    have b_y148 := ia_b y148
    have b_y157 := ia_b y157
    try have k_0 := ia_n 1 (by first | decide | omega)
    try have k_1 := ia_n (ktaped / 2) (by first | decide | omega)
    try have k_2 := ia_n 6 (by first | decide | omega)
    try simp only [ia_lt, ia_le, ia_eq, ia_m1, ia_0, ia_1, ne_eq, true_and, and_true, false_and, and_false, or_false, false_or, or_true, true_or, not_true_eq_false, not_false_eq_true] at *
    all_goals omega
set_option maxRecDepth 20000 in
theorem lf_x_sunk_69 (ktaped : Nat) (knowF : Nat → Int32) (ktapeF : Nat → Int32) (k21 : Nat) (n25 : Nat) (y148 : Int32) (y157 : Int32) (iv_ko_0 : ktaped ≤ 940) (ab_now : NB knowF) (c8 : (ktaped % 2) = 0) (t11 : (nI 1).toInt ≤ (nI (ktaped / 2)).toInt) (t12 : (nI (ktaped / 2)).toInt ≤ (nI 6).toInt) (j22 : k21 ≤ 941) (j23 : k21 % 2 = 0) (hall : ∀ j, j < k21 → j % 2 = 0 → 0 ≤ (ktapeF j).toInt ∧ (ktapeF j).toInt ≤ 5) (hm27 : 941 - k21 < n25 + 1) (c28 : k21 < ktaped) (e149 : y148 = ktapeF k21) (t152 : 0 ≤ y148.toInt) (t153 : y148.toInt < (knowF 3).toInt) (t154 : y148.toInt ≤ 5) (e158 : y157 = ktapeF (k21 + 1)) (c159 : y157 ≤ nI 1) : 941 - (k21 + 2) < n25 := by
  have b_y148 := ia_b y148
  have b_y157 := ia_b y157
  try have k_0 := ia_n 1 (by first | decide | omega)
  try have k_1 := ia_n (ktaped / 2) (by first | decide | omega)
  try have k_2 := ia_n 6 (by first | decide | omega)
  try simp only [ia_lt, ia_le, ia_eq, ia_m1, ia_0, ia_1, ne_eq, true_and, and_true, false_and, and_false, or_false, false_or, or_true, true_or, not_true_eq_false, not_false_eq_true] at *
  all_goals omega
set_option maxRecDepth 20000 in
theorem lf_x_sunk_70   : 0 ≤ 941 := by
  try simp only [ia_lt, ia_le, ia_eq, ia_m1, ia_0, ia_1, ne_eq, true_and, and_true, false_and, and_false, or_false, false_or, or_true, true_or, not_true_eq_false, not_false_eq_true] at *
  all_goals omega
set_option maxRecDepth 20000 in
theorem lf_x_sunk_71   : 0 % 2 = 0 := by
  try simp only [ia_lt, ia_le, ia_eq, ia_m1, ia_0, ia_1, ne_eq, true_and, and_true, false_and, and_false, or_false, false_or, or_true, true_or, not_true_eq_false, not_false_eq_true] at *
  all_goals omega
set_option maxRecDepth 20000 in
theorem lf_x_sunk_72 (ktapeF : Nat → Int32)  : ∀ j, j < 0 → j % 2 = 0 → 0 ≤ (ktapeF j).toInt ∧ (ktapeF j).toInt ≤ 5 := by
  intro j h1 h2
  omega
set_option maxHeartbeats 4000000 in
set_option maxRecDepth 100000 in
theorem c_x_sunk (l : Launch) (dC : Nat → ClassId) (dI : Nat → Nat → Nat) (ky : Nat → ClassId) (sz : Nat) (o : Nat) (kthrown : Int32) (ktape : Nat) (ktaped : Nat) (ksize : Nat) (klimit : Nat) (kto : Nat) (kfrom : Nat) (kkind : Int32) (knumber : Int32) (ksign : Int32) (kfault : Int32) (kplace : Int32) (kword : Int64) (ktold : Int32) (know : Nat) (kread : Nat) (kkept : Nat) (ksnaps : Nat) (kaside : Nat) (kname : Nat) (kreadName : Nat) (kkeptName : Nat) (kisKept : Nat) (konces : Nat) (ksnapMany : Nat) (khasCells : Int32) (kpoured : Nat) (kfar : Nat) (ksides : Nat) (ksideMany : Nat) (kwayDays : Int32) (khasWay : Int32) (klines : Nat) (kmet : Nat) (kmetMany : Nat) (ksunk : Nat) (ktrying : Nat) (ksunkMany : Nat) (ksending : Int32) (kfleets : Int32) (ktext : Nat) (ktexts : Nat) (kseed : Int32) (kline : Nat) (kwritten : Nat) (klineMany : Nat) (khasWritten : Int32) (knode : Nat) (knodes : Nat) (konesMany : Nat) (kwithin : Nat) (ktop : Nat) (knowF : Nat → Int32) (ktapeF : Nat → Int32) (ktryingF : Nat → Int32) (ksunkF : Nat → Int32) (iv_ko_0 : ktaped ≤ 940) (iv_ko_1 : ksize ≤ 940) (iv_ko_2 : klimit ≤ 900) (iv_ko_3 : kto ≤ ksize) (iv_ko_4 : kfrom ≤ 940) (iv_ko_5 : ksnapMany ≤ 8) (iv_ko_6 : ksideMany ≤ 36) (iv_ko_7 : kmetMany ≤ 3) (iv_ko_8 : ksunkMany ≤ 36) (iv_ko_9 : ktexts ≤ 64) (iv_ko_10 : klineMany ≤ 40) (iv_ko_11 : knodes ≤ 60) (iv_ko_12 : konesMany ≤ 20) (iv_ko_13 : kwithin ≤ 8) (iv_ko_14 : ktop ≤ 59) (ab_now : NB knowF) (ab_trying : AB36 ktryingF) (ab_sunk : AB36 ksunkF) : Met l yX12_sunk wsX12_sunk ({ frames := 3, cells := 0, slots := 0, locals := 68 }) (PcU dC dI ky [.ref o] [(o, .inr (12, [.int kthrown, .ref ktape, .int (nI ktaped), .int (nI ksize), .int (nI klimit), .int (nI kto), .int (nI kfrom), .int kkind, .int knumber, .int ksign, .int kfault, .int kplace, .long kword, .int ktold, .ref know, .ref kread, .ref kkept, .ref ksnaps, .ref kaside, .ref kname, .ref kreadName, .ref kkeptName, .ref kisKept, .ref konces, .int (nI ksnapMany), .int khasCells, .ref kpoured, .ref kfar, .ref ksides, .int (nI ksideMany), .int kwayDays, .int khasWay, .ref klines, .ref kmet, .int (nI kmetMany), .ref ksunk, .ref ktrying, .int (nI ksunkMany), .int ksending, .int kfleets, .ref ktext, .int (nI ktexts), .int kseed, .ref kline, .ref kwritten, .int (nI klineMany), .int khasWritten, .ref knode, .int (nI knodes), .int (nI konesMany), .int (nI kwithin), .int (nI ktop)])), (know, .inl (ky 0, 373, .inl knowF)), (ktape, .inl (ky 0, 940, .inl ktapeF)), (ktrying, .inl (ky 0, 36, .inl ktryingF)), (ksunk, .inl (ky 0, 36, .inl ksunkF))] sz) (va_Qi (fun (r : Int32) (u : Int32 × Nat × Nat × Int32 × (Nat → Int32) × (Nat → Int32)) => match u with | (kthrownG, ktapedG, ksunkManyG, ksendingG, ktryingG, ksunkG) => (ktapedG ≤ 940) ∧ (ksunkManyG ≤ 36) ∧ (AB36 ktryingG) ∧ (AB36 ksunkG) ∧ (ktapedG = 0)) (BU dC dI ky (fun (u : Int32 × Nat × Nat × Int32 × (Nat → Int32) × (Nat → Int32)) => match u with | (kthrownG, ktapedG, ksunkManyG, ksendingG, ktryingG, ksunkG) => [(o, .inr (12, [.int kthrownG, .ref ktape, .int (nI ktapedG), .int (nI ksize), .int (nI klimit), .int (nI kto), .int (nI kfrom), .int kkind, .int knumber, .int ksign, .int kfault, .int kplace, .long kword, .int ktold, .ref know, .ref kread, .ref kkept, .ref ksnaps, .ref kaside, .ref kname, .ref kreadName, .ref kkeptName, .ref kisKept, .ref konces, .int (nI ksnapMany), .int khasCells, .ref kpoured, .ref kfar, .ref ksides, .int (nI ksideMany), .int kwayDays, .int khasWay, .ref klines, .ref kmet, .int (nI kmetMany), .ref ksunk, .ref ktrying, .int (nI ksunkManyG), .int ksendingG, .int kfleets, .ref ktext, .int (nI ktexts), .int kseed, .ref kline, .ref kwritten, .int (nI klineMany), .int khasWritten, .ref knode, .int (nI knodes), .int (nI konesMany), .int (nI kwithin), .int (nI ktop)])), (know, .inl (ky 0, 373, .inl knowF)), (ktape, .inl (ky 0, 940, .inl ktapeF)), (ktrying, .inl (ky 0, 36, .inl ktryingG)), (ksunk, .inl (ky 0, 36, .inl ksunkG))]) (va_A [(o, .inr (12, [.int kthrown, .ref ktape, .int (nI ktaped), .int (nI ksize), .int (nI klimit), .int (nI kto), .int (nI kfrom), .int kkind, .int knumber, .int ksign, .int kfault, .int kplace, .long kword, .int ktold, .ref know, .ref kread, .ref kkept, .ref ksnaps, .ref kaside, .ref kname, .ref kreadName, .ref kkeptName, .ref kisKept, .ref konces, .int (nI ksnapMany), .int khasCells, .ref kpoured, .ref kfar, .ref ksides, .int (nI ksideMany), .int kwayDays, .int khasWay, .ref klines, .ref kmet, .int (nI kmetMany), .ref ksunk, .ref ktrying, .int (nI ksunkMany), .int ksending, .int kfleets, .ref ktext, .int (nI ktexts), .int kseed, .ref kline, .ref kwritten, .int (nI klineMany), .int khasWritten, .ref knode, .int (nI knodes), .int (nI konesMany), .int (nI kwithin), .int (nI ktop)])), (know, .inl (ky 0, 373, .inl knowF)), (ktape, .inl (ky 0, 940, .inl ktapeF)), (ktrying, .inl (ky 0, 36, .inl ktryingF)), (ksunk, .inl (ky 0, 36, .inl ksunkF))] sz)) (va_A [(o, .inr (12, [.int kthrown, .ref ktape, .int (nI ktaped), .int (nI ksize), .int (nI klimit), .int (nI kto), .int (nI kfrom), .int kkind, .int knumber, .int ksign, .int kfault, .int kplace, .long kword, .int ktold, .ref know, .ref kread, .ref kkept, .ref ksnaps, .ref kaside, .ref kname, .ref kreadName, .ref kkeptName, .ref kisKept, .ref konces, .int (nI ksnapMany), .int khasCells, .ref kpoured, .ref kfar, .ref ksides, .int (nI ksideMany), .int kwayDays, .int khasWay, .ref klines, .ref kmet, .int (nI kmetMany), .ref ksunk, .ref ktrying, .int (nI ksunkMany), .int ksending, .int kfleets, .ref ktext, .int (nI ktexts), .int kseed, .ref kline, .ref kwritten, .int (nI klineMany), .int khasWritten, .ref knode, .int (nI knodes), .int (nI konesMany), .int (nI kwithin), .int (nI ktop)])), (know, .inl (ky 0, 373, .inl knowF)), (ktape, .inl (ky 0, 940, .inl ktapeF)), (ktrying, .inl (ky 0, 36, .inl ktryingF)), (ksunk, .inl (ky 0, 36, .inl ksunkF))] sz)) 0 0 (va_A [(o, .inr (12, [.int kthrown, .ref ktape, .int (nI ktaped), .int (nI ksize), .int (nI klimit), .int (nI kto), .int (nI kfrom), .int kkind, .int knumber, .int ksign, .int kfault, .int kplace, .long kword, .int ktold, .ref know, .ref kread, .ref kkept, .ref ksnaps, .ref kaside, .ref kname, .ref kreadName, .ref kkeptName, .ref kisKept, .ref konces, .int (nI ksnapMany), .int khasCells, .ref kpoured, .ref kfar, .ref ksides, .int (nI ksideMany), .int kwayDays, .int khasWay, .ref klines, .ref kmet, .int (nI kmetMany), .ref ksunk, .ref ktrying, .int (nI ksunkMany), .int ksending, .int kfleets, .ref ktext, .int (nI ktexts), .int kseed, .ref kline, .ref kwritten, .int (nI klineMany), .int khasWritten, .ref knode, .int (nI knodes), .int (nI konesMany), .int (nI kwithin), .int (nI ktop)])), (know, .inl (ky 0, 373, .inl knowF)), (ktape, .inl (ky 0, 940, .inl ktapeF)), (ktrying, .inl (ky 0, 36, .inl ktryingF)), (ksunk, .inl (ky 0, 36, .inl ksunkF))] sz) := by
  refine Met.ofW (cc := cX12_sunk) (maxL := 6) (ret := (some .int)) (by decide) rfl ?_
  intro p e s m args below meth c s₁ B hml hv
  obtain ⟨rfl, hsz, hP, hK, hD0⟩ := hv
  have hx := B.exec
  have hb := B.bytes
  have hr := B.returns
  have hts := atoms_spec (ws := wsX12_sunk) B.pre
  have hown : s.vm.findClass RX12 = some m.cls := findClass_of_methodNamed B.named
  have hlocks := B.notSynchronized
  have hin12 : ∀ w ∈ u_ws RX12 TX12 52, w ∈ wsX12_sunk := by decide +kernel
  subst hsz
  have hD := hD0.self (sz := s.heap.size)
  generalize hAe : va_A [(o, .inr (12, [.int kthrown, .ref ktape, .int (nI ktaped), .int (nI ksize), .int (nI klimit), .int (nI kto), .int (nI kfrom), .int kkind, .int knumber, .int ksign, .int kfault, .int kplace, .long kword, .int ktold, .ref know, .ref kread, .ref kkept, .ref ksnaps, .ref kaside, .ref kname, .ref kreadName, .ref kkeptName, .ref kisKept, .ref konces, .int (nI ksnapMany), .int khasCells, .ref kpoured, .ref kfar, .ref ksides, .int (nI ksideMany), .int kwayDays, .int khasWay, .ref klines, .ref kmet, .int (nI kmetMany), .ref ksunk, .ref ktrying, .int (nI ksunkMany), .int ksending, .int kfleets, .ref ktext, .int (nI ktexts), .int kseed, .ref kline, .ref kwritten, .int (nI klineMany), .int khasWritten, .ref knode, .int (nI knodes), .int (nI konesMany), .int (nI kwithin), .int (nI ktop)])), (know, .inl (ky 0, 373, .inl knowF)), (ktape, .inl (ky 0, 940, .inl ktapeF)), (ktrying, .inl (ky 0, 36, .inl ktryingF)), (ksunk, .inl (ky 0, 36, .inl ksunkF))] s.heap.size = A at hD ⊢
  have hA : ∀ q : Nat, s.heap.size ≤ q → A q := fun q h => by rw [← hAe]; exact Or.inr h
  have hS : va_S A s.heap s.heap [] := va_S.rf
  have hl := lv_entry ([.ref o]) (n := 6) (Nat.le_of_ble_eq_true rfl)
  rw [lg_entry_eq]
  generalize (lg_sl ([.ref o]) ++ List.replicate (6 - (lg_sl ([.ref o])).length) Slot.unset).toArray = ls at hl ⊢
  have hl : lv_has ls 6 [(0, .ref o)] := hl
  refine q_name (fun Q hQ => ?_)
  generalize ([.ref o] : List Value).toArray = args at hts hQ ⊢
  refine lv_aload_n hx hb dX12_sunk_0 rfl (lv_at hl 0 rfl) ?_
  refine lv_iconst (v := nI 0) hx hb dX12_sunk_1 (by decide) ?_
  refine va_put (D := (dC, dI)) (ci := 12) (v := .int (nI 0)) (ty := .int) (C := RX12) (T := TX12) (N := 52) hx hb hts hin12 tyX12 tyX12_ok nmX12 hown hK hP hD hS 0 rfl rfl 0 (by decide) (hts (.fieldLink RX12 1 "PorridgeSeaModel" "thrown" "I") (List.mem_of_getElem? (i := 1) rfl)) (fun _ h9 => h9) rfl (by decide +kernel) rfl rfl (Nat.le_of_ble_eq_true rfl) dX12_sunk_2 (fun H locs hP hD hS => ?_)
  have hP : va_P (dC, dI) vwCl [(o, .inr (12, [.int (nI 0), .ref ktape, .int (nI ktaped), .int (nI ksize), .int (nI klimit), .int (nI kto), .int (nI kfrom), .int kkind, .int knumber, .int ksign, .int kfault, .int kplace, .long kword, .int ktold, .ref know, .ref kread, .ref kkept, .ref ksnaps, .ref kaside, .ref kname, .ref kreadName, .ref kkeptName, .ref kisKept, .ref konces, .int (nI ksnapMany), .int khasCells, .ref kpoured, .ref kfar, .ref ksides, .int (nI ksideMany), .int kwayDays, .int khasWay, .ref klines, .ref kmet, .int (nI kmetMany), .ref ksunk, .ref ktrying, .int (nI ksunkMany), .int ksending, .int kfleets, .ref ktext, .int (nI ktexts), .int kseed, .ref kline, .ref kwritten, .int (nI klineMany), .int khasWritten, .ref knode, .int (nI knodes), .int (nI konesMany), .int (nI kwithin), .int (nI ktop)])), (know, .inl (ky 0, 373, .inl knowF)), (ktape, .inl (ky 0, 940, .inl ktapeF)), (ktrying, .inl (ky 0, 36, .inl ktryingF)), (ksunk, .inl (ky 0, 36, .inl ksunkF))] H := hP
  have hD : va_D A [(o, .inr (12, [.int (nI 0), .ref ktape, .int (nI ktaped), .int (nI ksize), .int (nI klimit), .int (nI kto), .int (nI kfrom), .int kkind, .int knumber, .int ksign, .int kfault, .int kplace, .long kword, .int ktold, .ref know, .ref kread, .ref kkept, .ref ksnaps, .ref kaside, .ref kname, .ref kreadName, .ref kkeptName, .ref kisKept, .ref konces, .int (nI ksnapMany), .int khasCells, .ref kpoured, .ref kfar, .ref ksides, .int (nI ksideMany), .int kwayDays, .int khasWay, .ref klines, .ref kmet, .int (nI kmetMany), .ref ksunk, .ref ktrying, .int (nI ksunkMany), .int ksending, .int kfleets, .ref ktext, .int (nI ktexts), .int kseed, .ref kline, .ref kwritten, .int (nI klineMany), .int khasWritten, .ref knode, .int (nI knodes), .int (nI konesMany), .int (nI kwithin), .int (nI ktop)])), (know, .inl (ky 0, 373, .inl knowF)), (ktape, .inl (ky 0, 940, .inl ktapeF)), (ktrying, .inl (ky 0, 36, .inl ktryingF)), (ksunk, .inl (ky 0, 36, .inl ksunkF))] := hD
  refine lv_aload_n hx hb dX12_sunk_5 rfl (lv_at hl 0 rfl) ?_
  refine r_call_i (wr := [(know, .inl (ky 0, 373, .inl knowF)), (ktape, .inl (ky 0, 940, .inl ktapeF)), (ktrying, .inl (ky 0, 36, .inl ktryingF)), (ksunk, .inl (ky 0, 36, .inl ksunkF))]) (va_runV (As := []) (rest := []) ⟨hx, hb, hml, hown, hts⟩ (c_x_take l dC dI ky H.size o (nI 0) ktape ktaped ksize klimit kto kfrom kkind knumber ksign kfault kplace kword ktold know kread kkept ksnaps kaside kname kreadName kkeptName kisKept konces ksnapMany khasCells kpoured kfar ksides ksideMany kwayDays khasWay klines kmet kmetMany ksunk ktrying ksunkMany ksending kfleets ktext ktexts kseed kline kwritten klineMany khasWritten knode knodes konesMany kwithin ktop iv_ko_0 iv_ko_1 iv_ko_2 iv_ko_3 iv_ko_4 iv_ko_5 iv_ko_6 iv_ko_7 iv_ko_8 iv_ko_9 iv_ko_10 iv_ko_11 iv_ko_12 iv_ko_13 iv_ko_14) (cwV 0 hts gX12_sunk_X12_take rfl rfl rfl (by decide +kernel) ⟨(Nat.le_of_ble_eq_true rfl), (Nat.le_of_ble_eq_true rfl)⟩) (pre_UV hK hP hD [0] (by decide) rfl (ci := 12) (q0 := 0) rfl rfl) rfl rfl hl.1 rfl (lv_room (Nat.le_of_ble_eq_true rfl)) dX12_sunk_6 ⟨(Nat.le_of_ble_eq_true rfl), (Nat.le_of_ble_eq_true rfl)⟩) hP hD hS hA [0] [1, 2, 3, 4] rfl rfl (by decide) (by decide) (fun r3 u1 H locs p2 hP hD hS => ?_)
  obtain ⟨ktapedG_4, rfl⟩ : ∃ z, z = u1 := ⟨_, rfl⟩
  try dsimp only at p2
  obtain ⟨p5, p6, p7⟩ := p2
  refine W.widen (k := 0) (n := 0) (Nat.le_of_ble_eq_true rfl) (Nat.le_of_ble_eq_true rfl) ?_
  have hP : va_P (dC, dI) vwCl [(know, .inl (ky 0, 373, .inl knowF)), (ktape, .inl (ky 0, 940, .inl ktapeF)), (ktrying, .inl (ky 0, 36, .inl ktryingF)), (ksunk, .inl (ky 0, 36, .inl ksunkF)), (o, .inr (12, [.int (nI 0), .ref ktape, .int (nI ktapedG_4), .int (nI ksize), .int (nI klimit), .int (nI kto), .int (nI kfrom), .int kkind, .int knumber, .int ksign, .int kfault, .int kplace, .long kword, .int ktold, .ref know, .ref kread, .ref kkept, .ref ksnaps, .ref kaside, .ref kname, .ref kreadName, .ref kkeptName, .ref kisKept, .ref konces, .int (nI ksnapMany), .int khasCells, .ref kpoured, .ref kfar, .ref ksides, .int (nI ksideMany), .int kwayDays, .int khasWay, .ref klines, .ref kmet, .int (nI kmetMany), .ref ksunk, .ref ktrying, .int (nI ksunkMany), .int ksending, .int kfleets, .ref ktext, .int (nI ktexts), .int kseed, .ref kline, .ref kwritten, .int (nI klineMany), .int khasWritten, .ref knode, .int (nI knodes), .int (nI konesMany), .int (nI kwithin), .int (nI ktop)]))] H := hP
  have hD : va_D A [(know, .inl (ky 0, 373, .inl knowF)), (ktape, .inl (ky 0, 940, .inl ktapeF)), (ktrying, .inl (ky 0, 36, .inl ktryingF)), (ksunk, .inl (ky 0, 36, .inl ksunkF)), (o, .inr (12, [.int (nI 0), .ref ktape, .int (nI ktapedG_4), .int (nI ksize), .int (nI klimit), .int (nI kto), .int (nI kfrom), .int kkind, .int knumber, .int ksign, .int kfault, .int kplace, .long kword, .int ktold, .ref know, .ref kread, .ref kkept, .ref ksnaps, .ref kaside, .ref kname, .ref kreadName, .ref kkeptName, .ref kisKept, .ref konces, .int (nI ksnapMany), .int khasCells, .ref kpoured, .ref kfar, .ref ksides, .int (nI ksideMany), .int kwayDays, .int khasWay, .ref klines, .ref kmet, .int (nI kmetMany), .ref ksunk, .ref ktrying, .int (nI ksunkMany), .int ksending, .int kfleets, .ref ktext, .int (nI ktexts), .int kseed, .ref kline, .ref kwritten, .int (nI klineMany), .int khasWritten, .ref knode, .int (nI knodes), .int (nI konesMany), .int (nI kwithin), .int (nI ktop)]))] := hD
  subst p5
  refine lv_istore_n (lv' := [(1, .int (nI ktaped)), (0, .ref o)]) hx hb dX12_sunk_9 rfl hl (by decide) rfl (fun ls hl => ?_)
  refine lv_iload_n hx hb dX12_sunk_10 rfl (lv_at hl 0 rfl) ?_
  refine lv_iconst (v := nI 2) hx hb dX12_sunk_11 (by decide) ?_
  refine lv_irem hx hb dX12_sunk_12 (by decide) ?_
  refine r_ti (nI (ktaped % 2)) (pk_rem (by omega) (by omega) (by omega)) ?_
  refine n_if_ne (x := (ktaped % 2)) (tgt := 28) hx hb (by omega) dX12_sunk_13 (by decide) (fun c8 => ?_) (fun c8 => ?_)
  · refine lv_iconst (v := (-1 : Int32)) hx hb dX12_sunk_28 (by decide) ?_
    rw [hQ]
    have hP9 := hP.sub (ws' := [(o, .inr (12, [.int (nI 0), .ref ktape, .int (nI ktapedG_4), .int (nI ksize), .int (nI klimit), .int (nI kto), .int (nI kfrom), .int kkind, .int knumber, .int ksign, .int kfault, .int kplace, .long kword, .int ktold, .ref know, .ref kread, .ref kkept, .ref ksnaps, .ref kaside, .ref kname, .ref kreadName, .ref kkeptName, .ref kisKept, .ref konces, .int (nI ksnapMany), .int khasCells, .ref kpoured, .ref kfar, .ref ksides, .int (nI ksideMany), .int kwayDays, .int khasWay, .ref klines, .ref kmet, .int (nI kmetMany), .ref ksunk, .ref ktrying, .int (nI ksunkMany), .int ksending, .int kfleets, .ref ktext, .int (nI ktexts), .int kseed, .ref kline, .ref kwritten, .int (nI klineMany), .int khasWritten, .ref knode, .int (nI knodes), .int (nI konesMany), .int (nI kwithin), .int (nI ktop)])), (know, .inl (ky 0, 373, .inl knowF)), (ktape, .inl (ky 0, 940, .inl ktapeF)), (ktrying, .inl (ky 0, 36, .inl ktryingF)), (ksunk, .inl (ky 0, 36, .inl ksunkF))]) [4, 0, 1, 2, 3] rfl
    have hD9 := hD.sub (ws' := [(o, .inr (12, [.int (nI 0), .ref ktape, .int (nI ktapedG_4), .int (nI ksize), .int (nI klimit), .int (nI kto), .int (nI kfrom), .int kkind, .int knumber, .int ksign, .int kfault, .int kplace, .long kword, .int ktold, .ref know, .ref kread, .ref kkept, .ref ksnaps, .ref kaside, .ref kname, .ref kreadName, .ref kkeptName, .ref kisKept, .ref konces, .int (nI ksnapMany), .int khasCells, .ref kpoured, .ref kfar, .ref ksides, .int (nI ksideMany), .int kwayDays, .int khasWay, .ref klines, .ref kmet, .int (nI kmetMany), .ref ksunk, .ref ktrying, .int (nI ksunkMany), .int ksending, .int kfleets, .ref ktext, .int (nI ktexts), .int kseed, .ref kline, .ref kwritten, .int (nI klineMany), .int khasWritten, .ref knode, .int (nI knodes), .int (nI konesMany), .int (nI kwithin), .int (nI ktop)])), (know, .inl (ky 0, 373, .inl knowF)), (ktape, .inl (ky 0, 940, .inl ktapeF)), (ktrying, .inl (ky 0, 36, .inl ktryingF)), (ksunk, .inl (ky 0, 36, .inl ksunkF))]) [4, 0, 1, 2, 3] (by decide) rfl
    exact W.iret (v := (-1 : Int32)) hx hb hr (fun t9 ht9 hW9 => ⟨⟨(-1 : Int32), (nI 0, ktapedG_4, ksunkMany, ksending, ktryingF, ksunkF), rfl, ⟨p6, iv_ko_8, ab_trying, ab_sunk, p7⟩, by rw [ht9]; exact hP9, va_K.moved hW9.alike hK, hD9⟩, hS.F ht9⟩) hS.2.2 dX12_sunk_29
  · refine lv_iload_n hx hb dX12_sunk_16 rfl (lv_at hl 0 rfl) ?_
    refine lv_iconst (v := nI 2) hx hb dX12_sunk_17 (by decide) ?_
    refine lv_idiv hx hb dX12_sunk_18 (by decide) ?_
    refine r_ti (nI (ktaped / 2)) (pk_div (by omega) (by omega) (by omega)) ?_
    refine lv_iconst (v := nI 1) hx hb dX12_sunk_19 (by decide) ?_
    refine lv_bipush (v := nI 6) hx hb dX12_sunk_20 (by decide) ?_
    refine vp_callSi (W.runS (As := [.int (nI (ktaped / 2)), .int (nI 1), .int (nI 6)]) (rest := []) ⟨hx, hb, hml, hown, hts⟩ (c_x_isIn l dC dI ky (nI (ktaped / 2)) (nI 1) (nI 6)) (va_cwS 3 hts gX12_sunk_X12_isIn rfl rfl rfl (by decide +kernel) ⟨(Nat.le_of_ble_eq_true rfl), (Nat.le_of_ble_eq_true rfl)⟩) (pre_PS hK hP [] rfl) rfl rfl hl.1 rfl (lv_room (Nat.le_of_ble_eq_true rfl)) dX12_sunk_22 ⟨(Nat.le_of_ble_eq_true rfl), (Nat.le_of_ble_eq_true rfl)⟩) (fun r9 p10 => ?_)
    rcases p10 with ⟨rfl, t11, t12⟩ | ⟨rfl, t13⟩
    · refine lv_if_ne (tgt := 30) hx hb dX12_sunk_25 (by decide) (fun c14 => ?_) (fun c14 => absurd c14 (by decide))
      refine lv_iconst (v := nI 0) hx hb dX12_sunk_30 (by decide) ?_
      refine lv_istore_n (lv' := [(2, .int (nI 0)), (1, .int (nI ktaped)), (0, .ref o)]) hx hb dX12_sunk_31 rfl hl (by decide) rfl (fun ls hl => ?_)
      have hL24 : ∀ (n25 : Nat) (k21 : Nat), (k21 ≤ 941) → (k21 % 2 = 0) → (∀ j, j < k21 → j % 2 = 0 → 0 ≤ (ktapeF j).toInt ∧ (ktapeF j).toInt ≤ 5) → 941 - k21 < n25 → ∀ (H : Heap) (locs : List Loc) (ls : Array Slot), va_P (dC, dI) vwCl [(know, .inl (ky 0, 373, .inl knowF)), (ktape, .inl (ky 0, 940, .inl ktapeF)), (ktrying, .inl (ky 0, 36, .inl ktryingF)), (ksunk, .inl (ky 0, 36, .inl ksunkF)), (o, .inr (12, [.int (nI 0), .ref ktape, .int (nI ktapedG_4), .int (nI ksize), .int (nI klimit), .int (nI kto), .int (nI kfrom), .int kkind, .int knumber, .int ksign, .int kfault, .int kplace, .long kword, .int ktold, .ref know, .ref kread, .ref kkept, .ref ksnaps, .ref kaside, .ref kname, .ref kreadName, .ref kkeptName, .ref kisKept, .ref konces, .int (nI ksnapMany), .int khasCells, .ref kpoured, .ref kfar, .ref ksides, .int (nI ksideMany), .int kwayDays, .int khasWay, .ref klines, .ref kmet, .int (nI kmetMany), .ref ksunk, .ref ktrying, .int (nI ksunkMany), .int ksending, .int kfleets, .ref ktext, .int (nI ktexts), .int kseed, .ref kline, .ref kwritten, .int (nI klineMany), .int khasWritten, .ref knode, .int (nI knodes), .int (nI konesMany), .int (nI kwithin), .int (nI ktop)]))] H → va_D A [(know, .inl (ky 0, 373, .inl knowF)), (ktape, .inl (ky 0, 940, .inl ktapeF)), (ktrying, .inl (ky 0, 36, .inl ktryingF)), (ksunk, .inl (ky 0, 36, .inl ksunkF)), (o, .inr (12, [.int (nI 0), .ref ktape, .int (nI ktapedG_4), .int (nI ksize), .int (nI klimit), .int (nI kto), .int (nI kfrom), .int kkind, .int knumber, .int ksign, .int kfault, .int kplace, .long kword, .int ktold, .ref know, .ref kread, .ref kkept, .ref ksnaps, .ref kaside, .ref kname, .ref kreadName, .ref kkeptName, .ref kisKept, .ref konces, .int (nI ksnapMany), .int khasCells, .ref kpoured, .ref kfar, .ref ksides, .int (nI ksideMany), .int kwayDays, .int khasWay, .ref klines, .ref kmet, .int (nI kmetMany), .ref ksunk, .ref ktrying, .int (nI ksunkMany), .int ksending, .int kfleets, .ref ktext, .int (nI ktexts), .int kseed, .ref kline, .ref kwritten, .int (nI klineMany), .int khasWritten, .ref knode, .int (nI knodes), .int (nI konesMany), .int (nI kwithin), .int (nI ktop)]))] → va_S A s.heap H locs → lv_has ls 6 [(2, .int (nI k21)), (1, .int (nI ktaped)), (0, .ref o)] → W p l e (headSpec wsX12_sunk ({ frames := 3, cells := 0, slots := 0, locals := 68 })).room s m args below meth c H locs 0 0 Q (F0 m 32 ls []) := by
        intro n25
        induction n25 with
        | zero => intro k21 _ _ _ h9; exact absurd h9 (Nat.not_lt_zero _)
        | succ n25 ih26 =>
          intro k21 j22 j23 hall hm27 H locs ls hP hD hS hl
          refine lv_iload_n hx hb dX12_sunk_32 rfl (lv_at hl 0 rfl) ?_
          refine lv_iload_n hx hb dX12_sunk_33 rfl (lv_at hl 1 rfl) ?_
          refine n_icmp_ge (x := k21) (y := ktaped) (tgt := 70) hx hb (by omega) (by omega) dX12_sunk_34 (by decide) (fun c28 => ?_) (fun c28 => ?_)
          · refine lv_iconst (v := nI 0) hx hb dX12_sunk_70 (by decide) ?_
            refine lv_istore_n (lv' := [(2, .int (nI 0)), (1, .int (nI ktaped)), (0, .ref o)]) hx hb dX12_sunk_71 rfl hl (by decide) rfl (fun ls hl => ?_)
            refine lv_iconst (v := nI 0) hx hb dX12_sunk_72 (by decide) ?_
            refine lv_istore_n (lv' := [(3, .int (nI 0)), (2, .int (nI 0)), (1, .int (nI ktaped)), (0, .ref o)]) hx hb dX12_sunk_73 rfl hl (by decide) rfl (fun ls hl => ?_)
            have hL50 : ∀ (n51 : Nat) (k43 : Nat) (k44 : Nat) (f45 : Nat → Int32), (k43 ≤ 36) → (k44 ≤ 36) → (AB36 f45) → (k44 ≤ k43) → 36 - k43 < n51 → ∀ (H : Heap) (locs : List Loc) (ls : Array Slot), va_P (dC, dI) vwCl [(know, .inl (ky 0, 373, .inl knowF)), (ktape, .inl (ky 0, 940, .inl ktapeF)), (ktrying, .inl (ky 0, 36, .inl f45)), (ksunk, .inl (ky 0, 36, .inl ksunkF)), (o, .inr (12, [.int (nI 0), .ref ktape, .int (nI ktapedG_4), .int (nI ksize), .int (nI klimit), .int (nI kto), .int (nI kfrom), .int kkind, .int knumber, .int ksign, .int kfault, .int kplace, .long kword, .int ktold, .ref know, .ref kread, .ref kkept, .ref ksnaps, .ref kaside, .ref kname, .ref kreadName, .ref kkeptName, .ref kisKept, .ref konces, .int (nI ksnapMany), .int khasCells, .ref kpoured, .ref kfar, .ref ksides, .int (nI ksideMany), .int kwayDays, .int khasWay, .ref klines, .ref kmet, .int (nI kmetMany), .ref ksunk, .ref ktrying, .int (nI ksunkMany), .int ksending, .int kfleets, .ref ktext, .int (nI ktexts), .int kseed, .ref kline, .ref kwritten, .int (nI klineMany), .int khasWritten, .ref knode, .int (nI knodes), .int (nI konesMany), .int (nI kwithin), .int (nI ktop)]))] H → va_D A [(know, .inl (ky 0, 373, .inl knowF)), (ktape, .inl (ky 0, 940, .inl ktapeF)), (ktrying, .inl (ky 0, 36, .inl f45)), (ksunk, .inl (ky 0, 36, .inl ksunkF)), (o, .inr (12, [.int (nI 0), .ref ktape, .int (nI ktapedG_4), .int (nI ksize), .int (nI klimit), .int (nI kto), .int (nI kfrom), .int kkind, .int knumber, .int ksign, .int kfault, .int kplace, .long kword, .int ktold, .ref know, .ref kread, .ref kkept, .ref ksnaps, .ref kaside, .ref kname, .ref kreadName, .ref kkeptName, .ref kisKept, .ref konces, .int (nI ksnapMany), .int khasCells, .ref kpoured, .ref kfar, .ref ksides, .int (nI ksideMany), .int kwayDays, .int khasWay, .ref klines, .ref kmet, .int (nI kmetMany), .ref ksunk, .ref ktrying, .int (nI ksunkMany), .int ksending, .int kfleets, .ref ktext, .int (nI ktexts), .int kseed, .ref kline, .ref kwritten, .int (nI klineMany), .int khasWritten, .ref knode, .int (nI knodes), .int (nI konesMany), .int (nI kwithin), .int (nI ktop)]))] → va_S A s.heap H locs → lv_has ls 6 [(3, .int (nI k43)), (2, .int (nI k44)), (1, .int (nI ktaped)), (0, .ref o)] → W p l e (headSpec wsX12_sunk ({ frames := 3, cells := 0, slots := 0, locals := 68 })).room s m args below meth c H locs 0 0 Q (F0 m 74 ls []) := by
              intro n51
              induction n51 with
              | zero => intro k43 k44 f45 _ _ _ _ h9; exact absurd h9 (Nat.not_lt_zero _)
              | succ n51 ih52 =>
                intro k43 k44 f45 j46 j47 j48 j49 hm53 H locs ls hP hD hS hl
                refine lv_iload_n hx hb dX12_sunk_74 rfl (lv_at hl 0 rfl) ?_
                refine lv_bipush (v := nI 36) hx hb dX12_sunk_75 (by decide) ?_
                refine n_icmp_ge (x := k43) (y := 36) (tgt := 171) hx hb (by omega) (by omega) dX12_sunk_77 (by decide) (fun c54 => ?_) (fun c54 => ?_)
                · refine lv_iload_n hx hb dX12_sunk_171 rfl (lv_at hl 1 rfl) ?_
                  refine n_if_ne (x := k44) (tgt := 177) hx hb (by omega) dX12_sunk_172 (by decide) (fun c55 => ?_) (fun c55 => ?_)
                  · refine lv_iconst (v := nI 0) hx hb dX12_sunk_177 (by decide) ?_
                    refine lv_istore_n (lv' := [(3, .int (nI 0)), (2, .int (nI k44)), (1, .int (nI ktaped)), (0, .ref o)]) hx hb dX12_sunk_178 rfl hl (by decide) rfl (fun ls hl => ?_)
                    have hL68 : ∀ (n69 : Nat) (k64 : Nat) (f65 : Nat → Int32), (k64 ≤ 36) → (AB36 f65) → 36 - k64 < n69 → ∀ (H : Heap) (locs : List Loc) (ls : Array Slot), va_P (dC, dI) vwCl [(know, .inl (ky 0, 373, .inl knowF)), (ktape, .inl (ky 0, 940, .inl ktapeF)), (ktrying, .inl (ky 0, 36, .inl f45)), (ksunk, .inl (ky 0, 36, .inl f65)), (o, .inr (12, [.int (nI 0), .ref ktape, .int (nI ktapedG_4), .int (nI ksize), .int (nI klimit), .int (nI kto), .int (nI kfrom), .int kkind, .int knumber, .int ksign, .int kfault, .int kplace, .long kword, .int ktold, .ref know, .ref kread, .ref kkept, .ref ksnaps, .ref kaside, .ref kname, .ref kreadName, .ref kkeptName, .ref kisKept, .ref konces, .int (nI ksnapMany), .int khasCells, .ref kpoured, .ref kfar, .ref ksides, .int (nI ksideMany), .int kwayDays, .int khasWay, .ref klines, .ref kmet, .int (nI kmetMany), .ref ksunk, .ref ktrying, .int (nI ksunkMany), .int ksending, .int kfleets, .ref ktext, .int (nI ktexts), .int kseed, .ref kline, .ref kwritten, .int (nI klineMany), .int khasWritten, .ref knode, .int (nI knodes), .int (nI konesMany), .int (nI kwithin), .int (nI ktop)]))] H → va_D A [(know, .inl (ky 0, 373, .inl knowF)), (ktape, .inl (ky 0, 940, .inl ktapeF)), (ktrying, .inl (ky 0, 36, .inl f45)), (ksunk, .inl (ky 0, 36, .inl f65)), (o, .inr (12, [.int (nI 0), .ref ktape, .int (nI ktapedG_4), .int (nI ksize), .int (nI klimit), .int (nI kto), .int (nI kfrom), .int kkind, .int knumber, .int ksign, .int kfault, .int kplace, .long kword, .int ktold, .ref know, .ref kread, .ref kkept, .ref ksnaps, .ref kaside, .ref kname, .ref kreadName, .ref kkeptName, .ref kisKept, .ref konces, .int (nI ksnapMany), .int khasCells, .ref kpoured, .ref kfar, .ref ksides, .int (nI ksideMany), .int kwayDays, .int khasWay, .ref klines, .ref kmet, .int (nI kmetMany), .ref ksunk, .ref ktrying, .int (nI ksunkMany), .int ksending, .int kfleets, .ref ktext, .int (nI ktexts), .int kseed, .ref kline, .ref kwritten, .int (nI klineMany), .int khasWritten, .ref knode, .int (nI knodes), .int (nI konesMany), .int (nI kwithin), .int (nI ktop)]))] → va_S A s.heap H locs → lv_has ls 6 [(3, .int (nI k64)), (2, .int (nI k44)), (0, .ref o)] → W p l e (headSpec wsX12_sunk ({ frames := 3, cells := 0, slots := 0, locals := 68 })).room s m args below meth c H locs 0 0 Q (F0 m 179 ls []) := by
                      intro n69
                      induction n69 with
                      | zero => intro k64 f65 _ _ h9; exact absurd h9 (Nat.not_lt_zero _)
                      | succ n69 ih70 =>
                        intro k64 f65 j66 j67 hm71 H locs ls hP hD hS hl
                        refine lv_iload_n hx hb dX12_sunk_179 rfl (lv_at hl 0 rfl) ?_
                        refine lv_iload_n hx hb dX12_sunk_180 rfl (lv_at hl 1 rfl) ?_
                        refine n_icmp_ge (x := k64) (y := k44) (tgt := 202) hx hb (by omega) (by omega) dX12_sunk_181 (by decide) (fun c72 => ?_) (fun c72 => ?_)
                        · refine lv_aload_n hx hb dX12_sunk_202 rfl (lv_at hl 2 rfl) ?_
                          refine lv_iload_n hx hb dX12_sunk_203 rfl (lv_at hl 1 rfl) ?_
                          refine va_put (D := (dC, dI)) (ci := 12) (v := .int (nI k44)) (ty := .int) (C := RX12) (T := TX12) (N := 52) hx hb hts hin12 tyX12 tyX12_ok nmX12 hown hK hP hD hS 4 rfl rfl 37 (by decide) (hts (.fieldLink RX12 342 "PorridgeSeaModel" "sunkMany" "I") (List.mem_of_getElem? (i := 5) rfl)) (fun _ h9 => h9) rfl (by decide +kernel) rfl rfl (Nat.le_of_ble_eq_true rfl) dX12_sunk_204 (fun H locs hP hD hS => ?_)
                          have hP : va_P (dC, dI) vwCl [(know, .inl (ky 0, 373, .inl knowF)), (ktape, .inl (ky 0, 940, .inl ktapeF)), (ktrying, .inl (ky 0, 36, .inl f45)), (ksunk, .inl (ky 0, 36, .inl f65)), (o, .inr (12, [.int (nI 0), .ref ktape, .int (nI ktapedG_4), .int (nI ksize), .int (nI klimit), .int (nI kto), .int (nI kfrom), .int kkind, .int knumber, .int ksign, .int kfault, .int kplace, .long kword, .int ktold, .ref know, .ref kread, .ref kkept, .ref ksnaps, .ref kaside, .ref kname, .ref kreadName, .ref kkeptName, .ref kisKept, .ref konces, .int (nI ksnapMany), .int khasCells, .ref kpoured, .ref kfar, .ref ksides, .int (nI ksideMany), .int kwayDays, .int khasWay, .ref klines, .ref kmet, .int (nI kmetMany), .ref ksunk, .ref ktrying, .int (nI k44), .int ksending, .int kfleets, .ref ktext, .int (nI ktexts), .int kseed, .ref kline, .ref kwritten, .int (nI klineMany), .int khasWritten, .ref knode, .int (nI knodes), .int (nI konesMany), .int (nI kwithin), .int (nI ktop)]))] H := hP
                          have hD : va_D A [(know, .inl (ky 0, 373, .inl knowF)), (ktape, .inl (ky 0, 940, .inl ktapeF)), (ktrying, .inl (ky 0, 36, .inl f45)), (ksunk, .inl (ky 0, 36, .inl f65)), (o, .inr (12, [.int (nI 0), .ref ktape, .int (nI ktapedG_4), .int (nI ksize), .int (nI klimit), .int (nI kto), .int (nI kfrom), .int kkind, .int knumber, .int ksign, .int kfault, .int kplace, .long kword, .int ktold, .ref know, .ref kread, .ref kkept, .ref ksnaps, .ref kaside, .ref kname, .ref kreadName, .ref kkeptName, .ref kisKept, .ref konces, .int (nI ksnapMany), .int khasCells, .ref kpoured, .ref kfar, .ref ksides, .int (nI ksideMany), .int kwayDays, .int khasWay, .ref klines, .ref kmet, .int (nI kmetMany), .ref ksunk, .ref ktrying, .int (nI k44), .int ksending, .int kfleets, .ref ktext, .int (nI ktexts), .int kseed, .ref kline, .ref kwritten, .int (nI klineMany), .int khasWritten, .ref knode, .int (nI knodes), .int (nI konesMany), .int (nI kwithin), .int (nI ktop)]))] := hD
                          refine lv_aload_n hx hb dX12_sunk_207 rfl (lv_at hl 2 rfl) ?_
                          refine lv_iconst (v := nI 0) hx hb dX12_sunk_208 (by decide) ?_
                          refine va_put (D := (dC, dI)) (ci := 12) (v := .int (nI 0)) (ty := .int) (C := RX12) (T := TX12) (N := 52) hx hb hts hin12 tyX12 tyX12_ok nmX12 hown hK hP hD hS 4 rfl rfl 38 (by decide) (hts (.fieldLink RX12 154 "PorridgeSeaModel" "sending" "I") (List.mem_of_getElem? (i := 6) rfl)) (fun _ h9 => h9) rfl (by decide +kernel) rfl rfl (Nat.le_of_ble_eq_true rfl) dX12_sunk_209 (fun H locs hP hD hS => ?_)
                          have hP : va_P (dC, dI) vwCl [(know, .inl (ky 0, 373, .inl knowF)), (ktape, .inl (ky 0, 940, .inl ktapeF)), (ktrying, .inl (ky 0, 36, .inl f45)), (ksunk, .inl (ky 0, 36, .inl f65)), (o, .inr (12, [.int (nI 0), .ref ktape, .int (nI ktapedG_4), .int (nI ksize), .int (nI klimit), .int (nI kto), .int (nI kfrom), .int kkind, .int knumber, .int ksign, .int kfault, .int kplace, .long kword, .int ktold, .ref know, .ref kread, .ref kkept, .ref ksnaps, .ref kaside, .ref kname, .ref kreadName, .ref kkeptName, .ref kisKept, .ref konces, .int (nI ksnapMany), .int khasCells, .ref kpoured, .ref kfar, .ref ksides, .int (nI ksideMany), .int kwayDays, .int khasWay, .ref klines, .ref kmet, .int (nI kmetMany), .ref ksunk, .ref ktrying, .int (nI k44), .int (nI 0), .int kfleets, .ref ktext, .int (nI ktexts), .int kseed, .ref kline, .ref kwritten, .int (nI klineMany), .int khasWritten, .ref knode, .int (nI knodes), .int (nI konesMany), .int (nI kwithin), .int (nI ktop)]))] H := hP
                          have hD : va_D A [(know, .inl (ky 0, 373, .inl knowF)), (ktape, .inl (ky 0, 940, .inl ktapeF)), (ktrying, .inl (ky 0, 36, .inl f45)), (ksunk, .inl (ky 0, 36, .inl f65)), (o, .inr (12, [.int (nI 0), .ref ktape, .int (nI ktapedG_4), .int (nI ksize), .int (nI klimit), .int (nI kto), .int (nI kfrom), .int kkind, .int knumber, .int ksign, .int kfault, .int kplace, .long kword, .int ktold, .ref know, .ref kread, .ref kkept, .ref ksnaps, .ref kaside, .ref kname, .ref kreadName, .ref kkeptName, .ref kisKept, .ref konces, .int (nI ksnapMany), .int khasCells, .ref kpoured, .ref kfar, .ref ksides, .int (nI ksideMany), .int kwayDays, .int khasWay, .ref klines, .ref kmet, .int (nI kmetMany), .ref ksunk, .ref ktrying, .int (nI k44), .int (nI 0), .int kfleets, .ref ktext, .int (nI ktexts), .int kseed, .ref kline, .ref kwritten, .int (nI klineMany), .int khasWritten, .ref knode, .int (nI knodes), .int (nI konesMany), .int (nI kwithin), .int (nI ktop)]))] := hD
                          refine lv_iconst (v := nI 1) hx hb dX12_sunk_212 (by decide) ?_
                          refine lv_istore_n (lv' := [(3, .int (nI 1)), (2, .int (nI k44)), (0, .ref o)]) hx hb dX12_sunk_213 rfl hl (by decide) rfl (fun ls hl => ?_)
                          have hL89 : ∀ (n90 : Nat) (k84 : Nat) (x85 : Int32), (k84 ≤ 6) → (0 ≤ x85.toInt) → (x85.toInt ≤ 5) → 6 - k84 < n90 → ∀ (H : Heap) (locs : List Loc) (ls : Array Slot), va_P (dC, dI) vwCl [(know, .inl (ky 0, 373, .inl knowF)), (ktape, .inl (ky 0, 940, .inl ktapeF)), (ktrying, .inl (ky 0, 36, .inl f45)), (ksunk, .inl (ky 0, 36, .inl f65)), (o, .inr (12, [.int (nI 0), .ref ktape, .int (nI ktapedG_4), .int (nI ksize), .int (nI klimit), .int (nI kto), .int (nI kfrom), .int kkind, .int knumber, .int ksign, .int kfault, .int kplace, .long kword, .int ktold, .ref know, .ref kread, .ref kkept, .ref ksnaps, .ref kaside, .ref kname, .ref kreadName, .ref kkeptName, .ref kisKept, .ref konces, .int (nI ksnapMany), .int khasCells, .ref kpoured, .ref kfar, .ref ksides, .int (nI ksideMany), .int kwayDays, .int khasWay, .ref klines, .ref kmet, .int (nI kmetMany), .ref ksunk, .ref ktrying, .int (nI k44), .int x85, .int kfleets, .ref ktext, .int (nI ktexts), .int kseed, .ref kline, .ref kwritten, .int (nI klineMany), .int khasWritten, .ref knode, .int (nI knodes), .int (nI konesMany), .int (nI kwithin), .int (nI ktop)]))] H → va_D A [(know, .inl (ky 0, 373, .inl knowF)), (ktape, .inl (ky 0, 940, .inl ktapeF)), (ktrying, .inl (ky 0, 36, .inl f45)), (ksunk, .inl (ky 0, 36, .inl f65)), (o, .inr (12, [.int (nI 0), .ref ktape, .int (nI ktapedG_4), .int (nI ksize), .int (nI klimit), .int (nI kto), .int (nI kfrom), .int kkind, .int knumber, .int ksign, .int kfault, .int kplace, .long kword, .int ktold, .ref know, .ref kread, .ref kkept, .ref ksnaps, .ref kaside, .ref kname, .ref kreadName, .ref kkeptName, .ref kisKept, .ref konces, .int (nI ksnapMany), .int khasCells, .ref kpoured, .ref kfar, .ref ksides, .int (nI ksideMany), .int kwayDays, .int khasWay, .ref klines, .ref kmet, .int (nI kmetMany), .ref ksunk, .ref ktrying, .int (nI k44), .int x85, .int kfleets, .ref ktext, .int (nI ktexts), .int kseed, .ref kline, .ref kwritten, .int (nI klineMany), .int khasWritten, .ref knode, .int (nI knodes), .int (nI konesMany), .int (nI kwithin), .int (nI ktop)]))] → va_S A s.heap H locs → lv_has ls 6 [(3, .int (nI k84)), (2, .int (nI k44)), (0, .ref o)] → W p l e (headSpec wsX12_sunk ({ frames := 3, cells := 0, slots := 0, locals := 68 })).room s m args below meth c H locs 0 0 Q (F0 m 214 ls []) := by
                            intro n90
                            induction n90 with
                            | zero => intro k84 x85 _ _ _ h9; exact absurd h9 (Nat.not_lt_zero _)
                            | succ n90 ih91 =>
                              intro k84 x85 j86 j87 j88 hm92 H locs ls hP hD hS hl
                              refine lv_iload_n hx hb dX12_sunk_214 rfl (lv_at hl 0 rfl) ?_
                              refine lv_aload_n hx hb dX12_sunk_215 rfl (lv_at hl 2 rfl) ?_
                              refine va_get (D := (dC, dI)) (ci := 12) (v := .ref know) (C := RX12) (T := TX12) (N := 52) hx hb hts hin12 hown hK hP 4 rfl rfl 14 (by decide) (hts (.fieldLink RX12 98 "PorridgeSeaModel" "now" "[I") (List.mem_of_getElem? (i := 7) rfl)) (fun _ h9 => h9) rfl dX12_sunk_216 ?_
                              refine lv_iconst (v := nI 3) hx hb dX12_sunk_219 (by decide) ?_
                              obtain ⟨y93, e94⟩ : ∃ z9, z9 = knowF 3 := ⟨_, rfl⟩
                              refine r_iald hx hb hK hP 0 rfl 3 (by decide) (by decide) y93 e94.symm dX12_sunk_220 ?_
                              obtain ⟨b95, b96⟩ : (0 : Int) ≤ y93.toInt ∧ y93.toInt ≤ 6 := by rw [e94]; exact ld_NB_3 ab_now 3 (by decide) (by decide)
                              refine lv_icmp_ge (tgt := 253) hx hb dX12_sunk_221 (by decide) (fun c97 => ?_) (fun c97 => ?_)
                              · refine lv_iload_n hx hb dX12_sunk_253 rfl (lv_at hl 1 rfl) ?_
                                rw [hQ]
                                have hP9 := hP.sub (ws' := [(o, .inr (12, [.int (nI 0), .ref ktape, .int (nI ktapedG_4), .int (nI ksize), .int (nI klimit), .int (nI kto), .int (nI kfrom), .int kkind, .int knumber, .int ksign, .int kfault, .int kplace, .long kword, .int ktold, .ref know, .ref kread, .ref kkept, .ref ksnaps, .ref kaside, .ref kname, .ref kreadName, .ref kkeptName, .ref kisKept, .ref konces, .int (nI ksnapMany), .int khasCells, .ref kpoured, .ref kfar, .ref ksides, .int (nI ksideMany), .int kwayDays, .int khasWay, .ref klines, .ref kmet, .int (nI kmetMany), .ref ksunk, .ref ktrying, .int (nI k44), .int x85, .int kfleets, .ref ktext, .int (nI ktexts), .int kseed, .ref kline, .ref kwritten, .int (nI klineMany), .int khasWritten, .ref knode, .int (nI knodes), .int (nI konesMany), .int (nI kwithin), .int (nI ktop)])), (know, .inl (ky 0, 373, .inl knowF)), (ktape, .inl (ky 0, 940, .inl ktapeF)), (ktrying, .inl (ky 0, 36, .inl f45)), (ksunk, .inl (ky 0, 36, .inl f65))]) [4, 0, 1, 2, 3] rfl
                                have hD9 := hD.sub (ws' := [(o, .inr (12, [.int (nI 0), .ref ktape, .int (nI ktapedG_4), .int (nI ksize), .int (nI klimit), .int (nI kto), .int (nI kfrom), .int kkind, .int knumber, .int ksign, .int kfault, .int kplace, .long kword, .int ktold, .ref know, .ref kread, .ref kkept, .ref ksnaps, .ref kaside, .ref kname, .ref kreadName, .ref kkeptName, .ref kisKept, .ref konces, .int (nI ksnapMany), .int khasCells, .ref kpoured, .ref kfar, .ref ksides, .int (nI ksideMany), .int kwayDays, .int khasWay, .ref klines, .ref kmet, .int (nI kmetMany), .ref ksunk, .ref ktrying, .int (nI k44), .int x85, .int kfleets, .ref ktext, .int (nI ktexts), .int kseed, .ref kline, .ref kwritten, .int (nI klineMany), .int khasWritten, .ref knode, .int (nI knodes), .int (nI konesMany), .int (nI kwithin), .int (nI ktop)])), (know, .inl (ky 0, 373, .inl knowF)), (ktape, .inl (ky 0, 940, .inl ktapeF)), (ktrying, .inl (ky 0, 36, .inl f45)), (ksunk, .inl (ky 0, 36, .inl f65))]) [4, 0, 1, 2, 3] (by decide) rfl
                                exact W.iret (v := nI k44) hx hb hr (fun t9 ht9 hW9 => ⟨⟨nI k44, (nI 0, ktapedG_4, k44, x85, f45, f65), rfl, ⟨p6, j47, j48, j67, p7⟩, by rw [ht9]; exact hP9, va_K.moved hW9.alike hK, hD9⟩, hS.F ht9⟩) hS.2.2 dX12_sunk_254
                              · refine lv_aload_n hx hb dX12_sunk_224 rfl (lv_at hl 2 rfl) ?_
                                refine lv_iload_n hx hb dX12_sunk_225 rfl (lv_at hl 0 rfl) ?_
                                refine lv_iload_n hx hb dX12_sunk_226 rfl (lv_at hl 1 rfl) ?_
                                refine vp_callSi (W.runV (As := [.int (nI k84), .int (nI k44)]) (rest := []) ⟨hx, hb, hml, hown, hts⟩ (c_x_leftBy l dC dI ky o (nI 0) ktape ktapedG_4 ksize klimit kto kfrom kkind knumber ksign kfault kplace kword ktold know kread kkept ksnaps kaside kname kreadName kkeptName kisKept konces ksnapMany khasCells kpoured kfar ksides ksideMany kwayDays khasWay klines kmet kmetMany ksunk ktrying k44 x85 kfleets ktext ktexts kseed kline kwritten klineMany khasWritten knode knodes konesMany kwithin ktop knowF f45 (nI k84) k44 p6 iv_ko_1 iv_ko_2 iv_ko_3 iv_ko_4 iv_ko_5 iv_ko_6 iv_ko_7 j47 iv_ko_9 iv_ko_10 iv_ko_11 iv_ko_12 iv_ko_13 iv_ko_14 ab_now j48 (lf_x_sunk_1 knowF k84 n90 y93 ab_now j86 hm92 e94 b95 b96 c97) j47) (cwV 2 hts gX12_sunk_X12_leftBy rfl rfl rfl (by decide +kernel) ⟨(Nat.le_of_ble_eq_true rfl), (Nat.le_of_ble_eq_true rfl)⟩) (pre_PV hK hP [4, 0, 2] rfl (ci := 12) (q0 := 4) rfl rfl) rfl rfl hl.1 rfl (lv_room (Nat.le_of_ble_eq_true rfl)) dX12_sunk_227 ⟨(Nat.le_of_ble_eq_true rfl), (Nat.le_of_ble_eq_true rfl)⟩) (fun r98 p99 => ?_)
                                refine lv_aload_n hx hb dX12_sunk_230 rfl (lv_at hl 2 rfl) ?_
                                refine lv_aload_n hx hb dX12_sunk_231 rfl (lv_at hl 2 rfl) ?_
                                refine va_get (D := (dC, dI)) (ci := 12) (v := .int x85) (C := RX12) (T := TX12) (N := 52) hx hb hts hin12 hown hK hP 4 rfl rfl 38 (by decide) (hts (.fieldLink RX12 154 "PorridgeSeaModel" "sending" "I") (List.mem_of_getElem? (i := 6) rfl)) (fun _ h9 => h9) rfl dX12_sunk_232 ?_
                                refine lv_iload_n hx hb dX12_sunk_235 rfl (lv_at hl 1 rfl) ?_
                                refine vp_callSi (W.runV (As := [.int x85, .int (nI k44)]) (rest := [.int r98]) ⟨hx, hb, hml, hown, hts⟩ (c_x_leftBy l dC dI ky o (nI 0) ktape ktapedG_4 ksize klimit kto kfrom kkind knumber ksign kfault kplace kword ktold know kread kkept ksnaps kaside kname kreadName kkeptName kisKept konces ksnapMany khasCells kpoured kfar ksides ksideMany kwayDays khasWay klines kmet kmetMany ksunk ktrying k44 x85 kfleets ktext ktexts kseed kline kwritten klineMany khasWritten knode knodes konesMany kwithin ktop knowF f45 x85 k44 p6 iv_ko_1 iv_ko_2 iv_ko_3 iv_ko_4 iv_ko_5 iv_ko_6 iv_ko_7 j47 iv_ko_9 iv_ko_10 iv_ko_11 iv_ko_12 iv_ko_13 iv_ko_14 ab_now j48 (lf_x_sunk_2 x85 j87 j88 p99) j47) (cwV 2 hts gX12_sunk_X12_leftBy rfl rfl rfl (by decide +kernel) ⟨(Nat.le_of_ble_eq_true rfl), (Nat.le_of_ble_eq_true rfl)⟩) (pre_PV hK hP [4, 0, 2] rfl (ci := 12) (q0 := 4) rfl rfl) rfl rfl hl.1 rfl (lv_room (Nat.le_of_ble_eq_true rfl)) dX12_sunk_236 ⟨(Nat.le_of_ble_eq_true rfl), (Nat.le_of_ble_eq_true rfl)⟩) (fun r100 p101 => ?_)
                                refine lv_icmp_ge (tgt := 247) hx hb dX12_sunk_239 (by decide) (fun c102 => ?_) (fun c102 => ?_)
                                · refine lv_iinc (v := nI (k84 + 1)) (lv' := [(3, .int (nI (k84 + 1))), (2, .int (nI k44)), (0, .ref o)]) hx hb dX12_sunk_247 hl (k := 0) rfl (show nI k84 + nI 1 = nI (k84 + 1) from nI_add _ _) (by decide) rfl (fun ls hl => ?_)
                                  refine lv_goto (tgt := 214) hx hb dX12_sunk_250 (by decide) ?_
                                  exact ih91 (k84 + 1) x85 (lf_x_sunk_3 knowF k84 n90 y93 ab_now j86 hm92 e94 b95 b96 c97 p99 p101) j87 j88 (lf_x_sunk_4 knowF k84 n90 y93 ab_now j86 hm92 e94 b95 b96 c97 p99 p101) _ _ _ hP hD hS (lv_sub hl [0, 1, 2] rfl)
                                · refine lv_aload_n hx hb dX12_sunk_242 rfl (lv_at hl 2 rfl) ?_
                                  refine lv_iload_n hx hb dX12_sunk_243 rfl (lv_at hl 0 rfl) ?_
                                  refine va_put (D := (dC, dI)) (ci := 12) (v := .int (nI k84)) (ty := .int) (C := RX12) (T := TX12) (N := 52) hx hb hts hin12 tyX12 tyX12_ok nmX12 hown hK hP hD hS 4 rfl rfl 38 (by decide) (hts (.fieldLink RX12 154 "PorridgeSeaModel" "sending" "I") (List.mem_of_getElem? (i := 6) rfl)) (fun _ h9 => h9) rfl (by decide +kernel) rfl rfl (Nat.le_of_ble_eq_true rfl) dX12_sunk_244 (fun H locs hP hD hS => ?_)
                                  have hP : va_P (dC, dI) vwCl [(know, .inl (ky 0, 373, .inl knowF)), (ktape, .inl (ky 0, 940, .inl ktapeF)), (ktrying, .inl (ky 0, 36, .inl f45)), (ksunk, .inl (ky 0, 36, .inl f65)), (o, .inr (12, [.int (nI 0), .ref ktape, .int (nI ktapedG_4), .int (nI ksize), .int (nI klimit), .int (nI kto), .int (nI kfrom), .int kkind, .int knumber, .int ksign, .int kfault, .int kplace, .long kword, .int ktold, .ref know, .ref kread, .ref kkept, .ref ksnaps, .ref kaside, .ref kname, .ref kreadName, .ref kkeptName, .ref kisKept, .ref konces, .int (nI ksnapMany), .int khasCells, .ref kpoured, .ref kfar, .ref ksides, .int (nI ksideMany), .int kwayDays, .int khasWay, .ref klines, .ref kmet, .int (nI kmetMany), .ref ksunk, .ref ktrying, .int (nI k44), .int (nI k84), .int kfleets, .ref ktext, .int (nI ktexts), .int kseed, .ref kline, .ref kwritten, .int (nI klineMany), .int khasWritten, .ref knode, .int (nI knodes), .int (nI konesMany), .int (nI kwithin), .int (nI ktop)]))] H := hP
                                  have hD : va_D A [(know, .inl (ky 0, 373, .inl knowF)), (ktape, .inl (ky 0, 940, .inl ktapeF)), (ktrying, .inl (ky 0, 36, .inl f45)), (ksunk, .inl (ky 0, 36, .inl f65)), (o, .inr (12, [.int (nI 0), .ref ktape, .int (nI ktapedG_4), .int (nI ksize), .int (nI klimit), .int (nI kto), .int (nI kfrom), .int kkind, .int knumber, .int ksign, .int kfault, .int kplace, .long kword, .int ktold, .ref know, .ref kread, .ref kkept, .ref ksnaps, .ref kaside, .ref kname, .ref kreadName, .ref kkeptName, .ref kisKept, .ref konces, .int (nI ksnapMany), .int khasCells, .ref kpoured, .ref kfar, .ref ksides, .int (nI ksideMany), .int kwayDays, .int khasWay, .ref klines, .ref kmet, .int (nI kmetMany), .ref ksunk, .ref ktrying, .int (nI k44), .int (nI k84), .int kfleets, .ref ktext, .int (nI ktexts), .int kseed, .ref kline, .ref kwritten, .int (nI klineMany), .int khasWritten, .ref knode, .int (nI knodes), .int (nI konesMany), .int (nI kwithin), .int (nI ktop)]))] := hD
                                  refine lv_iinc (v := nI (k84 + 1)) (lv' := [(3, .int (nI (k84 + 1))), (2, .int (nI k44)), (0, .ref o)]) hx hb dX12_sunk_247 hl (k := 0) rfl (show nI k84 + nI 1 = nI (k84 + 1) from nI_add _ _) (by decide) rfl (fun ls hl => ?_)
                                  refine lv_goto (tgt := 214) hx hb dX12_sunk_250 (by decide) ?_
                                  exact ih91 (k84 + 1) (nI k84) (lf_x_sunk_5 knowF k84 n90 y93 ab_now j86 hm92 e94 b95 b96 c97 p99 p101) (lf_x_sunk_6 knowF k84 n90 y93 ab_now j86 hm92 e94 b95 b96 c97 p99 p101) (lf_x_sunk_7 knowF k84 n90 y93 ab_now j86 hm92 e94 b95 b96 c97 p99 p101) (lf_x_sunk_8 knowF k84 n90 y93 ab_now j86 hm92 e94 b95 b96 c97 p99 p101) _ _ _ hP hD hS (lv_sub hl [0, 1, 2] rfl)
                          exact hL89 ((6 - 1) + 1) 1 (nI 0) (lf_x_sunk_9) (lf_x_sunk_10) (lf_x_sunk_11) (Nat.lt_succ_self _) _ _ _ hP hD hS (lv_sub hl [0, 1, 2] rfl)
                        · refine lv_aload_n hx hb dX12_sunk_184 rfl (lv_at hl 2 rfl) ?_
                          refine va_get (D := (dC, dI)) (ci := 12) (v := .ref ksunk) (C := RX12) (T := TX12) (N := 52) hx hb hts hin12 hown hK hP 4 rfl rfl 35 (by decide) (hts (.fieldLink RX12 148 "PorridgeSeaModel" "sunk" "[I") (List.mem_of_getElem? (i := 4) rfl)) (fun _ h9 => h9) rfl dX12_sunk_185 ?_
                          refine lv_iload_n hx hb dX12_sunk_188 rfl (lv_at hl 0 rfl) ?_
                          refine lv_aload_n hx hb dX12_sunk_189 rfl (lv_at hl 2 rfl) ?_
                          refine va_get (D := (dC, dI)) (ci := 12) (v := .ref ktrying) (C := RX12) (T := TX12) (N := 52) hx hb hts hin12 hown hK hP 4 rfl rfl 36 (by decide) (hts (.fieldLink RX12 151 "PorridgeSeaModel" "trying" "[I") (List.mem_of_getElem? (i := 3) rfl)) (fun _ h9 => h9) rfl dX12_sunk_190 ?_
                          refine lv_iload_n hx hb dX12_sunk_193 rfl (lv_at hl 0 rfl) ?_
                          obtain ⟨y103, e104⟩ : ∃ z9, z9 = f45 k64 := ⟨_, rfl⟩
                          refine r_iald hx hb hK hP 2 rfl k64 (lf_x_sunk_12 k43 k44 f45 n51 k64 n69 y103 j46 j47 j48 j49 hm53 c54 c55 j66 hm71 c72 e104) (by decide) y103 e104.symm dX12_sunk_194 ?_
                          obtain ⟨b105, b106⟩ : (0 : Int) ≤ y103.toInt ∧ y103.toInt ≤ 35 := by rw [e104]; exact ld_AB36_0 j48 k64 (lf_x_sunk_13 k43 k44 f45 n51 k64 n69 y103 j46 j47 j48 j49 hm53 c54 c55 j66 hm71 c72 e104) (lf_x_sunk_14 k43 k44 f45 n51 k64 n69 y103 j46 j47 j48 j49 hm53 c54 c55 j66 hm71 c72 e104)
                          refine r_iast (x := y103) hx hb hK hP hD hS 3 rfl k64 (lf_x_sunk_17 k43 k44 f45 n51 k64 n69 y103 j46 j47 j48 j49 hm53 c54 c55 j66 hm71 c72 e104 b105 b106) (by decide) dX12_sunk_195 (fun H locs hP hD hS => ?_)
                          obtain ⟨g107, e108⟩ : ∃ z9, z9 = upd f65 k64 y103 := ⟨_, rfl⟩
                          rw [← e108] at hP hD
                          have nb109 : AB36 g107 := by rw [e108]; exact st_AB36_0 j67 k64 (lf_x_sunk_18 k43 k44 f45 n51 k64 n69 y103 j46 j47 j48 j49 hm53 c54 c55 j66 hm71 c72 e104 b105 b106) (lf_x_sunk_19 k43 k44 f45 n51 k64 n69 y103 j46 j47 j48 j49 hm53 c54 c55 j66 hm71 c72 e104 b105 b106) (lf_x_sunk_15 k43 k44 f45 n51 k64 n69 y103 j46 j47 j48 j49 hm53 c54 c55 j66 hm71 c72 e104 b105 b106) (lf_x_sunk_16 k43 k44 f45 n51 k64 n69 y103 j46 j47 j48 j49 hm53 c54 c55 j66 hm71 c72 e104 b105 b106)
                          have hP : va_P (dC, dI) vwCl [(know, .inl (ky 0, 373, .inl knowF)), (ktape, .inl (ky 0, 940, .inl ktapeF)), (ktrying, .inl (ky 0, 36, .inl f45)), (ksunk, .inl (ky 0, 36, .inl g107)), (o, .inr (12, [.int (nI 0), .ref ktape, .int (nI ktapedG_4), .int (nI ksize), .int (nI klimit), .int (nI kto), .int (nI kfrom), .int kkind, .int knumber, .int ksign, .int kfault, .int kplace, .long kword, .int ktold, .ref know, .ref kread, .ref kkept, .ref ksnaps, .ref kaside, .ref kname, .ref kreadName, .ref kkeptName, .ref kisKept, .ref konces, .int (nI ksnapMany), .int khasCells, .ref kpoured, .ref kfar, .ref ksides, .int (nI ksideMany), .int kwayDays, .int khasWay, .ref klines, .ref kmet, .int (nI kmetMany), .ref ksunk, .ref ktrying, .int (nI ksunkMany), .int ksending, .int kfleets, .ref ktext, .int (nI ktexts), .int kseed, .ref kline, .ref kwritten, .int (nI klineMany), .int khasWritten, .ref knode, .int (nI knodes), .int (nI konesMany), .int (nI kwithin), .int (nI ktop)]))] H := hP
                          have hD : va_D A [(know, .inl (ky 0, 373, .inl knowF)), (ktape, .inl (ky 0, 940, .inl ktapeF)), (ktrying, .inl (ky 0, 36, .inl f45)), (ksunk, .inl (ky 0, 36, .inl g107)), (o, .inr (12, [.int (nI 0), .ref ktape, .int (nI ktapedG_4), .int (nI ksize), .int (nI klimit), .int (nI kto), .int (nI kfrom), .int kkind, .int knumber, .int ksign, .int kfault, .int kplace, .long kword, .int ktold, .ref know, .ref kread, .ref kkept, .ref ksnaps, .ref kaside, .ref kname, .ref kreadName, .ref kkeptName, .ref kisKept, .ref konces, .int (nI ksnapMany), .int khasCells, .ref kpoured, .ref kfar, .ref ksides, .int (nI ksideMany), .int kwayDays, .int khasWay, .ref klines, .ref kmet, .int (nI kmetMany), .ref ksunk, .ref ktrying, .int (nI ksunkMany), .int ksending, .int kfleets, .ref ktext, .int (nI ktexts), .int kseed, .ref kline, .ref kwritten, .int (nI klineMany), .int khasWritten, .ref knode, .int (nI knodes), .int (nI konesMany), .int (nI kwithin), .int (nI ktop)]))] := hD
                          refine lv_iinc (v := nI (k64 + 1)) (lv' := [(3, .int (nI (k64 + 1))), (2, .int (nI k44)), (0, .ref o)]) hx hb dX12_sunk_196 hl (k := 0) rfl (show nI k64 + nI 1 = nI (k64 + 1) from nI_add _ _) (by decide) rfl (fun ls hl => ?_)
                          refine lv_goto (tgt := 179) hx hb dX12_sunk_199 (by decide) ?_
                          exact ih70 (k64 + 1) g107 (lf_x_sunk_20 k43 k44 f45 n51 k64 n69 y103 j46 j47 j48 j49 hm53 c54 c55 j66 hm71 c72 e104 b105 b106) nb109 (lf_x_sunk_21 k43 k44 f45 n51 k64 n69 y103 j46 j47 j48 j49 hm53 c54 c55 j66 hm71 c72 e104 b105 b106) _ _ _ hP hD hS (lv_sub hl [0, 1, 2] rfl)
                    exact hL68 ((36 - 0) + 1) 0 ksunkF (lf_x_sunk_22) ab_sunk (Nat.lt_succ_self _) _ _ _ hP hD hS (lv_sub hl [0, 1, 3] rfl)
                  · refine lv_iconst (v := nI 0) hx hb dX12_sunk_175 (by decide) ?_
                    rw [hQ]
                    have hP9 := hP.sub (ws' := [(o, .inr (12, [.int (nI 0), .ref ktape, .int (nI ktapedG_4), .int (nI ksize), .int (nI klimit), .int (nI kto), .int (nI kfrom), .int kkind, .int knumber, .int ksign, .int kfault, .int kplace, .long kword, .int ktold, .ref know, .ref kread, .ref kkept, .ref ksnaps, .ref kaside, .ref kname, .ref kreadName, .ref kkeptName, .ref kisKept, .ref konces, .int (nI ksnapMany), .int khasCells, .ref kpoured, .ref kfar, .ref ksides, .int (nI ksideMany), .int kwayDays, .int khasWay, .ref klines, .ref kmet, .int (nI kmetMany), .ref ksunk, .ref ktrying, .int (nI ksunkMany), .int ksending, .int kfleets, .ref ktext, .int (nI ktexts), .int kseed, .ref kline, .ref kwritten, .int (nI klineMany), .int khasWritten, .ref knode, .int (nI knodes), .int (nI konesMany), .int (nI kwithin), .int (nI ktop)])), (know, .inl (ky 0, 373, .inl knowF)), (ktape, .inl (ky 0, 940, .inl ktapeF)), (ktrying, .inl (ky 0, 36, .inl f45)), (ksunk, .inl (ky 0, 36, .inl ksunkF))]) [4, 0, 1, 2, 3] rfl
                    have hD9 := hD.sub (ws' := [(o, .inr (12, [.int (nI 0), .ref ktape, .int (nI ktapedG_4), .int (nI ksize), .int (nI klimit), .int (nI kto), .int (nI kfrom), .int kkind, .int knumber, .int ksign, .int kfault, .int kplace, .long kword, .int ktold, .ref know, .ref kread, .ref kkept, .ref ksnaps, .ref kaside, .ref kname, .ref kreadName, .ref kkeptName, .ref kisKept, .ref konces, .int (nI ksnapMany), .int khasCells, .ref kpoured, .ref kfar, .ref ksides, .int (nI ksideMany), .int kwayDays, .int khasWay, .ref klines, .ref kmet, .int (nI kmetMany), .ref ksunk, .ref ktrying, .int (nI ksunkMany), .int ksending, .int kfleets, .ref ktext, .int (nI ktexts), .int kseed, .ref kline, .ref kwritten, .int (nI klineMany), .int khasWritten, .ref knode, .int (nI knodes), .int (nI konesMany), .int (nI kwithin), .int (nI ktop)])), (know, .inl (ky 0, 373, .inl knowF)), (ktape, .inl (ky 0, 940, .inl ktapeF)), (ktrying, .inl (ky 0, 36, .inl f45)), (ksunk, .inl (ky 0, 36, .inl ksunkF))]) [4, 0, 1, 2, 3] (by decide) rfl
                    exact W.iret (v := nI 0) hx hb hr (fun t9 ht9 hW9 => ⟨⟨nI 0, (nI 0, ktapedG_4, ksunkMany, ksending, f45, ksunkF), rfl, ⟨p6, iv_ko_8, j48, ab_sunk, p7⟩, by rw [ht9]; exact hP9, va_K.moved hW9.alike hK, hD9⟩, hS.F ht9⟩) hS.2.2 dX12_sunk_176
                · refine lv_aload_n hx hb dX12_sunk_80 rfl (lv_at hl 3 rfl) ?_
                  refine lv_iload_n hx hb dX12_sunk_81 rfl (lv_at hl 0 rfl) ?_
                  refine vp_callSi (W.runV (As := [.int (nI k43)]) (rest := []) ⟨hx, hb, hml, hown, hts⟩ (c_x_isInSea l dC dI ky o (nI 0) ktape ktapedG_4 ksize klimit kto kfrom kkind knumber ksign kfault kplace kword ktold know kread kkept ksnaps kaside kname kreadName kkeptName kisKept konces ksnapMany khasCells kpoured kfar ksides ksideMany kwayDays khasWay klines kmet kmetMany ksunk ktrying ksunkMany ksending kfleets ktext ktexts kseed kline kwritten klineMany khasWritten knode knodes konesMany kwithin ktop knowF (nI k43) p6 iv_ko_1 iv_ko_2 iv_ko_3 iv_ko_4 iv_ko_5 iv_ko_6 iv_ko_7 iv_ko_8 iv_ko_9 iv_ko_10 iv_ko_11 iv_ko_12 iv_ko_13 iv_ko_14 ab_now) (cwV 1 hts gX12_sunk_X12_isInSea rfl rfl rfl (by decide +kernel) ⟨(Nat.le_of_ble_eq_true rfl), (Nat.le_of_ble_eq_true rfl)⟩) (pre_PV hK hP [4, 0] rfl (ci := 12) (q0 := 4) rfl rfl) rfl rfl hl.1 rfl (lv_room (Nat.le_of_ble_eq_true rfl)) dX12_sunk_82 ⟨(Nat.le_of_ble_eq_true rfl), (Nat.le_of_ble_eq_true rfl)⟩) (fun r110 p111 => ?_)
                  refine lv_istore (lv' := [(4, .int r110), (3, .int (nI k43)), (2, .int (nI k44)), (1, .int (nI ktaped)), (0, .ref o)]) hx hb dX12_sunk_85 hl (by decide) rfl (fun ls hl => ?_)
                  refine lv_iconst (v := nI 0) hx hb dX12_sunk_87 (by decide) ?_
                  refine lv_istore (lv' := [(5, .int (nI 0)), (4, .int r110), (3, .int (nI k43)), (2, .int (nI k44)), (1, .int (nI ktaped)), (0, .ref o)]) hx hb dX12_sunk_88 hl (by decide) rfl (fun ls hl => ?_)
                  have hL127 : ∀ (n128 : Nat) (k122 : Nat) (x123 : Int32), (k122 ≤ 941) → (x123 = nI 0 ∨ x123 = nI 1) → (k122 % 2 = 0) → 941 - k122 < n128 → ∀ (H : Heap) (locs : List Loc) (ls : Array Slot), va_P (dC, dI) vwCl [(know, .inl (ky 0, 373, .inl knowF)), (ktape, .inl (ky 0, 940, .inl ktapeF)), (ktrying, .inl (ky 0, 36, .inl f45)), (ksunk, .inl (ky 0, 36, .inl ksunkF)), (o, .inr (12, [.int (nI 0), .ref ktape, .int (nI ktapedG_4), .int (nI ksize), .int (nI klimit), .int (nI kto), .int (nI kfrom), .int kkind, .int knumber, .int ksign, .int kfault, .int kplace, .long kword, .int ktold, .ref know, .ref kread, .ref kkept, .ref ksnaps, .ref kaside, .ref kname, .ref kreadName, .ref kkeptName, .ref kisKept, .ref konces, .int (nI ksnapMany), .int khasCells, .ref kpoured, .ref kfar, .ref ksides, .int (nI ksideMany), .int kwayDays, .int khasWay, .ref klines, .ref kmet, .int (nI kmetMany), .ref ksunk, .ref ktrying, .int (nI ksunkMany), .int ksending, .int kfleets, .ref ktext, .int (nI ktexts), .int kseed, .ref kline, .ref kwritten, .int (nI klineMany), .int khasWritten, .ref knode, .int (nI knodes), .int (nI konesMany), .int (nI kwithin), .int (nI ktop)]))] H → va_D A [(know, .inl (ky 0, 373, .inl knowF)), (ktape, .inl (ky 0, 940, .inl ktapeF)), (ktrying, .inl (ky 0, 36, .inl f45)), (ksunk, .inl (ky 0, 36, .inl ksunkF)), (o, .inr (12, [.int (nI 0), .ref ktape, .int (nI ktapedG_4), .int (nI ksize), .int (nI klimit), .int (nI kto), .int (nI kfrom), .int kkind, .int knumber, .int ksign, .int kfault, .int kplace, .long kword, .int ktold, .ref know, .ref kread, .ref kkept, .ref ksnaps, .ref kaside, .ref kname, .ref kreadName, .ref kkeptName, .ref kisKept, .ref konces, .int (nI ksnapMany), .int khasCells, .ref kpoured, .ref kfar, .ref ksides, .int (nI ksideMany), .int kwayDays, .int khasWay, .ref klines, .ref kmet, .int (nI kmetMany), .ref ksunk, .ref ktrying, .int (nI ksunkMany), .int ksending, .int kfleets, .ref ktext, .int (nI ktexts), .int kseed, .ref kline, .ref kwritten, .int (nI klineMany), .int khasWritten, .ref knode, .int (nI knodes), .int (nI konesMany), .int (nI kwithin), .int (nI ktop)]))] → va_S A s.heap H locs → lv_has ls 6 [(5, .int (nI k122)), (4, .int x123), (3, .int (nI k43)), (2, .int (nI k44)), (1, .int (nI ktaped)), (0, .ref o)] → W p l e (headSpec wsX12_sunk ({ frames := 3, cells := 0, slots := 0, locals := 68 })).room s m args below meth c H locs 0 0 Q (F0 m 90 ls []) := by
                    intro n128
                    induction n128 with
                    | zero => intro k122 x123 _ _ _ h9; exact absurd h9 (Nat.not_lt_zero _)
                    | succ n128 ih129 =>
                      intro k122 x123 j124 j125 j126 hm130 H locs ls hP hD hS hl
                      refine lv_iload hx hb dX12_sunk_90 (lv_at hl 0 rfl) ?_
                      refine lv_iload_n hx hb dX12_sunk_92 rfl (lv_at hl 4 rfl) ?_
                      refine n_icmp_ge (x := k122) (y := ktaped) (tgt := 147) hx hb (by omega) (by omega) dX12_sunk_93 (by decide) (fun c131 => ?_) (fun c131 => ?_)
                      · refine lv_iload hx hb dX12_sunk_147 (lv_at hl 1 rfl) ?_
                        refine lv_if_ne (tgt := 155) hx hb dX12_sunk_149 (by decide) (fun c132 => ?_) (fun c132 => ?_)
                        · refine lv_aload_n hx hb dX12_sunk_155 rfl (lv_at hl 5 rfl) ?_
                          refine va_get (D := (dC, dI)) (ci := 12) (v := .ref ktrying) (C := RX12) (T := TX12) (N := 52) hx hb hts hin12 hown hK hP 4 rfl rfl 36 (by decide) (hts (.fieldLink RX12 151 "PorridgeSeaModel" "trying" "[I") (List.mem_of_getElem? (i := 3) rfl)) (fun _ h9 => h9) rfl dX12_sunk_156 ?_
                          refine lv_iload_n hx hb dX12_sunk_159 rfl (lv_at hl 3 rfl) ?_
                          refine lv_iload_n hx hb dX12_sunk_160 rfl (lv_at hl 2 rfl) ?_
                          refine r_iast (x := (nI k43)) hx hb hK hP hD hS 2 rfl k44 (lf_x_sunk_25 k43 k44 n51 j46 j47 j49 hm53 c54) (by decide) dX12_sunk_161 (fun H locs hP hD hS => ?_)
                          obtain ⟨g133, e134⟩ : ∃ z9, z9 = upd f45 k44 (nI k43) := ⟨_, rfl⟩
                          rw [← e134] at hP hD
                          have nb135 : AB36 g133 := by rw [e134]; exact st_AB36_0 j48 k44 (lf_x_sunk_26 k43 k44 n51 j46 j47 j49 hm53 c54) (lf_x_sunk_27 k43 k44 n51 j46 j47 j49 hm53 c54) (lf_x_sunk_23 k43 k44 n51 j46 j47 j49 hm53 c54) (lf_x_sunk_24 k43 k44 n51 j46 j47 j49 hm53 c54)
                          have hP : va_P (dC, dI) vwCl [(know, .inl (ky 0, 373, .inl knowF)), (ktape, .inl (ky 0, 940, .inl ktapeF)), (ktrying, .inl (ky 0, 36, .inl g133)), (ksunk, .inl (ky 0, 36, .inl ksunkF)), (o, .inr (12, [.int (nI 0), .ref ktape, .int (nI ktapedG_4), .int (nI ksize), .int (nI klimit), .int (nI kto), .int (nI kfrom), .int kkind, .int knumber, .int ksign, .int kfault, .int kplace, .long kword, .int ktold, .ref know, .ref kread, .ref kkept, .ref ksnaps, .ref kaside, .ref kname, .ref kreadName, .ref kkeptName, .ref kisKept, .ref konces, .int (nI ksnapMany), .int khasCells, .ref kpoured, .ref kfar, .ref ksides, .int (nI ksideMany), .int kwayDays, .int khasWay, .ref klines, .ref kmet, .int (nI kmetMany), .ref ksunk, .ref ktrying, .int (nI ksunkMany), .int ksending, .int kfleets, .ref ktext, .int (nI ktexts), .int kseed, .ref kline, .ref kwritten, .int (nI klineMany), .int khasWritten, .ref knode, .int (nI knodes), .int (nI konesMany), .int (nI kwithin), .int (nI ktop)]))] H := hP
                          have hD : va_D A [(know, .inl (ky 0, 373, .inl knowF)), (ktape, .inl (ky 0, 940, .inl ktapeF)), (ktrying, .inl (ky 0, 36, .inl g133)), (ksunk, .inl (ky 0, 36, .inl ksunkF)), (o, .inr (12, [.int (nI 0), .ref ktape, .int (nI ktapedG_4), .int (nI ksize), .int (nI klimit), .int (nI kto), .int (nI kfrom), .int kkind, .int knumber, .int ksign, .int kfault, .int kplace, .long kword, .int ktold, .ref know, .ref kread, .ref kkept, .ref ksnaps, .ref kaside, .ref kname, .ref kreadName, .ref kkeptName, .ref kisKept, .ref konces, .int (nI ksnapMany), .int khasCells, .ref kpoured, .ref kfar, .ref ksides, .int (nI ksideMany), .int kwayDays, .int khasWay, .ref klines, .ref kmet, .int (nI kmetMany), .ref ksunk, .ref ktrying, .int (nI ksunkMany), .int ksending, .int kfleets, .ref ktext, .int (nI ktexts), .int kseed, .ref kline, .ref kwritten, .int (nI klineMany), .int khasWritten, .ref knode, .int (nI knodes), .int (nI konesMany), .int (nI kwithin), .int (nI ktop)]))] := hD
                          refine lv_iinc (v := nI (k44 + 1)) (lv' := [(2, .int (nI (k44 + 1))), (5, .int (nI k122)), (4, .int x123), (3, .int (nI k43)), (1, .int (nI ktaped)), (0, .ref o)]) hx hb dX12_sunk_162 hl (k := 3) rfl (show nI k44 + nI 1 = nI (k44 + 1) from nI_add _ _) (by decide) rfl (fun ls hl => ?_)
                          refine lv_iinc (v := nI (k43 + 1)) (lv' := [(3, .int (nI (k43 + 1))), (2, .int (nI (k44 + 1))), (5, .int (nI k122)), (4, .int x123), (1, .int (nI ktaped)), (0, .ref o)]) hx hb dX12_sunk_165 hl (k := 3) rfl (show nI k43 + nI 1 = nI (k43 + 1) from nI_add _ _) (by decide) rfl (fun ls hl => ?_)
                          refine lv_goto (tgt := 74) hx hb dX12_sunk_168 (by decide) ?_
                          exact ih52 (k43 + 1) (k44 + 1) g133 (lf_x_sunk_28 k43 k44 n51 j46 j47 j49 hm53 c54) (lf_x_sunk_29 k43 k44 n51 j46 j47 j49 hm53 c54) nb135 (lf_x_sunk_30 k43 k44 n51 j46 j47 j49 hm53 c54) (lf_x_sunk_31 k43 k44 n51 j46 j47 j49 hm53 c54) _ _ _ hP hD hS (lv_sub hl [0, 1, 4, 5] rfl)
                        · refine lv_goto (tgt := 165) hx hb dX12_sunk_152 (by decide) ?_
                          refine lv_iinc (v := nI (k43 + 1)) (lv' := [(3, .int (nI (k43 + 1))), (5, .int (nI k122)), (4, .int x123), (2, .int (nI k44)), (1, .int (nI ktaped)), (0, .ref o)]) hx hb dX12_sunk_165 hl (k := 2) rfl (show nI k43 + nI 1 = nI (k43 + 1) from nI_add _ _) (by decide) rfl (fun ls hl => ?_)
                          refine lv_goto (tgt := 74) hx hb dX12_sunk_168 (by decide) ?_
                          exact ih52 (k43 + 1) k44 f45 (lf_x_sunk_32 k43 k44 n51 j46 j47 j49 hm53 c54) j47 j48 (lf_x_sunk_33 k43 k44 n51 j46 j47 j49 hm53 c54) (lf_x_sunk_34 k43 k44 n51 j46 j47 j49 hm53 c54) _ _ _ hP hD hS (lv_sub hl [0, 3, 4, 5] rfl)
                      · refine lv_iload hx hb dX12_sunk_96 (lv_at hl 1 rfl) ?_
                        refine lv_if_eq (tgt := 138) hx hb dX12_sunk_98 (by decide) (fun c136 => ?_) (fun c136 => ?_)
                        · refine lv_iconst (v := nI 0) hx hb dX12_sunk_138 (by decide) ?_
                          refine lv_istore (lv' := [(4, .int (nI 0)), (5, .int (nI k122)), (3, .int (nI k43)), (2, .int (nI k44)), (1, .int (nI ktaped)), (0, .ref o)]) hx hb dX12_sunk_139 hl (by decide) rfl (fun ls hl => ?_)
                          refine lv_iinc (v := nI (k122 + 2)) (lv' := [(5, .int (nI (k122 + 2))), (4, .int (nI 0)), (3, .int (nI k43)), (2, .int (nI k44)), (1, .int (nI ktaped)), (0, .ref o)]) hx hb dX12_sunk_141 hl (k := 1) rfl (show nI k122 + nI 2 = nI (k122 + 2) from nI_add _ _) (by decide) rfl (fun ls hl => ?_)
                          refine lv_goto (tgt := 90) hx hb dX12_sunk_144 (by decide) ?_
                          exact ih129 (k122 + 2) (nI 0) (lf_x_sunk_35 ktaped ktapeF k21 n25 k122 n128 iv_ko_0 c8 t11 t12 j22 j23 hall hm27 c28 j124 j126 hm130 c131) (lf_x_sunk_36) (lf_x_sunk_37 ktaped ktapeF k21 n25 k122 n128 iv_ko_0 c8 t11 t12 j22 j23 hall hm27 c28 j124 j126 hm130 c131) (lf_x_sunk_38 ktaped ktapeF k21 n25 k122 n128 iv_ko_0 c8 t11 t12 j22 j23 hall hm27 c28 j124 j126 hm130 c131) _ _ _ hP hD hS (lv_sub hl [0, 1, 2, 3, 4, 5] rfl)
                        · refine lv_aload_n hx hb dX12_sunk_101 rfl (lv_at hl 5 rfl) ?_
                          refine lv_aload_n hx hb dX12_sunk_102 rfl (lv_at hl 5 rfl) ?_
                          refine va_get (D := (dC, dI)) (ci := 12) (v := .ref ktape) (C := RX12) (T := TX12) (N := 52) hx hb hts hin12 hown hK hP 4 rfl rfl 1 (by decide) (hts (.fieldLink RX12 7 "PorridgeSeaModel" "tape" "[I") (List.mem_of_getElem? (i := 2) rfl)) (fun _ h9 => h9) rfl dX12_sunk_103 ?_
                          refine lv_iload hx hb dX12_sunk_106 (lv_at hl 0 rfl) ?_
                          obtain ⟨y137, e138⟩ : ∃ z9, z9 = ktapeF k122 := ⟨_, rfl⟩
                          refine r_iald hx hb hK hP 1 rfl k122 (lf_x_sunk_39 ktaped ktapeF k21 n25 k122 n128 y137 iv_ko_0 c8 t11 t12 j22 j23 hall hm27 c28 j124 j126 hm130 c131 e138) (by decide) y137 e138.symm dX12_sunk_108 ?_
                          obtain ⟨b139, b140⟩ : (0 : Int) ≤ y137.toInt ∧ y137.toInt ≤ 5 := by rw [e138]; exact hall k122 (by omega) (by omega)
                          refine lv_iload_n hx hb dX12_sunk_109 rfl (lv_at hl 2 rfl) ?_
                          refine vp_callSi (W.runV (As := [.int y137, .int (nI k43)]) (rest := []) ⟨hx, hb, hml, hown, hts⟩ (c_x_wouldFloat l dC dI ky o (nI 0) ktape ktapedG_4 ksize klimit kto kfrom kkind knumber ksign kfault kplace kword ktold know kread kkept ksnaps kaside kname kreadName kkeptName kisKept konces ksnapMany khasCells kpoured kfar ksides ksideMany kwayDays khasWay klines kmet kmetMany ksunk ktrying ksunkMany ksending kfleets ktext ktexts kseed kline kwritten klineMany khasWritten knode knodes konesMany kwithin ktop knowF y137 (nI k43) p6 iv_ko_1 iv_ko_2 iv_ko_3 iv_ko_4 iv_ko_5 iv_ko_6 iv_ko_7 iv_ko_8 iv_ko_9 iv_ko_10 iv_ko_11 iv_ko_12 iv_ko_13 iv_ko_14 ab_now (lf_x_sunk_40 ktaped ktapeF k21 n25 k122 n128 y137 iv_ko_0 c8 t11 t12 j22 j23 hall hm27 c28 j124 j126 hm130 c131 e138 b139 b140) (lf_x_sunk_41 k43 k44 n51 j46 j47 j49 hm53 c54)) (cwV 2 hts gX12_sunk_X12_wouldFloat rfl rfl rfl (by decide +kernel) ⟨(Nat.le_of_ble_eq_true rfl), (Nat.le_of_ble_eq_true rfl)⟩) (pre_PV hK hP [4, 0] rfl (ci := 12) (q0 := 4) rfl rfl) rfl rfl hl.1 rfl (lv_room (Nat.le_of_ble_eq_true rfl)) dX12_sunk_110 ⟨(Nat.le_of_ble_eq_true rfl), (Nat.le_of_ble_eq_true rfl)⟩) (fun r141 p142 => ?_)
                          refine lv_aload_n hx hb dX12_sunk_113 rfl (lv_at hl 5 rfl) ?_
                          refine va_get (D := (dC, dI)) (ci := 12) (v := .ref ktape) (C := RX12) (T := TX12) (N := 52) hx hb hts hin12 hown hK hP 4 rfl rfl 1 (by decide) (hts (.fieldLink RX12 7 "PorridgeSeaModel" "tape" "[I") (List.mem_of_getElem? (i := 2) rfl)) (fun _ h9 => h9) rfl dX12_sunk_114 ?_
                          refine lv_iload hx hb dX12_sunk_117 (lv_at hl 0 rfl) ?_
                          refine lv_iconst (v := nI 1) hx hb dX12_sunk_119 (by decide) ?_
                          refine lv_iadd hx hb dX12_sunk_120 ?_
                          refine r_ti (nI (k122 + 1)) (nI_add _ _) ?_
                          obtain ⟨y143, e144⟩ : ∃ z9, z9 = ktapeF (k122 + 1) := ⟨_, rfl⟩
                          refine r_iald hx hb hK hP 1 rfl (k122 + 1) (lf_x_sunk_42 ktaped ktapeF k21 n25 k122 n128 y137 y143 iv_ko_0 c8 t11 t12 j22 j23 hall hm27 c28 j124 j126 hm130 c131 e138 b139 b140 e144) (by decide) y143 e144.symm dX12_sunk_121 ?_
                          refine lv_iconst (v := nI 1) hx hb dX12_sunk_122 (by decide) ?_
                          refine lv_icmp_ne (tgt := 130) hx hb dX12_sunk_123 (by decide) (fun c145 => ?_) (fun c145 => ?_)
                          · refine lv_iconst (v := nI 0) hx hb dX12_sunk_130 (by decide) ?_
                            refine lv_icmp_ne (tgt := 138) hx hb dX12_sunk_131 (by decide) (fun c146 => ?_) (fun c146 => ?_)
                            · refine lv_iconst (v := nI 0) hx hb dX12_sunk_138 (by decide) ?_
                              refine lv_istore (lv' := [(4, .int (nI 0)), (5, .int (nI k122)), (3, .int (nI k43)), (2, .int (nI k44)), (1, .int (nI ktaped)), (0, .ref o)]) hx hb dX12_sunk_139 hl (by decide) rfl (fun ls hl => ?_)
                              refine lv_iinc (v := nI (k122 + 2)) (lv' := [(5, .int (nI (k122 + 2))), (4, .int (nI 0)), (3, .int (nI k43)), (2, .int (nI k44)), (1, .int (nI ktaped)), (0, .ref o)]) hx hb dX12_sunk_141 hl (k := 1) rfl (show nI k122 + nI 2 = nI (k122 + 2) from nI_add _ _) (by decide) rfl (fun ls hl => ?_)
                              refine lv_goto (tgt := 90) hx hb dX12_sunk_144 (by decide) ?_
                              exact ih129 (k122 + 2) (nI 0) (lf_x_sunk_43 ktaped ktapeF k21 n25 k122 n128 y137 y143 iv_ko_0 c8 t11 t12 j22 j23 hall hm27 c28 j124 j126 hm130 c131 e138 b139 b140 e144 c145) (lf_x_sunk_44) (lf_x_sunk_45 ktaped ktapeF k21 n25 k122 n128 y137 y143 iv_ko_0 c8 t11 t12 j22 j23 hall hm27 c28 j124 j126 hm130 c131 e138 b139 b140 e144 c145) (lf_x_sunk_46 ktaped ktapeF k21 n25 k122 n128 y137 y143 iv_ko_0 c8 t11 t12 j22 j23 hall hm27 c28 j124 j126 hm130 c131 e138 b139 b140 e144 c145) _ _ _ hP hD hS (lv_sub hl [0, 1, 2, 3, 4, 5] rfl)
                            · refine lv_iconst (v := nI 1) hx hb dX12_sunk_134 (by decide) ?_
                              refine lv_goto (tgt := 139) hx hb dX12_sunk_135 (by decide) ?_
                              refine lv_istore (lv' := [(4, .int (nI 1)), (5, .int (nI k122)), (3, .int (nI k43)), (2, .int (nI k44)), (1, .int (nI ktaped)), (0, .ref o)]) hx hb dX12_sunk_139 hl (by decide) rfl (fun ls hl => ?_)
                              refine lv_iinc (v := nI (k122 + 2)) (lv' := [(5, .int (nI (k122 + 2))), (4, .int (nI 1)), (3, .int (nI k43)), (2, .int (nI k44)), (1, .int (nI ktaped)), (0, .ref o)]) hx hb dX12_sunk_141 hl (k := 1) rfl (show nI k122 + nI 2 = nI (k122 + 2) from nI_add _ _) (by decide) rfl (fun ls hl => ?_)
                              refine lv_goto (tgt := 90) hx hb dX12_sunk_144 (by decide) ?_
                              exact ih129 (k122 + 2) (nI 1) (lf_x_sunk_47 ktaped ktapeF k21 n25 k122 n128 y137 y143 iv_ko_0 c8 t11 t12 j22 j23 hall hm27 c28 j124 j126 hm130 c131 e138 b139 b140 e144 c145) (lf_x_sunk_48) (lf_x_sunk_49 ktaped ktapeF k21 n25 k122 n128 y137 y143 iv_ko_0 c8 t11 t12 j22 j23 hall hm27 c28 j124 j126 hm130 c131 e138 b139 b140 e144 c145) (lf_x_sunk_50 ktaped ktapeF k21 n25 k122 n128 y137 y143 iv_ko_0 c8 t11 t12 j22 j23 hall hm27 c28 j124 j126 hm130 c131 e138 b139 b140 e144 c145) _ _ _ hP hD hS (lv_sub hl [0, 1, 2, 3, 4, 5] rfl)
                          · refine lv_iconst (v := nI 1) hx hb dX12_sunk_126 (by decide) ?_
                            refine lv_goto (tgt := 131) hx hb dX12_sunk_127 (by decide) ?_
                            refine lv_icmp_ne (tgt := 138) hx hb dX12_sunk_131 (by decide) (fun c147 => ?_) (fun c147 => ?_)
                            · refine lv_iconst (v := nI 0) hx hb dX12_sunk_138 (by decide) ?_
                              refine lv_istore (lv' := [(4, .int (nI 0)), (5, .int (nI k122)), (3, .int (nI k43)), (2, .int (nI k44)), (1, .int (nI ktaped)), (0, .ref o)]) hx hb dX12_sunk_139 hl (by decide) rfl (fun ls hl => ?_)
                              refine lv_iinc (v := nI (k122 + 2)) (lv' := [(5, .int (nI (k122 + 2))), (4, .int (nI 0)), (3, .int (nI k43)), (2, .int (nI k44)), (1, .int (nI ktaped)), (0, .ref o)]) hx hb dX12_sunk_141 hl (k := 1) rfl (show nI k122 + nI 2 = nI (k122 + 2) from nI_add _ _) (by decide) rfl (fun ls hl => ?_)
                              refine lv_goto (tgt := 90) hx hb dX12_sunk_144 (by decide) ?_
                              exact ih129 (k122 + 2) (nI 0) (lf_x_sunk_51 ktaped ktapeF k21 n25 k122 n128 y137 y143 iv_ko_0 c8 t11 t12 j22 j23 hall hm27 c28 j124 j126 hm130 c131 e138 b139 b140 e144 c145) (lf_x_sunk_52) (lf_x_sunk_53 ktaped ktapeF k21 n25 k122 n128 y137 y143 iv_ko_0 c8 t11 t12 j22 j23 hall hm27 c28 j124 j126 hm130 c131 e138 b139 b140 e144 c145) (lf_x_sunk_54 ktaped ktapeF k21 n25 k122 n128 y137 y143 iv_ko_0 c8 t11 t12 j22 j23 hall hm27 c28 j124 j126 hm130 c131 e138 b139 b140 e144 c145) _ _ _ hP hD hS (lv_sub hl [0, 1, 2, 3, 4, 5] rfl)
                            · refine lv_iconst (v := nI 1) hx hb dX12_sunk_134 (by decide) ?_
                              refine lv_goto (tgt := 139) hx hb dX12_sunk_135 (by decide) ?_
                              refine lv_istore (lv' := [(4, .int (nI 1)), (5, .int (nI k122)), (3, .int (nI k43)), (2, .int (nI k44)), (1, .int (nI ktaped)), (0, .ref o)]) hx hb dX12_sunk_139 hl (by decide) rfl (fun ls hl => ?_)
                              refine lv_iinc (v := nI (k122 + 2)) (lv' := [(5, .int (nI (k122 + 2))), (4, .int (nI 1)), (3, .int (nI k43)), (2, .int (nI k44)), (1, .int (nI ktaped)), (0, .ref o)]) hx hb dX12_sunk_141 hl (k := 1) rfl (show nI k122 + nI 2 = nI (k122 + 2) from nI_add _ _) (by decide) rfl (fun ls hl => ?_)
                              refine lv_goto (tgt := 90) hx hb dX12_sunk_144 (by decide) ?_
                              exact ih129 (k122 + 2) (nI 1) (lf_x_sunk_55 ktaped ktapeF k21 n25 k122 n128 y137 y143 iv_ko_0 c8 t11 t12 j22 j23 hall hm27 c28 j124 j126 hm130 c131 e138 b139 b140 e144 c145) (lf_x_sunk_56) (lf_x_sunk_57 ktaped ktapeF k21 n25 k122 n128 y137 y143 iv_ko_0 c8 t11 t12 j22 j23 hall hm27 c28 j124 j126 hm130 c131 e138 b139 b140 e144 c145) (lf_x_sunk_58 ktaped ktapeF k21 n25 k122 n128 y137 y143 iv_ko_0 c8 t11 t12 j22 j23 hall hm27 c28 j124 j126 hm130 c131 e138 b139 b140 e144 c145) _ _ _ hP hD hS (lv_sub hl [0, 1, 2, 3, 4, 5] rfl)
                  exact hL127 ((941 - 0) + 1) 0 r110 (lf_x_sunk_59) p111 (lf_x_sunk_60) (Nat.lt_succ_self _) _ _ _ hP hD hS (lv_sub hl [0, 1, 2, 3, 4, 5] rfl)
            exact hL50 ((36 - 0) + 1) 0 0 ktryingF (lf_x_sunk_61) (lf_x_sunk_62) ab_trying (lf_x_sunk_63) (Nat.lt_succ_self _) _ _ _ hP hD hS (lv_sub hl [0, 1, 2, 3] rfl)
          · refine lv_aload_n hx hb dX12_sunk_37 rfl (lv_at hl 2 rfl) ?_
            refine lv_aload_n hx hb dX12_sunk_38 rfl (lv_at hl 2 rfl) ?_
            refine va_get (D := (dC, dI)) (ci := 12) (v := .ref ktape) (C := RX12) (T := TX12) (N := 52) hx hb hts hin12 hown hK hP 4 rfl rfl 1 (by decide) (hts (.fieldLink RX12 7 "PorridgeSeaModel" "tape" "[I") (List.mem_of_getElem? (i := 2) rfl)) (fun _ h9 => h9) rfl dX12_sunk_39 ?_
            refine lv_iload_n hx hb dX12_sunk_42 rfl (lv_at hl 0 rfl) ?_
            obtain ⟨y148, e149⟩ : ∃ z9, z9 = ktapeF k21 := ⟨_, rfl⟩
            refine r_iald hx hb hK hP 1 rfl k21 (lf_x_sunk_64 ktaped ktapeF k21 n25 y148 iv_ko_0 c8 t11 t12 j22 j23 hall hm27 c28 e149) (by decide) y148 e149.symm dX12_sunk_43 ?_
            refine vp_callSi (W.runV (As := [.int y148]) (rest := []) ⟨hx, hb, hml, hown, hts⟩ (c_x_isBoat l dC dI ky o (nI 0) ktape ktapedG_4 ksize klimit kto kfrom kkind knumber ksign kfault kplace kword ktold know kread kkept ksnaps kaside kname kreadName kkeptName kisKept konces ksnapMany khasCells kpoured kfar ksides ksideMany kwayDays khasWay klines kmet kmetMany ksunk ktrying ksunkMany ksending kfleets ktext ktexts kseed kline kwritten klineMany khasWritten knode knodes konesMany kwithin ktop knowF y148 p6 iv_ko_1 iv_ko_2 iv_ko_3 iv_ko_4 iv_ko_5 iv_ko_6 iv_ko_7 iv_ko_8 iv_ko_9 iv_ko_10 iv_ko_11 iv_ko_12 iv_ko_13 iv_ko_14 ab_now) (cwV 1 hts gX12_sunk_X12_isBoat rfl rfl rfl (by decide +kernel) ⟨(Nat.le_of_ble_eq_true rfl), (Nat.le_of_ble_eq_true rfl)⟩) (pre_PV hK hP [4, 0] rfl (ci := 12) (q0 := 4) rfl rfl) rfl rfl hl.1 rfl (lv_room (Nat.le_of_ble_eq_true rfl)) dX12_sunk_44 ⟨(Nat.le_of_ble_eq_true rfl), (Nat.le_of_ble_eq_true rfl)⟩) (fun r150 p151 => ?_)
            rcases p151 with ⟨rfl, t152, t153, t154⟩ | ⟨rfl, t155⟩
            · refine lv_if_eq (tgt := 62) hx hb dX12_sunk_47 (by decide) (fun c156 => absurd c156 (by decide)) (fun c156 => ?_)
              refine lv_aload_n hx hb dX12_sunk_50 rfl (lv_at hl 2 rfl) ?_
              refine va_get (D := (dC, dI)) (ci := 12) (v := .ref ktape) (C := RX12) (T := TX12) (N := 52) hx hb hts hin12 hown hK hP 4 rfl rfl 1 (by decide) (hts (.fieldLink RX12 7 "PorridgeSeaModel" "tape" "[I") (List.mem_of_getElem? (i := 2) rfl)) (fun _ h9 => h9) rfl dX12_sunk_51 ?_
              refine lv_iload_n hx hb dX12_sunk_54 rfl (lv_at hl 0 rfl) ?_
              refine lv_iconst (v := nI 1) hx hb dX12_sunk_55 (by decide) ?_
              refine lv_iadd hx hb dX12_sunk_56 ?_
              refine r_ti (nI (k21 + 1)) (nI_add _ _) ?_
              obtain ⟨y157, e158⟩ : ∃ z9, z9 = ktapeF (k21 + 1) := ⟨_, rfl⟩
              refine r_iald hx hb hK hP 1 rfl (k21 + 1) (lf_x_sunk_65 ktaped knowF ktapeF k21 n25 y148 y157 iv_ko_0 ab_now c8 t11 t12 j22 j23 hall hm27 c28 e149 t152 t153 t154 e158) (by decide) y157 e158.symm dX12_sunk_57 ?_
              refine lv_iconst (v := nI 1) hx hb dX12_sunk_58 (by decide) ?_
              refine lv_icmp_le (tgt := 64) hx hb dX12_sunk_59 (by decide) (fun c159 => ?_) (fun c159 => ?_)
              · refine lv_iinc (v := nI (k21 + 2)) (lv' := [(2, .int (nI (k21 + 2))), (1, .int (nI ktaped)), (0, .ref o)]) hx hb dX12_sunk_64 hl (k := 0) rfl (show nI k21 + nI 2 = nI (k21 + 2) from nI_add _ _) (by decide) rfl (fun ls hl => ?_)
                refine lv_goto (tgt := 32) hx hb dX12_sunk_67 (by decide) ?_
                exact ih26 (k21 + 2) (lf_x_sunk_66 ktaped knowF ktapeF k21 n25 y148 y157 iv_ko_0 ab_now c8 t11 t12 j22 j23 hall hm27 c28 e149 t152 t153 t154 e158 c159) (lf_x_sunk_67 ktaped knowF ktapeF k21 n25 y148 y157 iv_ko_0 ab_now c8 t11 t12 j22 j23 hall hm27 c28 e149 t152 t153 t154 e158 c159) (lf_x_sunk_68 ktaped knowF ktapeF k21 n25 y148 y157 iv_ko_0 ab_now c8 t11 t12 j22 j23 hall hm27 c28 e149 t152 t153 t154 e158 c159) (lf_x_sunk_69 ktaped knowF ktapeF k21 n25 y148 y157 iv_ko_0 ab_now c8 t11 t12 j22 j23 hall hm27 c28 e149 t152 t153 t154 e158 c159) _ _ _ hP hD hS (lv_sub hl [0, 1, 2] rfl)
              · refine lv_iconst (v := (-1 : Int32)) hx hb dX12_sunk_62 (by decide) ?_
                rw [hQ]
                have hP9 := hP.sub (ws' := [(o, .inr (12, [.int (nI 0), .ref ktape, .int (nI ktapedG_4), .int (nI ksize), .int (nI klimit), .int (nI kto), .int (nI kfrom), .int kkind, .int knumber, .int ksign, .int kfault, .int kplace, .long kword, .int ktold, .ref know, .ref kread, .ref kkept, .ref ksnaps, .ref kaside, .ref kname, .ref kreadName, .ref kkeptName, .ref kisKept, .ref konces, .int (nI ksnapMany), .int khasCells, .ref kpoured, .ref kfar, .ref ksides, .int (nI ksideMany), .int kwayDays, .int khasWay, .ref klines, .ref kmet, .int (nI kmetMany), .ref ksunk, .ref ktrying, .int (nI ksunkMany), .int ksending, .int kfleets, .ref ktext, .int (nI ktexts), .int kseed, .ref kline, .ref kwritten, .int (nI klineMany), .int khasWritten, .ref knode, .int (nI knodes), .int (nI konesMany), .int (nI kwithin), .int (nI ktop)])), (know, .inl (ky 0, 373, .inl knowF)), (ktape, .inl (ky 0, 940, .inl ktapeF)), (ktrying, .inl (ky 0, 36, .inl ktryingF)), (ksunk, .inl (ky 0, 36, .inl ksunkF))]) [4, 0, 1, 2, 3] rfl
                have hD9 := hD.sub (ws' := [(o, .inr (12, [.int (nI 0), .ref ktape, .int (nI ktapedG_4), .int (nI ksize), .int (nI klimit), .int (nI kto), .int (nI kfrom), .int kkind, .int knumber, .int ksign, .int kfault, .int kplace, .long kword, .int ktold, .ref know, .ref kread, .ref kkept, .ref ksnaps, .ref kaside, .ref kname, .ref kreadName, .ref kkeptName, .ref kisKept, .ref konces, .int (nI ksnapMany), .int khasCells, .ref kpoured, .ref kfar, .ref ksides, .int (nI ksideMany), .int kwayDays, .int khasWay, .ref klines, .ref kmet, .int (nI kmetMany), .ref ksunk, .ref ktrying, .int (nI ksunkMany), .int ksending, .int kfleets, .ref ktext, .int (nI ktexts), .int kseed, .ref kline, .ref kwritten, .int (nI klineMany), .int khasWritten, .ref knode, .int (nI knodes), .int (nI konesMany), .int (nI kwithin), .int (nI ktop)])), (know, .inl (ky 0, 373, .inl knowF)), (ktape, .inl (ky 0, 940, .inl ktapeF)), (ktrying, .inl (ky 0, 36, .inl ktryingF)), (ksunk, .inl (ky 0, 36, .inl ksunkF))]) [4, 0, 1, 2, 3] (by decide) rfl
                exact W.iret (v := (-1 : Int32)) hx hb hr (fun t9 ht9 hW9 => ⟨⟨(-1 : Int32), (nI 0, ktapedG_4, ksunkMany, ksending, ktryingF, ksunkF), rfl, ⟨p6, iv_ko_8, ab_trying, ab_sunk, p7⟩, by rw [ht9]; exact hP9, va_K.moved hW9.alike hK, hD9⟩, hS.F ht9⟩) hS.2.2 dX12_sunk_63
            · refine lv_if_eq (tgt := 62) hx hb dX12_sunk_47 (by decide) (fun c160 => ?_) (fun c160 => absurd (by decide) c160)
              refine lv_iconst (v := (-1 : Int32)) hx hb dX12_sunk_62 (by decide) ?_
              rw [hQ]
              have hP9 := hP.sub (ws' := [(o, .inr (12, [.int (nI 0), .ref ktape, .int (nI ktapedG_4), .int (nI ksize), .int (nI klimit), .int (nI kto), .int (nI kfrom), .int kkind, .int knumber, .int ksign, .int kfault, .int kplace, .long kword, .int ktold, .ref know, .ref kread, .ref kkept, .ref ksnaps, .ref kaside, .ref kname, .ref kreadName, .ref kkeptName, .ref kisKept, .ref konces, .int (nI ksnapMany), .int khasCells, .ref kpoured, .ref kfar, .ref ksides, .int (nI ksideMany), .int kwayDays, .int khasWay, .ref klines, .ref kmet, .int (nI kmetMany), .ref ksunk, .ref ktrying, .int (nI ksunkMany), .int ksending, .int kfleets, .ref ktext, .int (nI ktexts), .int kseed, .ref kline, .ref kwritten, .int (nI klineMany), .int khasWritten, .ref knode, .int (nI knodes), .int (nI konesMany), .int (nI kwithin), .int (nI ktop)])), (know, .inl (ky 0, 373, .inl knowF)), (ktape, .inl (ky 0, 940, .inl ktapeF)), (ktrying, .inl (ky 0, 36, .inl ktryingF)), (ksunk, .inl (ky 0, 36, .inl ksunkF))]) [4, 0, 1, 2, 3] rfl
              have hD9 := hD.sub (ws' := [(o, .inr (12, [.int (nI 0), .ref ktape, .int (nI ktapedG_4), .int (nI ksize), .int (nI klimit), .int (nI kto), .int (nI kfrom), .int kkind, .int knumber, .int ksign, .int kfault, .int kplace, .long kword, .int ktold, .ref know, .ref kread, .ref kkept, .ref ksnaps, .ref kaside, .ref kname, .ref kreadName, .ref kkeptName, .ref kisKept, .ref konces, .int (nI ksnapMany), .int khasCells, .ref kpoured, .ref kfar, .ref ksides, .int (nI ksideMany), .int kwayDays, .int khasWay, .ref klines, .ref kmet, .int (nI kmetMany), .ref ksunk, .ref ktrying, .int (nI ksunkMany), .int ksending, .int kfleets, .ref ktext, .int (nI ktexts), .int kseed, .ref kline, .ref kwritten, .int (nI klineMany), .int khasWritten, .ref knode, .int (nI knodes), .int (nI konesMany), .int (nI kwithin), .int (nI ktop)])), (know, .inl (ky 0, 373, .inl knowF)), (ktape, .inl (ky 0, 940, .inl ktapeF)), (ktrying, .inl (ky 0, 36, .inl ktryingF)), (ksunk, .inl (ky 0, 36, .inl ksunkF))]) [4, 0, 1, 2, 3] (by decide) rfl
              exact W.iret (v := (-1 : Int32)) hx hb hr (fun t9 ht9 hW9 => ⟨⟨(-1 : Int32), (nI 0, ktapedG_4, ksunkMany, ksending, ktryingF, ksunkF), rfl, ⟨p6, iv_ko_8, ab_trying, ab_sunk, p7⟩, by rw [ht9]; exact hP9, va_K.moved hW9.alike hK, hD9⟩, hS.F ht9⟩) hS.2.2 dX12_sunk_63
      exact hL24 ((941 - 0) + 1) 0 (lf_x_sunk_70) (lf_x_sunk_71) (lf_x_sunk_72 ktapeF) (Nat.lt_succ_self _) _ _ _ hP hD hS (lv_sub hl [0, 1, 2] rfl)
    · refine lv_if_ne (tgt := 30) hx hb dX12_sunk_25 (by decide) (fun c161 => absurd c161 (by decide)) (fun c161 => ?_)
      refine lv_iconst (v := (-1 : Int32)) hx hb dX12_sunk_28 (by decide) ?_
      rw [hQ]
      have hP9 := hP.sub (ws' := [(o, .inr (12, [.int (nI 0), .ref ktape, .int (nI ktapedG_4), .int (nI ksize), .int (nI klimit), .int (nI kto), .int (nI kfrom), .int kkind, .int knumber, .int ksign, .int kfault, .int kplace, .long kword, .int ktold, .ref know, .ref kread, .ref kkept, .ref ksnaps, .ref kaside, .ref kname, .ref kreadName, .ref kkeptName, .ref kisKept, .ref konces, .int (nI ksnapMany), .int khasCells, .ref kpoured, .ref kfar, .ref ksides, .int (nI ksideMany), .int kwayDays, .int khasWay, .ref klines, .ref kmet, .int (nI kmetMany), .ref ksunk, .ref ktrying, .int (nI ksunkMany), .int ksending, .int kfleets, .ref ktext, .int (nI ktexts), .int kseed, .ref kline, .ref kwritten, .int (nI klineMany), .int khasWritten, .ref knode, .int (nI knodes), .int (nI konesMany), .int (nI kwithin), .int (nI ktop)])), (know, .inl (ky 0, 373, .inl knowF)), (ktape, .inl (ky 0, 940, .inl ktapeF)), (ktrying, .inl (ky 0, 36, .inl ktryingF)), (ksunk, .inl (ky 0, 36, .inl ksunkF))]) [4, 0, 1, 2, 3] rfl
      have hD9 := hD.sub (ws' := [(o, .inr (12, [.int (nI 0), .ref ktape, .int (nI ktapedG_4), .int (nI ksize), .int (nI klimit), .int (nI kto), .int (nI kfrom), .int kkind, .int knumber, .int ksign, .int kfault, .int kplace, .long kword, .int ktold, .ref know, .ref kread, .ref kkept, .ref ksnaps, .ref kaside, .ref kname, .ref kreadName, .ref kkeptName, .ref kisKept, .ref konces, .int (nI ksnapMany), .int khasCells, .ref kpoured, .ref kfar, .ref ksides, .int (nI ksideMany), .int kwayDays, .int khasWay, .ref klines, .ref kmet, .int (nI kmetMany), .ref ksunk, .ref ktrying, .int (nI ksunkMany), .int ksending, .int kfleets, .ref ktext, .int (nI ktexts), .int kseed, .ref kline, .ref kwritten, .int (nI klineMany), .int khasWritten, .ref knode, .int (nI knodes), .int (nI konesMany), .int (nI kwithin), .int (nI ktop)])), (know, .inl (ky 0, 373, .inl knowF)), (ktape, .inl (ky 0, 940, .inl ktapeF)), (ktrying, .inl (ky 0, 36, .inl ktryingF)), (ksunk, .inl (ky 0, 36, .inl ksunkF))]) [4, 0, 1, 2, 3] (by decide) rfl
      exact W.iret (v := (-1 : Int32)) hx hb hr (fun t9 ht9 hW9 => ⟨⟨(-1 : Int32), (nI 0, ktapedG_4, ksunkMany, ksending, ktryingF, ksunkF), rfl, ⟨p6, iv_ko_8, ab_trying, ab_sunk, p7⟩, by rw [ht9]; exact hP9, va_K.moved hW9.alike hK, hD9⟩, hS.F ht9⟩) hS.2.2 dX12_sunk_29
