theorem dX12_readBookLine_0 : decode cX12_readBookLine 0 = .ok (.aload_n 0, 1) := by decide +kernel
theorem dX12_readBookLine_1 : decode cX12_readBookLine 1 = .ok (.bipush 7, 2) := by decide +kernel
theorem dX12_readBookLine_3 : decode cX12_readBookLine 3 = .ok (.invokevirtual 213, 3) := by decide +kernel
theorem dX12_readBookLine_6 : decode cX12_readBookLine 6 = .ok (.ifCond .eq 7, 3) := by decide +kernel
theorem dX12_readBookLine_13 : decode cX12_readBookLine 13 = .ok (.aload_n 0, 1) := by decide +kernel
theorem dX12_readBookLine_14 : decode cX12_readBookLine 14 = .ok (.bipush 16, 2) := by decide +kernel
theorem dX12_readBookLine_16 : decode cX12_readBookLine 16 = .ok (.invokevirtual 213, 3) := by decide +kernel
theorem dX12_readBookLine_19 : decode cX12_readBookLine 19 = .ok (.ifCond .eq 7, 3) := by decide +kernel
theorem dX12_readBookLine_26 : decode cX12_readBookLine 26 = .ok (.aload_n 0, 1) := by decide +kernel
theorem dX12_readBookLine_27 : decode cX12_readBookLine 27 = .ok (.bipush 17, 2) := by decide +kernel
theorem dX12_readBookLine_29 : decode cX12_readBookLine 29 = .ok (.invokevirtual 213, 3) := by decide +kernel
theorem dX12_readBookLine_32 : decode cX12_readBookLine 32 = .ok (.ifCond .eq 7, 3) := by decide +kernel
theorem dX12_readBookLine_39 : decode cX12_readBookLine 39 = .ok (.aload_n 0, 1) := by decide +kernel
theorem dX12_readBookLine_40 : decode cX12_readBookLine 40 = .ok (.bipush 18, 2) := by decide +kernel
theorem dX12_readBookLine_42 : decode cX12_readBookLine 42 = .ok (.invokevirtual 213, 3) := by decide +kernel
theorem dX12_readBookLine_45 : decode cX12_readBookLine 45 = .ok (.ifCond .eq 7, 3) := by decide +kernel
theorem dX12_readBookLine_52 : decode cX12_readBookLine 52 = .ok (.aload_n 0, 1) := by decide +kernel
theorem dX12_readBookLine_53 : decode cX12_readBookLine 53 = .ok (.bipush 19, 2) := by decide +kernel
theorem dX12_readBookLine_55 : decode cX12_readBookLine 55 = .ok (.invokevirtual 213, 3) := by decide +kernel
theorem dX12_readBookLine_58 : decode cX12_readBookLine 58 = .ok (.ifCond .eq 7, 3) := by decide +kernel
theorem dX12_readBookLine_65 : decode cX12_readBookLine 65 = .ok (.iconst 1, 1) := by decide +kernel
theorem dX12_readBookLine_66 : decode cX12_readBookLine 66 = .ok (.istore_n 1, 1) := by decide +kernel
theorem dX12_readBookLine_67 : decode cX12_readBookLine 67 = .ok (.iload_n 1, 1) := by decide +kernel
theorem dX12_readBookLine_68 : decode cX12_readBookLine 68 = .ok (.iconst 1, 1) := by decide +kernel
theorem dX12_readBookLine_69 : decode cX12_readBookLine 69 = .ok (.if_icmp .ne 45, 3) := by decide +kernel
theorem dX12_readBookLine_72 : decode cX12_readBookLine 72 = .ok (.aload_n 0, 1) := by decide +kernel
theorem dX12_readBookLine_73 : decode cX12_readBookLine 73 = .ok (.invokevirtual 178, 3) := by decide +kernel
theorem dX12_readBookLine_76 : decode cX12_readBookLine 76 = .ok (.ifCond .ne 9, 3) := by decide +kernel
theorem dX12_readBookLine_85 : decode cX12_readBookLine 85 = .ok (.aload_n 0, 1) := by decide +kernel
theorem dX12_readBookLine_86 : decode cX12_readBookLine 86 = .ok (.getfield 113, 3) := by decide +kernel
theorem dX12_readBookLine_89 : decode cX12_readBookLine 89 = .ok (.bipush 6, 2) := by decide +kernel
theorem dX12_readBookLine_91 : decode cX12_readBookLine 91 = .ok (.aload_n 0, 1) := by decide +kernel
theorem dX12_readBookLine_92 : decode cX12_readBookLine 92 = .ok (.getfield 98, 3) := by decide +kernel
theorem dX12_readBookLine_95 : decode cX12_readBookLine 95 = .ok (.iconst 3, 1) := by decide +kernel
theorem dX12_readBookLine_96 : decode cX12_readBookLine 96 = .ok (.iaload, 1) := by decide +kernel
theorem dX12_readBookLine_97 : decode cX12_readBookLine 97 = .ok (.aload_n 0, 1) := by decide +kernel
theorem dX12_readBookLine_98 : decode cX12_readBookLine 98 = .ok (.getfield 43, 3) := by decide +kernel
theorem dX12_readBookLine_101 : decode cX12_readBookLine 101 = .ok (.invokestatic 182, 3) := by decide +kernel
theorem dX12_readBookLine_104 : decode cX12_readBookLine 104 = .ok (.iconst (-1), 1) := by decide +kernel
theorem dX12_readBookLine_105 : decode cX12_readBookLine 105 = .ok (.if_icmp .ne 9, 3) := by decide +kernel
theorem dX12_readBookLine_108 : decode cX12_readBookLine 108 = .ok (.aload_n 0, 1) := by decide +kernel
theorem dX12_readBookLine_109 : decode cX12_readBookLine 109 = .ok (.iconst 3, 1) := by decide +kernel
theorem dX12_readBookLine_110 : decode cX12_readBookLine 110 = .ok (.invokevirtual 72, 3) := by decide +kernel
theorem dX12_readBookLine_113 : decode cX12_readBookLine 113 = .ok (.ireturn, 1) := by decide +kernel
theorem dX12_readBookLine_114 : decode cX12_readBookLine 114 = .ok (.aload_n 0, 1) := by decide +kernel
theorem dX12_readBookLine_115 : decode cX12_readBookLine 115 = .ok (.getfield 404, 3) := by decide +kernel
theorem dX12_readBookLine_118 : decode cX12_readBookLine 118 = .ok (.bipush 40, 2) := by decide +kernel
theorem dX12_readBookLine_120 : decode cX12_readBookLine 120 = .ok (.if_icmp .ne 9, 3) := by decide +kernel
theorem dX12_readBookLine_129 : decode cX12_readBookLine 129 = .ok (.iconst 4, 1) := by decide +kernel
theorem dX12_readBookLine_130 : decode cX12_readBookLine 130 = .ok (.aload_n 0, 1) := by decide +kernel
theorem dX12_readBookLine_131 : decode cX12_readBookLine 131 = .ok (.getfield 404, 3) := by decide +kernel
theorem dX12_readBookLine_134 : decode cX12_readBookLine 134 = .ok (.imul, 1) := by decide +kernel
theorem dX12_readBookLine_135 : decode cX12_readBookLine 135 = .ok (.istore_n 2, 1) := by decide +kernel
theorem dX12_readBookLine_136 : decode cX12_readBookLine 136 = .ok (.aload_n 0, 1) := by decide +kernel
theorem dX12_readBookLine_137 : decode cX12_readBookLine 137 = .ok (.getfield 163, 3) := by decide +kernel
theorem dX12_readBookLine_140 : decode cX12_readBookLine 140 = .ok (.iload_n 2, 1) := by decide +kernel
theorem dX12_readBookLine_141 : decode cX12_readBookLine 141 = .ok (.iload_n 1, 1) := by decide +kernel
theorem dX12_readBookLine_142 : decode cX12_readBookLine 142 = .ok (.iastore, 1) := by decide +kernel
theorem dX12_readBookLine_143 : decode cX12_readBookLine 143 = .ok (.aload_n 0, 1) := by decide +kernel
theorem dX12_readBookLine_144 : decode cX12_readBookLine 144 = .ok (.getfield 163, 3) := by decide +kernel
theorem dX12_readBookLine_147 : decode cX12_readBookLine 147 = .ok (.iload_n 2, 1) := by decide +kernel
theorem dX12_readBookLine_148 : decode cX12_readBookLine 148 = .ok (.iconst 1, 1) := by decide +kernel
theorem dX12_readBookLine_149 : decode cX12_readBookLine 149 = .ok (.iadd, 1) := by decide +kernel
theorem dX12_readBookLine_150 : decode cX12_readBookLine 150 = .ok (.iload_n 1, 1) := by decide +kernel
theorem dX12_readBookLine_151 : decode cX12_readBookLine 151 = .ok (.iconst 1, 1) := by decide +kernel
theorem dX12_readBookLine_152 : decode cX12_readBookLine 152 = .ok (.if_icmp .ne 25, 3) := by decide +kernel
theorem dX12_readBookLine_155 : decode cX12_readBookLine 155 = .ok (.aload_n 0, 1) := by decide +kernel
theorem dX12_readBookLine_156 : decode cX12_readBookLine 156 = .ok (.getfield 113, 3) := by decide +kernel
theorem dX12_readBookLine_159 : decode cX12_readBookLine 159 = .ok (.bipush 6, 2) := by decide +kernel
theorem dX12_readBookLine_161 : decode cX12_readBookLine 161 = .ok (.aload_n 0, 1) := by decide +kernel
theorem dX12_readBookLine_162 : decode cX12_readBookLine 162 = .ok (.getfield 98, 3) := by decide +kernel
theorem dX12_readBookLine_165 : decode cX12_readBookLine 165 = .ok (.iconst 3, 1) := by decide +kernel
theorem dX12_readBookLine_166 : decode cX12_readBookLine 166 = .ok (.iaload, 1) := by decide +kernel
theorem dX12_readBookLine_167 : decode cX12_readBookLine 167 = .ok (.aload_n 0, 1) := by decide +kernel
theorem dX12_readBookLine_168 : decode cX12_readBookLine 168 = .ok (.getfield 43, 3) := by decide +kernel
theorem dX12_readBookLine_171 : decode cX12_readBookLine 171 = .ok (.invokestatic 182, 3) := by decide +kernel
theorem dX12_readBookLine_174 : decode cX12_readBookLine 174 = .ok (.goto 4, 3) := by decide +kernel
theorem dX12_readBookLine_178 : decode cX12_readBookLine 178 = .ok (.iastore, 1) := by decide +kernel
theorem dX12_readBookLine_179 : decode cX12_readBookLine 179 = .ok (.aload_n 0, 1) := by decide +kernel
theorem dX12_readBookLine_180 : decode cX12_readBookLine 180 = .ok (.getfield 163, 3) := by decide +kernel
theorem dX12_readBookLine_183 : decode cX12_readBookLine 183 = .ok (.iload_n 2, 1) := by decide +kernel
theorem dX12_readBookLine_184 : decode cX12_readBookLine 184 = .ok (.iconst 2, 1) := by decide +kernel
theorem dX12_readBookLine_185 : decode cX12_readBookLine 185 = .ok (.iadd, 1) := by decide +kernel
theorem dX12_readBookLine_186 : decode cX12_readBookLine 186 = .ok (.iconst 0, 1) := by decide +kernel
theorem dX12_readBookLine_187 : decode cX12_readBookLine 187 = .ok (.iastore, 1) := by decide +kernel
theorem dX12_readBookLine_188 : decode cX12_readBookLine 188 = .ok (.aload_n 0, 1) := by decide +kernel
theorem dX12_readBookLine_189 : decode cX12_readBookLine 189 = .ok (.getfield 163, 3) := by decide +kernel
theorem dX12_readBookLine_192 : decode cX12_readBookLine 192 = .ok (.iload_n 2, 1) := by decide +kernel
theorem dX12_readBookLine_193 : decode cX12_readBookLine 193 = .ok (.iconst 3, 1) := by decide +kernel
theorem dX12_readBookLine_194 : decode cX12_readBookLine 194 = .ok (.iadd, 1) := by decide +kernel
theorem dX12_readBookLine_195 : decode cX12_readBookLine 195 = .ok (.iconst 0, 1) := by decide +kernel
theorem dX12_readBookLine_196 : decode cX12_readBookLine 196 = .ok (.iastore, 1) := by decide +kernel
theorem dX12_readBookLine_197 : decode cX12_readBookLine 197 = .ok (.aload_n 0, 1) := by decide +kernel
theorem dX12_readBookLine_198 : decode cX12_readBookLine 198 = .ok (.invokevirtual 82, 3) := by decide +kernel
theorem dX12_readBookLine_201 : decode cX12_readBookLine 201 = .ok (.iload_n 1, 1) := by decide +kernel
theorem dX12_readBookLine_202 : decode cX12_readBookLine 202 = .ok (.tableswitch 150 0 5 #[38, 59, 150, 150, 90, 120], 38) := by decide +kernel
theorem dX12_readBookLine_261 : decode cX12_readBookLine 261 = .ok (.aload_n 0, 1) := by decide +kernel
theorem dX12_readBookLine_262 : decode cX12_readBookLine 262 = .ok (.iload_n 2, 1) := by decide +kernel
theorem dX12_readBookLine_263 : decode cX12_readBookLine 263 = .ok (.iconst 2, 1) := by decide +kernel
theorem dX12_readBookLine_264 : decode cX12_readBookLine 264 = .ok (.iadd, 1) := by decide +kernel
theorem dX12_readBookLine_265 : decode cX12_readBookLine 265 = .ok (.aload_n 0, 1) := by decide +kernel
theorem dX12_readBookLine_266 : decode cX12_readBookLine 266 = .ok (.bipush 12, 2) := by decide +kernel
theorem dX12_readBookLine_268 : decode cX12_readBookLine 268 = .ok (.bipush 15, 2) := by decide +kernel
theorem dX12_readBookLine_270 : decode cX12_readBookLine 270 = .ok (.invokevirtual 398, 3) := by decide +kernel
theorem dX12_readBookLine_273 : decode cX12_readBookLine 273 = .ok (.invokevirtual 401, 3) := by decide +kernel
theorem dX12_readBookLine_276 : decode cX12_readBookLine 276 = .ok (.ifCond .eq 14, 3) := by decide +kernel
theorem dX12_readBookLine_279 : decode cX12_readBookLine 279 = .ok (.aload_n 0, 1) := by decide +kernel
theorem dX12_readBookLine_280 : decode cX12_readBookLine 280 = .ok (.invokevirtual 234, 3) := by decide +kernel
theorem dX12_readBookLine_283 : decode cX12_readBookLine 283 = .ok (.ifCond .eq 7, 3) := by decide +kernel
theorem dX12_readBookLine_286 : decode cX12_readBookLine 286 = .ok (.iconst 1, 1) := by decide +kernel
theorem dX12_readBookLine_287 : decode cX12_readBookLine 287 = .ok (.goto 4, 3) := by decide +kernel
theorem dX12_readBookLine_291 : decode cX12_readBookLine 291 = .ok (.ireturn, 1) := by decide +kernel
theorem dX12_readBookLine_290 : decode cX12_readBookLine 290 = .ok (.iconst 0, 1) := by decide +kernel
theorem dX12_readBookLine_123 : decode cX12_readBookLine 123 = .ok (.aload_n 0, 1) := by decide +kernel
theorem dX12_readBookLine_124 : decode cX12_readBookLine 124 = .ok (.iconst 4, 1) := by decide +kernel
theorem dX12_readBookLine_125 : decode cX12_readBookLine 125 = .ok (.invokevirtual 72, 3) := by decide +kernel
theorem dX12_readBookLine_128 : decode cX12_readBookLine 128 = .ok (.ireturn, 1) := by decide +kernel
theorem dX12_readBookLine_79 : decode cX12_readBookLine 79 = .ok (.aload_n 0, 1) := by decide +kernel
theorem dX12_readBookLine_80 : decode cX12_readBookLine 80 = .ok (.iconst 1, 1) := by decide +kernel
theorem dX12_readBookLine_81 : decode cX12_readBookLine 81 = .ok (.invokevirtual 72, 3) := by decide +kernel
theorem dX12_readBookLine_84 : decode cX12_readBookLine 84 = .ok (.ireturn, 1) := by decide +kernel
theorem dX12_readBookLine_61 : decode cX12_readBookLine 61 = .ok (.iconst 5, 1) := by decide +kernel
theorem dX12_readBookLine_62 : decode cX12_readBookLine 62 = .ok (.goto 4, 3) := by decide +kernel
theorem dX12_readBookLine_177 : decode cX12_readBookLine 177 = .ok (.iconst 0, 1) := by decide +kernel
theorem dX12_readBookLine_322 : decode cX12_readBookLine 322 = .ok (.aload_n 0, 1) := by decide +kernel
theorem dX12_readBookLine_323 : decode cX12_readBookLine 323 = .ok (.iload_n 2, 1) := by decide +kernel
theorem dX12_readBookLine_324 : decode cX12_readBookLine 324 = .ok (.iconst 1, 1) := by decide +kernel
theorem dX12_readBookLine_325 : decode cX12_readBookLine 325 = .ok (.iadd, 1) := by decide +kernel
theorem dX12_readBookLine_326 : decode cX12_readBookLine 326 = .ok (.aload_n 0, 1) := by decide +kernel
theorem dX12_readBookLine_327 : decode cX12_readBookLine 327 = .ok (.iconst 1, 1) := by decide +kernel
theorem dX12_readBookLine_328 : decode cX12_readBookLine 328 = .ok (.bipush 60, 2) := by decide +kernel
theorem dX12_readBookLine_330 : decode cX12_readBookLine 330 = .ok (.invokevirtual 200, 3) := by decide +kernel
theorem dX12_readBookLine_333 : decode cX12_readBookLine 333 = .ok (.invokevirtual 401, 3) := by decide +kernel
theorem dX12_readBookLine_336 : decode cX12_readBookLine 336 = .ok (.ifCond .eq 14, 3) := by decide +kernel
theorem dX12_readBookLine_339 : decode cX12_readBookLine 339 = .ok (.aload_n 0, 1) := by decide +kernel
theorem dX12_readBookLine_340 : decode cX12_readBookLine 340 = .ok (.invokevirtual 234, 3) := by decide +kernel
theorem dX12_readBookLine_343 : decode cX12_readBookLine 343 = .ok (.ifCond .eq 7, 3) := by decide +kernel
theorem dX12_readBookLine_346 : decode cX12_readBookLine 346 = .ok (.iconst 1, 1) := by decide +kernel
theorem dX12_readBookLine_347 : decode cX12_readBookLine 347 = .ok (.goto 4, 3) := by decide +kernel
theorem dX12_readBookLine_351 : decode cX12_readBookLine 351 = .ok (.ireturn, 1) := by decide +kernel
theorem dX12_readBookLine_350 : decode cX12_readBookLine 350 = .ok (.iconst 0, 1) := by decide +kernel
theorem dX12_readBookLine_48 : decode cX12_readBookLine 48 = .ok (.iconst 4, 1) := by decide +kernel
theorem dX12_readBookLine_49 : decode cX12_readBookLine 49 = .ok (.goto 17, 3) := by decide +kernel
theorem dX12_readBookLine_292 : decode cX12_readBookLine 292 = .ok (.aload_n 0, 1) := by decide +kernel
theorem dX12_readBookLine_293 : decode cX12_readBookLine 293 = .ok (.iload_n 2, 1) := by decide +kernel
theorem dX12_readBookLine_294 : decode cX12_readBookLine 294 = .ok (.iconst 1, 1) := by decide +kernel
theorem dX12_readBookLine_295 : decode cX12_readBookLine 295 = .ok (.iadd, 1) := by decide +kernel
theorem dX12_readBookLine_296 : decode cX12_readBookLine 296 = .ok (.aload_n 0, 1) := by decide +kernel
theorem dX12_readBookLine_297 : decode cX12_readBookLine 297 = .ok (.iconst 1, 1) := by decide +kernel
theorem dX12_readBookLine_298 : decode cX12_readBookLine 298 = .ok (.bipush 20, 2) := by decide +kernel
theorem dX12_readBookLine_300 : decode cX12_readBookLine 300 = .ok (.invokevirtual 200, 3) := by decide +kernel
theorem dX12_readBookLine_303 : decode cX12_readBookLine 303 = .ok (.invokevirtual 401, 3) := by decide +kernel
theorem dX12_readBookLine_306 : decode cX12_readBookLine 306 = .ok (.ifCond .eq 14, 3) := by decide +kernel
theorem dX12_readBookLine_309 : decode cX12_readBookLine 309 = .ok (.aload_n 0, 1) := by decide +kernel
theorem dX12_readBookLine_310 : decode cX12_readBookLine 310 = .ok (.invokevirtual 234, 3) := by decide +kernel
theorem dX12_readBookLine_313 : decode cX12_readBookLine 313 = .ok (.ifCond .eq 7, 3) := by decide +kernel
theorem dX12_readBookLine_316 : decode cX12_readBookLine 316 = .ok (.iconst 1, 1) := by decide +kernel
theorem dX12_readBookLine_317 : decode cX12_readBookLine 317 = .ok (.goto 4, 3) := by decide +kernel
theorem dX12_readBookLine_321 : decode cX12_readBookLine 321 = .ok (.ireturn, 1) := by decide +kernel
theorem dX12_readBookLine_320 : decode cX12_readBookLine 320 = .ok (.iconst 0, 1) := by decide +kernel
theorem dX12_readBookLine_35 : decode cX12_readBookLine 35 = .ok (.iconst 3, 1) := by decide +kernel
theorem dX12_readBookLine_36 : decode cX12_readBookLine 36 = .ok (.goto 30, 3) := by decide +kernel
theorem dX12_readBookLine_352 : decode cX12_readBookLine 352 = .ok (.aload_n 0, 1) := by decide +kernel
theorem dX12_readBookLine_353 : decode cX12_readBookLine 353 = .ok (.iload_n 2, 1) := by decide +kernel
theorem dX12_readBookLine_354 : decode cX12_readBookLine 354 = .ok (.invokevirtual 410, 3) := by decide +kernel
theorem dX12_readBookLine_357 : decode cX12_readBookLine 357 = .ok (.ifCond .eq 14, 3) := by decide +kernel
theorem dX12_readBookLine_360 : decode cX12_readBookLine 360 = .ok (.aload_n 0, 1) := by decide +kernel
theorem dX12_readBookLine_361 : decode cX12_readBookLine 361 = .ok (.invokevirtual 234, 3) := by decide +kernel
theorem dX12_readBookLine_364 : decode cX12_readBookLine 364 = .ok (.ifCond .eq 7, 3) := by decide +kernel
theorem dX12_readBookLine_367 : decode cX12_readBookLine 367 = .ok (.iconst 1, 1) := by decide +kernel
theorem dX12_readBookLine_368 : decode cX12_readBookLine 368 = .ok (.goto 4, 3) := by decide +kernel
theorem dX12_readBookLine_372 : decode cX12_readBookLine 372 = .ok (.ireturn, 1) := by decide +kernel
theorem dX12_readBookLine_371 : decode cX12_readBookLine 371 = .ok (.iconst 0, 1) := by decide +kernel
theorem dX12_readBookLine_22 : decode cX12_readBookLine 22 = .ok (.iconst 2, 1) := by decide +kernel
theorem dX12_readBookLine_23 : decode cX12_readBookLine 23 = .ok (.goto 43, 3) := by decide +kernel
theorem dX12_readBookLine_9 : decode cX12_readBookLine 9 = .ok (.iconst 0, 1) := by decide +kernel
theorem dX12_readBookLine_10 : decode cX12_readBookLine 10 = .ok (.goto 56, 3) := by decide +kernel
theorem dX12_readBookLine_240 : decode cX12_readBookLine 240 = .ok (.aload_n 0, 1) := by decide +kernel
theorem dX12_readBookLine_241 : decode cX12_readBookLine 241 = .ok (.iload_n 2, 1) := by decide +kernel
theorem dX12_readBookLine_242 : decode cX12_readBookLine 242 = .ok (.invokevirtual 407, 3) := by decide +kernel
theorem dX12_readBookLine_245 : decode cX12_readBookLine 245 = .ok (.ifCond .eq 14, 3) := by decide +kernel
theorem dX12_readBookLine_248 : decode cX12_readBookLine 248 = .ok (.aload_n 0, 1) := by decide +kernel
theorem dX12_readBookLine_249 : decode cX12_readBookLine 249 = .ok (.invokevirtual 234, 3) := by decide +kernel
theorem dX12_readBookLine_252 : decode cX12_readBookLine 252 = .ok (.ifCond .eq 7, 3) := by decide +kernel
theorem dX12_readBookLine_255 : decode cX12_readBookLine 255 = .ok (.iconst 1, 1) := by decide +kernel
theorem dX12_readBookLine_256 : decode cX12_readBookLine 256 = .ok (.goto 4, 3) := by decide +kernel
theorem dX12_readBookLine_260 : decode cX12_readBookLine 260 = .ok (.ireturn, 1) := by decide +kernel
theorem dX12_readBookLine_259 : decode cX12_readBookLine 259 = .ok (.iconst 0, 1) := by decide +kernel
set_option maxRecDepth 100000 in
theorem ggX12_readBookLine_X12_isWord : GoodIn wsX12_readBookLine wsX12_isWord := goodIn_r _ [10, 11, 3, 12, 13, 9, 14, 15, 16, 17, 18, 19, 86, 87, 88, 89, 90, 91, 92, 93, 94, 95, 96, 97, 98, 99, 100, 101, 102, 103, 104, 105, 106, 107, 108, 109, 110, 111, 112, 113, 114, 115, 116, 117, 118, 119, 120, 121, 122, 123, 124, 125, 126, 127, 128, 129, 130, 131, 132, 133, 134, 135, 136, 137] rfl (by decide +kernel)
set_option maxRecDepth 100000 in
theorem ggX12_readBookLine_X12_isName : GoodIn wsX12_readBookLine wsX12_isName := goodIn_r _ [23, 11, 3, 12, 13, 9, 14, 15, 16, 17, 18, 19, 86, 87, 88, 89, 90, 91, 92, 93, 94, 95, 96, 97, 98, 99, 100, 101, 102, 103, 104, 105, 106, 107, 108, 109, 110, 111, 112, 113, 114, 115, 116, 117, 118, 119, 120, 121, 122, 123, 124, 125, 126, 127, 128, 129, 130, 131, 132, 133, 134, 135, 136, 137] rfl (by decide +kernel)
set_option maxRecDepth 100000 in
theorem ggX12_readBookLine_X12_findIn : GoodIn wsX12_readBookLine wsX12_findIn := goodIn_r _ [33] rfl (by decide +kernel)
set_option maxRecDepth 100000 in
theorem ggX12_readBookLine_X12_bad : GoodIn wsX12_readBookLine wsX12_bad := goodIn_r _ [27, 11, 28, 29, 30, 86, 87, 88, 89, 90, 91, 92, 93, 94, 95, 96, 97, 98, 99, 100, 101, 102, 103, 104, 105, 106, 107, 108, 109, 110, 111, 112, 113, 114, 115, 116, 117, 118, 119, 120, 121, 122, 123, 124, 125, 126, 127, 128, 129, 130, 131, 132, 133, 134, 135, 136, 137] rfl (by decide +kernel)
set_option maxRecDepth 100000 in
theorem ggX12_readBookLine_X12_go : GoodIn wsX12_readBookLine wsX12_go := goodIn_r _ [37, 38, 39, 40, 29, 41, 11, 42, 3, 43, 18, 19, 44, 45, 9, 46, 47, 48, 49, 50, 51, 52, 53, 86, 87, 88, 89, 90, 91, 92, 93, 94, 95, 96, 97, 98, 99, 100, 101, 102, 103, 104, 105, 106, 107, 108, 109, 110, 111, 112, 113, 114, 115, 116, 117, 118, 119, 120, 121, 122, 123, 124, 125, 126, 127, 128, 129, 130, 131, 132, 133, 134, 135, 136, 137] rfl (by decide +kernel)
set_option maxRecDepth 100000 in
theorem ggX12_readBookLine_X12_readOneOf : GoodIn wsX12_readBookLine wsX12_readOneOf := goodIn_r _ [61, 62, 6, 7, 8, 9, 10, 11, 3, 12, 13, 14, 15, 16, 17, 18, 19, 24, 25, 26, 27, 28, 29, 30, 34, 35, 36, 37, 38, 39, 40, 41, 42, 43, 44, 45, 46, 47, 48, 49, 50, 51, 52, 53, 86, 87, 88, 89, 90, 91, 92, 93, 94, 95, 96, 97, 98, 99, 100, 101, 102, 103, 104, 105, 106, 107, 108, 109, 110, 111, 112, 113, 114, 115, 116, 117, 118, 119, 120, 121, 122, 123, 124, 125, 126, 127, 128, 129, 130, 131, 132, 133, 134, 135, 136, 137] rfl (by decide +kernel)
set_option maxRecDepth 100000 in
theorem ggX12_readBookLine_X12_keep : GoodIn wsX12_readBookLine wsX12_keep := goodIn_r _ [66, 5, 62, 86, 87, 88, 89, 90, 91, 92, 93, 94, 95, 96, 97, 98, 99, 100, 101, 102, 103, 104, 105, 106, 107, 108, 109, 110, 111, 112, 113, 114, 115, 116, 117, 118, 119, 120, 121, 122, 123, 124, 125, 126, 127, 128, 129, 130, 131, 132, 133, 134, 135, 136, 137] rfl (by decide +kernel)
set_option maxRecDepth 100000 in
theorem ggX12_readBookLine_X12_readEnd : GoodIn wsX12_readBookLine wsX12_readEnd := goodIn_r _ [77, 78, 79, 80, 9, 81, 11, 42, 24, 25, 26, 27, 28, 29, 30, 34, 35, 36, 37, 38, 39, 40, 41, 3, 43, 18, 19, 44, 45, 46, 47, 48, 49, 50, 51, 52, 53, 86, 87, 88, 89, 90, 91, 92, 93, 94, 95, 96, 97, 98, 99, 100, 101, 102, 103, 104, 105, 106, 107, 108, 109, 110, 111, 112, 113, 114, 115, 116, 117, 118, 119, 120, 121, 122, 123, 124, 125, 126, 127, 128, 129, 130, 131, 132, 133, 134, 135, 136, 137] rfl (by decide +kernel)
set_option maxRecDepth 100000 in
theorem ggX12_readBookLine_X12_readNumber : GoodIn wsX12_readBookLine wsX12_readNumber := goodIn_r _ [70, 11, 43, 62, 24, 25, 26, 9, 27, 28, 29, 30, 71, 72, 73, 34, 35, 36, 37, 38, 39, 40, 41, 42, 3, 18, 19, 44, 45, 46, 47, 48, 49, 50, 51, 52, 53, 86, 87, 88, 89, 90, 91, 92, 93, 94, 95, 96, 97, 98, 99, 100, 101, 102, 103, 104, 105, 106, 107, 108, 109, 110, 111, 112, 113, 114, 115, 116, 117, 118, 119, 120, 121, 122, 123, 124, 125, 126, 127, 128, 129, 130, 131, 132, 133, 134, 135, 136, 137] rfl (by decide +kernel)
set_option maxRecDepth 100000 in
theorem ggX12_readBookLine_X12_readPour : GoodIn wsX12_readBookLine wsX12_readPour := goodIn_r _ [85, 67, 68, 69, 9, 70, 11, 43, 62, 24, 25, 26, 27, 28, 29, 30, 71, 72, 73, 34, 35, 36, 37, 38, 39, 40, 41, 42, 3, 18, 19, 44, 45, 46, 47, 48, 49, 50, 51, 52, 53, 63, 64, 65, 66, 5, 86, 87, 88, 89, 90, 91, 92, 93, 94, 95, 96, 97, 98, 99, 100, 101, 102, 103, 104, 105, 106, 107, 108, 109, 110, 111, 112, 113, 114, 115, 116, 117, 118, 119, 120, 121, 122, 123, 124, 125, 126, 127, 128, 129, 130, 131, 132, 133, 134, 135, 136, 137] rfl (by decide +kernel)
set_option maxRecDepth 100000 in
theorem ggX12_readBookLine_X12_readStir : GoodIn wsX12_readBookLine wsX12_readStir := goodIn_r _ [57, 58, 59, 60, 9, 61, 62, 6, 7, 8, 10, 11, 3, 12, 13, 14, 15, 16, 17, 18, 19, 24, 25, 26, 27, 28, 29, 30, 34, 35, 36, 37, 38, 39, 40, 41, 42, 43, 44, 45, 46, 47, 48, 49, 50, 51, 52, 53, 63, 64, 65, 66, 5, 67, 68, 69, 70, 71, 72, 73, 86, 87, 88, 89, 90, 91, 92, 93, 94, 95, 96, 97, 98, 99, 100, 101, 102, 103, 104, 105, 106, 107, 108, 109, 110, 111, 112, 113, 114, 115, 116, 117, 118, 119, 120, 121, 122, 123, 124, 125, 126, 127, 128, 129, 130, 131, 132, 133, 134, 135, 136, 137] rfl (by decide +kernel)
set_option maxRecDepth 100000 in
theorem gX12_readBookLine_X12_isWord : GoodIn wsX12_readBookLine (wsV RX12 213 RX12 yX12_isWord wsX12_isWord) := goodIn_app (goodIn_of _ (by decide +kernel)) ggX12_readBookLine_X12_isWord
set_option maxRecDepth 100000 in
theorem gX12_readBookLine_X12_isName : GoodIn wsX12_readBookLine (wsV RX12 178 RX12 yX12_isName wsX12_isName) := goodIn_app (goodIn_of _ (by decide +kernel)) ggX12_readBookLine_X12_isName
set_option maxRecDepth 100000 in
theorem gX12_readBookLine_X12_findIn : GoodIn wsX12_readBookLine (va_wsS RX12 182 yX12_findIn wsX12_findIn) := goodIn_app (goodIn_of _ (by decide +kernel)) ggX12_readBookLine_X12_findIn
set_option maxRecDepth 100000 in
theorem gX12_readBookLine_X12_bad : GoodIn wsX12_readBookLine (wsV RX12 72 RX12 yX12_bad wsX12_bad) := goodIn_app (goodIn_of _ (by decide +kernel)) ggX12_readBookLine_X12_bad
set_option maxRecDepth 100000 in
theorem gX12_readBookLine_X12_go : GoodIn wsX12_readBookLine (wsV RX12 82 RX12 yX12_go wsX12_go) := goodIn_app (goodIn_of _ (by decide +kernel)) ggX12_readBookLine_X12_go
set_option maxRecDepth 100000 in
theorem gX12_readBookLine_X12_readOneOf : GoodIn wsX12_readBookLine (wsV RX12 398 RX12 yX12_readOneOf wsX12_readOneOf) := goodIn_app (goodIn_of _ (by decide +kernel)) ggX12_readBookLine_X12_readOneOf
set_option maxRecDepth 100000 in
theorem gX12_readBookLine_X12_keep : GoodIn wsX12_readBookLine (wsV RX12 401 RX12 yX12_keep wsX12_keep) := goodIn_app (goodIn_of _ (by decide +kernel)) ggX12_readBookLine_X12_keep
set_option maxRecDepth 100000 in
theorem gX12_readBookLine_X12_readEnd : GoodIn wsX12_readBookLine (wsV RX12 234 RX12 yX12_readEnd wsX12_readEnd) := goodIn_app (goodIn_of _ (by decide +kernel)) ggX12_readBookLine_X12_readEnd
set_option maxRecDepth 100000 in
theorem gX12_readBookLine_X12_readNumber : GoodIn wsX12_readBookLine (wsV RX12 200 RX12 yX12_readNumber wsX12_readNumber) := goodIn_app (goodIn_of _ (by decide +kernel)) ggX12_readBookLine_X12_readNumber
set_option maxRecDepth 100000 in
theorem gX12_readBookLine_X12_readPour : GoodIn wsX12_readBookLine (wsV RX12 410 RX12 yX12_readPour wsX12_readPour) := goodIn_app (goodIn_of _ (by decide +kernel)) ggX12_readBookLine_X12_readPour
set_option maxRecDepth 100000 in
theorem gX12_readBookLine_X12_readStir : GoodIn wsX12_readBookLine (wsV RX12 407 RX12 yX12_readStir wsX12_readStir) := goodIn_app (goodIn_of _ (by decide +kernel)) ggX12_readBookLine_X12_readStir
