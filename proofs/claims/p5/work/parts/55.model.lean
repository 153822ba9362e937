theorem dX12_holds_0 : decode cX12_holds 0 = .ok (.sipush 133, 3) := by decide +kernel
theorem dX12_holds_3 : decode cX12_holds 3 = .ok (.iconst 4, 1) := by decide +kernel
theorem dX12_holds_4 : decode cX12_holds 4 = .ok (.iload_n 1, 1) := by decide +kernel
theorem dX12_holds_5 : decode cX12_holds 5 = .ok (.imul, 1) := by decide +kernel
theorem dX12_holds_6 : decode cX12_holds 6 = .ok (.iadd, 1) := by decide +kernel
theorem dX12_holds_7 : decode cX12_holds 7 = .ok (.istore_n 3, 1) := by decide +kernel
theorem dX12_holds_8 : decode cX12_holds 8 = .ok (.aload_n 0, 1) := by decide +kernel
theorem dX12_holds_9 : decode cX12_holds 9 = .ok (.getfield 98, 3) := by decide +kernel
theorem dX12_holds_12 : decode cX12_holds 12 = .ok (.iload_n 3, 1) := by decide +kernel
theorem dX12_holds_13 : decode cX12_holds 13 = .ok (.iconst 1, 1) := by decide +kernel
theorem dX12_holds_14 : decode cX12_holds 14 = .ok (.iadd, 1) := by decide +kernel
theorem dX12_holds_15 : decode cX12_holds 15 = .ok (.iaload, 1) := by decide +kernel
theorem dX12_holds_16 : decode cX12_holds 16 = .ok (.istore 4, 2) := by decide +kernel
theorem dX12_holds_18 : decode cX12_holds 18 = .ok (.aload_n 0, 1) := by decide +kernel
theorem dX12_holds_19 : decode cX12_holds 19 = .ok (.getfield 98, 3) := by decide +kernel
theorem dX12_holds_22 : decode cX12_holds 22 = .ok (.iload_n 3, 1) := by decide +kernel
theorem dX12_holds_23 : decode cX12_holds 23 = .ok (.iconst 2, 1) := by decide +kernel
theorem dX12_holds_24 : decode cX12_holds 24 = .ok (.iadd, 1) := by decide +kernel
theorem dX12_holds_25 : decode cX12_holds 25 = .ok (.iaload, 1) := by decide +kernel
theorem dX12_holds_26 : decode cX12_holds 26 = .ok (.istore 5, 2) := by decide +kernel
theorem dX12_holds_28 : decode cX12_holds 28 = .ok (.aload_n 0, 1) := by decide +kernel
theorem dX12_holds_29 : decode cX12_holds 29 = .ok (.getfield 98, 3) := by decide +kernel
theorem dX12_holds_32 : decode cX12_holds 32 = .ok (.iload_n 3, 1) := by decide +kernel
theorem dX12_holds_33 : decode cX12_holds 33 = .ok (.iaload, 1) := by decide +kernel
theorem dX12_holds_34 : decode cX12_holds 34 = .ok (.lookupswitch 192 #[(1, 66), (2, 82), (3, 108), (73, 134), (74, 140), (75, 146), (76, 169)], 66) := by decide +kernel
theorem dX12_holds_100 : decode cX12_holds 100 = .ok (.aload_n 0, 1) := by decide +kernel
theorem dX12_holds_101 : decode cX12_holds 101 = .ok (.iload 4, 2) := by decide +kernel
theorem dX12_holds_103 : decode cX12_holds 103 = .ok (.iload_n 2, 1) := by decide +kernel
theorem dX12_holds_104 : decode cX12_holds 104 = .ok (.invokevirtual 466, 3) := by decide +kernel
theorem dX12_holds_107 : decode cX12_holds 107 = .ok (.ifCond .ne 7, 3) := by decide +kernel
theorem dX12_holds_114 : decode cX12_holds 114 = .ok (.iconst 0, 1) := by decide +kernel
theorem dX12_holds_115 : decode cX12_holds 115 = .ok (.ireturn, 1) := by decide +kernel
theorem dX12_holds_110 : decode cX12_holds 110 = .ok (.iconst 1, 1) := by decide +kernel
theorem dX12_holds_111 : decode cX12_holds 111 = .ok (.goto 4, 3) := by decide +kernel
theorem dX12_holds_116 : decode cX12_holds 116 = .ok (.aload_n 0, 1) := by decide +kernel
theorem dX12_holds_117 : decode cX12_holds 117 = .ok (.iload 4, 2) := by decide +kernel
theorem dX12_holds_119 : decode cX12_holds 119 = .ok (.iload_n 2, 1) := by decide +kernel
theorem dX12_holds_120 : decode cX12_holds 120 = .ok (.invokevirtual 466, 3) := by decide +kernel
theorem dX12_holds_123 : decode cX12_holds 123 = .ok (.ifCond .eq 17, 3) := by decide +kernel
theorem dX12_holds_140 : decode cX12_holds 140 = .ok (.iconst 0, 1) := by decide +kernel
theorem dX12_holds_141 : decode cX12_holds 141 = .ok (.ireturn, 1) := by decide +kernel
theorem dX12_holds_126 : decode cX12_holds 126 = .ok (.aload_n 0, 1) := by decide +kernel
theorem dX12_holds_127 : decode cX12_holds 127 = .ok (.iload 5, 2) := by decide +kernel
theorem dX12_holds_129 : decode cX12_holds 129 = .ok (.iload_n 2, 1) := by decide +kernel
theorem dX12_holds_130 : decode cX12_holds 130 = .ok (.invokevirtual 466, 3) := by decide +kernel
theorem dX12_holds_133 : decode cX12_holds 133 = .ok (.ifCond .eq 7, 3) := by decide +kernel
theorem dX12_holds_136 : decode cX12_holds 136 = .ok (.iconst 1, 1) := by decide +kernel
theorem dX12_holds_137 : decode cX12_holds 137 = .ok (.goto 4, 3) := by decide +kernel
theorem dX12_holds_142 : decode cX12_holds 142 = .ok (.aload_n 0, 1) := by decide +kernel
theorem dX12_holds_143 : decode cX12_holds 143 = .ok (.iload 4, 2) := by decide +kernel
theorem dX12_holds_145 : decode cX12_holds 145 = .ok (.iload_n 2, 1) := by decide +kernel
theorem dX12_holds_146 : decode cX12_holds 146 = .ok (.invokevirtual 466, 3) := by decide +kernel
theorem dX12_holds_149 : decode cX12_holds 149 = .ok (.ifCond .ne 13, 3) := by decide +kernel
theorem dX12_holds_162 : decode cX12_holds 162 = .ok (.iconst 1, 1) := by decide +kernel
theorem dX12_holds_163 : decode cX12_holds 163 = .ok (.goto 4, 3) := by decide +kernel
theorem dX12_holds_167 : decode cX12_holds 167 = .ok (.ireturn, 1) := by decide +kernel
theorem dX12_holds_152 : decode cX12_holds 152 = .ok (.aload_n 0, 1) := by decide +kernel
theorem dX12_holds_153 : decode cX12_holds 153 = .ok (.iload 5, 2) := by decide +kernel
theorem dX12_holds_155 : decode cX12_holds 155 = .ok (.iload_n 2, 1) := by decide +kernel
theorem dX12_holds_156 : decode cX12_holds 156 = .ok (.invokevirtual 466, 3) := by decide +kernel
theorem dX12_holds_159 : decode cX12_holds 159 = .ok (.ifCond .eq 7, 3) := by decide +kernel
theorem dX12_holds_166 : decode cX12_holds 166 = .ok (.iconst 0, 1) := by decide +kernel
theorem dX12_holds_168 : decode cX12_holds 168 = .ok (.aload_n 0, 1) := by decide +kernel
theorem dX12_holds_169 : decode cX12_holds 169 = .ok (.iload_n 2, 1) := by decide +kernel
theorem dX12_holds_170 : decode cX12_holds 170 = .ok (.invokevirtual 246, 3) := by decide +kernel
theorem dX12_holds_173 : decode cX12_holds 173 = .ok (.ireturn, 1) := by decide +kernel
theorem dX12_holds_174 : decode cX12_holds 174 = .ok (.aload_n 0, 1) := by decide +kernel
theorem dX12_holds_175 : decode cX12_holds 175 = .ok (.iload_n 2, 1) := by decide +kernel
theorem dX12_holds_176 : decode cX12_holds 176 = .ok (.invokevirtual 266, 3) := by decide +kernel
theorem dX12_holds_179 : decode cX12_holds 179 = .ok (.ireturn, 1) := by decide +kernel
theorem dX12_holds_180 : decode cX12_holds 180 = .ok (.aload_n 0, 1) := by decide +kernel
theorem dX12_holds_181 : decode cX12_holds 181 = .ok (.aload_n 0, 1) := by decide +kernel
theorem dX12_holds_182 : decode cX12_holds 182 = .ok (.getfield 98, 3) := by decide +kernel
theorem dX12_holds_185 : decode cX12_holds 185 = .ok (.bipush 113, 2) := by decide +kernel
theorem dX12_holds_187 : decode cX12_holds 187 = .ok (.iload_n 2, 1) := by decide +kernel
theorem dX12_holds_188 : decode cX12_holds 188 = .ok (.iadd, 1) := by decide +kernel
theorem dX12_holds_189 : decode cX12_holds 189 = .ok (.iaload, 1) := by decide +kernel
theorem dX12_holds_190 : decode cX12_holds 190 = .ok (.invokevirtual 243, 3) := by decide +kernel
theorem dX12_holds_193 : decode cX12_holds 193 = .ok (.iconst (-1), 1) := by decide +kernel
theorem dX12_holds_194 : decode cX12_holds 194 = .ok (.if_icmp .eq 7, 3) := by decide +kernel
theorem dX12_holds_201 : decode cX12_holds 201 = .ok (.iconst 0, 1) := by decide +kernel
theorem dX12_holds_202 : decode cX12_holds 202 = .ok (.ireturn, 1) := by decide +kernel
theorem dX12_holds_197 : decode cX12_holds 197 = .ok (.iconst 1, 1) := by decide +kernel
theorem dX12_holds_198 : decode cX12_holds 198 = .ok (.goto 4, 3) := by decide +kernel
theorem dX12_holds_203 : decode cX12_holds 203 = .ok (.aload_n 0, 1) := by decide +kernel
theorem dX12_holds_204 : decode cX12_holds 204 = .ok (.getfield 98, 3) := by decide +kernel
theorem dX12_holds_207 : decode cX12_holds 207 = .ok (.bipush 113, 2) := by decide +kernel
theorem dX12_holds_209 : decode cX12_holds 209 = .ok (.iload_n 2, 1) := by decide +kernel
theorem dX12_holds_210 : decode cX12_holds 210 = .ok (.iadd, 1) := by decide +kernel
theorem dX12_holds_211 : decode cX12_holds 211 = .ok (.iaload, 1) := by decide +kernel
theorem dX12_holds_212 : decode cX12_holds 212 = .ok (.aload_n 0, 1) := by decide +kernel
theorem dX12_holds_213 : decode cX12_holds 213 = .ok (.getfield 98, 3) := by decide +kernel
theorem dX12_holds_216 : decode cX12_holds 216 = .ok (.bipush 107, 2) := by decide +kernel
theorem dX12_holds_218 : decode cX12_holds 218 = .ok (.iload 4, 2) := by decide +kernel
theorem dX12_holds_220 : decode cX12_holds 220 = .ok (.iadd, 1) := by decide +kernel
theorem dX12_holds_221 : decode cX12_holds 221 = .ok (.iaload, 1) := by decide +kernel
theorem dX12_holds_222 : decode cX12_holds 222 = .ok (.invokestatic 329, 3) := by decide +kernel
theorem dX12_holds_225 : decode cX12_holds 225 = .ok (.ireturn, 1) := by decide +kernel
theorem dX12_holds_226 : decode cX12_holds 226 = .ok (.aload_n 0, 1) := by decide +kernel
theorem dX12_holds_227 : decode cX12_holds 227 = .ok (.getfield 98, 3) := by decide +kernel
theorem dX12_holds_230 : decode cX12_holds 230 = .ok (.iload_n 3, 1) := by decide +kernel
theorem dX12_holds_231 : decode cX12_holds 231 = .ok (.iaload, 1) := by decide +kernel
theorem dX12_holds_232 : decode cX12_holds 232 = .ok (.bipush 50, 2) := by decide +kernel
theorem dX12_holds_234 : decode cX12_holds 234 = .ok (.isub, 1) := by decide +kernel
theorem dX12_holds_235 : decode cX12_holds 235 = .ok (.istore 6, 2) := by decide +kernel
theorem dX12_holds_237 : decode cX12_holds 237 = .ok (.iload 6, 2) := by decide +kernel
theorem dX12_holds_239 : decode cX12_holds 239 = .ok (.bipush 27, 2) := by decide +kernel
theorem dX12_holds_241 : decode cX12_holds 241 = .ok (.if_icmp .ne 15, 3) := by decide +kernel
theorem dX12_holds_256 : decode cX12_holds 256 = .ok (.iload 6, 2) := by decide +kernel
theorem dX12_holds_258 : decode cX12_holds 258 = .ok (.bipush 28, 2) := by decide +kernel
theorem dX12_holds_260 : decode cX12_holds 260 = .ok (.if_icmp .ne 15, 3) := by decide +kernel
theorem dX12_holds_275 : decode cX12_holds 275 = .ok (.iload 6, 2) := by decide +kernel
theorem dX12_holds_277 : decode cX12_holds 277 = .ok (.bipush 29, 2) := by decide +kernel
theorem dX12_holds_279 : decode cX12_holds 279 = .ok (.if_icmp .ne 15, 3) := by decide +kernel
theorem dX12_holds_294 : decode cX12_holds 294 = .ok (.iload_n 2, 1) := by decide +kernel
theorem dX12_holds_295 : decode cX12_holds 295 = .ok (.istore 7, 2) := by decide +kernel
theorem dX12_holds_297 : decode cX12_holds 297 = .ok (.aload_n 0, 1) := by decide +kernel
theorem dX12_holds_298 : decode cX12_holds 298 = .ok (.getfield 98, 3) := by decide +kernel
theorem dX12_holds_301 : decode cX12_holds 301 = .ok (.iload_n 3, 1) := by decide +kernel
theorem dX12_holds_302 : decode cX12_holds 302 = .ok (.iconst 3, 1) := by decide +kernel
theorem dX12_holds_303 : decode cX12_holds 303 = .ok (.iadd, 1) := by decide +kernel
theorem dX12_holds_304 : decode cX12_holds 304 = .ok (.iaload, 1) := by decide +kernel
theorem dX12_holds_305 : decode cX12_holds 305 = .ok (.bipush 60, 2) := by decide +kernel
theorem dX12_holds_307 : decode cX12_holds 307 = .ok (.if_icmp .ne 18, 3) := by decide +kernel
theorem dX12_holds_325 : decode cX12_holds 325 = .ok (.aload_n 0, 1) := by decide +kernel
theorem dX12_holds_326 : decode cX12_holds 326 = .ok (.getfield 98, 3) := by decide +kernel
theorem dX12_holds_329 : decode cX12_holds 329 = .ok (.iload_n 3, 1) := by decide +kernel
theorem dX12_holds_330 : decode cX12_holds 330 = .ok (.iconst 3, 1) := by decide +kernel
theorem dX12_holds_331 : decode cX12_holds 331 = .ok (.iadd, 1) := by decide +kernel
theorem dX12_holds_332 : decode cX12_holds 332 = .ok (.iaload, 1) := by decide +kernel
theorem dX12_holds_333 : decode cX12_holds 333 = .ok (.bipush 61, 2) := by decide +kernel
theorem dX12_holds_335 : decode cX12_holds 335 = .ok (.if_icmp .ne 18, 3) := by decide +kernel
theorem dX12_holds_353 : decode cX12_holds 353 = .ok (.iload 7, 2) := by decide +kernel
theorem dX12_holds_355 : decode cX12_holds 355 = .ok (.iload 5, 2) := by decide +kernel
theorem dX12_holds_357 : decode cX12_holds 357 = .ok (.if_icmp .le 7, 3) := by decide +kernel
theorem dX12_holds_364 : decode cX12_holds 364 = .ok (.iconst 0, 1) := by decide +kernel
theorem dX12_holds_365 : decode cX12_holds 365 = .ok (.ireturn, 1) := by decide +kernel
theorem dX12_holds_360 : decode cX12_holds 360 = .ok (.iconst 1, 1) := by decide +kernel
theorem dX12_holds_361 : decode cX12_holds 361 = .ok (.goto 4, 3) := by decide +kernel
theorem dX12_holds_338 : decode cX12_holds 338 = .ok (.iload 7, 2) := by decide +kernel
theorem dX12_holds_340 : decode cX12_holds 340 = .ok (.iload 5, 2) := by decide +kernel
theorem dX12_holds_342 : decode cX12_holds 342 = .ok (.if_icmp .ne 7, 3) := by decide +kernel
theorem dX12_holds_349 : decode cX12_holds 349 = .ok (.iconst 0, 1) := by decide +kernel
theorem dX12_holds_350 : decode cX12_holds 350 = .ok (.goto 15, 3) := by decide +kernel
theorem dX12_holds_345 : decode cX12_holds 345 = .ok (.iconst 1, 1) := by decide +kernel
theorem dX12_holds_346 : decode cX12_holds 346 = .ok (.goto 19, 3) := by decide +kernel
theorem dX12_holds_310 : decode cX12_holds 310 = .ok (.iload 7, 2) := by decide +kernel
theorem dX12_holds_312 : decode cX12_holds 312 = .ok (.iload 5, 2) := by decide +kernel
theorem dX12_holds_314 : decode cX12_holds 314 = .ok (.if_icmp .ge 7, 3) := by decide +kernel
theorem dX12_holds_321 : decode cX12_holds 321 = .ok (.iconst 0, 1) := by decide +kernel
theorem dX12_holds_322 : decode cX12_holds 322 = .ok (.goto 43, 3) := by decide +kernel
theorem dX12_holds_317 : decode cX12_holds 317 = .ok (.iconst 1, 1) := by decide +kernel
theorem dX12_holds_318 : decode cX12_holds 318 = .ok (.goto 47, 3) := by decide +kernel
theorem dX12_holds_282 : decode cX12_holds 282 = .ok (.aload_n 0, 1) := by decide +kernel
theorem dX12_holds_283 : decode cX12_holds 283 = .ok (.getfield 98, 3) := by decide +kernel
theorem dX12_holds_286 : decode cX12_holds 286 = .ok (.bipush 119, 2) := by decide +kernel
theorem dX12_holds_288 : decode cX12_holds 288 = .ok (.iload_n 2, 1) := by decide +kernel
theorem dX12_holds_289 : decode cX12_holds 289 = .ok (.iadd, 1) := by decide +kernel
theorem dX12_holds_290 : decode cX12_holds 290 = .ok (.iaload, 1) := by decide +kernel
theorem dX12_holds_291 : decode cX12_holds 291 = .ok (.goto 4, 3) := by decide +kernel
theorem dX12_holds_263 : decode cX12_holds 263 = .ok (.aload_n 0, 1) := by decide +kernel
theorem dX12_holds_264 : decode cX12_holds 264 = .ok (.getfield 98, 3) := by decide +kernel
theorem dX12_holds_267 : decode cX12_holds 267 = .ok (.bipush 125, 2) := by decide +kernel
theorem dX12_holds_269 : decode cX12_holds 269 = .ok (.iload_n 2, 1) := by decide +kernel
theorem dX12_holds_270 : decode cX12_holds 270 = .ok (.iadd, 1) := by decide +kernel
theorem dX12_holds_271 : decode cX12_holds 271 = .ok (.iaload, 1) := by decide +kernel
theorem dX12_holds_272 : decode cX12_holds 272 = .ok (.goto 23, 3) := by decide +kernel
theorem dX12_holds_244 : decode cX12_holds 244 = .ok (.aload_n 0, 1) := by decide +kernel
theorem dX12_holds_245 : decode cX12_holds 245 = .ok (.getfield 98, 3) := by decide +kernel
theorem dX12_holds_248 : decode cX12_holds 248 = .ok (.bipush 55, 2) := by decide +kernel
theorem dX12_holds_250 : decode cX12_holds 250 = .ok (.iload_n 2, 1) := by decide +kernel
theorem dX12_holds_251 : decode cX12_holds 251 = .ok (.iadd, 1) := by decide +kernel
theorem dX12_holds_252 : decode cX12_holds 252 = .ok (.iaload, 1) := by decide +kernel
theorem dX12_holds_253 : decode cX12_holds 253 = .ok (.goto 42, 3) := by decide +kernel
set_option maxRecDepth 100000 in
theorem ggX12_holds_X12_holds : GoodIn wsX12_holds wsX12_holds := goodIn_r _ [0, 1, 2, 3, 4, 5, 6, 7, 8, 9, 10, 11, 12, 13, 14, 15, 16, 17, 18, 19, 20, 21, 22, 23, 24, 25, 26, 27, 28, 29, 30, 31, 32, 33, 34, 35, 36, 37, 38, 39, 40, 41, 42, 43, 44, 45, 46, 47, 48, 49, 50, 51, 52, 53, 54, 55, 56, 57, 58, 59, 60, 61, 62, 63, 64, 65, 66, 67, 68, 69, 70, 71, 72, 73, 74, 75, 76, 77, 78, 79, 80, 81, 82, 83] rfl (by decide +kernel)
set_option maxRecDepth 100000 in
theorem ggX12_holds_X12_isEaten : GoodIn wsX12_holds wsX12_isEaten := goodIn_r _ [9, 1, 32, 33, 34, 35, 36, 37, 38, 39, 40, 41, 42, 43, 44, 45, 46, 47, 48, 49, 50, 51, 52, 53, 54, 55, 56, 57, 58, 59, 60, 61, 62, 63, 64, 65, 66, 67, 68, 69, 70, 71, 72, 73, 74, 75, 76, 77, 78, 79, 80, 81, 82, 83] rfl (by decide +kernel)
set_option maxRecDepth 100000 in
theorem ggX12_holds_X12_isAfloat : GoodIn wsX12_holds wsX12_isAfloat := goodIn_r _ [13, 1, 6, 7, 8, 5, 9, 14, 15, 16, 17, 18, 19, 20, 21, 22, 23, 24, 25, 32, 33, 34, 35, 36, 37, 38, 39, 40, 41, 42, 43, 44, 45, 46, 47, 48, 49, 50, 51, 52, 53, 54, 55, 56, 57, 58, 59, 60, 61, 62, 63, 64, 65, 66, 67, 68, 69, 70, 71, 72, 73, 74, 75, 76, 77, 78, 79, 80, 81, 82, 83] rfl (by decide +kernel)
set_option maxRecDepth 100000 in
theorem ggX12_holds_X12_lumpIn : GoodIn wsX12_holds wsX12_lumpIn := goodIn_r _ [25, 1, 32, 33, 34, 35, 36, 37, 38, 39, 40, 41, 42, 43, 44, 45, 46, 47, 48, 49, 50, 51, 52, 53, 54, 55, 56, 57, 58, 59, 60, 61, 62, 63, 64, 65, 66, 67, 68, 69, 70, 71, 72, 73, 74, 75, 76, 77, 78, 79, 80, 81, 82, 83] rfl (by decide +kernel)
set_option maxRecDepth 100000 in
theorem ggX12_holds_X12_areNear : GoodIn wsX12_holds wsX12_areNear := goodIn_r _ [28, 29, 30, 5, 31] rfl (by decide +kernel)
set_option maxRecDepth 100000 in
theorem gX12_holds_X12_holds : GoodIn wsX12_holds (wsV RX12 466 RX12 yX12_holds wsX12_holds) := goodIn_app (goodIn_of _ (by decide +kernel)) ggX12_holds_X12_holds
set_option maxRecDepth 100000 in
theorem gX12_holds_X12_isEaten : GoodIn wsX12_holds (wsV RX12 246 RX12 yX12_isEaten wsX12_isEaten) := goodIn_app (goodIn_of _ (by decide +kernel)) ggX12_holds_X12_isEaten
set_option maxRecDepth 100000 in
theorem gX12_holds_X12_isAfloat : GoodIn wsX12_holds (wsV RX12 266 RX12 yX12_isAfloat wsX12_isAfloat) := goodIn_app (goodIn_of _ (by decide +kernel)) ggX12_holds_X12_isAfloat
set_option maxRecDepth 100000 in
theorem gX12_holds_X12_lumpIn : GoodIn wsX12_holds (wsV RX12 243 RX12 yX12_lumpIn wsX12_lumpIn) := goodIn_app (goodIn_of _ (by decide +kernel)) ggX12_holds_X12_lumpIn
set_option maxRecDepth 100000 in
theorem gX12_holds_X12_areNear : GoodIn wsX12_holds (va_wsS RX12 329 yX12_areNear wsX12_areNear) := goodIn_app (goodIn_of _ (by decide +kernel)) ggX12_holds_X12_areNear
set_option maxRecDepth 20000 in
theorem lf_x_holds_1 (knowF : Nat → Int32) (nR : Nat) (kq : Nat) (y1 : Int32) (ab_now : NB knowF) (sb_now : SB knowF) (hk60 : kq < 60) (hkn : kq < nR + 1) (e2 : y1 = knowF ((133 + (4 * kq)) + 1)) : ((133 + (4 * kq)) + 1) < 373 := by
  have b_y1 := ia_b y1
  try simp only [ia_lt, ia_le, ia_eq, ia_m1, ia_0, ia_1, ne_eq, true_and, and_true, false_and, and_false, or_false, false_or, or_true, true_or, not_true_eq_false, not_false_eq_true] at *
  all_goals omega
set_option maxRecDepth 20000 in
theorem lf_x_holds_2 (knowF : Nat → Int32) (nR : Nat) (kq : Nat) (y1 : Int32) (y3 : Int32) (ab_now : NB knowF) (sb_now : SB knowF) (hk60 : kq < 60) (hkn : kq < nR + 1) (e2 : y1 = knowF ((133 + (4 * kq)) + 1)) (e4 : y3 = knowF ((133 + (4 * kq)) + 2)) : ((133 + (4 * kq)) + 2) < 373 := by
  have b_y1 := ia_b y1
  have b_y3 := ia_b y3
  try simp only [ia_lt, ia_le, ia_eq, ia_m1, ia_0, ia_1, ne_eq, true_and, and_true, false_and, and_false, or_false, false_or, or_true, true_or, not_true_eq_false, not_false_eq_true] at *
  all_goals omega
set_option maxRecDepth 20000 in
theorem lf_x_holds_3 (knowF : Nat → Int32) (nR : Nat) (kq : Nat) (y1 : Int32) (y3 : Int32) (y5 : Int32) (ab_now : NB knowF) (sb_now : SB knowF) (hk60 : kq < 60) (hkn : kq < nR + 1) (e2 : y1 = knowF ((133 + (4 * kq)) + 1)) (e4 : y3 = knowF ((133 + (4 * kq)) + 2)) (e6 : y5 = knowF (133 + (4 * kq))) : (133 + (4 * kq)) < 373 := by
  have b_y1 := ia_b y1
  have b_y3 := ia_b y3
  have b_y5 := ia_b y5
  try simp only [ia_lt, ia_le, ia_eq, ia_m1, ia_0, ia_1, ne_eq, true_and, and_true, false_and, and_false, or_false, false_or, or_true, true_or, not_true_eq_false, not_false_eq_true] at *
  all_goals omega
set_option maxRecDepth 20000 in
theorem lf_x_holds_4 (knowF : Nat → Int32) (nR : Nat) (kq : Nat) (y1 : Int32) (y3 : Int32) (y5 : Int32) (ab_now : NB knowF) (sb_now : SB knowF) (hk60 : kq < 60) (hkn : kq < nR + 1) (e2 : y1 = knowF ((133 + (4 * kq)) + 1)) (e4 : y3 = knowF ((133 + (4 * kq)) + 2)) (e6 : y5 = knowF (133 + (4 * kq))) (hn8 : ¬ y5 = nI 1 ∨ (0 ≤ y1.toInt ∧ y1.toInt < (kq : Int))) (hn9 : (¬ y5 = nI 2 ∧ ¬ y5 = nI 3) ∨ (0 ≤ y1.toInt ∧ y1.toInt < (kq : Int) ∧ 0 ≤ y3.toInt ∧ y3.toInt < (kq : Int))) (hn10 : ¬ y5 = nI 76 ∨ (0 ≤ y1.toInt ∧ y1.toInt < 6)) (c11 : y5 = nI 1) : 0 ≤ y1.toInt ∧ y1.toInt < ((60 : Nat) : Int) := by
  have b_y1 := ia_b y1
  have b_y3 := ia_b y3
  have b_y5 := ia_b y5
  try have k_0 := ia_n 1 (by first | decide | omega)
  try have k_1 := ia_n 2 (by first | decide | omega)
  try have k_2 := ia_n 3 (by first | decide | omega)
  try have k_3 := ia_n 76 (by first | decide | omega)
  try simp only [ia_lt, ia_le, ia_eq, ia_m1, ia_0, ia_1, ne_eq, true_and, and_true, false_and, and_false, or_false, false_or, or_true, true_or, not_true_eq_false, not_false_eq_true] at *
  all_goals omega
set_option maxRecDepth 20000 in
theorem lf_x_holds_5 (knowF : Nat → Int32) (nR : Nat) (kq : Nat) (y1 : Int32) (y3 : Int32) (y5 : Int32) (n19 : Nat) (ab_now : NB knowF) (sb_now : SB knowF) (hk60 : kq < 60) (hkn : kq < nR + 1) (e2 : y1 = knowF ((133 + (4 * kq)) + 1)) (e4 : y3 = knowF ((133 + (4 * kq)) + 2)) (e6 : y5 = knowF (133 + (4 * kq))) (hn8 : ¬ y5 = nI 1 ∨ (0 ≤ y1.toInt ∧ y1.toInt < (kq : Int))) (hn9 : (¬ y5 = nI 2 ∧ ¬ y5 = nI 3) ∨ (0 ≤ y1.toInt ∧ y1.toInt < (kq : Int) ∧ 0 ≤ y3.toInt ∧ y3.toInt < (kq : Int))) (hn10 : ¬ y5 = nI 76 ∨ (0 ≤ y1.toInt ∧ y1.toInt < 6)) (c11 : y5 = nI 1) (h20 : n19 < 60) (e21 : y1 = nI n19) : n19 < nR := by
  have b_y1 := ia_b y1
  have b_y3 := ia_b y3
  have b_y5 := ia_b y5
  try have k_0 := ia_n 1 (by first | decide | omega)
  try have k_1 := ia_n 2 (by first | decide | omega)
  try have k_2 := ia_n 3 (by first | decide | omega)
  try have k_3 := ia_n 76 (by first | decide | omega)
  try have k_4 := ia_n n19 (by first | decide | omega)
  try simp only [ia_lt, ia_le, ia_eq, ia_m1, ia_0, ia_1, ne_eq, true_and, and_true, false_and, and_false, or_false, false_or, or_true, true_or, not_true_eq_false, not_false_eq_true] at *
  all_goals omega
set_option maxRecDepth 20000 in
theorem lf_x_holds_6   : (nI 0) = nI 0 ∨ (nI 0) = nI 1 := by
  try have k_0 := ia_n 0 (by first | decide | omega)
  try have k_1 := ia_n 1 (by first | decide | omega)
  try simp only [ia_lt, ia_le, ia_eq, ia_m1, ia_0, ia_1, ne_eq, true_and, and_true, false_and, and_false, or_false, false_or, or_true, true_or, not_true_eq_false, not_false_eq_true] at *
  all_goals omega
set_option maxRecDepth 20000 in
theorem lf_x_holds_7   : (nI 1) = nI 0 ∨ (nI 1) = nI 1 := by
  try have k_0 := ia_n 1 (by first | decide | omega)
  try have k_1 := ia_n 0 (by first | decide | omega)
  try simp only [ia_lt, ia_le, ia_eq, ia_m1, ia_0, ia_1, ne_eq, true_and, and_true, false_and, and_false, or_false, false_or, or_true, true_or, not_true_eq_false, not_false_eq_true] at *
  all_goals omega
set_option maxRecDepth 20000 in
theorem lf_x_holds_8 (knowF : Nat → Int32) (nR : Nat) (kq : Nat) (y1 : Int32) (y3 : Int32) (y5 : Int32) (ab_now : NB knowF) (sb_now : SB knowF) (hk60 : kq < 60) (hkn : kq < nR + 1) (e2 : y1 = knowF ((133 + (4 * kq)) + 1)) (e4 : y3 = knowF ((133 + (4 * kq)) + 2)) (e6 : y5 = knowF (133 + (4 * kq))) (hn8 : ¬ y5 = nI 1 ∨ (0 ≤ y1.toInt ∧ y1.toInt < (kq : Int))) (hn9 : (¬ y5 = nI 2 ∧ ¬ y5 = nI 3) ∨ (0 ≤ y1.toInt ∧ y1.toInt < (kq : Int) ∧ 0 ≤ y3.toInt ∧ y3.toInt < (kq : Int))) (hn10 : ¬ y5 = nI 76 ∨ (0 ≤ y1.toInt ∧ y1.toInt < 6)) (c12 : y5 = nI 2) : 0 ≤ y1.toInt ∧ y1.toInt < ((60 : Nat) : Int) := by
  have b_y1 := ia_b y1
  have b_y3 := ia_b y3
  have b_y5 := ia_b y5
  try have k_0 := ia_n 1 (by first | decide | omega)
  try have k_1 := ia_n 2 (by first | decide | omega)
  try have k_2 := ia_n 3 (by first | decide | omega)
  try have k_3 := ia_n 76 (by first | decide | omega)
  try simp only [ia_lt, ia_le, ia_eq, ia_m1, ia_0, ia_1, ne_eq, true_and, and_true, false_and, and_false, or_false, false_or, or_true, true_or, not_true_eq_false, not_false_eq_true] at *
  all_goals omega
set_option maxRecDepth 20000 in
theorem lf_x_holds_9 (knowF : Nat → Int32) (nR : Nat) (kq : Nat) (y1 : Int32) (y3 : Int32) (y5 : Int32) (n25 : Nat) (ab_now : NB knowF) (sb_now : SB knowF) (hk60 : kq < 60) (hkn : kq < nR + 1) (e2 : y1 = knowF ((133 + (4 * kq)) + 1)) (e4 : y3 = knowF ((133 + (4 * kq)) + 2)) (e6 : y5 = knowF (133 + (4 * kq))) (hn8 : ¬ y5 = nI 1 ∨ (0 ≤ y1.toInt ∧ y1.toInt < (kq : Int))) (hn9 : (¬ y5 = nI 2 ∧ ¬ y5 = nI 3) ∨ (0 ≤ y1.toInt ∧ y1.toInt < (kq : Int) ∧ 0 ≤ y3.toInt ∧ y3.toInt < (kq : Int))) (hn10 : ¬ y5 = nI 76 ∨ (0 ≤ y1.toInt ∧ y1.toInt < 6)) (c12 : y5 = nI 2) (h26 : n25 < 60) (e27 : y1 = nI n25) : n25 < nR := by
  have b_y1 := ia_b y1
  have b_y3 := ia_b y3
  have b_y5 := ia_b y5
  try have k_0 := ia_n 1 (by first | decide | omega)
  try have k_1 := ia_n 2 (by first | decide | omega)
  try have k_2 := ia_n 3 (by first | decide | omega)
  try have k_3 := ia_n 76 (by first | decide | omega)
  try have k_4 := ia_n n25 (by first | decide | omega)
  try simp only [ia_lt, ia_le, ia_eq, ia_m1, ia_0, ia_1, ne_eq, true_and, and_true, false_and, and_false, or_false, false_or, or_true, true_or, not_true_eq_false, not_false_eq_true] at *
  all_goals omega
set_option maxRecDepth 20000 in
theorem lf_x_holds_10   : (nI 0) = nI 0 ∨ (nI 0) = nI 1 := by
  try have k_0 := ia_n 0 (by first | decide | omega)
  try have k_1 := ia_n 1 (by first | decide | omega)
  try simp only [ia_lt, ia_le, ia_eq, ia_m1, ia_0, ia_1, ne_eq, true_and, and_true, false_and, and_false, or_false, false_or, or_true, true_or, not_true_eq_false, not_false_eq_true] at *
  all_goals omega
set_option maxRecDepth 20000 in
theorem lf_x_holds_11 (knowF : Nat → Int32) (nR : Nat) (kq : Nat) (y1 : Int32) (y3 : Int32) (y5 : Int32) (n25 : Nat) (ab_now : NB knowF) (sb_now : SB knowF) (hk60 : kq < 60) (hkn : kq < nR + 1) (e2 : y1 = knowF ((133 + (4 * kq)) + 1)) (e4 : y3 = knowF ((133 + (4 * kq)) + 2)) (e6 : y5 = knowF (133 + (4 * kq))) (hn8 : ¬ y5 = nI 1 ∨ (0 ≤ y1.toInt ∧ y1.toInt < (kq : Int))) (hn9 : (¬ y5 = nI 2 ∧ ¬ y5 = nI 3) ∨ (0 ≤ y1.toInt ∧ y1.toInt < (kq : Int) ∧ 0 ≤ y3.toInt ∧ y3.toInt < (kq : Int))) (hn10 : ¬ y5 = nI 76 ∨ (0 ≤ y1.toInt ∧ y1.toInt < 6)) (c12 : y5 = nI 2) (h26 : n25 < 60) (e27 : y1 = nI n25) : 0 ≤ y3.toInt ∧ y3.toInt < ((60 : Nat) : Int) := by
  have b_y1 := ia_b y1
  have b_y3 := ia_b y3
  have b_y5 := ia_b y5
  try have k_0 := ia_n 1 (by first | decide | omega)
  try have k_1 := ia_n 2 (by first | decide | omega)
  try have k_2 := ia_n 3 (by first | decide | omega)
  try have k_3 := ia_n 76 (by first | decide | omega)
  try have k_4 := ia_n n25 (by first | decide | omega)
  try simp only [ia_lt, ia_le, ia_eq, ia_m1, ia_0, ia_1, ne_eq, true_and, and_true, false_and, and_false, or_false, false_or, or_true, true_or, not_true_eq_false, not_false_eq_true] at *
  all_goals omega
set_option maxRecDepth 20000 in
theorem lf_x_holds_12 (knowF : Nat → Int32) (nR : Nat) (kq : Nat) (y1 : Int32) (y3 : Int32) (y5 : Int32) (n25 : Nat) (n31 : Nat) (ab_now : NB knowF) (sb_now : SB knowF) (hk60 : kq < 60) (hkn : kq < nR + 1) (e2 : y1 = knowF ((133 + (4 * kq)) + 1)) (e4 : y3 = knowF ((133 + (4 * kq)) + 2)) (e6 : y5 = knowF (133 + (4 * kq))) (hn8 : ¬ y5 = nI 1 ∨ (0 ≤ y1.toInt ∧ y1.toInt < (kq : Int))) (hn9 : (¬ y5 = nI 2 ∧ ¬ y5 = nI 3) ∨ (0 ≤ y1.toInt ∧ y1.toInt < (kq : Int) ∧ 0 ≤ y3.toInt ∧ y3.toInt < (kq : Int))) (hn10 : ¬ y5 = nI 76 ∨ (0 ≤ y1.toInt ∧ y1.toInt < 6)) (c12 : y5 = nI 2) (h26 : n25 < 60) (e27 : y1 = nI n25) (h32 : n31 < 60) (e33 : y3 = nI n31) : n31 < nR := by
  have b_y1 := ia_b y1
  have b_y3 := ia_b y3
  have b_y5 := ia_b y5
  try have k_0 := ia_n 1 (by first | decide | omega)
  try have k_1 := ia_n 2 (by first | decide | omega)
  try have k_2 := ia_n 3 (by first | decide | omega)
  try have k_3 := ia_n 76 (by first | decide | omega)
  try have k_4 := ia_n n25 (by first | decide | omega)
  try have k_5 := ia_n n31 (by first | decide | omega)
  try simp only [ia_lt, ia_le, ia_eq, ia_m1, ia_0, ia_1, ne_eq, true_and, and_true, false_and, and_false, or_false, false_or, or_true, true_or, not_true_eq_false, not_false_eq_true] at *
  all_goals omega
set_option maxRecDepth 20000 in
theorem lf_x_holds_13   : (nI 0) = nI 0 ∨ (nI 0) = nI 1 := by
  try have k_0 := ia_n 0 (by first | decide | omega)
  try have k_1 := ia_n 1 (by first | decide | omega)
  try simp only [ia_lt, ia_le, ia_eq, ia_m1, ia_0, ia_1, ne_eq, true_and, and_true, false_and, and_false, or_false, false_or, or_true, true_or, not_true_eq_false, not_false_eq_true] at *
  all_goals omega
set_option maxRecDepth 20000 in
theorem lf_x_holds_14   : (nI 1) = nI 0 ∨ (nI 1) = nI 1 := by
  try have k_0 := ia_n 1 (by first | decide | omega)
  try have k_1 := ia_n 0 (by first | decide | omega)
  try simp only [ia_lt, ia_le, ia_eq, ia_m1, ia_0, ia_1, ne_eq, true_and, and_true, false_and, and_false, or_false, false_or, or_true, true_or, not_true_eq_false, not_false_eq_true] at *
  all_goals omega
set_option maxRecDepth 20000 in
theorem lf_x_holds_15 (knowF : Nat → Int32) (nR : Nat) (kq : Nat) (y1 : Int32) (y3 : Int32) (y5 : Int32) (ab_now : NB knowF) (sb_now : SB knowF) (hk60 : kq < 60) (hkn : kq < nR + 1) (e2 : y1 = knowF ((133 + (4 * kq)) + 1)) (e4 : y3 = knowF ((133 + (4 * kq)) + 2)) (e6 : y5 = knowF (133 + (4 * kq))) (hn8 : ¬ y5 = nI 1 ∨ (0 ≤ y1.toInt ∧ y1.toInt < (kq : Int))) (hn9 : (¬ y5 = nI 2 ∧ ¬ y5 = nI 3) ∨ (0 ≤ y1.toInt ∧ y1.toInt < (kq : Int) ∧ 0 ≤ y3.toInt ∧ y3.toInt < (kq : Int))) (hn10 : ¬ y5 = nI 76 ∨ (0 ≤ y1.toInt ∧ y1.toInt < 6)) (c13 : y5 = nI 3) : 0 ≤ y1.toInt ∧ y1.toInt < ((60 : Nat) : Int) := by
  have b_y1 := ia_b y1
  have b_y3 := ia_b y3
  have b_y5 := ia_b y5
  try have k_0 := ia_n 1 (by first | decide | omega)
  try have k_1 := ia_n 2 (by first | decide | omega)
  try have k_2 := ia_n 3 (by first | decide | omega)
  try have k_3 := ia_n 76 (by first | decide | omega)
  try simp only [ia_lt, ia_le, ia_eq, ia_m1, ia_0, ia_1, ne_eq, true_and, and_true, false_and, and_false, or_false, false_or, or_true, true_or, not_true_eq_false, not_false_eq_true] at *
  all_goals omega
set_option maxRecDepth 20000 in
theorem lf_x_holds_16 (knowF : Nat → Int32) (nR : Nat) (kq : Nat) (y1 : Int32) (y3 : Int32) (y5 : Int32) (n37 : Nat) (ab_now : NB knowF) (sb_now : SB knowF) (hk60 : kq < 60) (hkn : kq < nR + 1) (e2 : y1 = knowF ((133 + (4 * kq)) + 1)) (e4 : y3 = knowF ((133 + (4 * kq)) + 2)) (e6 : y5 = knowF (133 + (4 * kq))) (hn8 : ¬ y5 = nI 1 ∨ (0 ≤ y1.toInt ∧ y1.toInt < (kq : Int))) (hn9 : (¬ y5 = nI 2 ∧ ¬ y5 = nI 3) ∨ (0 ≤ y1.toInt ∧ y1.toInt < (kq : Int) ∧ 0 ≤ y3.toInt ∧ y3.toInt < (kq : Int))) (hn10 : ¬ y5 = nI 76 ∨ (0 ≤ y1.toInt ∧ y1.toInt < 6)) (c13 : y5 = nI 3) (h38 : n37 < 60) (e39 : y1 = nI n37) : n37 < nR := by
  have b_y1 := ia_b y1
  have b_y3 := ia_b y3
  have b_y5 := ia_b y5
  try have k_0 := ia_n 1 (by first | decide | omega)
  try have k_1 := ia_n 2 (by first | decide | omega)
  try have k_2 := ia_n 3 (by first | decide | omega)
  try have k_3 := ia_n 76 (by first | decide | omega)
  try have k_4 := ia_n n37 (by first | decide | omega)
  try simp only [ia_lt, ia_le, ia_eq, ia_m1, ia_0, ia_1, ne_eq, true_and, and_true, false_and, and_false, or_false, false_or, or_true, true_or, not_true_eq_false, not_false_eq_true] at *
  all_goals omega
set_option maxRecDepth 20000 in
theorem lf_x_holds_17   : (nI 1) = nI 0 ∨ (nI 1) = nI 1 := by
  try have k_0 := ia_n 1 (by first | decide | omega)
  try have k_1 := ia_n 0 (by first | decide | omega)
  try simp only [ia_lt, ia_le, ia_eq, ia_m1, ia_0, ia_1, ne_eq, true_and, and_true, false_and, and_false, or_false, false_or, or_true, true_or, not_true_eq_false, not_false_eq_true] at *
  all_goals omega
set_option maxRecDepth 20000 in
theorem lf_x_holds_18 (knowF : Nat → Int32) (nR : Nat) (kq : Nat) (y1 : Int32) (y3 : Int32) (y5 : Int32) (n37 : Nat) (ab_now : NB knowF) (sb_now : SB knowF) (hk60 : kq < 60) (hkn : kq < nR + 1) (e2 : y1 = knowF ((133 + (4 * kq)) + 1)) (e4 : y3 = knowF ((133 + (4 * kq)) + 2)) (e6 : y5 = knowF (133 + (4 * kq))) (hn8 : ¬ y5 = nI 1 ∨ (0 ≤ y1.toInt ∧ y1.toInt < (kq : Int))) (hn9 : (¬ y5 = nI 2 ∧ ¬ y5 = nI 3) ∨ (0 ≤ y1.toInt ∧ y1.toInt < (kq : Int) ∧ 0 ≤ y3.toInt ∧ y3.toInt < (kq : Int))) (hn10 : ¬ y5 = nI 76 ∨ (0 ≤ y1.toInt ∧ y1.toInt < 6)) (c13 : y5 = nI 3) (h38 : n37 < 60) (e39 : y1 = nI n37) : 0 ≤ y3.toInt ∧ y3.toInt < ((60 : Nat) : Int) := by
  have b_y1 := ia_b y1
  have b_y3 := ia_b y3
  have b_y5 := ia_b y5
  try have k_0 := ia_n 1 (by first | decide | omega)
  try have k_1 := ia_n 2 (by first | decide | omega)
  try have k_2 := ia_n 3 (by first | decide | omega)
  try have k_3 := ia_n 76 (by first | decide | omega)
  try have k_4 := ia_n n37 (by first | decide | omega)
  try simp only [ia_lt, ia_le, ia_eq, ia_m1, ia_0, ia_1, ne_eq, true_and, and_true, false_and, and_false, or_false, false_or, or_true, true_or, not_true_eq_false, not_false_eq_true] at *
  all_goals omega
set_option maxRecDepth 20000 in
theorem lf_x_holds_19 (knowF : Nat → Int32) (nR : Nat) (kq : Nat) (y1 : Int32) (y3 : Int32) (y5 : Int32) (n37 : Nat) (n43 : Nat) (ab_now : NB knowF) (sb_now : SB knowF) (hk60 : kq < 60) (hkn : kq < nR + 1) (e2 : y1 = knowF ((133 + (4 * kq)) + 1)) (e4 : y3 = knowF ((133 + (4 * kq)) + 2)) (e6 : y5 = knowF (133 + (4 * kq))) (hn8 : ¬ y5 = nI 1 ∨ (0 ≤ y1.toInt ∧ y1.toInt < (kq : Int))) (hn9 : (¬ y5 = nI 2 ∧ ¬ y5 = nI 3) ∨ (0 ≤ y1.toInt ∧ y1.toInt < (kq : Int) ∧ 0 ≤ y3.toInt ∧ y3.toInt < (kq : Int))) (hn10 : ¬ y5 = nI 76 ∨ (0 ≤ y1.toInt ∧ y1.toInt < 6)) (c13 : y5 = nI 3) (h38 : n37 < 60) (e39 : y1 = nI n37) (h44 : n43 < 60) (e45 : y3 = nI n43) : n43 < nR := by
  have b_y1 := ia_b y1
  have b_y3 := ia_b y3
  have b_y5 := ia_b y5
  try have k_0 := ia_n 1 (by first | decide | omega)
  try have k_1 := ia_n 2 (by first | decide | omega)
  try have k_2 := ia_n 3 (by first | decide | omega)
  try have k_3 := ia_n 76 (by first | decide | omega)
  try have k_4 := ia_n n37 (by first | decide | omega)
  try have k_5 := ia_n n43 (by first | decide | omega)
  try simp only [ia_lt, ia_le, ia_eq, ia_m1, ia_0, ia_1, ne_eq, true_and, and_true, false_and, and_false, or_false, false_or, or_true, true_or, not_true_eq_false, not_false_eq_true] at *
  all_goals omega
set_option maxRecDepth 20000 in
theorem lf_x_holds_20   : (nI 0) = nI 0 ∨ (nI 0) = nI 1 := by
  try have k_0 := ia_n 0 (by first | decide | omega)
  try have k_1 := ia_n 1 (by first | decide | omega)
  try simp only [ia_lt, ia_le, ia_eq, ia_m1, ia_0, ia_1, ne_eq, true_and, and_true, false_and, and_false, or_false, false_or, or_true, true_or, not_true_eq_false, not_false_eq_true] at *
  all_goals omega
set_option maxRecDepth 20000 in
theorem lf_x_holds_21   : (nI 1) = nI 0 ∨ (nI 1) = nI 1 := by
  try have k_0 := ia_n 1 (by first | decide | omega)
  try have k_1 := ia_n 0 (by first | decide | omega)
  try simp only [ia_lt, ia_le, ia_eq, ia_m1, ia_0, ia_1, ne_eq, true_and, and_true, false_and, and_false, or_false, false_or, or_true, true_or, not_true_eq_false, not_false_eq_true] at *
  all_goals omega
set_option maxRecDepth 20000 in
theorem lf_x_holds_22   : (nI 1) = nI 0 ∨ (nI 1) = nI 1 := by
  try have k_0 := ia_n 1 (by first | decide | omega)
  try have k_1 := ia_n 0 (by first | decide | omega)
  try simp only [ia_lt, ia_le, ia_eq, ia_m1, ia_0, ia_1, ne_eq, true_and, and_true, false_and, and_false, or_false, false_or, or_true, true_or, not_true_eq_false, not_false_eq_true] at *
  all_goals omega
set_option maxRecDepth 20000 in
theorem lf_x_holds_23   : (nI 0) = nI 0 ∨ (nI 0) = nI 1 := by
  try have k_0 := ia_n 0 (by first | decide | omega)
  try have k_1 := ia_n 1 (by first | decide | omega)
  try simp only [ia_lt, ia_le, ia_eq, ia_m1, ia_0, ia_1, ne_eq, true_and, and_true, false_and, and_false, or_false, false_or, or_true, true_or, not_true_eq_false, not_false_eq_true] at *
  all_goals omega
set_option maxRecDepth 20000 in
theorem lf_x_holds_24 (bq : Nat) (hb6 : bq < 6) : 0 ≤ (nI bq).toInt ∧ (nI bq).toInt ≤ 5 := by
  try have k_0 := ia_n bq (by first | decide | omega)
  try simp only [ia_lt, ia_le, ia_eq, ia_m1, ia_0, ia_1, ne_eq, true_and, and_true, false_and, and_false, or_false, false_or, or_true, true_or, not_true_eq_false, not_false_eq_true] at *
  all_goals omega
set_option maxRecDepth 20000 in
theorem lf_x_holds_25 (r53 : Int32) (p54 : r53 = nI 0 ∨ r53 = nI 1) : narrow .boolean (.int r53) = .int r53 := by
  have h : r53 = 0 ∨ r53 = 1 := by
    have b_r53 := ia_b r53
    try have k_0 := ia_n 0 (by first | decide | omega)
    try have k_1 := ia_n 1 (by first | decide | omega)
    try simp only [ia_lt, ia_le, ia_eq, ia_m1, ia_0, ia_1, ne_eq, true_and, and_true, false_and, and_false, or_false, false_or, or_true, true_or, not_true_eq_false, not_false_eq_true] at *
    all_goals omega
  rcases h with h | h <;> rw [h] <;> rfl
set_option maxRecDepth 20000 in
theorem lf_x_holds_26 (knowF : Nat → Int32) (nR : Nat) (kq : Nat) (bq : Nat) (y1 : Int32) (y3 : Int32) (y5 : Int32) (y55 : Int32) (ab_now : NB knowF) (sb_now : SB knowF) (hk60 : kq < 60) (hb6 : bq < 6) (hkn : kq < nR + 1) (e2 : y1 = knowF ((133 + (4 * kq)) + 1)) (e4 : y3 = knowF ((133 + (4 * kq)) + 2)) (e6 : y5 = knowF (133 + (4 * kq))) (hn8 : ¬ y5 = nI 1 ∨ (0 ≤ y1.toInt ∧ y1.toInt < (kq : Int))) (hn9 : (¬ y5 = nI 2 ∧ ¬ y5 = nI 3) ∨ (0 ≤ y1.toInt ∧ y1.toInt < (kq : Int) ∧ 0 ≤ y3.toInt ∧ y3.toInt < (kq : Int))) (hn10 : ¬ y5 = nI 76 ∨ (0 ≤ y1.toInt ∧ y1.toInt < 6)) (c16 : y5 = nI 75) (e56 : y55 = knowF (113 + bq)) : (113 + bq) < 373 := by
  have b_y1 := ia_b y1
  have b_y3 := ia_b y3
  have b_y5 := ia_b y5
  have b_y55 := ia_b y55
  try have k_0 := ia_n 1 (by first | decide | omega)
  try have k_1 := ia_n 2 (by first | decide | omega)
  try have k_2 := ia_n 3 (by first | decide | omega)
  try have k_3 := ia_n 76 (by first | decide | omega)
  try have k_4 := ia_n 75 (by first | decide | omega)
  try simp only [ia_lt, ia_le, ia_eq, ia_m1, ia_0, ia_1, ne_eq, true_and, and_true, false_and, and_false, or_false, false_or, or_true, true_or, not_true_eq_false, not_false_eq_true] at *
  all_goals omega
set_option maxRecDepth 20000 in
theorem lf_x_holds_27 (knowF : Nat → Int32) (nR : Nat) (kq : Nat) (bq : Nat) (y1 : Int32) (y3 : Int32) (y5 : Int32) (y55 : Int32) (ab_now : NB knowF) (sb_now : SB knowF) (hk60 : kq < 60) (hb6 : bq < 6) (hkn : kq < nR + 1) (e2 : y1 = knowF ((133 + (4 * kq)) + 1)) (e4 : y3 = knowF ((133 + (4 * kq)) + 2)) (e6 : y5 = knowF (133 + (4 * kq))) (hn8 : ¬ y5 = nI 1 ∨ (0 ≤ y1.toInt ∧ y1.toInt < (kq : Int))) (hn9 : (¬ y5 = nI 2 ∧ ¬ y5 = nI 3) ∨ (0 ≤ y1.toInt ∧ y1.toInt < (kq : Int) ∧ 0 ≤ y3.toInt ∧ y3.toInt < (kq : Int))) (hn10 : ¬ y5 = nI 76 ∨ (0 ≤ y1.toInt ∧ y1.toInt < 6)) (c16 : y5 = nI 75) (e56 : y55 = knowF (113 + bq)) : 107 ≤ (113 + bq) := by
  have b_y1 := ia_b y1
  have b_y3 := ia_b y3
  have b_y5 := ia_b y5
  have b_y55 := ia_b y55
  try have k_0 := ia_n 1 (by first | decide | omega)
  try have k_1 := ia_n 2 (by first | decide | omega)
  try have k_2 := ia_n 3 (by first | decide | omega)
  try have k_3 := ia_n 76 (by first | decide | omega)
  try have k_4 := ia_n 75 (by first | decide | omega)
  try simp only [ia_lt, ia_le, ia_eq, ia_m1, ia_0, ia_1, ne_eq, true_and, and_true, false_and, and_false, or_false, false_or, or_true, true_or, not_true_eq_false, not_false_eq_true] at *
  all_goals omega
set_option maxRecDepth 20000 in
theorem lf_x_holds_28 (knowF : Nat → Int32) (nR : Nat) (kq : Nat) (bq : Nat) (y1 : Int32) (y3 : Int32) (y5 : Int32) (y55 : Int32) (ab_now : NB knowF) (sb_now : SB knowF) (hk60 : kq < 60) (hb6 : bq < 6) (hkn : kq < nR + 1) (e2 : y1 = knowF ((133 + (4 * kq)) + 1)) (e4 : y3 = knowF ((133 + (4 * kq)) + 2)) (e6 : y5 = knowF (133 + (4 * kq))) (hn8 : ¬ y5 = nI 1 ∨ (0 ≤ y1.toInt ∧ y1.toInt < (kq : Int))) (hn9 : (¬ y5 = nI 2 ∧ ¬ y5 = nI 3) ∨ (0 ≤ y1.toInt ∧ y1.toInt < (kq : Int) ∧ 0 ≤ y3.toInt ∧ y3.toInt < (kq : Int))) (hn10 : ¬ y5 = nI 76 ∨ (0 ≤ y1.toInt ∧ y1.toInt < 6)) (c16 : y5 = nI 75) (e56 : y55 = knowF (113 + bq)) : (113 + bq) < 119 := by
  have b_y1 := ia_b y1
  have b_y3 := ia_b y3
  have b_y5 := ia_b y5
  have b_y55 := ia_b y55
  try have k_0 := ia_n 1 (by first | decide | omega)
  try have k_1 := ia_n 2 (by first | decide | omega)
  try have k_2 := ia_n 3 (by first | decide | omega)
  try have k_3 := ia_n 76 (by first | decide | omega)
  try have k_4 := ia_n 75 (by first | decide | omega)
  try simp only [ia_lt, ia_le, ia_eq, ia_m1, ia_0, ia_1, ne_eq, true_and, and_true, false_and, and_false, or_false, false_or, or_true, true_or, not_true_eq_false, not_false_eq_true] at *
  all_goals omega
set_option maxRecDepth 20000 in
theorem lf_x_holds_29  (p60 : True) : (nI 0) = nI 0 ∨ (nI 0) = nI 1 := by
  try have k_0 := ia_n 0 (by first | decide | omega)
  try have k_1 := ia_n 1 (by first | decide | omega)
  try simp only [ia_lt, ia_le, ia_eq, ia_m1, ia_0, ia_1, ne_eq, true_and, and_true, false_and, and_false, or_false, false_or, or_true, true_or, not_true_eq_false, not_false_eq_true] at *
  all_goals omega
set_option maxRecDepth 20000 in
theorem lf_x_holds_30  (p60 : True) : (nI 1) = nI 0 ∨ (nI 1) = nI 1 := by
  try have k_0 := ia_n 1 (by first | decide | omega)
  try have k_1 := ia_n 0 (by first | decide | omega)
  try simp only [ia_lt, ia_le, ia_eq, ia_m1, ia_0, ia_1, ne_eq, true_and, and_true, false_and, and_false, or_false, false_or, or_true, true_or, not_true_eq_false, not_false_eq_true] at *
  all_goals omega
set_option maxRecDepth 20000 in
theorem lf_x_holds_31 (knowF : Nat → Int32) (nR : Nat) (kq : Nat) (y1 : Int32) (y3 : Int32) (y5 : Int32) (ab_now : NB knowF) (sb_now : SB knowF) (hk60 : kq < 60) (hkn : kq < nR + 1) (e2 : y1 = knowF ((133 + (4 * kq)) + 1)) (e4 : y3 = knowF ((133 + (4 * kq)) + 2)) (e6 : y5 = knowF (133 + (4 * kq))) (hn8 : ¬ y5 = nI 1 ∨ (0 ≤ y1.toInt ∧ y1.toInt < (kq : Int))) (hn9 : (¬ y5 = nI 2 ∧ ¬ y5 = nI 3) ∨ (0 ≤ y1.toInt ∧ y1.toInt < (kq : Int) ∧ 0 ≤ y3.toInt ∧ y3.toInt < (kq : Int))) (hn10 : ¬ y5 = nI 76 ∨ (0 ≤ y1.toInt ∧ y1.toInt < 6)) (c17 : y5 = nI 76) : 0 ≤ y1.toInt := by
  have b_y1 := ia_b y1
  have b_y3 := ia_b y3
  have b_y5 := ia_b y5
  try have k_0 := ia_n 1 (by first | decide | omega)
  try have k_1 := ia_n 2 (by first | decide | omega)
  try have k_2 := ia_n 3 (by first | decide | omega)
  try have k_3 := ia_n 76 (by first | decide | omega)
  try simp only [ia_lt, ia_le, ia_eq, ia_m1, ia_0, ia_1, ne_eq, true_and, and_true, false_and, and_false, or_false, false_or, or_true, true_or, not_true_eq_false, not_false_eq_true] at *
  all_goals omega
set_option maxRecDepth 20000 in
theorem lf_x_holds_32 (knowF : Nat → Int32) (nR : Nat) (kq : Nat) (y1 : Int32) (y3 : Int32) (y5 : Int32) (ab_now : NB knowF) (sb_now : SB knowF) (hk60 : kq < 60) (hkn : kq < nR + 1) (e2 : y1 = knowF ((133 + (4 * kq)) + 1)) (e4 : y3 = knowF ((133 + (4 * kq)) + 2)) (e6 : y5 = knowF (133 + (4 * kq))) (hn8 : ¬ y5 = nI 1 ∨ (0 ≤ y1.toInt ∧ y1.toInt < (kq : Int))) (hn9 : (¬ y5 = nI 2 ∧ ¬ y5 = nI 3) ∨ (0 ≤ y1.toInt ∧ y1.toInt < (kq : Int) ∧ 0 ≤ y3.toInt ∧ y3.toInt < (kq : Int))) (hn10 : ¬ y5 = nI 76 ∨ (0 ≤ y1.toInt ∧ y1.toInt < 6)) (c17 : y5 = nI 76) (f62 : 0 ≤ y1.toInt) : y1.toInt ≤ 5 := by
  have b_y1 := ia_b y1
  have b_y3 := ia_b y3
  have b_y5 := ia_b y5
  try have k_0 := ia_n 1 (by first | decide | omega)
  try have k_1 := ia_n 2 (by first | decide | omega)
  try have k_2 := ia_n 3 (by first | decide | omega)
  try have k_3 := ia_n 76 (by first | decide | omega)
  try simp only [ia_lt, ia_le, ia_eq, ia_m1, ia_0, ia_1, ne_eq, true_and, and_true, false_and, and_false, or_false, false_or, or_true, true_or, not_true_eq_false, not_false_eq_true] at *
  all_goals omega
set_option maxRecDepth 20000 in
theorem lf_x_holds_33 (knowF : Nat → Int32) (nR : Nat) (kq : Nat) (bq : Nat) (y1 : Int32) (y3 : Int32) (y5 : Int32) (y64 : Int32) (ab_now : NB knowF) (sb_now : SB knowF) (hk60 : kq < 60) (hb6 : bq < 6) (hkn : kq < nR + 1) (e2 : y1 = knowF ((133 + (4 * kq)) + 1)) (e4 : y3 = knowF ((133 + (4 * kq)) + 2)) (e6 : y5 = knowF (133 + (4 * kq))) (hn8 : ¬ y5 = nI 1 ∨ (0 ≤ y1.toInt ∧ y1.toInt < (kq : Int))) (hn9 : (¬ y5 = nI 2 ∧ ¬ y5 = nI 3) ∨ (0 ≤ y1.toInt ∧ y1.toInt < (kq : Int) ∧ 0 ≤ y3.toInt ∧ y3.toInt < (kq : Int))) (hn10 : ¬ y5 = nI 76 ∨ (0 ≤ y1.toInt ∧ y1.toInt < 6)) (c17 : y5 = nI 76) (f62 : 0 ≤ y1.toInt) (f63 : y1.toInt ≤ 5) (e65 : y64 = knowF (113 + bq)) : (113 + bq) < 373 := by
  have b_y1 := ia_b y1
  have b_y3 := ia_b y3
  have b_y5 := ia_b y5
  have b_y64 := ia_b y64
  try have k_0 := ia_n 1 (by first | decide | omega)
  try have k_1 := ia_n 2 (by first | decide | omega)
  try have k_2 := ia_n 3 (by first | decide | omega)
  try have k_3 := ia_n 76 (by first | decide | omega)
  try simp only [ia_lt, ia_le, ia_eq, ia_m1, ia_0, ia_1, ne_eq, true_and, and_true, false_and, and_false, or_false, false_or, or_true, true_or, not_true_eq_false, not_false_eq_true] at *
  all_goals omega
set_option maxRecDepth 20000 in
theorem lf_x_holds_34 (knowF : Nat → Int32) (nR : Nat) (kq : Nat) (bq : Nat) (y1 : Int32) (y3 : Int32) (y5 : Int32) (y64 : Int32) (ab_now : NB knowF) (sb_now : SB knowF) (hk60 : kq < 60) (hb6 : bq < 6) (hkn : kq < nR + 1) (e2 : y1 = knowF ((133 + (4 * kq)) + 1)) (e4 : y3 = knowF ((133 + (4 * kq)) + 2)) (e6 : y5 = knowF (133 + (4 * kq))) (hn8 : ¬ y5 = nI 1 ∨ (0 ≤ y1.toInt ∧ y1.toInt < (kq : Int))) (hn9 : (¬ y5 = nI 2 ∧ ¬ y5 = nI 3) ∨ (0 ≤ y1.toInt ∧ y1.toInt < (kq : Int) ∧ 0 ≤ y3.toInt ∧ y3.toInt < (kq : Int))) (hn10 : ¬ y5 = nI 76 ∨ (0 ≤ y1.toInt ∧ y1.toInt < 6)) (c17 : y5 = nI 76) (f62 : 0 ≤ y1.toInt) (f63 : y1.toInt ≤ 5) (e65 : y64 = knowF (113 + bq)) : 107 ≤ (113 + bq) := by
  have b_y1 := ia_b y1
  have b_y3 := ia_b y3
  have b_y5 := ia_b y5
  have b_y64 := ia_b y64
  try have k_0 := ia_n 1 (by first | decide | omega)
  try have k_1 := ia_n 2 (by first | decide | omega)
  try have k_2 := ia_n 3 (by first | decide | omega)
  try have k_3 := ia_n 76 (by first | decide | omega)
  try simp only [ia_lt, ia_le, ia_eq, ia_m1, ia_0, ia_1, ne_eq, true_and, and_true, false_and, and_false, or_false, false_or, or_true, true_or, not_true_eq_false, not_false_eq_true] at *
  all_goals omega
set_option maxRecDepth 20000 in
theorem lf_x_holds_35 (knowF : Nat → Int32) (nR : Nat) (kq : Nat) (bq : Nat) (y1 : Int32) (y3 : Int32) (y5 : Int32) (y64 : Int32) (ab_now : NB knowF) (sb_now : SB knowF) (hk60 : kq < 60) (hb6 : bq < 6) (hkn : kq < nR + 1) (e2 : y1 = knowF ((133 + (4 * kq)) + 1)) (e4 : y3 = knowF ((133 + (4 * kq)) + 2)) (e6 : y5 = knowF (133 + (4 * kq))) (hn8 : ¬ y5 = nI 1 ∨ (0 ≤ y1.toInt ∧ y1.toInt < (kq : Int))) (hn9 : (¬ y5 = nI 2 ∧ ¬ y5 = nI 3) ∨ (0 ≤ y1.toInt ∧ y1.toInt < (kq : Int) ∧ 0 ≤ y3.toInt ∧ y3.toInt < (kq : Int))) (hn10 : ¬ y5 = nI 76 ∨ (0 ≤ y1.toInt ∧ y1.toInt < 6)) (c17 : y5 = nI 76) (f62 : 0 ≤ y1.toInt) (f63 : y1.toInt ≤ 5) (e65 : y64 = knowF (113 + bq)) : (113 + bq) < 119 := by
  have b_y1 := ia_b y1
  have b_y3 := ia_b y3
  have b_y5 := ia_b y5
  have b_y64 := ia_b y64
  try have k_0 := ia_n 1 (by first | decide | omega)
  try have k_1 := ia_n 2 (by first | decide | omega)
  try have k_2 := ia_n 3 (by first | decide | omega)
  try have k_3 := ia_n 76 (by first | decide | omega)
  try simp only [ia_lt, ia_le, ia_eq, ia_m1, ia_0, ia_1, ne_eq, true_and, and_true, false_and, and_false, or_false, false_or, or_true, true_or, not_true_eq_false, not_false_eq_true] at *
  all_goals omega
set_option maxRecDepth 20000 in
theorem lf_x_holds_36 (knowF : Nat → Int32) (nR : Nat) (kq : Nat) (bq : Nat) (y1 : Int32) (y3 : Int32) (y5 : Int32) (y64 : Int32) (ab_now : NB knowF) (sb_now : SB knowF) (hk60 : kq < 60) (hb6 : bq < 6) (hkn : kq < nR + 1) (e2 : y1 = knowF ((133 + (4 * kq)) + 1)) (e4 : y3 = knowF ((133 + (4 * kq)) + 2)) (e6 : y5 = knowF (133 + (4 * kq))) (hn8 : ¬ y5 = nI 1 ∨ (0 ≤ y1.toInt ∧ y1.toInt < (kq : Int))) (hn9 : (¬ y5 = nI 2 ∧ ¬ y5 = nI 3) ∨ (0 ≤ y1.toInt ∧ y1.toInt < (kq : Int) ∧ 0 ≤ y3.toInt ∧ y3.toInt < (kq : Int))) (hn10 : ¬ y5 = nI 76 ∨ (0 ≤ y1.toInt ∧ y1.toInt < 6)) (c17 : y5 = nI 76) (f62 : 0 ≤ y1.toInt) (f63 : y1.toInt ≤ 5) (e65 : y64 = knowF (113 + bq)) (b66 : 0 ≤ y64.toInt) (b67 : y64.toInt ≤ 35) : 0 ≤ y1.toInt ∧ y1.toInt < ((6 : Nat) : Int) := by
  have b_y1 := ia_b y1
  have b_y3 := ia_b y3
  have b_y5 := ia_b y5
  have b_y64 := ia_b y64
  try have k_0 := ia_n 1 (by first | decide | omega)
  try have k_1 := ia_n 2 (by first | decide | omega)
  try have k_2 := ia_n 3 (by first | decide | omega)
  try have k_3 := ia_n 76 (by first | decide | omega)
  try simp only [ia_lt, ia_le, ia_eq, ia_m1, ia_0, ia_1, ne_eq, true_and, and_true, false_and, and_false, or_false, false_or, or_true, true_or, not_true_eq_false, not_false_eq_true] at *
  all_goals omega
set_option maxRecDepth 20000 in
theorem lf_x_holds_37 (knowF : Nat → Int32) (nR : Nat) (kq : Nat) (bq : Nat) (y1 : Int32) (y3 : Int32) (y5 : Int32) (y64 : Int32) (n68 : Nat) (y71 : Int32) (ab_now : NB knowF) (sb_now : SB knowF) (hk60 : kq < 60) (hb6 : bq < 6) (hkn : kq < nR + 1) (e2 : y1 = knowF ((133 + (4 * kq)) + 1)) (e4 : y3 = knowF ((133 + (4 * kq)) + 2)) (e6 : y5 = knowF (133 + (4 * kq))) (hn8 : ¬ y5 = nI 1 ∨ (0 ≤ y1.toInt ∧ y1.toInt < (kq : Int))) (hn9 : (¬ y5 = nI 2 ∧ ¬ y5 = nI 3) ∨ (0 ≤ y1.toInt ∧ y1.toInt < (kq : Int) ∧ 0 ≤ y3.toInt ∧ y3.toInt < (kq : Int))) (hn10 : ¬ y5 = nI 76 ∨ (0 ≤ y1.toInt ∧ y1.toInt < 6)) (c17 : y5 = nI 76) (f62 : 0 ≤ y1.toInt) (f63 : y1.toInt ≤ 5) (e65 : y64 = knowF (113 + bq)) (b66 : 0 ≤ y64.toInt) (b67 : y64.toInt ≤ 35) (h69 : n68 < 6) (e70 : y1 = nI n68) (e72 : y71 = knowF (107 + n68)) : (107 + n68) < 373 := by
  have b_y1 := ia_b y1
  have b_y3 := ia_b y3
  have b_y5 := ia_b y5
  have b_y64 := ia_b y64
  have b_y71 := ia_b y71
  try have k_0 := ia_n 1 (by first | decide | omega)
  try have k_1 := ia_n 2 (by first | decide | omega)
  try have k_2 := ia_n 3 (by first | decide | omega)
  try have k_3 := ia_n 76 (by first | decide | omega)
  try have k_4 := ia_n n68 (by first | decide | omega)
  try simp only [ia_lt, ia_le, ia_eq, ia_m1, ia_0, ia_1, ne_eq, true_and, and_true, false_and, and_false, or_false, false_or, or_true, true_or, not_true_eq_false, not_false_eq_true] at *
  all_goals omega
set_option maxRecDepth 20000 in
theorem lf_x_holds_38 (knowF : Nat → Int32) (nR : Nat) (kq : Nat) (bq : Nat) (y1 : Int32) (y3 : Int32) (y5 : Int32) (y64 : Int32) (n68 : Nat) (y71 : Int32) (ab_now : NB knowF) (sb_now : SB knowF) (hk60 : kq < 60) (hb6 : bq < 6) (hkn : kq < nR + 1) (e2 : y1 = knowF ((133 + (4 * kq)) + 1)) (e4 : y3 = knowF ((133 + (4 * kq)) + 2)) (e6 : y5 = knowF (133 + (4 * kq))) (hn8 : ¬ y5 = nI 1 ∨ (0 ≤ y1.toInt ∧ y1.toInt < (kq : Int))) (hn9 : (¬ y5 = nI 2 ∧ ¬ y5 = nI 3) ∨ (0 ≤ y1.toInt ∧ y1.toInt < (kq : Int) ∧ 0 ≤ y3.toInt ∧ y3.toInt < (kq : Int))) (hn10 : ¬ y5 = nI 76 ∨ (0 ≤ y1.toInt ∧ y1.toInt < 6)) (c17 : y5 = nI 76) (f62 : 0 ≤ y1.toInt) (f63 : y1.toInt ≤ 5) (e65 : y64 = knowF (113 + bq)) (b66 : 0 ≤ y64.toInt) (b67 : y64.toInt ≤ 35) (h69 : n68 < 6) (e70 : y1 = nI n68) (e72 : y71 = knowF (107 + n68)) : 107 ≤ (107 + n68) := by
  have b_y1 := ia_b y1
  have b_y3 := ia_b y3
  have b_y5 := ia_b y5
  have b_y64 := ia_b y64
  have b_y71 := ia_b y71
  try have k_0 := ia_n 1 (by first | decide | omega)
  try have k_1 := ia_n 2 (by first | decide | omega)
  try have k_2 := ia_n 3 (by first | decide | omega)
  try have k_3 := ia_n 76 (by first | decide | omega)
  try have k_4 := ia_n n68 (by first | decide | omega)
  try simp only [ia_lt, ia_le, ia_eq, ia_m1, ia_0, ia_1, ne_eq, true_and, and_true, false_and, and_false, or_false, false_or, or_true, true_or, not_true_eq_false, not_false_eq_true] at *
  all_goals omega
set_option maxRecDepth 20000 in
theorem lf_x_holds_39 (knowF : Nat → Int32) (nR : Nat) (kq : Nat) (bq : Nat) (y1 : Int32) (y3 : Int32) (y5 : Int32) (y64 : Int32) (n68 : Nat) (y71 : Int32) (ab_now : NB knowF) (sb_now : SB knowF) (hk60 : kq < 60) (hb6 : bq < 6) (hkn : kq < nR + 1) (e2 : y1 = knowF ((133 + (4 * kq)) + 1)) (e4 : y3 = knowF ((133 + (4 * kq)) + 2)) (e6 : y5 = knowF (133 + (4 * kq))) (hn8 : ¬ y5 = nI 1 ∨ (0 ≤ y1.toInt ∧ y1.toInt < (kq : Int))) (hn9 : (¬ y5 = nI 2 ∧ ¬ y5 = nI 3) ∨ (0 ≤ y1.toInt ∧ y1.toInt < (kq : Int) ∧ 0 ≤ y3.toInt ∧ y3.toInt < (kq : Int))) (hn10 : ¬ y5 = nI 76 ∨ (0 ≤ y1.toInt ∧ y1.toInt < 6)) (c17 : y5 = nI 76) (f62 : 0 ≤ y1.toInt) (f63 : y1.toInt ≤ 5) (e65 : y64 = knowF (113 + bq)) (b66 : 0 ≤ y64.toInt) (b67 : y64.toInt ≤ 35) (h69 : n68 < 6) (e70 : y1 = nI n68) (e72 : y71 = knowF (107 + n68)) : (107 + n68) < 119 := by
  have b_y1 := ia_b y1
  have b_y3 := ia_b y3
  have b_y5 := ia_b y5
  have b_y64 := ia_b y64
  have b_y71 := ia_b y71
  try have k_0 := ia_n 1 (by first | decide | omega)
  try have k_1 := ia_n 2 (by first | decide | omega)
  try have k_2 := ia_n 3 (by first | decide | omega)
  try have k_3 := ia_n 76 (by first | decide | omega)
  try have k_4 := ia_n n68 (by first | decide | omega)
  try simp only [ia_lt, ia_le, ia_eq, ia_m1, ia_0, ia_1, ne_eq, true_and, and_true, false_and, and_false, or_false, false_or, or_true, true_or, not_true_eq_false, not_false_eq_true] at *
  all_goals omega
set_option maxRecDepth 20000 in
theorem lf_x_holds_40 (r75 : Int32) (p76 : r75 = nI 0 ∨ r75 = nI 1) : narrow .boolean (.int r75) = .int r75 := by
  have h : r75 = 0 ∨ r75 = 1 := by
    have b_r75 := ia_b r75
    try have k_0 := ia_n 0 (by first | decide | omega)
    try have k_1 := ia_n 1 (by first | decide | omega)
    try simp only [ia_lt, ia_le, ia_eq, ia_m1, ia_0, ia_1, ne_eq, true_and, and_true, false_and, and_false, or_false, false_or, or_true, true_or, not_true_eq_false, not_false_eq_true] at *
    all_goals omega
  rcases h with h | h <;> rw [h] <;> rfl
set_option maxRecDepth 20000 in
theorem lf_x_holds_41 (knowF : Nat → Int32) (nR : Nat) (kq : Nat) (y1 : Int32) (y3 : Int32) (y5 : Int32) (y77 : Int32) (ab_now : NB knowF) (sb_now : SB knowF) (hk60 : kq < 60) (hkn : kq < nR + 1) (e2 : y1 = knowF ((133 + (4 * kq)) + 1)) (e4 : y3 = knowF ((133 + (4 * kq)) + 2)) (e6 : y5 = knowF (133 + (4 * kq))) (hn8 : ¬ y5 = nI 1 ∨ (0 ≤ y1.toInt ∧ y1.toInt < (kq : Int))) (hn9 : (¬ y5 = nI 2 ∧ ¬ y5 = nI 3) ∨ (0 ≤ y1.toInt ∧ y1.toInt < (kq : Int) ∧ 0 ≤ y3.toInt ∧ y3.toInt < (kq : Int))) (hn10 : ¬ y5 = nI 76 ∨ (0 ≤ y1.toInt ∧ y1.toInt < 6)) (c18 : y5 ≠ nI 1 ∧ y5 ≠ nI 2 ∧ y5 ≠ nI 3 ∧ y5 ≠ nI 73 ∧ y5 ≠ nI 74 ∧ y5 ≠ nI 75 ∧ y5 ≠ nI 76) (e78 : y77 = knowF (133 + (4 * kq))) : (133 + (4 * kq)) < 373 := by
  have b_y1 := ia_b y1
  have b_y3 := ia_b y3
  have b_y5 := ia_b y5
  have b_y77 := ia_b y77
  try have k_0 := ia_n 1 (by first | decide | omega)
  try have k_1 := ia_n 2 (by first | decide | omega)
  try have k_2 := ia_n 3 (by first | decide | omega)
  try have k_3 := ia_n 76 (by first | decide | omega)
  try have k_4 := ia_n 73 (by first | decide | omega)
  try have k_5 := ia_n 74 (by first | decide | omega)
  try have k_6 := ia_n 75 (by first | decide | omega)
  try simp only [ia_lt, ia_le, ia_eq, ia_m1, ia_0, ia_1, ne_eq, true_and, and_true, false_and, and_false, or_false, false_or, or_true, true_or, not_true_eq_false, not_false_eq_true] at *
  all_goals omega
set_option maxRecDepth 20000 in
theorem lf_x_holds_42 (knowF : Nat → Int32) (nR : Nat) (kq : Nat) (y1 : Int32) (y3 : Int32) (y5 : Int32) (y77 : Int32) (y79 : Int32) (y84 : Int32) (ab_now : NB knowF) (sb_now : SB knowF) (hk60 : kq < 60) (hkn : kq < nR + 1) (e2 : y1 = knowF ((133 + (4 * kq)) + 1)) (e4 : y3 = knowF ((133 + (4 * kq)) + 2)) (e6 : y5 = knowF (133 + (4 * kq))) (hn8 : ¬ y5 = nI 1 ∨ (0 ≤ y1.toInt ∧ y1.toInt < (kq : Int))) (hn9 : (¬ y5 = nI 2 ∧ ¬ y5 = nI 3) ∨ (0 ≤ y1.toInt ∧ y1.toInt < (kq : Int) ∧ 0 ≤ y3.toInt ∧ y3.toInt < (kq : Int))) (hn10 : ¬ y5 = nI 76 ∨ (0 ≤ y1.toInt ∧ y1.toInt < 6)) (c18 : y5 ≠ nI 1 ∧ y5 ≠ nI 2 ∧ y5 ≠ nI 3 ∧ y5 ≠ nI 73 ∧ y5 ≠ nI 74 ∧ y5 ≠ nI 75 ∧ y5 ≠ nI 76) (e78 : y77 = knowF (133 + (4 * kq))) (e80 : y79 = y77 - (nI 50)) (c81 : y79 ≠ nI 27) (c82 : y79 ≠ nI 28) (c83 : y79 ≠ nI 29) (e85 : y84 = knowF ((133 + (4 * kq)) + 3)) : ((133 + (4 * kq)) + 3) < 373 := by
  have b_y1 := ia_b y1
  have b_y3 := ia_b y3
  have b_y5 := ia_b y5
  have b_y77 := ia_b y77
  have b_y79 := ia_b y79
  have b_y84 := ia_b y84
  try have k_0 := ia_n 1 (by first | decide | omega)
  try have k_1 := ia_n 2 (by first | decide | omega)
  try have k_2 := ia_n 3 (by first | decide | omega)
  try have k_3 := ia_n 76 (by first | decide | omega)
  try have k_4 := ia_n 73 (by first | decide | omega)
  try have k_5 := ia_n 74 (by first | decide | omega)
  try have k_6 := ia_n 75 (by first | decide | omega)
  try have k_7 := ia_n 50 (by first | decide | omega)
  try have k_8 := ia_n 27 (by first | decide | omega)
  try have k_9 := ia_n 28 (by first | decide | omega)
  try have k_10 := ia_n 29 (by first | decide | omega)
  try simp only [ia_lt, ia_le, ia_eq, ia_m1, ia_0, ia_1, ne_eq, true_and, and_true, false_and, and_false, or_false, false_or, or_true, true_or, not_true_eq_false, not_false_eq_true] at *
  all_goals omega
set_option maxRecDepth 20000 in
theorem lf_x_holds_43 (knowF : Nat → Int32) (nR : Nat) (kq : Nat) (y1 : Int32) (y3 : Int32) (y5 : Int32) (y77 : Int32) (y79 : Int32) (y84 : Int32) (y87 : Int32) (ab_now : NB knowF) (sb_now : SB knowF) (hk60 : kq < 60) (hkn : kq < nR + 1) (e2 : y1 = knowF ((133 + (4 * kq)) + 1)) (e4 : y3 = knowF ((133 + (4 * kq)) + 2)) (e6 : y5 = knowF (133 + (4 * kq))) (hn8 : ¬ y5 = nI 1 ∨ (0 ≤ y1.toInt ∧ y1.toInt < (kq : Int))) (hn9 : (¬ y5 = nI 2 ∧ ¬ y5 = nI 3) ∨ (0 ≤ y1.toInt ∧ y1.toInt < (kq : Int) ∧ 0 ≤ y3.toInt ∧ y3.toInt < (kq : Int))) (hn10 : ¬ y5 = nI 76 ∨ (0 ≤ y1.toInt ∧ y1.toInt < 6)) (c18 : y5 ≠ nI 1 ∧ y5 ≠ nI 2 ∧ y5 ≠ nI 3 ∧ y5 ≠ nI 73 ∧ y5 ≠ nI 74 ∧ y5 ≠ nI 75 ∧ y5 ≠ nI 76) (e78 : y77 = knowF (133 + (4 * kq))) (e80 : y79 = y77 - (nI 50)) (c81 : y79 ≠ nI 27) (c82 : y79 ≠ nI 28) (c83 : y79 ≠ nI 29) (e85 : y84 = knowF ((133 + (4 * kq)) + 3)) (c86 : y84 ≠ nI 60) (e88 : y87 = knowF ((133 + (4 * kq)) + 3)) : ((133 + (4 * kq)) + 3) < 373 := by
  have b_y1 := ia_b y1
  have b_y3 := ia_b y3
  have b_y5 := ia_b y5
  have b_y77 := ia_b y77
  have b_y79 := ia_b y79
  have b_y84 := ia_b y84
  have b_y87 := ia_b y87
  try have k_0 := ia_n 1 (by first | decide | omega)
  try have k_1 := ia_n 2 (by first | decide | omega)
  try have k_2 := ia_n 3 (by first | decide | omega)
  try have k_3 := ia_n 76 (by first | decide | omega)
  try have k_4 := ia_n 73 (by first | decide | omega)
  try have k_5 := ia_n 74 (by first | decide | omega)
  try have k_6 := ia_n 75 (by first | decide | omega)
  try have k_7 := ia_n 50 (by first | decide | omega)
  try have k_8 := ia_n 27 (by first | decide | omega)
  try have k_9 := ia_n 28 (by first | decide | omega)
  try have k_10 := ia_n 29 (by first | decide | omega)
  try have k_11 := ia_n 60 (by first | decide | omega)
  try simp only [ia_lt, ia_le, ia_eq, ia_m1, ia_0, ia_1, ne_eq, true_and, and_true, false_and, and_false, or_false, false_or, or_true, true_or, not_true_eq_false, not_false_eq_true] at *
  all_goals omega
set_option maxRecDepth 20000 in
theorem lf_x_holds_44   : (nI 0) = nI 0 ∨ (nI 0) = nI 1 := by
  try have k_0 := ia_n 0 (by first | decide | omega)
  try have k_1 := ia_n 1 (by first | decide | omega)
  try simp only [ia_lt, ia_le, ia_eq, ia_m1, ia_0, ia_1, ne_eq, true_and, and_true, false_and, and_false, or_false, false_or, or_true, true_or, not_true_eq_false, not_false_eq_true] at *
  all_goals omega
set_option maxRecDepth 20000 in
theorem lf_x_holds_45   : (nI 1) = nI 0 ∨ (nI 1) = nI 1 := by
  try have k_0 := ia_n 1 (by first | decide | omega)
  try have k_1 := ia_n 0 (by first | decide | omega)
  try simp only [ia_lt, ia_le, ia_eq, ia_m1, ia_0, ia_1, ne_eq, true_and, and_true, false_and, and_false, or_false, false_or, or_true, true_or, not_true_eq_false, not_false_eq_true] at *
  all_goals omega
set_option maxRecDepth 20000 in
theorem lf_x_holds_46   : (nI 0) = nI 0 ∨ (nI 0) = nI 1 := by
  try have k_0 := ia_n 0 (by first | decide | omega)
  try have k_1 := ia_n 1 (by first | decide | omega)
  try simp only [ia_lt, ia_le, ia_eq, ia_m1, ia_0, ia_1, ne_eq, true_and, and_true, false_and, and_false, or_false, false_or, or_true, true_or, not_true_eq_false, not_false_eq_true] at *
  all_goals omega
set_option maxRecDepth 20000 in
theorem lf_x_holds_47   : (nI 1) = nI 0 ∨ (nI 1) = nI 1 := by
  try have k_0 := ia_n 1 (by first | decide | omega)
  try have k_1 := ia_n 0 (by first | decide | omega)
  try simp only [ia_lt, ia_le, ia_eq, ia_m1, ia_0, ia_1, ne_eq, true_and, and_true, false_and, and_false, or_false, false_or, or_true, true_or, not_true_eq_false, not_false_eq_true] at *
  all_goals omega
set_option maxRecDepth 20000 in
theorem lf_x_holds_48   : (nI 0) = nI 0 ∨ (nI 0) = nI 1 := by
  try have k_0 := ia_n 0 (by first | decide | omega)
  try have k_1 := ia_n 1 (by first | decide | omega)
  try simp only [ia_lt, ia_le, ia_eq, ia_m1, ia_0, ia_1, ne_eq, true_and, and_true, false_and, and_false, or_false, false_or, or_true, true_or, not_true_eq_false, not_false_eq_true] at *
  all_goals omega
set_option maxRecDepth 20000 in
theorem lf_x_holds_49   : (nI 1) = nI 0 ∨ (nI 1) = nI 1 := by
  try have k_0 := ia_n 1 (by first | decide | omega)
  try have k_1 := ia_n 0 (by first | decide | omega)
  try simp only [ia_lt, ia_le, ia_eq, ia_m1, ia_0, ia_1, ne_eq, true_and, and_true, false_and, and_false, or_false, false_or, or_true, true_or, not_true_eq_false, not_false_eq_true] at *
  all_goals omega
set_option maxRecDepth 20000 in
theorem lf_x_holds_50 (knowF : Nat → Int32) (nR : Nat) (kq : Nat) (bq : Nat) (y1 : Int32) (y3 : Int32) (y5 : Int32) (y77 : Int32) (y79 : Int32) (y93 : Int32) (ab_now : NB knowF) (sb_now : SB knowF) (hk60 : kq < 60) (hb6 : bq < 6) (hkn : kq < nR + 1) (e2 : y1 = knowF ((133 + (4 * kq)) + 1)) (e4 : y3 = knowF ((133 + (4 * kq)) + 2)) (e6 : y5 = knowF (133 + (4 * kq))) (hn8 : ¬ y5 = nI 1 ∨ (0 ≤ y1.toInt ∧ y1.toInt < (kq : Int))) (hn9 : (¬ y5 = nI 2 ∧ ¬ y5 = nI 3) ∨ (0 ≤ y1.toInt ∧ y1.toInt < (kq : Int) ∧ 0 ≤ y3.toInt ∧ y3.toInt < (kq : Int))) (hn10 : ¬ y5 = nI 76 ∨ (0 ≤ y1.toInt ∧ y1.toInt < 6)) (c18 : y5 ≠ nI 1 ∧ y5 ≠ nI 2 ∧ y5 ≠ nI 3 ∧ y5 ≠ nI 73 ∧ y5 ≠ nI 74 ∧ y5 ≠ nI 75 ∧ y5 ≠ nI 76) (e78 : y77 = knowF (133 + (4 * kq))) (e80 : y79 = y77 - (nI 50)) (c81 : y79 ≠ nI 27) (c82 : y79 ≠ nI 28) (c83 : y79 = nI 29) (e94 : y93 = knowF (119 + bq)) : (119 + bq) < 373 := by
  have b_y1 := ia_b y1
  have b_y3 := ia_b y3
  have b_y5 := ia_b y5
  have b_y77 := ia_b y77
  have b_y79 := ia_b y79
  have b_y93 := ia_b y93
  try have k_0 := ia_n 1 (by first | decide | omega)
  try have k_1 := ia_n 2 (by first | decide | omega)
  try have k_2 := ia_n 3 (by first | decide | omega)
  try have k_3 := ia_n 76 (by first | decide | omega)
  try have k_4 := ia_n 73 (by first | decide | omega)
  try have k_5 := ia_n 74 (by first | decide | omega)
  try have k_6 := ia_n 75 (by first | decide | omega)
  try have k_7 := ia_n 50 (by first | decide | omega)
  try have k_8 := ia_n 27 (by first | decide | omega)
  try have k_9 := ia_n 28 (by first | decide | omega)
  try have k_10 := ia_n 29 (by first | decide | omega)
  try simp only [ia_lt, ia_le, ia_eq, ia_m1, ia_0, ia_1, ne_eq, true_and, and_true, false_and, and_false, or_false, false_or, or_true, true_or, not_true_eq_false, not_false_eq_true] at *
  all_goals omega
set_option maxRecDepth 20000 in
theorem lf_x_holds_51 (knowF : Nat → Int32) (nR : Nat) (kq : Nat) (bq : Nat) (y1 : Int32) (y3 : Int32) (y5 : Int32) (y77 : Int32) (y79 : Int32) (y93 : Int32) (y95 : Int32) (ab_now : NB knowF) (sb_now : SB knowF) (hk60 : kq < 60) (hb6 : bq < 6) (hkn : kq < nR + 1) (e2 : y1 = knowF ((133 + (4 * kq)) + 1)) (e4 : y3 = knowF ((133 + (4 * kq)) + 2)) (e6 : y5 = knowF (133 + (4 * kq))) (hn8 : ¬ y5 = nI 1 ∨ (0 ≤ y1.toInt ∧ y1.toInt < (kq : Int))) (hn9 : (¬ y5 = nI 2 ∧ ¬ y5 = nI 3) ∨ (0 ≤ y1.toInt ∧ y1.toInt < (kq : Int) ∧ 0 ≤ y3.toInt ∧ y3.toInt < (kq : Int))) (hn10 : ¬ y5 = nI 76 ∨ (0 ≤ y1.toInt ∧ y1.toInt < 6)) (c18 : y5 ≠ nI 1 ∧ y5 ≠ nI 2 ∧ y5 ≠ nI 3 ∧ y5 ≠ nI 73 ∧ y5 ≠ nI 74 ∧ y5 ≠ nI 75 ∧ y5 ≠ nI 76) (e78 : y77 = knowF (133 + (4 * kq))) (e80 : y79 = y77 - (nI 50)) (c81 : y79 ≠ nI 27) (c82 : y79 ≠ nI 28) (c83 : y79 = nI 29) (e94 : y93 = knowF (119 + bq)) (e96 : y95 = knowF ((133 + (4 * kq)) + 3)) : ((133 + (4 * kq)) + 3) < 373 := by
  have b_y1 := ia_b y1
  have b_y3 := ia_b y3
  have b_y5 := ia_b y5
  have b_y77 := ia_b y77
  have b_y79 := ia_b y79
  have b_y93 := ia_b y93
  have b_y95 := ia_b y95
  try have k_0 := ia_n 1 (by first | decide | omega)
  try have k_1 := ia_n 2 (by first | decide | omega)
  try have k_2 := ia_n 3 (by first | decide | omega)
  try have k_3 := ia_n 76 (by first | decide | omega)
  try have k_4 := ia_n 73 (by first | decide | omega)
  try have k_5 := ia_n 74 (by first | decide | omega)
  try have k_6 := ia_n 75 (by first | decide | omega)
  try have k_7 := ia_n 50 (by first | decide | omega)
  try have k_8 := ia_n 27 (by first | decide | omega)
  try have k_9 := ia_n 28 (by first | decide | omega)
  try have k_10 := ia_n 29 (by first | decide | omega)
  try simp only [ia_lt, ia_le, ia_eq, ia_m1, ia_0, ia_1, ne_eq, true_and, and_true, false_and, and_false, or_false, false_or, or_true, true_or, not_true_eq_false, not_false_eq_true] at *
  all_goals omega
set_option maxRecDepth 20000 in
theorem lf_x_holds_52 (knowF : Nat → Int32) (nR : Nat) (kq : Nat) (bq : Nat) (y1 : Int32) (y3 : Int32) (y5 : Int32) (y77 : Int32) (y79 : Int32) (y93 : Int32) (y95 : Int32) (y98 : Int32) (ab_now : NB knowF) (sb_now : SB knowF) (hk60 : kq < 60) (hb6 : bq < 6) (hkn : kq < nR + 1) (e2 : y1 = knowF ((133 + (4 * kq)) + 1)) (e4 : y3 = knowF ((133 + (4 * kq)) + 2)) (e6 : y5 = knowF (133 + (4 * kq))) (hn8 : ¬ y5 = nI 1 ∨ (0 ≤ y1.toInt ∧ y1.toInt < (kq : Int))) (hn9 : (¬ y5 = nI 2 ∧ ¬ y5 = nI 3) ∨ (0 ≤ y1.toInt ∧ y1.toInt < (kq : Int) ∧ 0 ≤ y3.toInt ∧ y3.toInt < (kq : Int))) (hn10 : ¬ y5 = nI 76 ∨ (0 ≤ y1.toInt ∧ y1.toInt < 6)) (c18 : y5 ≠ nI 1 ∧ y5 ≠ nI 2 ∧ y5 ≠ nI 3 ∧ y5 ≠ nI 73 ∧ y5 ≠ nI 74 ∧ y5 ≠ nI 75 ∧ y5 ≠ nI 76) (e78 : y77 = knowF (133 + (4 * kq))) (e80 : y79 = y77 - (nI 50)) (c81 : y79 ≠ nI 27) (c82 : y79 ≠ nI 28) (c83 : y79 = nI 29) (e94 : y93 = knowF (119 + bq)) (e96 : y95 = knowF ((133 + (4 * kq)) + 3)) (c97 : y95 ≠ nI 60) (e99 : y98 = knowF ((133 + (4 * kq)) + 3)) : ((133 + (4 * kq)) + 3) < 373 := by
  have b_y1 := ia_b y1
  have b_y3 := ia_b y3
  have b_y5 := ia_b y5
  have b_y77 := ia_b y77
  have b_y79 := ia_b y79
  have b_y93 := ia_b y93
  have b_y95 := ia_b y95
  have b_y98 := ia_b y98
  try have k_0 := ia_n 1 (by first | decide | omega)
  try have k_1 := ia_n 2 (by first | decide | omega)
  try have k_2 := ia_n 3 (by first | decide | omega)
  try have k_3 := ia_n 76 (by first | decide | omega)
  try have k_4 := ia_n 73 (by first | decide | omega)
  try have k_5 := ia_n 74 (by first | decide | omega)
  try have k_6 := ia_n 75 (by first | decide | omega)
  try have k_7 := ia_n 50 (by first | decide | omega)
  try have k_8 := ia_n 27 (by first | decide | omega)
  try have k_9 := ia_n 28 (by first | decide | omega)
  try have k_10 := ia_n 29 (by first | decide | omega)
  try have k_11 := ia_n 60 (by first | decide | omega)
  try simp only [ia_lt, ia_le, ia_eq, ia_m1, ia_0, ia_1, ne_eq, true_and, and_true, false_and, and_false, or_false, false_or, or_true, true_or, not_true_eq_false, not_false_eq_true] at *
  all_goals omega
set_option maxRecDepth 20000 in
theorem lf_x_holds_53   : (nI 0) = nI 0 ∨ (nI 0) = nI 1 := by
  try have k_0 := ia_n 0 (by first | decide | omega)
  try have k_1 := ia_n 1 (by first | decide | omega)
  try simp only [ia_lt, ia_le, ia_eq, ia_m1, ia_0, ia_1, ne_eq, true_and, and_true, false_and, and_false, or_false, false_or, or_true, true_or, not_true_eq_false, not_false_eq_true] at *
  all_goals omega
set_option maxRecDepth 20000 in
theorem lf_x_holds_54   : (nI 1) = nI 0 ∨ (nI 1) = nI 1 := by
  try have k_0 := ia_n 1 (by first | decide | omega)
  try have k_1 := ia_n 0 (by first | decide | omega)
  try simp only [ia_lt, ia_le, ia_eq, ia_m1, ia_0, ia_1, ne_eq, true_and, and_true, false_and, and_false, or_false, false_or, or_true, true_or, not_true_eq_false, not_false_eq_true] at *
  all_goals omega
set_option maxRecDepth 20000 in
theorem lf_x_holds_55   : (nI 0) = nI 0 ∨ (nI 0) = nI 1 := by
  try have k_0 := ia_n 0 (by first | decide | omega)
  try have k_1 := ia_n 1 (by first | decide | omega)
  try simp only [ia_lt, ia_le, ia_eq, ia_m1, ia_0, ia_1, ne_eq, true_and, and_true, false_and, and_false, or_false, false_or, or_true, true_or, not_true_eq_false, not_false_eq_true] at *
  all_goals omega
set_option maxRecDepth 20000 in
theorem lf_x_holds_56   : (nI 1) = nI 0 ∨ (nI 1) = nI 1 := by
  try have k_0 := ia_n 1 (by first | decide | omega)
  try have k_1 := ia_n 0 (by first | decide | omega)
  try simp only [ia_lt, ia_le, ia_eq, ia_m1, ia_0, ia_1, ne_eq, true_and, and_true, false_and, and_false, or_false, false_or, or_true, true_or, not_true_eq_false, not_false_eq_true] at *
  all_goals omega
set_option maxRecDepth 20000 in
theorem lf_x_holds_57   : (nI 0) = nI 0 ∨ (nI 0) = nI 1 := by
  try have k_0 := ia_n 0 (by first | decide | omega)
  try have k_1 := ia_n 1 (by first | decide | omega)
  try simp only [ia_lt, ia_le, ia_eq, ia_m1, ia_0, ia_1, ne_eq, true_and, and_true, false_and, and_false, or_false, false_or, or_true, true_or, not_true_eq_false, not_false_eq_true] at *
  all_goals omega
set_option maxRecDepth 20000 in
theorem lf_x_holds_58   : (nI 1) = nI 0 ∨ (nI 1) = nI 1 := by
  try have k_0 := ia_n 1 (by first | decide | omega)
  try have k_1 := ia_n 0 (by first | decide | omega)
  try simp only [ia_lt, ia_le, ia_eq, ia_m1, ia_0, ia_1, ne_eq, true_and, and_true, false_and, and_false, or_false, false_or, or_true, true_or, not_true_eq_false, not_false_eq_true] at *
  all_goals omega
set_option maxRecDepth 20000 in
theorem lf_x_holds_59 (knowF : Nat → Int32) (nR : Nat) (kq : Nat) (bq : Nat) (y1 : Int32) (y3 : Int32) (y5 : Int32) (y77 : Int32) (y79 : Int32) (y104 : Int32) (ab_now : NB knowF) (sb_now : SB knowF) (hk60 : kq < 60) (hb6 : bq < 6) (hkn : kq < nR + 1) (e2 : y1 = knowF ((133 + (4 * kq)) + 1)) (e4 : y3 = knowF ((133 + (4 * kq)) + 2)) (e6 : y5 = knowF (133 + (4 * kq))) (hn8 : ¬ y5 = nI 1 ∨ (0 ≤ y1.toInt ∧ y1.toInt < (kq : Int))) (hn9 : (¬ y5 = nI 2 ∧ ¬ y5 = nI 3) ∨ (0 ≤ y1.toInt ∧ y1.toInt < (kq : Int) ∧ 0 ≤ y3.toInt ∧ y3.toInt < (kq : Int))) (hn10 : ¬ y5 = nI 76 ∨ (0 ≤ y1.toInt ∧ y1.toInt < 6)) (c18 : y5 ≠ nI 1 ∧ y5 ≠ nI 2 ∧ y5 ≠ nI 3 ∧ y5 ≠ nI 73 ∧ y5 ≠ nI 74 ∧ y5 ≠ nI 75 ∧ y5 ≠ nI 76) (e78 : y77 = knowF (133 + (4 * kq))) (e80 : y79 = y77 - (nI 50)) (c81 : y79 ≠ nI 27) (c82 : y79 = nI 28) (e105 : y104 = knowF (125 + bq)) : (125 + bq) < 373 := by
  have b_y1 := ia_b y1
  have b_y3 := ia_b y3
  have b_y5 := ia_b y5
  have b_y77 := ia_b y77
  have b_y79 := ia_b y79
  have b_y104 := ia_b y104
  try have k_0 := ia_n 1 (by first | decide | omega)
  try have k_1 := ia_n 2 (by first | decide | omega)
  try have k_2 := ia_n 3 (by first | decide | omega)
  try have k_3 := ia_n 76 (by first | decide | omega)
  try have k_4 := ia_n 73 (by first | decide | omega)
  try have k_5 := ia_n 74 (by first | decide | omega)
  try have k_6 := ia_n 75 (by first | decide | omega)
  try have k_7 := ia_n 50 (by first | decide | omega)
  try have k_8 := ia_n 27 (by first | decide | omega)
  try have k_9 := ia_n 28 (by first | decide | omega)
  try simp only [ia_lt, ia_le, ia_eq, ia_m1, ia_0, ia_1, ne_eq, true_and, and_true, false_and, and_false, or_false, false_or, or_true, true_or, not_true_eq_false, not_false_eq_true] at *
  all_goals omega
set_option maxRecDepth 20000 in
theorem lf_x_holds_60 (knowF : Nat → Int32) (nR : Nat) (kq : Nat) (bq : Nat) (y1 : Int32) (y3 : Int32) (y5 : Int32) (y77 : Int32) (y79 : Int32) (y104 : Int32) (y106 : Int32) (ab_now : NB knowF) (sb_now : SB knowF) (hk60 : kq < 60) (hb6 : bq < 6) (hkn : kq < nR + 1) (e2 : y1 = knowF ((133 + (4 * kq)) + 1)) (e4 : y3 = knowF ((133 + (4 * kq)) + 2)) (e6 : y5 = knowF (133 + (4 * kq))) (hn8 : ¬ y5 = nI 1 ∨ (0 ≤ y1.toInt ∧ y1.toInt < (kq : Int))) (hn9 : (¬ y5 = nI 2 ∧ ¬ y5 = nI 3) ∨ (0 ≤ y1.toInt ∧ y1.toInt < (kq : Int) ∧ 0 ≤ y3.toInt ∧ y3.toInt < (kq : Int))) (hn10 : ¬ y5 = nI 76 ∨ (0 ≤ y1.toInt ∧ y1.toInt < 6)) (c18 : y5 ≠ nI 1 ∧ y5 ≠ nI 2 ∧ y5 ≠ nI 3 ∧ y5 ≠ nI 73 ∧ y5 ≠ nI 74 ∧ y5 ≠ nI 75 ∧ y5 ≠ nI 76) (e78 : y77 = knowF (133 + (4 * kq))) (e80 : y79 = y77 - (nI 50)) (c81 : y79 ≠ nI 27) (c82 : y79 = nI 28) (e105 : y104 = knowF (125 + bq)) (e107 : y106 = knowF ((133 + (4 * kq)) + 3)) : ((133 + (4 * kq)) + 3) < 373 := by
  have b_y1 := ia_b y1
  have b_y3 := ia_b y3
  have b_y5 := ia_b y5
  have b_y77 := ia_b y77
  have b_y79 := ia_b y79
  have b_y104 := ia_b y104
  have b_y106 := ia_b y106
  try have k_0 := ia_n 1 (by first | decide | omega)
  try have k_1 := ia_n 2 (by first | decide | omega)
  try have k_2 := ia_n 3 (by first | decide | omega)
  try have k_3 := ia_n 76 (by first | decide | omega)
  try have k_4 := ia_n 73 (by first | decide | omega)
  try have k_5 := ia_n 74 (by first | decide | omega)
  try have k_6 := ia_n 75 (by first | decide | omega)
  try have k_7 := ia_n 50 (by first | decide | omega)
  try have k_8 := ia_n 27 (by first | decide | omega)
  try have k_9 := ia_n 28 (by first | decide | omega)
  try simp only [ia_lt, ia_le, ia_eq, ia_m1, ia_0, ia_1, ne_eq, true_and, and_true, false_and, and_false, or_false, false_or, or_true, true_or, not_true_eq_false, not_false_eq_true] at *
  all_goals omega
set_option maxRecDepth 20000 in
theorem lf_x_holds_61 (knowF : Nat → Int32) (nR : Nat) (kq : Nat) (bq : Nat) (y1 : Int32) (y3 : Int32) (y5 : Int32) (y77 : Int32) (y79 : Int32) (y104 : Int32) (y106 : Int32) (y109 : Int32) (ab_now : NB knowF) (sb_now : SB knowF) (hk60 : kq < 60) (hb6 : bq < 6) (hkn : kq < nR + 1) (e2 : y1 = knowF ((133 + (4 * kq)) + 1)) (e4 : y3 = knowF ((133 + (4 * kq)) + 2)) (e6 : y5 = knowF (133 + (4 * kq))) (hn8 : ¬ y5 = nI 1 ∨ (0 ≤ y1.toInt ∧ y1.toInt < (kq : Int))) (hn9 : (¬ y5 = nI 2 ∧ ¬ y5 = nI 3) ∨ (0 ≤ y1.toInt ∧ y1.toInt < (kq : Int) ∧ 0 ≤ y3.toInt ∧ y3.toInt < (kq : Int))) (hn10 : ¬ y5 = nI 76 ∨ (0 ≤ y1.toInt ∧ y1.toInt < 6)) (c18 : y5 ≠ nI 1 ∧ y5 ≠ nI 2 ∧ y5 ≠ nI 3 ∧ y5 ≠ nI 73 ∧ y5 ≠ nI 74 ∧ y5 ≠ nI 75 ∧ y5 ≠ nI 76) (e78 : y77 = knowF (133 + (4 * kq))) (e80 : y79 = y77 - (nI 50)) (c81 : y79 ≠ nI 27) (c82 : y79 = nI 28) (e105 : y104 = knowF (125 + bq)) (e107 : y106 = knowF ((133 + (4 * kq)) + 3)) (c108 : y106 ≠ nI 60) (e110 : y109 = knowF ((133 + (4 * kq)) + 3)) : ((133 + (4 * kq)) + 3) < 373 := by
  have b_y1 := ia_b y1
  have b_y3 := ia_b y3
  have b_y5 := ia_b y5
  have b_y77 := ia_b y77
  have b_y79 := ia_b y79
  have b_y104 := ia_b y104
  have b_y106 := ia_b y106
  have b_y109 := ia_b y109
  try have k_0 := ia_n 1 (by first | decide | omega)
  try have k_1 := ia_n 2 (by first | decide | omega)
  try have k_2 := ia_n 3 (by first | decide | omega)
  try have k_3 := ia_n 76 (by first | decide | omega)
  try have k_4 := ia_n 73 (by first | decide | omega)
  try have k_5 := ia_n 74 (by first | decide | omega)
  try have k_6 := ia_n 75 (by first | decide | omega)
  try have k_7 := ia_n 50 (by first | decide | omega)
  try have k_8 := ia_n 27 (by first | decide | omega)
  try have k_9 := ia_n 28 (by first | decide | omega)
  try have k_10 := ia_n 60 (by first | decide | omega)
  try simp only [ia_lt, ia_le, ia_eq, ia_m1, ia_0, ia_1, ne_eq, true_and, and_true, false_and, and_false, or_false, false_or, or_true, true_or, not_true_eq_false, not_false_eq_true] at *
  all_goals omega
set_option maxRecDepth 20000 in
theorem lf_x_holds_62   : (nI 0) = nI 0 ∨ (nI 0) = nI 1 := by
  try have k_0 := ia_n 0 (by first | decide | omega)
  try have k_1 := ia_n 1 (by first | decide | omega)
  try simp only [ia_lt, ia_le, ia_eq, ia_m1, ia_0, ia_1, ne_eq, true_and, and_true, false_and, and_false, or_false, false_or, or_true, true_or, not_true_eq_false, not_false_eq_true] at *
  all_goals omega
set_option maxRecDepth 20000 in
theorem lf_x_holds_63   : (nI 1) = nI 0 ∨ (nI 1) = nI 1 := by
  try have k_0 := ia_n 1 (by first | decide | omega)
  try have k_1 := ia_n 0 (by first | decide | omega)
  try simp only [ia_lt, ia_le, ia_eq, ia_m1, ia_0, ia_1, ne_eq, true_and, and_true, false_and, and_false, or_false, false_or, or_true, true_or, not_true_eq_false, not_false_eq_true] at *
  all_goals omega
set_option maxRecDepth 20000 in
theorem lf_x_holds_64   : (nI 0) = nI 0 ∨ (nI 0) = nI 1 := by
  try have k_0 := ia_n 0 (by first | decide | omega)
  try have k_1 := ia_n 1 (by first | decide | omega)
  try simp only [ia_lt, ia_le, ia_eq, ia_m1, ia_0, ia_1, ne_eq, true_and, and_true, false_and, and_false, or_false, false_or, or_true, true_or, not_true_eq_false, not_false_eq_true] at *
  all_goals omega
set_option maxRecDepth 20000 in
theorem lf_x_holds_65   : (nI 1) = nI 0 ∨ (nI 1) = nI 1 := by
  try have k_0 := ia_n 1 (by first | decide | omega)
  try have k_1 := ia_n 0 (by first | decide | omega)
  try simp only [ia_lt, ia_le, ia_eq, ia_m1, ia_0, ia_1, ne_eq, true_and, and_true, false_and, and_false, or_false, false_or, or_true, true_or, not_true_eq_false, not_false_eq_true] at *
  all_goals omega
set_option maxRecDepth 20000 in
theorem lf_x_holds_66   : (nI 0) = nI 0 ∨ (nI 0) = nI 1 := by
  try have k_0 := ia_n 0 (by first | decide | omega)
  try have k_1 := ia_n 1 (by first | decide | omega)
  try simp only [ia_lt, ia_le, ia_eq, ia_m1, ia_0, ia_1, ne_eq, true_and, and_true, false_and, and_false, or_false, false_or, or_true, true_or, not_true_eq_false, not_false_eq_true] at *
  all_goals omega
set_option maxRecDepth 20000 in
theorem lf_x_holds_67   : (nI 1) = nI 0 ∨ (nI 1) = nI 1 := by
  try have k_0 := ia_n 1 (by first | decide | omega)
  try have k_1 := ia_n 0 (by first | decide | omega)
  try simp only [ia_lt, ia_le, ia_eq, ia_m1, ia_0, ia_1, ne_eq, true_and, and_true, false_and, and_false, or_false, false_or, or_true, true_or, not_true_eq_false, not_false_eq_true] at *
  all_goals omega
set_option maxRecDepth 20000 in
theorem lf_x_holds_68 (knowF : Nat → Int32) (nR : Nat) (kq : Nat) (bq : Nat) (y1 : Int32) (y3 : Int32) (y5 : Int32) (y77 : Int32) (y79 : Int32) (y115 : Int32) (ab_now : NB knowF) (sb_now : SB knowF) (hk60 : kq < 60) (hb6 : bq < 6) (hkn : kq < nR + 1) (e2 : y1 = knowF ((133 + (4 * kq)) + 1)) (e4 : y3 = knowF ((133 + (4 * kq)) + 2)) (e6 : y5 = knowF (133 + (4 * kq))) (hn8 : ¬ y5 = nI 1 ∨ (0 ≤ y1.toInt ∧ y1.toInt < (kq : Int))) (hn9 : (¬ y5 = nI 2 ∧ ¬ y5 = nI 3) ∨ (0 ≤ y1.toInt ∧ y1.toInt < (kq : Int) ∧ 0 ≤ y3.toInt ∧ y3.toInt < (kq : Int))) (hn10 : ¬ y5 = nI 76 ∨ (0 ≤ y1.toInt ∧ y1.toInt < 6)) (c18 : y5 ≠ nI 1 ∧ y5 ≠ nI 2 ∧ y5 ≠ nI 3 ∧ y5 ≠ nI 73 ∧ y5 ≠ nI 74 ∧ y5 ≠ nI 75 ∧ y5 ≠ nI 76) (e78 : y77 = knowF (133 + (4 * kq))) (e80 : y79 = y77 - (nI 50)) (c81 : y79 = nI 27) (e116 : y115 = knowF (55 + bq)) : (55 + bq) < 373 := by
  have b_y1 := ia_b y1
  have b_y3 := ia_b y3
  have b_y5 := ia_b y5
  have b_y77 := ia_b y77
  have b_y79 := ia_b y79
  have b_y115 := ia_b y115
  try have k_0 := ia_n 1 (by first | decide | omega)
  try have k_1 := ia_n 2 (by first | decide | omega)
  try have k_2 := ia_n 3 (by first | decide | omega)
  try have k_3 := ia_n 76 (by first | decide | omega)
  try have k_4 := ia_n 73 (by first | decide | omega)
  try have k_5 := ia_n 74 (by first | decide | omega)
  try have k_6 := ia_n 75 (by first | decide | omega)
  try have k_7 := ia_n 50 (by first | decide | omega)
  try have k_8 := ia_n 27 (by first | decide | omega)
  try simp only [ia_lt, ia_le, ia_eq, ia_m1, ia_0, ia_1, ne_eq, true_and, and_true, false_and, and_false, or_false, false_or, or_true, true_or, not_true_eq_false, not_false_eq_true] at *
  all_goals omega
set_option maxRecDepth 20000 in
theorem lf_x_holds_69 (knowF : Nat → Int32) (nR : Nat) (kq : Nat) (bq : Nat) (y1 : Int32) (y3 : Int32) (y5 : Int32) (y77 : Int32) (y79 : Int32) (y115 : Int32) (y117 : Int32) (ab_now : NB knowF) (sb_now : SB knowF) (hk60 : kq < 60) (hb6 : bq < 6) (hkn : kq < nR + 1) (e2 : y1 = knowF ((133 + (4 * kq)) + 1)) (e4 : y3 = knowF ((133 + (4 * kq)) + 2)) (e6 : y5 = knowF (133 + (4 * kq))) (hn8 : ¬ y5 = nI 1 ∨ (0 ≤ y1.toInt ∧ y1.toInt < (kq : Int))) (hn9 : (¬ y5 = nI 2 ∧ ¬ y5 = nI 3) ∨ (0 ≤ y1.toInt ∧ y1.toInt < (kq : Int) ∧ 0 ≤ y3.toInt ∧ y3.toInt < (kq : Int))) (hn10 : ¬ y5 = nI 76 ∨ (0 ≤ y1.toInt ∧ y1.toInt < 6)) (c18 : y5 ≠ nI 1 ∧ y5 ≠ nI 2 ∧ y5 ≠ nI 3 ∧ y5 ≠ nI 73 ∧ y5 ≠ nI 74 ∧ y5 ≠ nI 75 ∧ y5 ≠ nI 76) (e78 : y77 = knowF (133 + (4 * kq))) (e80 : y79 = y77 - (nI 50)) (c81 : y79 = nI 27) (e116 : y115 = knowF (55 + bq)) (e118 : y117 = knowF ((133 + (4 * kq)) + 3)) : ((133 + (4 * kq)) + 3) < 373 := by
  have b_y1 := ia_b y1
  have b_y3 := ia_b y3
  have b_y5 := ia_b y5
  have b_y77 := ia_b y77
  have b_y79 := ia_b y79
  have b_y115 := ia_b y115
  have b_y117 := ia_b y117
  try have k_0 := ia_n 1 (by first | decide | omega)
  try have k_1 := ia_n 2 (by first | decide | omega)
  try have k_2 := ia_n 3 (by first | decide | omega)
  try have k_3 := ia_n 76 (by first | decide | omega)
  try have k_4 := ia_n 73 (by first | decide | omega)
  try have k_5 := ia_n 74 (by first | decide | omega)
  try have k_6 := ia_n 75 (by first | decide | omega)
  try have k_7 := ia_n 50 (by first | decide | omega)
  try have k_8 := ia_n 27 (by first | decide | omega)
  try simp only [ia_lt, ia_le, ia_eq, ia_m1, ia_0, ia_1, ne_eq, true_and, and_true, false_and, and_false, or_false, false_or, or_true, true_or, not_true_eq_false, not_false_eq_true] at *
  all_goals omega
set_option maxRecDepth 20000 in
theorem lf_x_holds_70 (knowF : Nat → Int32) (nR : Nat) (kq : Nat) (bq : Nat) (y1 : Int32) (y3 : Int32) (y5 : Int32) (y77 : Int32) (y79 : Int32) (y115 : Int32) (y117 : Int32) (y120 : Int32) (ab_now : NB knowF) (sb_now : SB knowF) (hk60 : kq < 60) (hb6 : bq < 6) (hkn : kq < nR + 1) (e2 : y1 = knowF ((133 + (4 * kq)) + 1)) (e4 : y3 = knowF ((133 + (4 * kq)) + 2)) (e6 : y5 = knowF (133 + (4 * kq))) (hn8 : ¬ y5 = nI 1 ∨ (0 ≤ y1.toInt ∧ y1.toInt < (kq : Int))) (hn9 : (¬ y5 = nI 2 ∧ ¬ y5 = nI 3) ∨ (0 ≤ y1.toInt ∧ y1.toInt < (kq : Int) ∧ 0 ≤ y3.toInt ∧ y3.toInt < (kq : Int))) (hn10 : ¬ y5 = nI 76 ∨ (0 ≤ y1.toInt ∧ y1.toInt < 6)) (c18 : y5 ≠ nI 1 ∧ y5 ≠ nI 2 ∧ y5 ≠ nI 3 ∧ y5 ≠ nI 73 ∧ y5 ≠ nI 74 ∧ y5 ≠ nI 75 ∧ y5 ≠ nI 76) (e78 : y77 = knowF (133 + (4 * kq))) (e80 : y79 = y77 - (nI 50)) (c81 : y79 = nI 27) (e116 : y115 = knowF (55 + bq)) (e118 : y117 = knowF ((133 + (4 * kq)) + 3)) (c119 : y117 ≠ nI 60) (e121 : y120 = knowF ((133 + (4 * kq)) + 3)) : ((133 + (4 * kq)) + 3) < 373 := by
  have b_y1 := ia_b y1
  have b_y3 := ia_b y3
  have b_y5 := ia_b y5
  have b_y77 := ia_b y77
  have b_y79 := ia_b y79
  have b_y115 := ia_b y115
  have b_y117 := ia_b y117
  have b_y120 := ia_b y120
  try have k_0 := ia_n 1 (by first | decide | omega)
  try have k_1 := ia_n 2 (by first | decide | omega)
  try have k_2 := ia_n 3 (by first | decide | omega)
  try have k_3 := ia_n 76 (by first | decide | omega)
  try have k_4 := ia_n 73 (by first | decide | omega)
  try have k_5 := ia_n 74 (by first | decide | omega)
  try have k_6 := ia_n 75 (by first | decide | omega)
  try have k_7 := ia_n 50 (by first | decide | omega)
  try have k_8 := ia_n 27 (by first | decide | omega)
  try have k_9 := ia_n 60 (by first | decide | omega)
  try simp only [ia_lt, ia_le, ia_eq, ia_m1, ia_0, ia_1, ne_eq, true_and, and_true, false_and, and_false, or_false, false_or, or_true, true_or, not_true_eq_false, not_false_eq_true] at *
  all_goals omega
set_option maxRecDepth 20000 in
theorem lf_x_holds_71   : (nI 0) = nI 0 ∨ (nI 0) = nI 1 := by
  try have k_0 := ia_n 0 (by first | decide | omega)
  try have k_1 := ia_n 1 (by first | decide | omega)
  try simp only [ia_lt, ia_le, ia_eq, ia_m1, ia_0, ia_1, ne_eq, true_and, and_true, false_and, and_false, or_false, false_or, or_true, true_or, not_true_eq_false, not_false_eq_true] at *
  all_goals omega
set_option maxRecDepth 20000 in
theorem lf_x_holds_72   : (nI 1) = nI 0 ∨ (nI 1) = nI 1 := by
  try have k_0 := ia_n 1 (by first | decide | omega)
  try have k_1 := ia_n 0 (by first | decide | omega)
  try simp only [ia_lt, ia_le, ia_eq, ia_m1, ia_0, ia_1, ne_eq, true_and, and_true, false_and, and_false, or_false, false_or, or_true, true_or, not_true_eq_false, not_false_eq_true] at *
  all_goals omega
set_option maxRecDepth 20000 in
theorem lf_x_holds_73   : (nI 0) = nI 0 ∨ (nI 0) = nI 1 := by
  try have k_0 := ia_n 0 (by first | decide | omega)
  try have k_1 := ia_n 1 (by first | decide | omega)
  try simp only [ia_lt, ia_le, ia_eq, ia_m1, ia_0, ia_1, ne_eq, true_and, and_true, false_and, and_false, or_false, false_or, or_true, true_or, not_true_eq_false, not_false_eq_true] at *
  all_goals omega
set_option maxRecDepth 20000 in
theorem lf_x_holds_74   : (nI 1) = nI 0 ∨ (nI 1) = nI 1 := by
  try have k_0 := ia_n 1 (by first | decide | omega)
  try have k_1 := ia_n 0 (by first | decide | omega)
  try simp only [ia_lt, ia_le, ia_eq, ia_m1, ia_0, ia_1, ne_eq, true_and, and_true, false_and, and_false, or_false, false_or, or_true, true_or, not_true_eq_false, not_false_eq_true] at *
  all_goals omega
set_option maxRecDepth 20000 in
theorem lf_x_holds_75   : (nI 0) = nI 0 ∨ (nI 0) = nI 1 := by
  try have k_0 := ia_n 0 (by first | decide | omega)
  try have k_1 := ia_n 1 (by first | decide | omega)
  try simp only [ia_lt, ia_le, ia_eq, ia_m1, ia_0, ia_1, ne_eq, true_and, and_true, false_and, and_false, or_false, false_or, or_true, true_or, not_true_eq_false, not_false_eq_true] at *
  all_goals omega
set_option maxRecDepth 20000 in
theorem lf_x_holds_76   : (nI 1) = nI 0 ∨ (nI 1) = nI 1 := by
  try have k_0 := ia_n 1 (by first | decide | omega)
  try have k_1 := ia_n 0 (by first | decide | omega)
  try simp only [ia_lt, ia_le, ia_eq, ia_m1, ia_0, ia_1, ne_eq, true_and, and_true, false_and, and_false, or_false, false_or, or_true, true_or, not_true_eq_false, not_false_eq_true] at *
  all_goals omega
set_option maxHeartbeats 4000000 in
set_option maxRecDepth 100000 in
theorem c_x_holds (l : Launch) (dC : Nat → ClassId) (dI : Nat → Nat → Nat) (ky : Nat → ClassId) (nR : Nat) : ∀ (o : Nat) (kthrown : Int32) (ktape : Nat) (ktaped : Nat) (ksize : Nat) (klimit : Nat) (kto : Nat) (kfrom : Nat) (kkind : Int32) (knumber : Int32) (ksign : Int32) (kfault : Int32) (kplace : Int32) (kword : Int64) (ktold : Int32) (know : Nat) (kread : Nat) (kkept : Nat) (ksnaps : Nat) (kaside : Nat) (kname : Nat) (kreadName : Nat) (kkeptName : Nat) (kisKept : Nat) (konces : Nat) (ksnapMany : Nat) (khasCells : Int32) (kpoured : Nat) (kfar : Nat) (ksides : Nat) (ksideMany : Nat) (kwayDays : Int32) (khasWay : Int32) (klines : Nat) (kmet : Nat) (kmetMany : Nat) (ksunk : Nat) (ktrying : Nat) (ksunkMany : Nat) (ksending : Int32) (kfleets : Int32) (ktext : Nat) (ktexts : Nat) (kseed : Int32) (kline : Nat) (kwritten : Nat) (klineMany : Nat) (khasWritten : Int32) (knode : Nat) (knodes : Nat) (konesMany : Nat) (kwithin : Nat) (ktop : Nat) (knowF : Nat → Int32) (kq : Nat) (bq : Nat) (iv_ko_0 : ktaped ≤ 940) (iv_ko_1 : ksize ≤ 940) (iv_ko_2 : klimit ≤ 900) (iv_ko_3 : kto ≤ ksize) (iv_ko_4 : kfrom ≤ 940) (iv_ko_5 : ksnapMany ≤ 8) (iv_ko_6 : ksideMany ≤ 36) (iv_ko_7 : kmetMany ≤ 3) (iv_ko_8 : ksunkMany ≤ 36) (iv_ko_9 : ktexts ≤ 64) (iv_ko_10 : klineMany ≤ 40) (iv_ko_11 : knodes ≤ 60) (iv_ko_12 : konesMany ≤ 20) (iv_ko_13 : kwithin ≤ 8) (iv_ko_14 : ktop ≤ 59) (ab_now : NB knowF) (sb_now : SB knowF) (hk60 : kq < 60) (hb6 : bq < 6) (hkn : kq < nR), Met l yX12_holds wsX12_holds ({ frames := 20 + nR, cells := 0, slots := 0, locals := 400 + 40 * nR }) (PcP dC dI ky [.ref o, .int (nI kq), .int (nI bq)] [(o, .inr (12, [.int kthrown, .ref ktape, .int (nI ktaped), .int (nI ksize), .int (nI klimit), .int (nI kto), .int (nI kfrom), .int kkind, .int knumber, .int ksign, .int kfault, .int kplace, .long kword, .int ktold, .ref know, .ref kread, .ref kkept, .ref ksnaps, .ref kaside, .ref kname, .ref kreadName, .ref kkeptName, .ref kisKept, .ref konces, .int (nI ksnapMany), .int khasCells, .ref kpoured, .ref kfar, .ref ksides, .int (nI ksideMany), .int kwayDays, .int khasWay, .ref klines, .ref kmet, .int (nI kmetMany), .ref ksunk, .ref ktrying, .int (nI ksunkMany), .int ksending, .int kfleets, .ref ktext, .int (nI ktexts), .int kseed, .ref kline, .ref kwritten, .int (nI klineMany), .int khasWritten, .ref knode, .int (nI knodes), .int (nI konesMany), .int (nI kwithin), .int (nI ktop)])), (know, .inl (ky 0, 373, .inl knowF))]) (vp_Si (fun r : Int32 => r = nI 0 ∨ r = nI 1)) 0 0 (fun _ => False) := by
  induction nR with
  | zero => intro o kthrown ktape ktaped ksize klimit kto kfrom kkind knumber ksign kfault kplace kword ktold know kread kkept ksnaps kaside kname kreadName kkeptName kisKept konces ksnapMany khasCells kpoured kfar ksides ksideMany kwayDays khasWay klines kmet kmetMany ksunk ktrying ksunkMany ksending kfleets ktext ktexts kseed kline kwritten klineMany khasWritten knode knodes konesMany kwithin ktop knowF kq bq iv_ko_0 iv_ko_1 iv_ko_2 iv_ko_3 iv_ko_4 iv_ko_5 iv_ko_6 iv_ko_7 iv_ko_8 iv_ko_9 iv_ko_10 iv_ko_11 iv_ko_12 iv_ko_13 iv_ko_14 ab_now sb_now hk60 hb6 hkn; exact absurd hkn (Nat.not_lt_zero _)
  | succ nR ih =>
    intro o kthrown ktape ktaped ksize klimit kto kfrom kkind knumber ksign kfault kplace kword ktold know kread kkept ksnaps kaside kname kreadName kkeptName kisKept konces ksnapMany khasCells kpoured kfar ksides ksideMany kwayDays khasWay klines kmet kmetMany ksunk ktrying ksunkMany ksending kfleets ktext ktexts kseed kline kwritten klineMany khasWritten knode knodes konesMany kwithin ktop knowF kq bq iv_ko_0 iv_ko_1 iv_ko_2 iv_ko_3 iv_ko_4 iv_ko_5 iv_ko_6 iv_ko_7 iv_ko_8 iv_ko_9 iv_ko_10 iv_ko_11 iv_ko_12 iv_ko_13 iv_ko_14 ab_now sb_now hk60 hb6 hkn
    refine Met.ofW (cc := cX12_holds) (maxL := 8) (ret := (some .boolean)) (by decide) rfl ?_
    intro p e s m args below meth c s₁ B hml hv
    obtain ⟨rfl, hP, hK⟩ := hv
    have hx := B.exec
    have hb := B.bytes
    have hr := B.returns
    have hts := atoms_spec (ws := wsX12_holds) B.pre
    have hown : s.vm.findClass RX12 = some m.cls := findClass_of_methodNamed B.named
    have hlocks := B.notSynchronized
    have hin12 : ∀ w ∈ u_ws RX12 TX12 52, w ∈ wsX12_holds := by decide +kernel
    have hl := lv_entry ([.ref o, .int (nI kq), .int (nI bq)]) (n := 8) (Nat.le_of_ble_eq_true rfl)
    rw [lg_entry_eq]
    generalize (lg_sl ([.ref o, .int (nI kq), .int (nI bq)]) ++ List.replicate (8 - (lg_sl ([.ref o, .int (nI kq), .int (nI bq)])).length) Slot.unset).toArray = ls at hl ⊢
    have hl : lv_has ls 8 [(0, .ref o), (1, .int (nI kq)), (2, .int (nI bq))] := hl
    refine q_name (fun Q hQ => ?_)
    generalize ([.ref o, .int (nI kq), .int (nI bq)] : List Value).toArray = args at hts hQ ⊢
    refine lv_sipush (v := nI 133) hx hb dX12_holds_0 (by decide) ?_
    refine lv_iconst (v := nI 4) hx hb dX12_holds_3 (by decide) ?_
    refine lv_iload_n hx hb dX12_holds_4 rfl (lv_at hl 1 rfl) ?_
    refine lv_imul hx hb dX12_holds_5 ?_
    refine r_ti (nI (4 * kq)) (pk_mul _ _) ?_
    refine lv_iadd hx hb dX12_holds_6 ?_
    refine r_ti (nI (133 + (4 * kq))) (nI_add _ _) ?_
    refine lv_istore_n (lv' := [(3, .int (nI (133 + (4 * kq)))), (0, .ref o), (1, .int (nI kq)), (2, .int (nI bq))]) hx hb dX12_holds_7 rfl hl (by decide) rfl (fun ls hl => ?_)
    refine lv_aload_n hx hb dX12_holds_8 rfl (lv_at hl 1 rfl) ?_
    refine va_get (D := (dC, dI)) (ci := 12) (v := .ref know) (C := RX12) (T := TX12) (N := 52) hx hb hts hin12 hown hK hP 0 rfl rfl 14 (by decide) (hts (.fieldLink RX12 98 "PorridgeSeaModel" "now" "[I") (List.mem_of_getElem? (i := 1) rfl)) (fun _ h9 => h9) rfl dX12_holds_9 ?_
    refine lv_iload_n hx hb dX12_holds_12 rfl (lv_at hl 0 rfl) ?_
    refine lv_iconst (v := nI 1) hx hb dX12_holds_13 (by decide) ?_
    refine lv_iadd hx hb dX12_holds_14 ?_
    refine r_ti (nI ((133 + (4 * kq)) + 1)) (nI_add _ _) ?_
    obtain ⟨y1, e2⟩ : ∃ z9, z9 = knowF ((133 + (4 * kq)) + 1) := ⟨_, rfl⟩
    refine r_iald hx hb hK hP 1 rfl ((133 + (4 * kq)) + 1) (lf_x_holds_1 knowF nR kq y1 ab_now sb_now hk60 hkn e2) (by decide) y1 e2.symm dX12_holds_15 ?_
    refine lv_istore (lv' := [(4, .int y1), (3, .int (nI (133 + (4 * kq)))), (0, .ref o), (1, .int (nI kq)), (2, .int (nI bq))]) hx hb dX12_holds_16 hl (by decide) rfl (fun ls hl => ?_)
    refine lv_aload_n hx hb dX12_holds_18 rfl (lv_at hl 2 rfl) ?_
    refine va_get (D := (dC, dI)) (ci := 12) (v := .ref know) (C := RX12) (T := TX12) (N := 52) hx hb hts hin12 hown hK hP 0 rfl rfl 14 (by decide) (hts (.fieldLink RX12 98 "PorridgeSeaModel" "now" "[I") (List.mem_of_getElem? (i := 1) rfl)) (fun _ h9 => h9) rfl dX12_holds_19 ?_
    refine lv_iload_n hx hb dX12_holds_22 rfl (lv_at hl 1 rfl) ?_
    refine lv_iconst (v := nI 2) hx hb dX12_holds_23 (by decide) ?_
    refine lv_iadd hx hb dX12_holds_24 ?_
    refine r_ti (nI ((133 + (4 * kq)) + 2)) (nI_add _ _) ?_
    obtain ⟨y3, e4⟩ : ∃ z9, z9 = knowF ((133 + (4 * kq)) + 2) := ⟨_, rfl⟩
    refine r_iald hx hb hK hP 1 rfl ((133 + (4 * kq)) + 2) (lf_x_holds_2 knowF nR kq y1 y3 ab_now sb_now hk60 hkn e2 e4) (by decide) y3 e4.symm dX12_holds_25 ?_
    refine lv_istore (lv' := [(5, .int y3), (4, .int y1), (3, .int (nI (133 + (4 * kq)))), (0, .ref o), (1, .int (nI kq)), (2, .int (nI bq))]) hx hb dX12_holds_26 hl (by decide) rfl (fun ls hl => ?_)
    refine lv_aload_n hx hb dX12_holds_28 rfl (lv_at hl 3 rfl) ?_
    refine va_get (D := (dC, dI)) (ci := 12) (v := .ref know) (C := RX12) (T := TX12) (N := 52) hx hb hts hin12 hown hK hP 0 rfl rfl 14 (by decide) (hts (.fieldLink RX12 98 "PorridgeSeaModel" "now" "[I") (List.mem_of_getElem? (i := 1) rfl)) (fun _ h9 => h9) rfl dX12_holds_29 ?_
    refine lv_iload_n hx hb dX12_holds_32 rfl (lv_at hl 2 rfl) ?_
    obtain ⟨y5, e6⟩ : ∃ z9, z9 = knowF (133 + (4 * kq)) := ⟨_, rfl⟩
    refine r_iald hx hb hK hP 1 rfl (133 + (4 * kq)) (lf_x_holds_3 knowF nR kq y1 y3 y5 ab_now sb_now hk60 hkn e2 e4 e6) (by decide) y5 e6.symm dX12_holds_33 ?_
    have hN7 : NodeOk y5 y1 y3 kq := by have h9 := sb_now kq (by omega); rw [show 134 + 4 * kq = 133 + 4 * kq + 1 by omega, show 135 + 4 * kq = 133 + 4 * kq + 2 by omega, ← e6, ← e2, ← e4] at h9; exact h9
    have hn8 : ¬ y5 = nI 1 ∨ (0 ≤ y1.toInt ∧ y1.toInt < (kq : Int)) := nodeA1 hN7
    have hn9 : (¬ y5 = nI 2 ∧ ¬ y5 = nI 3) ∨ (0 ≤ y1.toInt ∧ y1.toInt < (kq : Int) ∧ 0 ≤ y3.toInt ∧ y3.toInt < (kq : Int)) := nodeA2 hN7
    have hn10 : ¬ y5 = nI 76 ∨ (0 ≤ y1.toInt ∧ y1.toInt < 6) := nodeA3 hN7
    rcases lk_1_2_3_73_74_75_76 y5 with c11 | c12 | c13 | c14 | c15 | c16 | c17 | c18
    · refine r_ti (nI 1) c11 ?_
      refine lv_lookup (off := 66) (tgt := 100) hx hb dX12_holds_34 (by decide) (by decide) (by decide) ?_
      refine lv_aload_n hx hb dX12_holds_100 rfl (lv_at hl 3 rfl) ?_
      refine lv_iload hx hb dX12_holds_101 (lv_at hl 1 rfl) ?_
      refine lv_iload_n hx hb dX12_holds_103 rfl (lv_at hl 5 rfl) ?_
      obtain ⟨n19, h20, e21⟩ := nat_of y1 60 (by decide) (lf_x_holds_4 knowF nR kq y1 y3 y5 ab_now sb_now hk60 hkn e2 e4 e6 hn8 hn9 hn10 c11)
      rw [e21]
      refine vp_callSi (W.runV (As := [.int (nI n19), .int (nI bq)]) (rest := []) ⟨hx, hb, hml, hown, hts⟩ (ih o kthrown ktape ktaped ksize klimit kto kfrom kkind knumber ksign kfault kplace kword ktold know kread kkept ksnaps kaside kname kreadName kkeptName kisKept konces ksnapMany khasCells kpoured kfar ksides ksideMany kwayDays khasWay klines kmet kmetMany ksunk ktrying ksunkMany ksending kfleets ktext ktexts kseed kline kwritten klineMany khasWritten knode knodes konesMany kwithin ktop knowF n19 bq iv_ko_0 iv_ko_1 iv_ko_2 iv_ko_3 iv_ko_4 iv_ko_5 iv_ko_6 iv_ko_7 iv_ko_8 iv_ko_9 iv_ko_10 iv_ko_11 iv_ko_12 iv_ko_13 iv_ko_14 ab_now sb_now h20 hb6 (lf_x_holds_5 knowF nR kq y1 y3 y5 n19 ab_now sb_now hk60 hkn e2 e4 e6 hn8 hn9 hn10 c11 h20 e21)) (cwV 2 hts gX12_holds_X12_holds rfl rfl rfl (by decide +kernel) ⟨(by show 20 + nR + 1 ≤ 20 + (nR + 1); omega), (by show 8 + (8 + 11) + (400 + 40 * nR) ≤ 400 + 40 * (nR + 1); omega)⟩) (pre_PV hK hP [0, 1] rfl (ci := 12) (q0 := 0) rfl rfl) rfl rfl hl.1 rfl (lv_room (Nat.le_of_ble_eq_true rfl)) dX12_holds_104 ⟨(Nat.le_of_ble_eq_true rfl), (Nat.le_of_ble_eq_true rfl)⟩) (fun r22 p23 => ?_)
      refine lv_if_ne (tgt := 114) hx hb dX12_holds_107 (by decide) (fun c24 => ?_) (fun c24 => ?_)
      · refine lv_iconst (v := nI 0) hx hb dX12_holds_114 (by decide) ?_
        rw [hQ]
        exact W.zret (v := nI 0) hx hb hr (by decide) (fun t9 ht9 hW9 => ⟨nI 0, rfl, (lf_x_holds_6), ht9⟩) (fun _ h => absurd h List.not_mem_nil) dX12_holds_115
      · refine lv_iconst (v := nI 1) hx hb dX12_holds_110 (by decide) ?_
        refine lv_goto (tgt := 115) hx hb dX12_holds_111 (by decide) ?_
        rw [hQ]
        exact W.zret (v := nI 1) hx hb hr (by decide) (fun t9 ht9 hW9 => ⟨nI 1, rfl, (lf_x_holds_7), ht9⟩) (fun _ h => absurd h List.not_mem_nil) dX12_holds_115
    · refine r_ti (nI 2) c12 ?_
      refine lv_lookup (off := 82) (tgt := 116) hx hb dX12_holds_34 (by decide) (by decide) (by decide) ?_
      refine lv_aload_n hx hb dX12_holds_116 rfl (lv_at hl 3 rfl) ?_
      refine lv_iload hx hb dX12_holds_117 (lv_at hl 1 rfl) ?_
      refine lv_iload_n hx hb dX12_holds_119 rfl (lv_at hl 5 rfl) ?_
      obtain ⟨n25, h26, e27⟩ := nat_of y1 60 (by decide) (lf_x_holds_8 knowF nR kq y1 y3 y5 ab_now sb_now hk60 hkn e2 e4 e6 hn8 hn9 hn10 c12)
      rw [e27]
      refine vp_callSi (W.runV (As := [.int (nI n25), .int (nI bq)]) (rest := []) ⟨hx, hb, hml, hown, hts⟩ (ih o kthrown ktape ktaped ksize klimit kto kfrom kkind knumber ksign kfault kplace kword ktold know kread kkept ksnaps kaside kname kreadName kkeptName kisKept konces ksnapMany khasCells kpoured kfar ksides ksideMany kwayDays khasWay klines kmet kmetMany ksunk ktrying ksunkMany ksending kfleets ktext ktexts kseed kline kwritten klineMany khasWritten knode knodes konesMany kwithin ktop knowF n25 bq iv_ko_0 iv_ko_1 iv_ko_2 iv_ko_3 iv_ko_4 iv_ko_5 iv_ko_6 iv_ko_7 iv_ko_8 iv_ko_9 iv_ko_10 iv_ko_11 iv_ko_12 iv_ko_13 iv_ko_14 ab_now sb_now h26 hb6 (lf_x_holds_9 knowF nR kq y1 y3 y5 n25 ab_now sb_now hk60 hkn e2 e4 e6 hn8 hn9 hn10 c12 h26 e27)) (cwV 2 hts gX12_holds_X12_holds rfl rfl rfl (by decide +kernel) ⟨(by show 20 + nR + 1 ≤ 20 + (nR + 1); omega), (by show 8 + (8 + 11) + (400 + 40 * nR) ≤ 400 + 40 * (nR + 1); omega)⟩) (pre_PV hK hP [0, 1] rfl (ci := 12) (q0 := 0) rfl rfl) rfl rfl hl.1 rfl (lv_room (Nat.le_of_ble_eq_true rfl)) dX12_holds_120 ⟨(Nat.le_of_ble_eq_true rfl), (Nat.le_of_ble_eq_true rfl)⟩) (fun r28 p29 => ?_)
      refine lv_if_eq (tgt := 140) hx hb dX12_holds_123 (by decide) (fun c30 => ?_) (fun c30 => ?_)
      · refine lv_iconst (v := nI 0) hx hb dX12_holds_140 (by decide) ?_
        rw [hQ]
        exact W.zret (v := nI 0) hx hb hr (by decide) (fun t9 ht9 hW9 => ⟨nI 0, rfl, (lf_x_holds_10), ht9⟩) (fun _ h => absurd h List.not_mem_nil) dX12_holds_141
      · refine lv_aload_n hx hb dX12_holds_126 rfl (lv_at hl 3 rfl) ?_
        refine lv_iload hx hb dX12_holds_127 (lv_at hl 0 rfl) ?_
        refine lv_iload_n hx hb dX12_holds_129 rfl (lv_at hl 5 rfl) ?_
        obtain ⟨n31, h32, e33⟩ := nat_of y3 60 (by decide) (lf_x_holds_11 knowF nR kq y1 y3 y5 n25 ab_now sb_now hk60 hkn e2 e4 e6 hn8 hn9 hn10 c12 h26 e27)
        rw [e33]
        refine vp_callSi (W.runV (As := [.int (nI n31), .int (nI bq)]) (rest := []) ⟨hx, hb, hml, hown, hts⟩ (ih o kthrown ktape ktaped ksize klimit kto kfrom kkind knumber ksign kfault kplace kword ktold know kread kkept ksnaps kaside kname kreadName kkeptName kisKept konces ksnapMany khasCells kpoured kfar ksides ksideMany kwayDays khasWay klines kmet kmetMany ksunk ktrying ksunkMany ksending kfleets ktext ktexts kseed kline kwritten klineMany khasWritten knode knodes konesMany kwithin ktop knowF n31 bq iv_ko_0 iv_ko_1 iv_ko_2 iv_ko_3 iv_ko_4 iv_ko_5 iv_ko_6 iv_ko_7 iv_ko_8 iv_ko_9 iv_ko_10 iv_ko_11 iv_ko_12 iv_ko_13 iv_ko_14 ab_now sb_now h32 hb6 (lf_x_holds_12 knowF nR kq y1 y3 y5 n25 n31 ab_now sb_now hk60 hkn e2 e4 e6 hn8 hn9 hn10 c12 h26 e27 h32 e33)) (cwV 2 hts gX12_holds_X12_holds rfl rfl rfl (by decide +kernel) ⟨(by show 20 + nR + 1 ≤ 20 + (nR + 1); omega), (by show 8 + (8 + 11) + (400 + 40 * nR) ≤ 400 + 40 * (nR + 1); omega)⟩) (pre_PV hK hP [0, 1] rfl (ci := 12) (q0 := 0) rfl rfl) rfl rfl hl.1 rfl (lv_room (Nat.le_of_ble_eq_true rfl)) dX12_holds_130 ⟨(Nat.le_of_ble_eq_true rfl), (Nat.le_of_ble_eq_true rfl)⟩) (fun r34 p35 => ?_)
        refine lv_if_eq (tgt := 140) hx hb dX12_holds_133 (by decide) (fun c36 => ?_) (fun c36 => ?_)
        · refine lv_iconst (v := nI 0) hx hb dX12_holds_140 (by decide) ?_
          rw [hQ]
          exact W.zret (v := nI 0) hx hb hr (by decide) (fun t9 ht9 hW9 => ⟨nI 0, rfl, (lf_x_holds_13), ht9⟩) (fun _ h => absurd h List.not_mem_nil) dX12_holds_141
        · refine lv_iconst (v := nI 1) hx hb dX12_holds_136 (by decide) ?_
          refine lv_goto (tgt := 141) hx hb dX12_holds_137 (by decide) ?_
          rw [hQ]
          exact W.zret (v := nI 1) hx hb hr (by decide) (fun t9 ht9 hW9 => ⟨nI 1, rfl, (lf_x_holds_14), ht9⟩) (fun _ h => absurd h List.not_mem_nil) dX12_holds_141
    · refine r_ti (nI 3) c13 ?_
      refine lv_lookup (off := 108) (tgt := 142) hx hb dX12_holds_34 (by decide) (by decide) (by decide) ?_
      refine lv_aload_n hx hb dX12_holds_142 rfl (lv_at hl 3 rfl) ?_
      refine lv_iload hx hb dX12_holds_143 (lv_at hl 1 rfl) ?_
      refine lv_iload_n hx hb dX12_holds_145 rfl (lv_at hl 5 rfl) ?_
      obtain ⟨n37, h38, e39⟩ := nat_of y1 60 (by decide) (lf_x_holds_15 knowF nR kq y1 y3 y5 ab_now sb_now hk60 hkn e2 e4 e6 hn8 hn9 hn10 c13)
      rw [e39]
      refine vp_callSi (W.runV (As := [.int (nI n37), .int (nI bq)]) (rest := []) ⟨hx, hb, hml, hown, hts⟩ (ih o kthrown ktape ktaped ksize klimit kto kfrom kkind knumber ksign kfault kplace kword ktold know kread kkept ksnaps kaside kname kreadName kkeptName kisKept konces ksnapMany khasCells kpoured kfar ksides ksideMany kwayDays khasWay klines kmet kmetMany ksunk ktrying ksunkMany ksending kfleets ktext ktexts kseed kline kwritten klineMany khasWritten knode knodes konesMany kwithin ktop knowF n37 bq iv_ko_0 iv_ko_1 iv_ko_2 iv_ko_3 iv_ko_4 iv_ko_5 iv_ko_6 iv_ko_7 iv_ko_8 iv_ko_9 iv_ko_10 iv_ko_11 iv_ko_12 iv_ko_13 iv_ko_14 ab_now sb_now h38 hb6 (lf_x_holds_16 knowF nR kq y1 y3 y5 n37 ab_now sb_now hk60 hkn e2 e4 e6 hn8 hn9 hn10 c13 h38 e39)) (cwV 2 hts gX12_holds_X12_holds rfl rfl rfl (by decide +kernel) ⟨(by show 20 + nR + 1 ≤ 20 + (nR + 1); omega), (by show 8 + (8 + 11) + (400 + 40 * nR) ≤ 400 + 40 * (nR + 1); omega)⟩) (pre_PV hK hP [0, 1] rfl (ci := 12) (q0 := 0) rfl rfl) rfl rfl hl.1 rfl (lv_room (Nat.le_of_ble_eq_true rfl)) dX12_holds_146 ⟨(Nat.le_of_ble_eq_true rfl), (Nat.le_of_ble_eq_true rfl)⟩) (fun r40 p41 => ?_)
      refine lv_if_ne (tgt := 162) hx hb dX12_holds_149 (by decide) (fun c42 => ?_) (fun c42 => ?_)
      · refine lv_iconst (v := nI 1) hx hb dX12_holds_162 (by decide) ?_
        refine lv_goto (tgt := 167) hx hb dX12_holds_163 (by decide) ?_
        rw [hQ]
        exact W.zret (v := nI 1) hx hb hr (by decide) (fun t9 ht9 hW9 => ⟨nI 1, rfl, (lf_x_holds_17), ht9⟩) (fun _ h => absurd h List.not_mem_nil) dX12_holds_167
      · refine lv_aload_n hx hb dX12_holds_152 rfl (lv_at hl 3 rfl) ?_
        refine lv_iload hx hb dX12_holds_153 (lv_at hl 0 rfl) ?_
        refine lv_iload_n hx hb dX12_holds_155 rfl (lv_at hl 5 rfl) ?_
        obtain ⟨n43, h44, e45⟩ := nat_of y3 60 (by decide) (lf_x_holds_18 knowF nR kq y1 y3 y5 n37 ab_now sb_now hk60 hkn e2 e4 e6 hn8 hn9 hn10 c13 h38 e39)
        rw [e45]
        refine vp_callSi (W.runV (As := [.int (nI n43), .int (nI bq)]) (rest := []) ⟨hx, hb, hml, hown, hts⟩ (ih o kthrown ktape ktaped ksize klimit kto kfrom kkind knumber ksign kfault kplace kword ktold know kread kkept ksnaps kaside kname kreadName kkeptName kisKept konces ksnapMany khasCells kpoured kfar ksides ksideMany kwayDays khasWay klines kmet kmetMany ksunk ktrying ksunkMany ksending kfleets ktext ktexts kseed kline kwritten klineMany khasWritten knode knodes konesMany kwithin ktop knowF n43 bq iv_ko_0 iv_ko_1 iv_ko_2 iv_ko_3 iv_ko_4 iv_ko_5 iv_ko_6 iv_ko_7 iv_ko_8 iv_ko_9 iv_ko_10 iv_ko_11 iv_ko_12 iv_ko_13 iv_ko_14 ab_now sb_now h44 hb6 (lf_x_holds_19 knowF nR kq y1 y3 y5 n37 n43 ab_now sb_now hk60 hkn e2 e4 e6 hn8 hn9 hn10 c13 h38 e39 h44 e45)) (cwV 2 hts gX12_holds_X12_holds rfl rfl rfl (by decide +kernel) ⟨(by show 20 + nR + 1 ≤ 20 + (nR + 1); omega), (by show 8 + (8 + 11) + (400 + 40 * nR) ≤ 400 + 40 * (nR + 1); omega)⟩) (pre_PV hK hP [0, 1] rfl (ci := 12) (q0 := 0) rfl rfl) rfl rfl hl.1 rfl (lv_room (Nat.le_of_ble_eq_true rfl)) dX12_holds_156 ⟨(Nat.le_of_ble_eq_true rfl), (Nat.le_of_ble_eq_true rfl)⟩) (fun r46 p47 => ?_)
        refine lv_if_eq (tgt := 166) hx hb dX12_holds_159 (by decide) (fun c48 => ?_) (fun c48 => ?_)
        · refine lv_iconst (v := nI 0) hx hb dX12_holds_166 (by decide) ?_
          rw [hQ]
          exact W.zret (v := nI 0) hx hb hr (by decide) (fun t9 ht9 hW9 => ⟨nI 0, rfl, (lf_x_holds_20), ht9⟩) (fun _ h => absurd h List.not_mem_nil) dX12_holds_167
        · refine lv_iconst (v := nI 1) hx hb dX12_holds_162 (by decide) ?_
          refine lv_goto (tgt := 167) hx hb dX12_holds_163 (by decide) ?_
          rw [hQ]
          exact W.zret (v := nI 1) hx hb hr (by decide) (fun t9 ht9 hW9 => ⟨nI 1, rfl, (lf_x_holds_21), ht9⟩) (fun _ h => absurd h List.not_mem_nil) dX12_holds_167
    · refine r_ti (nI 73) c14 ?_
      refine lv_lookup (off := 134) (tgt := 168) hx hb dX12_holds_34 (by decide) (by decide) (by decide) ?_
      refine lv_aload_n hx hb dX12_holds_168 rfl (lv_at hl 3 rfl) ?_
      refine lv_iload_n hx hb dX12_holds_169 rfl (lv_at hl 5 rfl) ?_
      refine vp_callSi (W.runV (As := [.int (nI bq)]) (rest := []) ⟨hx, hb, hml, hown, hts⟩ (c_x_isEatenN l dC dI ky o kthrown ktape ktaped ksize klimit kto kfrom kkind knumber ksign kfault kplace kword ktold know kread kkept ksnaps kaside kname kreadName kkeptName kisKept konces ksnapMany khasCells kpoured kfar ksides ksideMany kwayDays khasWay klines kmet kmetMany ksunk ktrying ksunkMany ksending kfleets ktext ktexts kseed kline kwritten klineMany khasWritten knode knodes konesMany kwithin ktop knowF bq iv_ko_0 iv_ko_1 iv_ko_2 iv_ko_3 iv_ko_4 iv_ko_5 iv_ko_6 iv_ko_7 iv_ko_8 iv_ko_9 iv_ko_10 iv_ko_11 iv_ko_12 iv_ko_13 iv_ko_14 ab_now hb6) (cwV 1 hts gX12_holds_X12_isEaten rfl rfl rfl (by decide +kernel) ⟨(by show 0 + 1 ≤ 20 + (nR + 1); omega), (by show 8 + (2 + 11) + (0) ≤ 400 + 40 * (nR + 1); omega)⟩) (pre_PV hK hP [0, 1] rfl (ci := 12) (q0 := 0) rfl rfl) rfl rfl hl.1 rfl (lv_room (Nat.le_of_ble_eq_true rfl)) dX12_holds_170 ⟨(Nat.le_of_ble_eq_true rfl), (Nat.le_of_ble_eq_true rfl)⟩) (fun r49 p50 => ?_)
      rcases p50 with ⟨rfl, t51⟩ | ⟨rfl, t52⟩
      · rw [hQ]
        exact W.zret (v := nI 1) hx hb hr (by decide) (fun t9 ht9 hW9 => ⟨nI 1, rfl, (lf_x_holds_22), ht9⟩) (fun _ h => absurd h List.not_mem_nil) dX12_holds_173
      · rw [hQ]
        exact W.zret (v := nI 0) hx hb hr (by decide) (fun t9 ht9 hW9 => ⟨nI 0, rfl, (lf_x_holds_23), ht9⟩) (fun _ h => absurd h List.not_mem_nil) dX12_holds_173
    · refine r_ti (nI 74) c15 ?_
      refine lv_lookup (off := 140) (tgt := 174) hx hb dX12_holds_34 (by decide) (by decide) (by decide) ?_
      refine lv_aload_n hx hb dX12_holds_174 rfl (lv_at hl 3 rfl) ?_
      refine lv_iload_n hx hb dX12_holds_175 rfl (lv_at hl 5 rfl) ?_
      refine vp_callSi (W.runV (As := [.int (nI bq)]) (rest := []) ⟨hx, hb, hml, hown, hts⟩ (c_x_isAfloat l dC dI ky o kthrown ktape ktaped ksize klimit kto kfrom kkind knumber ksign kfault kplace kword ktold know kread kkept ksnaps kaside kname kreadName kkeptName kisKept konces ksnapMany khasCells kpoured kfar ksides ksideMany kwayDays khasWay klines kmet kmetMany ksunk ktrying ksunkMany ksending kfleets ktext ktexts kseed kline kwritten klineMany khasWritten knode knodes konesMany kwithin ktop knowF (nI bq) iv_ko_0 iv_ko_1 iv_ko_2 iv_ko_3 iv_ko_4 iv_ko_5 iv_ko_6 iv_ko_7 iv_ko_8 iv_ko_9 iv_ko_10 iv_ko_11 iv_ko_12 iv_ko_13 iv_ko_14 ab_now (lf_x_holds_24 bq hb6)) (cwV 1 hts gX12_holds_X12_isAfloat rfl rfl rfl (by decide +kernel) ⟨(by show 2 + 1 ≤ 20 + (nR + 1); omega), (by show 8 + (2 + 11) + (44) ≤ 400 + 40 * (nR + 1); omega)⟩) (pre_PV hK hP [0, 1] rfl (ci := 12) (q0 := 0) rfl rfl) rfl rfl hl.1 rfl (lv_room (Nat.le_of_ble_eq_true rfl)) dX12_holds_176 ⟨(Nat.le_of_ble_eq_true rfl), (Nat.le_of_ble_eq_true rfl)⟩) (fun r53 p54 => ?_)
      rw [hQ]
      exact W.zret (v := r53) hx hb hr ((lf_x_holds_25 r53 p54)) (fun t9 ht9 hW9 => ⟨r53, rfl, p54, ht9⟩) (fun _ h => absurd h List.not_mem_nil) dX12_holds_179
    · refine r_ti (nI 75) c16 ?_
      refine lv_lookup (off := 146) (tgt := 180) hx hb dX12_holds_34 (by decide) (by decide) (by decide) ?_
      refine lv_aload_n hx hb dX12_holds_180 rfl (lv_at hl 3 rfl) ?_
      refine lv_aload_n hx hb dX12_holds_181 rfl (lv_at hl 3 rfl) ?_
      refine va_get (D := (dC, dI)) (ci := 12) (v := .ref know) (C := RX12) (T := TX12) (N := 52) hx hb hts hin12 hown hK hP 0 rfl rfl 14 (by decide) (hts (.fieldLink RX12 98 "PorridgeSeaModel" "now" "[I") (List.mem_of_getElem? (i := 1) rfl)) (fun _ h9 => h9) rfl dX12_holds_182 ?_
      refine lv_bipush (v := nI 113) hx hb dX12_holds_185 (by decide) ?_
      refine lv_iload_n hx hb dX12_holds_187 rfl (lv_at hl 5 rfl) ?_
      refine lv_iadd hx hb dX12_holds_188 ?_
      refine r_ti (nI (113 + bq)) (nI_add _ _) ?_
      obtain ⟨y55, e56⟩ : ∃ z9, z9 = knowF (113 + bq) := ⟨_, rfl⟩
      refine r_iald hx hb hK hP 1 rfl (113 + bq) (lf_x_holds_26 knowF nR kq bq y1 y3 y5 y55 ab_now sb_now hk60 hb6 hkn e2 e4 e6 hn8 hn9 hn10 c16 e56) (by decide) y55 e56.symm dX12_holds_189 ?_
      obtain ⟨b57, b58⟩ : (0 : Int) ≤ y55.toInt ∧ y55.toInt ≤ 35 := by rw [e56]; exact ld_NB_107 ab_now (113 + bq) (lf_x_holds_27 knowF nR kq bq y1 y3 y5 y55 ab_now sb_now hk60 hb6 hkn e2 e4 e6 hn8 hn9 hn10 c16 e56) (lf_x_holds_28 knowF nR kq bq y1 y3 y5 y55 ab_now sb_now hk60 hb6 hkn e2 e4 e6 hn8 hn9 hn10 c16 e56)
      refine vp_callSi (W.runV (As := [.int y55]) (rest := []) ⟨hx, hb, hml, hown, hts⟩ (c_x_lumpIn l dC dI ky o kthrown ktape ktaped ksize klimit kto kfrom kkind knumber ksign kfault kplace kword ktold know kread kkept ksnaps kaside kname kreadName kkeptName kisKept konces ksnapMany khasCells kpoured kfar ksides ksideMany kwayDays khasWay klines kmet kmetMany ksunk ktrying ksunkMany ksending kfleets ktext ktexts kseed kline kwritten klineMany khasWritten knode knodes konesMany kwithin ktop knowF y55 iv_ko_0 iv_ko_1 iv_ko_2 iv_ko_3 iv_ko_4 iv_ko_5 iv_ko_6 iv_ko_7 iv_ko_8 iv_ko_9 iv_ko_10 iv_ko_11 iv_ko_12 iv_ko_13 iv_ko_14 ab_now) (cwV 1 hts gX12_holds_X12_lumpIn rfl rfl rfl (by decide +kernel) ⟨(by show 0 + 1 ≤ 20 + (nR + 1); omega), (by show 8 + (3 + 11) + (0) ≤ 400 + 40 * (nR + 1); omega)⟩) (pre_PV hK hP [0, 1] rfl (ci := 12) (q0 := 0) rfl rfl) rfl rfl hl.1 rfl (lv_room (Nat.le_of_ble_eq_true rfl)) dX12_holds_190 ⟨(Nat.le_of_ble_eq_true rfl), (Nat.le_of_ble_eq_true rfl)⟩) (fun r59 p60 => ?_)
      refine lv_iconst (v := (-1 : Int32)) hx hb dX12_holds_193 (by decide) ?_
      refine lv_icmp_eq (tgt := 201) hx hb dX12_holds_194 (by decide) (fun c61 => ?_) (fun c61 => ?_)
      · refine lv_iconst (v := nI 0) hx hb dX12_holds_201 (by decide) ?_
        rw [hQ]
        exact W.zret (v := nI 0) hx hb hr (by decide) (fun t9 ht9 hW9 => ⟨nI 0, rfl, (lf_x_holds_29 p60), ht9⟩) (fun _ h => absurd h List.not_mem_nil) dX12_holds_202
      · refine lv_iconst (v := nI 1) hx hb dX12_holds_197 (by decide) ?_
        refine lv_goto (tgt := 202) hx hb dX12_holds_198 (by decide) ?_
        rw [hQ]
        exact W.zret (v := nI 1) hx hb hr (by decide) (fun t9 ht9 hW9 => ⟨nI 1, rfl, (lf_x_holds_30 p60), ht9⟩) (fun _ h => absurd h List.not_mem_nil) dX12_holds_202
    · refine r_ti (nI 76) c17 ?_
      refine lv_lookup (off := 169) (tgt := 203) hx hb dX12_holds_34 (by decide) (by decide) (by decide) ?_
      have f62 : 0 ≤ y1.toInt := (lf_x_holds_31 knowF nR kq y1 y3 y5 ab_now sb_now hk60 hkn e2 e4 e6 hn8 hn9 hn10 c17)
      have f63 : y1.toInt ≤ 5 := (lf_x_holds_32 knowF nR kq y1 y3 y5 ab_now sb_now hk60 hkn e2 e4 e6 hn8 hn9 hn10 c17 f62)
      refine lv_aload_n hx hb dX12_holds_203 rfl (lv_at hl 3 rfl) ?_
      refine va_get (D := (dC, dI)) (ci := 12) (v := .ref know) (C := RX12) (T := TX12) (N := 52) hx hb hts hin12 hown hK hP 0 rfl rfl 14 (by decide) (hts (.fieldLink RX12 98 "PorridgeSeaModel" "now" "[I") (List.mem_of_getElem? (i := 1) rfl)) (fun _ h9 => h9) rfl dX12_holds_204 ?_
      refine lv_bipush (v := nI 113) hx hb dX12_holds_207 (by decide) ?_
      refine lv_iload_n hx hb dX12_holds_209 rfl (lv_at hl 5 rfl) ?_
      refine lv_iadd hx hb dX12_holds_210 ?_
      refine r_ti (nI (113 + bq)) (nI_add _ _) ?_
      obtain ⟨y64, e65⟩ : ∃ z9, z9 = knowF (113 + bq) := ⟨_, rfl⟩
      refine r_iald hx hb hK hP 1 rfl (113 + bq) (lf_x_holds_33 knowF nR kq bq y1 y3 y5 y64 ab_now sb_now hk60 hb6 hkn e2 e4 e6 hn8 hn9 hn10 c17 f62 f63 e65) (by decide) y64 e65.symm dX12_holds_211 ?_
      obtain ⟨b66, b67⟩ : (0 : Int) ≤ y64.toInt ∧ y64.toInt ≤ 35 := by rw [e65]; exact ld_NB_107 ab_now (113 + bq) (lf_x_holds_34 knowF nR kq bq y1 y3 y5 y64 ab_now sb_now hk60 hb6 hkn e2 e4 e6 hn8 hn9 hn10 c17 f62 f63 e65) (lf_x_holds_35 knowF nR kq bq y1 y3 y5 y64 ab_now sb_now hk60 hb6 hkn e2 e4 e6 hn8 hn9 hn10 c17 f62 f63 e65)
      refine lv_aload_n hx hb dX12_holds_212 rfl (lv_at hl 3 rfl) ?_
      refine va_get (D := (dC, dI)) (ci := 12) (v := .ref know) (C := RX12) (T := TX12) (N := 52) hx hb hts hin12 hown hK hP 0 rfl rfl 14 (by decide) (hts (.fieldLink RX12 98 "PorridgeSeaModel" "now" "[I") (List.mem_of_getElem? (i := 1) rfl)) (fun _ h9 => h9) rfl dX12_holds_213 ?_
      refine lv_bipush (v := nI 107) hx hb dX12_holds_216 (by decide) ?_
      refine lv_iload hx hb dX12_holds_218 (lv_at hl 1 rfl) ?_
      obtain ⟨n68, h69, e70⟩ := nat_of y1 6 (by decide) (lf_x_holds_36 knowF nR kq bq y1 y3 y5 y64 ab_now sb_now hk60 hb6 hkn e2 e4 e6 hn8 hn9 hn10 c17 f62 f63 e65 b66 b67)
      rw [e70]
      refine lv_iadd hx hb dX12_holds_220 ?_
      refine r_ti (nI (107 + n68)) (nI_add _ _) ?_
      obtain ⟨y71, e72⟩ : ∃ z9, z9 = knowF (107 + n68) := ⟨_, rfl⟩
      refine r_iald hx hb hK hP 1 rfl (107 + n68) (lf_x_holds_37 knowF nR kq bq y1 y3 y5 y64 n68 y71 ab_now sb_now hk60 hb6 hkn e2 e4 e6 hn8 hn9 hn10 c17 f62 f63 e65 b66 b67 h69 e70 e72) (by decide) y71 e72.symm dX12_holds_221 ?_
      obtain ⟨b73, b74⟩ : (0 : Int) ≤ y71.toInt ∧ y71.toInt ≤ 35 := by rw [e72]; exact ld_NB_107 ab_now (107 + n68) (lf_x_holds_38 knowF nR kq bq y1 y3 y5 y64 n68 y71 ab_now sb_now hk60 hb6 hkn e2 e4 e6 hn8 hn9 hn10 c17 f62 f63 e65 b66 b67 h69 e70 e72) (lf_x_holds_39 knowF nR kq bq y1 y3 y5 y64 n68 y71 ab_now sb_now hk60 hb6 hkn e2 e4 e6 hn8 hn9 hn10 c17 f62 f63 e65 b66 b67 h69 e70 e72)
      refine vp_callSi (W.runS (As := [.int y64, .int y71]) (rest := []) ⟨hx, hb, hml, hown, hts⟩ (c_x_areNear l dC dI ky y64 y71) (va_cwS 2 hts gX12_holds_X12_areNear rfl rfl rfl (by decide +kernel) ⟨(by show 1 + 1 ≤ 20 + (nR + 1); omega), (by show 8 + (2 + 11) + (20) ≤ 400 + 40 * (nR + 1); omega)⟩) (pre_PS hK hP [] rfl) rfl rfl hl.1 rfl (lv_room (Nat.le_of_ble_eq_true rfl)) dX12_holds_222 ⟨(Nat.le_of_ble_eq_true rfl), (Nat.le_of_ble_eq_true rfl)⟩) (fun r75 p76 => ?_)
      rw [hQ]
      exact W.zret (v := r75) hx hb hr ((lf_x_holds_40 r75 p76)) (fun t9 ht9 hW9 => ⟨r75, rfl, p76, ht9⟩) (fun _ h => absurd h List.not_mem_nil) dX12_holds_225
    · refine lv_lookup (off := 192) (tgt := 226) hx hb dX12_holds_34 (by decide) (lko_1_2_3_73_74_75_76 (ps := [(1, 66), (2, 82), (3, 108), (73, 134), (74, 140), (75, 146), (76, 169)]) rfl c18) (by decide) ?_
      refine lv_aload_n hx hb dX12_holds_226 rfl (lv_at hl 3 rfl) ?_
      refine va_get (D := (dC, dI)) (ci := 12) (v := .ref know) (C := RX12) (T := TX12) (N := 52) hx hb hts hin12 hown hK hP 0 rfl rfl 14 (by decide) (hts (.fieldLink RX12 98 "PorridgeSeaModel" "now" "[I") (List.mem_of_getElem? (i := 1) rfl)) (fun _ h9 => h9) rfl dX12_holds_227 ?_
      refine lv_iload_n hx hb dX12_holds_230 rfl (lv_at hl 2 rfl) ?_
      obtain ⟨y77, e78⟩ : ∃ z9, z9 = knowF (133 + (4 * kq)) := ⟨_, rfl⟩
      refine r_iald hx hb hK hP 1 rfl (133 + (4 * kq)) (lf_x_holds_41 knowF nR kq y1 y3 y5 y77 ab_now sb_now hk60 hkn e2 e4 e6 hn8 hn9 hn10 c18 e78) (by decide) y77 e78.symm dX12_holds_231 ?_
      refine lv_bipush (v := nI 50) hx hb dX12_holds_232 (by decide) ?_
      refine lv_isub hx hb dX12_holds_234 ?_
      refine lv_topi (fun y79 e80 => ?_)
      refine lv_istore (lv' := [(6, .int y79), (5, .int y3), (4, .int y1), (3, .int (nI (133 + (4 * kq)))), (0, .ref o), (1, .int (nI kq)), (2, .int (nI bq))]) hx hb dX12_holds_235 hl (by decide) rfl (fun ls hl => ?_)
      refine lv_iload hx hb dX12_holds_237 (lv_at hl 0 rfl) ?_
      refine lv_bipush (v := nI 27) hx hb dX12_holds_239 (by decide) ?_
      refine lv_icmp_ne (tgt := 256) hx hb dX12_holds_241 (by decide) (fun c81 => ?_) (fun c81 => ?_)
      · refine lv_iload hx hb dX12_holds_256 (lv_at hl 0 rfl) ?_
        refine lv_bipush (v := nI 28) hx hb dX12_holds_258 (by decide) ?_
        refine lv_icmp_ne (tgt := 275) hx hb dX12_holds_260 (by decide) (fun c82 => ?_) (fun c82 => ?_)
        · refine lv_iload hx hb dX12_holds_275 (lv_at hl 0 rfl) ?_
          refine lv_bipush (v := nI 29) hx hb dX12_holds_277 (by decide) ?_
          refine lv_icmp_ne (tgt := 294) hx hb dX12_holds_279 (by decide) (fun c83 => ?_) (fun c83 => ?_)
          · refine lv_iload_n hx hb dX12_holds_294 rfl (lv_at hl 6 rfl) ?_
            refine lv_istore (lv' := [(7, .int (nI bq)), (6, .int y79), (5, .int y3), (4, .int y1), (3, .int (nI (133 + (4 * kq)))), (0, .ref o), (1, .int (nI kq)), (2, .int (nI bq))]) hx hb dX12_holds_295 hl (by decide) rfl (fun ls hl => ?_)
            refine lv_aload_n hx hb dX12_holds_297 rfl (lv_at hl 5 rfl) ?_
            refine va_get (D := (dC, dI)) (ci := 12) (v := .ref know) (C := RX12) (T := TX12) (N := 52) hx hb hts hin12 hown hK hP 0 rfl rfl 14 (by decide) (hts (.fieldLink RX12 98 "PorridgeSeaModel" "now" "[I") (List.mem_of_getElem? (i := 1) rfl)) (fun _ h9 => h9) rfl dX12_holds_298 ?_
            refine lv_iload_n hx hb dX12_holds_301 rfl (lv_at hl 4 rfl) ?_
            refine lv_iconst (v := nI 3) hx hb dX12_holds_302 (by decide) ?_
            refine lv_iadd hx hb dX12_holds_303 ?_
            refine r_ti (nI ((133 + (4 * kq)) + 3)) (nI_add _ _) ?_
            obtain ⟨y84, e85⟩ : ∃ z9, z9 = knowF ((133 + (4 * kq)) + 3) := ⟨_, rfl⟩
            refine r_iald hx hb hK hP 1 rfl ((133 + (4 * kq)) + 3) (lf_x_holds_42 knowF nR kq y1 y3 y5 y77 y79 y84 ab_now sb_now hk60 hkn e2 e4 e6 hn8 hn9 hn10 c18 e78 e80 c81 c82 c83 e85) (by decide) y84 e85.symm dX12_holds_304 ?_
            refine lv_bipush (v := nI 60) hx hb dX12_holds_305 (by decide) ?_
            refine lv_icmp_ne (tgt := 325) hx hb dX12_holds_307 (by decide) (fun c86 => ?_) (fun c86 => ?_)
            · refine lv_aload_n hx hb dX12_holds_325 rfl (lv_at hl 5 rfl) ?_
              refine va_get (D := (dC, dI)) (ci := 12) (v := .ref know) (C := RX12) (T := TX12) (N := 52) hx hb hts hin12 hown hK hP 0 rfl rfl 14 (by decide) (hts (.fieldLink RX12 98 "PorridgeSeaModel" "now" "[I") (List.mem_of_getElem? (i := 1) rfl)) (fun _ h9 => h9) rfl dX12_holds_326 ?_
              refine lv_iload_n hx hb dX12_holds_329 rfl (lv_at hl 4 rfl) ?_
              refine lv_iconst (v := nI 3) hx hb dX12_holds_330 (by decide) ?_
              refine lv_iadd hx hb dX12_holds_331 ?_
              refine r_ti (nI ((133 + (4 * kq)) + 3)) (nI_add _ _) ?_
              obtain ⟨y87, e88⟩ : ∃ z9, z9 = knowF ((133 + (4 * kq)) + 3) := ⟨_, rfl⟩
              refine r_iald hx hb hK hP 1 rfl ((133 + (4 * kq)) + 3) (lf_x_holds_43 knowF nR kq y1 y3 y5 y77 y79 y84 y87 ab_now sb_now hk60 hkn e2 e4 e6 hn8 hn9 hn10 c18 e78 e80 c81 c82 c83 e85 c86 e88) (by decide) y87 e88.symm dX12_holds_332 ?_
              refine lv_bipush (v := nI 61) hx hb dX12_holds_333 (by decide) ?_
              refine lv_icmp_ne (tgt := 353) hx hb dX12_holds_335 (by decide) (fun c89 => ?_) (fun c89 => ?_)
              · refine lv_iload hx hb dX12_holds_353 (lv_at hl 0 rfl) ?_
                refine lv_iload hx hb dX12_holds_355 (lv_at hl 2 rfl) ?_
                refine lv_icmp_le (tgt := 364) hx hb dX12_holds_357 (by decide) (fun c90 => ?_) (fun c90 => ?_)
                · refine lv_iconst (v := nI 0) hx hb dX12_holds_364 (by decide) ?_
                  rw [hQ]
                  exact W.zret (v := nI 0) hx hb hr (by decide) (fun t9 ht9 hW9 => ⟨nI 0, rfl, (lf_x_holds_44), ht9⟩) (fun _ h => absurd h List.not_mem_nil) dX12_holds_365
                · refine lv_iconst (v := nI 1) hx hb dX12_holds_360 (by decide) ?_
                  refine lv_goto (tgt := 365) hx hb dX12_holds_361 (by decide) ?_
                  rw [hQ]
                  exact W.zret (v := nI 1) hx hb hr (by decide) (fun t9 ht9 hW9 => ⟨nI 1, rfl, (lf_x_holds_45), ht9⟩) (fun _ h => absurd h List.not_mem_nil) dX12_holds_365
              · refine lv_iload hx hb dX12_holds_338 (lv_at hl 0 rfl) ?_
                refine lv_iload hx hb dX12_holds_340 (lv_at hl 2 rfl) ?_
                refine lv_icmp_ne (tgt := 349) hx hb dX12_holds_342 (by decide) (fun c91 => ?_) (fun c91 => ?_)
                · refine lv_iconst (v := nI 0) hx hb dX12_holds_349 (by decide) ?_
                  refine lv_goto (tgt := 365) hx hb dX12_holds_350 (by decide) ?_
                  rw [hQ]
                  exact W.zret (v := nI 0) hx hb hr (by decide) (fun t9 ht9 hW9 => ⟨nI 0, rfl, (lf_x_holds_46), ht9⟩) (fun _ h => absurd h List.not_mem_nil) dX12_holds_365
                · refine lv_iconst (v := nI 1) hx hb dX12_holds_345 (by decide) ?_
                  refine lv_goto (tgt := 365) hx hb dX12_holds_346 (by decide) ?_
                  rw [hQ]
                  exact W.zret (v := nI 1) hx hb hr (by decide) (fun t9 ht9 hW9 => ⟨nI 1, rfl, (lf_x_holds_47), ht9⟩) (fun _ h => absurd h List.not_mem_nil) dX12_holds_365
            · refine lv_iload hx hb dX12_holds_310 (lv_at hl 0 rfl) ?_
              refine lv_iload hx hb dX12_holds_312 (lv_at hl 2 rfl) ?_
              refine lv_icmp_ge (tgt := 321) hx hb dX12_holds_314 (by decide) (fun c92 => ?_) (fun c92 => ?_)
              · refine lv_iconst (v := nI 0) hx hb dX12_holds_321 (by decide) ?_
                refine lv_goto (tgt := 365) hx hb dX12_holds_322 (by decide) ?_
                rw [hQ]
                exact W.zret (v := nI 0) hx hb hr (by decide) (fun t9 ht9 hW9 => ⟨nI 0, rfl, (lf_x_holds_48), ht9⟩) (fun _ h => absurd h List.not_mem_nil) dX12_holds_365
              · refine lv_iconst (v := nI 1) hx hb dX12_holds_317 (by decide) ?_
                refine lv_goto (tgt := 365) hx hb dX12_holds_318 (by decide) ?_
                rw [hQ]
                exact W.zret (v := nI 1) hx hb hr (by decide) (fun t9 ht9 hW9 => ⟨nI 1, rfl, (lf_x_holds_49), ht9⟩) (fun _ h => absurd h List.not_mem_nil) dX12_holds_365
          · refine lv_aload_n hx hb dX12_holds_282 rfl (lv_at hl 4 rfl) ?_
            refine va_get (D := (dC, dI)) (ci := 12) (v := .ref know) (C := RX12) (T := TX12) (N := 52) hx hb hts hin12 hown hK hP 0 rfl rfl 14 (by decide) (hts (.fieldLink RX12 98 "PorridgeSeaModel" "now" "[I") (List.mem_of_getElem? (i := 1) rfl)) (fun _ h9 => h9) rfl dX12_holds_283 ?_
            refine lv_bipush (v := nI 119) hx hb dX12_holds_286 (by decide) ?_
            refine lv_iload_n hx hb dX12_holds_288 rfl (lv_at hl 6 rfl) ?_
            refine lv_iadd hx hb dX12_holds_289 ?_
            refine r_ti (nI (119 + bq)) (nI_add _ _) ?_
            obtain ⟨y93, e94⟩ : ∃ z9, z9 = knowF (119 + bq) := ⟨_, rfl⟩
            refine r_iald hx hb hK hP 1 rfl (119 + bq) (lf_x_holds_50 knowF nR kq bq y1 y3 y5 y77 y79 y93 ab_now sb_now hk60 hb6 hkn e2 e4 e6 hn8 hn9 hn10 c18 e78 e80 c81 c82 c83 e94) (by decide) y93 e94.symm dX12_holds_290 ?_
            refine lv_goto (tgt := 295) hx hb dX12_holds_291 (by decide) ?_
            refine lv_istore (lv' := [(7, .int y93), (6, .int y79), (5, .int y3), (4, .int y1), (3, .int (nI (133 + (4 * kq)))), (0, .ref o), (1, .int (nI kq)), (2, .int (nI bq))]) hx hb dX12_holds_295 hl (by decide) rfl (fun ls hl => ?_)
            refine lv_aload_n hx hb dX12_holds_297 rfl (lv_at hl 5 rfl) ?_
            refine va_get (D := (dC, dI)) (ci := 12) (v := .ref know) (C := RX12) (T := TX12) (N := 52) hx hb hts hin12 hown hK hP 0 rfl rfl 14 (by decide) (hts (.fieldLink RX12 98 "PorridgeSeaModel" "now" "[I") (List.mem_of_getElem? (i := 1) rfl)) (fun _ h9 => h9) rfl dX12_holds_298 ?_
            refine lv_iload_n hx hb dX12_holds_301 rfl (lv_at hl 4 rfl) ?_
            refine lv_iconst (v := nI 3) hx hb dX12_holds_302 (by decide) ?_
            refine lv_iadd hx hb dX12_holds_303 ?_
            refine r_ti (nI ((133 + (4 * kq)) + 3)) (nI_add _ _) ?_
            obtain ⟨y95, e96⟩ : ∃ z9, z9 = knowF ((133 + (4 * kq)) + 3) := ⟨_, rfl⟩
            refine r_iald hx hb hK hP 1 rfl ((133 + (4 * kq)) + 3) (lf_x_holds_51 knowF nR kq bq y1 y3 y5 y77 y79 y93 y95 ab_now sb_now hk60 hb6 hkn e2 e4 e6 hn8 hn9 hn10 c18 e78 e80 c81 c82 c83 e94 e96) (by decide) y95 e96.symm dX12_holds_304 ?_
            refine lv_bipush (v := nI 60) hx hb dX12_holds_305 (by decide) ?_
            refine lv_icmp_ne (tgt := 325) hx hb dX12_holds_307 (by decide) (fun c97 => ?_) (fun c97 => ?_)
            · refine lv_aload_n hx hb dX12_holds_325 rfl (lv_at hl 5 rfl) ?_
              refine va_get (D := (dC, dI)) (ci := 12) (v := .ref know) (C := RX12) (T := TX12) (N := 52) hx hb hts hin12 hown hK hP 0 rfl rfl 14 (by decide) (hts (.fieldLink RX12 98 "PorridgeSeaModel" "now" "[I") (List.mem_of_getElem? (i := 1) rfl)) (fun _ h9 => h9) rfl dX12_holds_326 ?_
              refine lv_iload_n hx hb dX12_holds_329 rfl (lv_at hl 4 rfl) ?_
              refine lv_iconst (v := nI 3) hx hb dX12_holds_330 (by decide) ?_
              refine lv_iadd hx hb dX12_holds_331 ?_
              refine r_ti (nI ((133 + (4 * kq)) + 3)) (nI_add _ _) ?_
              obtain ⟨y98, e99⟩ : ∃ z9, z9 = knowF ((133 + (4 * kq)) + 3) := ⟨_, rfl⟩
              refine r_iald hx hb hK hP 1 rfl ((133 + (4 * kq)) + 3) (lf_x_holds_52 knowF nR kq bq y1 y3 y5 y77 y79 y93 y95 y98 ab_now sb_now hk60 hb6 hkn e2 e4 e6 hn8 hn9 hn10 c18 e78 e80 c81 c82 c83 e94 e96 c97 e99) (by decide) y98 e99.symm dX12_holds_332 ?_
              refine lv_bipush (v := nI 61) hx hb dX12_holds_333 (by decide) ?_
              refine lv_icmp_ne (tgt := 353) hx hb dX12_holds_335 (by decide) (fun c100 => ?_) (fun c100 => ?_)
              · refine lv_iload hx hb dX12_holds_353 (lv_at hl 0 rfl) ?_
                refine lv_iload hx hb dX12_holds_355 (lv_at hl 2 rfl) ?_
                refine lv_icmp_le (tgt := 364) hx hb dX12_holds_357 (by decide) (fun c101 => ?_) (fun c101 => ?_)
                · refine lv_iconst (v := nI 0) hx hb dX12_holds_364 (by decide) ?_
                  rw [hQ]
                  exact W.zret (v := nI 0) hx hb hr (by decide) (fun t9 ht9 hW9 => ⟨nI 0, rfl, (lf_x_holds_53), ht9⟩) (fun _ h => absurd h List.not_mem_nil) dX12_holds_365
                · refine lv_iconst (v := nI 1) hx hb dX12_holds_360 (by decide) ?_
                  refine lv_goto (tgt := 365) hx hb dX12_holds_361 (by decide) ?_
                  rw [hQ]
                  exact W.zret (v := nI 1) hx hb hr (by decide) (fun t9 ht9 hW9 => ⟨nI 1, rfl, (lf_x_holds_54), ht9⟩) (fun _ h => absurd h List.not_mem_nil) dX12_holds_365
              · refine lv_iload hx hb dX12_holds_338 (lv_at hl 0 rfl) ?_
                refine lv_iload hx hb dX12_holds_340 (lv_at hl 2 rfl) ?_
                refine lv_icmp_ne (tgt := 349) hx hb dX12_holds_342 (by decide) (fun c102 => ?_) (fun c102 => ?_)
                · refine lv_iconst (v := nI 0) hx hb dX12_holds_349 (by decide) ?_
                  refine lv_goto (tgt := 365) hx hb dX12_holds_350 (by decide) ?_
                  rw [hQ]
                  exact W.zret (v := nI 0) hx hb hr (by decide) (fun t9 ht9 hW9 => ⟨nI 0, rfl, (lf_x_holds_55), ht9⟩) (fun _ h => absurd h List.not_mem_nil) dX12_holds_365
                · refine lv_iconst (v := nI 1) hx hb dX12_holds_345 (by decide) ?_
                  refine lv_goto (tgt := 365) hx hb dX12_holds_346 (by decide) ?_
                  rw [hQ]
                  exact W.zret (v := nI 1) hx hb hr (by decide) (fun t9 ht9 hW9 => ⟨nI 1, rfl, (lf_x_holds_56), ht9⟩) (fun _ h => absurd h List.not_mem_nil) dX12_holds_365
            · refine lv_iload hx hb dX12_holds_310 (lv_at hl 0 rfl) ?_
              refine lv_iload hx hb dX12_holds_312 (lv_at hl 2 rfl) ?_
              refine lv_icmp_ge (tgt := 321) hx hb dX12_holds_314 (by decide) (fun c103 => ?_) (fun c103 => ?_)
              · refine lv_iconst (v := nI 0) hx hb dX12_holds_321 (by decide) ?_
                refine lv_goto (tgt := 365) hx hb dX12_holds_322 (by decide) ?_
                rw [hQ]
                exact W.zret (v := nI 0) hx hb hr (by decide) (fun t9 ht9 hW9 => ⟨nI 0, rfl, (lf_x_holds_57), ht9⟩) (fun _ h => absurd h List.not_mem_nil) dX12_holds_365
              · refine lv_iconst (v := nI 1) hx hb dX12_holds_317 (by decide) ?_
                refine lv_goto (tgt := 365) hx hb dX12_holds_318 (by decide) ?_
                rw [hQ]
                exact W.zret (v := nI 1) hx hb hr (by decide) (fun t9 ht9 hW9 => ⟨nI 1, rfl, (lf_x_holds_58), ht9⟩) (fun _ h => absurd h List.not_mem_nil) dX12_holds_365
        · refine lv_aload_n hx hb dX12_holds_263 rfl (lv_at hl 4 rfl) ?_
          refine va_get (D := (dC, dI)) (ci := 12) (v := .ref know) (C := RX12) (T := TX12) (N := 52) hx hb hts hin12 hown hK hP 0 rfl rfl 14 (by decide) (hts (.fieldLink RX12 98 "PorridgeSeaModel" "now" "[I") (List.mem_of_getElem? (i := 1) rfl)) (fun _ h9 => h9) rfl dX12_holds_264 ?_
          refine lv_bipush (v := nI 125) hx hb dX12_holds_267 (by decide) ?_
          refine lv_iload_n hx hb dX12_holds_269 rfl (lv_at hl 6 rfl) ?_
          refine lv_iadd hx hb dX12_holds_270 ?_
          refine r_ti (nI (125 + bq)) (nI_add _ _) ?_
          obtain ⟨y104, e105⟩ : ∃ z9, z9 = knowF (125 + bq) := ⟨_, rfl⟩
          refine r_iald hx hb hK hP 1 rfl (125 + bq) (lf_x_holds_59 knowF nR kq bq y1 y3 y5 y77 y79 y104 ab_now sb_now hk60 hb6 hkn e2 e4 e6 hn8 hn9 hn10 c18 e78 e80 c81 c82 e105) (by decide) y104 e105.symm dX12_holds_271 ?_
          refine lv_goto (tgt := 295) hx hb dX12_holds_272 (by decide) ?_
          refine lv_istore (lv' := [(7, .int y104), (6, .int y79), (5, .int y3), (4, .int y1), (3, .int (nI (133 + (4 * kq)))), (0, .ref o), (1, .int (nI kq)), (2, .int (nI bq))]) hx hb dX12_holds_295 hl (by decide) rfl (fun ls hl => ?_)
          refine lv_aload_n hx hb dX12_holds_297 rfl (lv_at hl 5 rfl) ?_
          refine va_get (D := (dC, dI)) (ci := 12) (v := .ref know) (C := RX12) (T := TX12) (N := 52) hx hb hts hin12 hown hK hP 0 rfl rfl 14 (by decide) (hts (.fieldLink RX12 98 "PorridgeSeaModel" "now" "[I") (List.mem_of_getElem? (i := 1) rfl)) (fun _ h9 => h9) rfl dX12_holds_298 ?_
          refine lv_iload_n hx hb dX12_holds_301 rfl (lv_at hl 4 rfl) ?_
          refine lv_iconst (v := nI 3) hx hb dX12_holds_302 (by decide) ?_
          refine lv_iadd hx hb dX12_holds_303 ?_
          refine r_ti (nI ((133 + (4 * kq)) + 3)) (nI_add _ _) ?_
          obtain ⟨y106, e107⟩ : ∃ z9, z9 = knowF ((133 + (4 * kq)) + 3) := ⟨_, rfl⟩
          refine r_iald hx hb hK hP 1 rfl ((133 + (4 * kq)) + 3) (lf_x_holds_60 knowF nR kq bq y1 y3 y5 y77 y79 y104 y106 ab_now sb_now hk60 hb6 hkn e2 e4 e6 hn8 hn9 hn10 c18 e78 e80 c81 c82 e105 e107) (by decide) y106 e107.symm dX12_holds_304 ?_
          refine lv_bipush (v := nI 60) hx hb dX12_holds_305 (by decide) ?_
          refine lv_icmp_ne (tgt := 325) hx hb dX12_holds_307 (by decide) (fun c108 => ?_) (fun c108 => ?_)
          · refine lv_aload_n hx hb dX12_holds_325 rfl (lv_at hl 5 rfl) ?_
            refine va_get (D := (dC, dI)) (ci := 12) (v := .ref know) (C := RX12) (T := TX12) (N := 52) hx hb hts hin12 hown hK hP 0 rfl rfl 14 (by decide) (hts (.fieldLink RX12 98 "PorridgeSeaModel" "now" "[I") (List.mem_of_getElem? (i := 1) rfl)) (fun _ h9 => h9) rfl dX12_holds_326 ?_
            refine lv_iload_n hx hb dX12_holds_329 rfl (lv_at hl 4 rfl) ?_
            refine lv_iconst (v := nI 3) hx hb dX12_holds_330 (by decide) ?_
            refine lv_iadd hx hb dX12_holds_331 ?_
            refine r_ti (nI ((133 + (4 * kq)) + 3)) (nI_add _ _) ?_
            obtain ⟨y109, e110⟩ : ∃ z9, z9 = knowF ((133 + (4 * kq)) + 3) := ⟨_, rfl⟩
            refine r_iald hx hb hK hP 1 rfl ((133 + (4 * kq)) + 3) (lf_x_holds_61 knowF nR kq bq y1 y3 y5 y77 y79 y104 y106 y109 ab_now sb_now hk60 hb6 hkn e2 e4 e6 hn8 hn9 hn10 c18 e78 e80 c81 c82 e105 e107 c108 e110) (by decide) y109 e110.symm dX12_holds_332 ?_
            refine lv_bipush (v := nI 61) hx hb dX12_holds_333 (by decide) ?_
            refine lv_icmp_ne (tgt := 353) hx hb dX12_holds_335 (by decide) (fun c111 => ?_) (fun c111 => ?_)
            · refine lv_iload hx hb dX12_holds_353 (lv_at hl 0 rfl) ?_
              refine lv_iload hx hb dX12_holds_355 (lv_at hl 2 rfl) ?_
              refine lv_icmp_le (tgt := 364) hx hb dX12_holds_357 (by decide) (fun c112 => ?_) (fun c112 => ?_)
              · refine lv_iconst (v := nI 0) hx hb dX12_holds_364 (by decide) ?_
                rw [hQ]
                exact W.zret (v := nI 0) hx hb hr (by decide) (fun t9 ht9 hW9 => ⟨nI 0, rfl, (lf_x_holds_62), ht9⟩) (fun _ h => absurd h List.not_mem_nil) dX12_holds_365
              · refine lv_iconst (v := nI 1) hx hb dX12_holds_360 (by decide) ?_
                refine lv_goto (tgt := 365) hx hb dX12_holds_361 (by decide) ?_
                rw [hQ]
                exact W.zret (v := nI 1) hx hb hr (by decide) (fun t9 ht9 hW9 => ⟨nI 1, rfl, (lf_x_holds_63), ht9⟩) (fun _ h => absurd h List.not_mem_nil) dX12_holds_365
            · refine lv_iload hx hb dX12_holds_338 (lv_at hl 0 rfl) ?_
              refine lv_iload hx hb dX12_holds_340 (lv_at hl 2 rfl) ?_
              refine lv_icmp_ne (tgt := 349) hx hb dX12_holds_342 (by decide) (fun c113 => ?_) (fun c113 => ?_)
              · refine lv_iconst (v := nI 0) hx hb dX12_holds_349 (by decide) ?_
                refine lv_goto (tgt := 365) hx hb dX12_holds_350 (by decide) ?_
                rw [hQ]
                exact W.zret (v := nI 0) hx hb hr (by decide) (fun t9 ht9 hW9 => ⟨nI 0, rfl, (lf_x_holds_64), ht9⟩) (fun _ h => absurd h List.not_mem_nil) dX12_holds_365
              · refine lv_iconst (v := nI 1) hx hb dX12_holds_345 (by decide) ?_
                refine lv_goto (tgt := 365) hx hb dX12_holds_346 (by decide) ?_
                rw [hQ]
                exact W.zret (v := nI 1) hx hb hr (by decide) (fun t9 ht9 hW9 => ⟨nI 1, rfl, (lf_x_holds_65), ht9⟩) (fun _ h => absurd h List.not_mem_nil) dX12_holds_365
          · refine lv_iload hx hb dX12_holds_310 (lv_at hl 0 rfl) ?_
            refine lv_iload hx hb dX12_holds_312 (lv_at hl 2 rfl) ?_
            refine lv_icmp_ge (tgt := 321) hx hb dX12_holds_314 (by decide) (fun c114 => ?_) (fun c114 => ?_)
            · refine lv_iconst (v := nI 0) hx hb dX12_holds_321 (by decide) ?_
              refine lv_goto (tgt := 365) hx hb dX12_holds_322 (by decide) ?_
              rw [hQ]
              exact W.zret (v := nI 0) hx hb hr (by decide) (fun t9 ht9 hW9 => ⟨nI 0, rfl, (lf_x_holds_66), ht9⟩) (fun _ h => absurd h List.not_mem_nil) dX12_holds_365
            · refine lv_iconst (v := nI 1) hx hb dX12_holds_317 (by decide) ?_
              refine lv_goto (tgt := 365) hx hb dX12_holds_318 (by decide) ?_
              rw [hQ]
              exact W.zret (v := nI 1) hx hb hr (by decide) (fun t9 ht9 hW9 => ⟨nI 1, rfl, (lf_x_holds_67), ht9⟩) (fun _ h => absurd h List.not_mem_nil) dX12_holds_365
      · refine lv_aload_n hx hb dX12_holds_244 rfl (lv_at hl 4 rfl) ?_
        refine va_get (D := (dC, dI)) (ci := 12) (v := .ref know) (C := RX12) (T := TX12) (N := 52) hx hb hts hin12 hown hK hP 0 rfl rfl 14 (by decide) (hts (.fieldLink RX12 98 "PorridgeSeaModel" "now" "[I") (List.mem_of_getElem? (i := 1) rfl)) (fun _ h9 => h9) rfl dX12_holds_245 ?_
        refine lv_bipush (v := nI 55) hx hb dX12_holds_248 (by decide) ?_
        refine lv_iload_n hx hb dX12_holds_250 rfl (lv_at hl 6 rfl) ?_
        refine lv_iadd hx hb dX12_holds_251 ?_
        refine r_ti (nI (55 + bq)) (nI_add _ _) ?_
        obtain ⟨y115, e116⟩ : ∃ z9, z9 = knowF (55 + bq) := ⟨_, rfl⟩
        refine r_iald hx hb hK hP 1 rfl (55 + bq) (lf_x_holds_68 knowF nR kq bq y1 y3 y5 y77 y79 y115 ab_now sb_now hk60 hb6 hkn e2 e4 e6 hn8 hn9 hn10 c18 e78 e80 c81 e116) (by decide) y115 e116.symm dX12_holds_252 ?_
        refine lv_goto (tgt := 295) hx hb dX12_holds_253 (by decide) ?_
        refine lv_istore (lv' := [(7, .int y115), (6, .int y79), (5, .int y3), (4, .int y1), (3, .int (nI (133 + (4 * kq)))), (0, .ref o), (1, .int (nI kq)), (2, .int (nI bq))]) hx hb dX12_holds_295 hl (by decide) rfl (fun ls hl => ?_)
        refine lv_aload_n hx hb dX12_holds_297 rfl (lv_at hl 5 rfl) ?_
        refine va_get (D := (dC, dI)) (ci := 12) (v := .ref know) (C := RX12) (T := TX12) (N := 52) hx hb hts hin12 hown hK hP 0 rfl rfl 14 (by decide) (hts (.fieldLink RX12 98 "PorridgeSeaModel" "now" "[I") (List.mem_of_getElem? (i := 1) rfl)) (fun _ h9 => h9) rfl dX12_holds_298 ?_
        refine lv_iload_n hx hb dX12_holds_301 rfl (lv_at hl 4 rfl) ?_
        refine lv_iconst (v := nI 3) hx hb dX12_holds_302 (by decide) ?_
        refine lv_iadd hx hb dX12_holds_303 ?_
        refine r_ti (nI ((133 + (4 * kq)) + 3)) (nI_add _ _) ?_
        obtain ⟨y117, e118⟩ : ∃ z9, z9 = knowF ((133 + (4 * kq)) + 3) := ⟨_, rfl⟩
        refine r_iald hx hb hK hP 1 rfl ((133 + (4 * kq)) + 3) (lf_x_holds_69 knowF nR kq bq y1 y3 y5 y77 y79 y115 y117 ab_now sb_now hk60 hb6 hkn e2 e4 e6 hn8 hn9 hn10 c18 e78 e80 c81 e116 e118) (by decide) y117 e118.symm dX12_holds_304 ?_
        refine lv_bipush (v := nI 60) hx hb dX12_holds_305 (by decide) ?_
        refine lv_icmp_ne (tgt := 325) hx hb dX12_holds_307 (by decide) (fun c119 => ?_) (fun c119 => ?_)
        · refine lv_aload_n hx hb dX12_holds_325 rfl (lv_at hl 5 rfl) ?_
          refine va_get (D := (dC, dI)) (ci := 12) (v := .ref know) (C := RX12) (T := TX12) (N := 52) hx hb hts hin12 hown hK hP 0 rfl rfl 14 (by decide) (hts (.fieldLink RX12 98 "PorridgeSeaModel" "now" "[I") (List.mem_of_getElem? (i := 1) rfl)) (fun _ h9 => h9) rfl dX12_holds_326 ?_
          refine lv_iload_n hx hb dX12_holds_329 rfl (lv_at hl 4 rfl) ?_
          refine lv_iconst (v := nI 3) hx hb dX12_holds_330 (by decide) ?_
          refine lv_iadd hx hb dX12_holds_331 ?_
          refine r_ti (nI ((133 + (4 * kq)) + 3)) (nI_add _ _) ?_
          obtain ⟨y120, e121⟩ : ∃ z9, z9 = knowF ((133 + (4 * kq)) + 3) := ⟨_, rfl⟩
          refine r_iald hx hb hK hP 1 rfl ((133 + (4 * kq)) + 3) (lf_x_holds_70 knowF nR kq bq y1 y3 y5 y77 y79 y115 y117 y120 ab_now sb_now hk60 hb6 hkn e2 e4 e6 hn8 hn9 hn10 c18 e78 e80 c81 e116 e118 c119 e121) (by decide) y120 e121.symm dX12_holds_332 ?_
          refine lv_bipush (v := nI 61) hx hb dX12_holds_333 (by decide) ?_
          refine lv_icmp_ne (tgt := 353) hx hb dX12_holds_335 (by decide) (fun c122 => ?_) (fun c122 => ?_)
          · refine lv_iload hx hb dX12_holds_353 (lv_at hl 0 rfl) ?_
            refine lv_iload hx hb dX12_holds_355 (lv_at hl 2 rfl) ?_
            refine lv_icmp_le (tgt := 364) hx hb dX12_holds_357 (by decide) (fun c123 => ?_) (fun c123 => ?_)
            · refine lv_iconst (v := nI 0) hx hb dX12_holds_364 (by decide) ?_
              rw [hQ]
              exact W.zret (v := nI 0) hx hb hr (by decide) (fun t9 ht9 hW9 => ⟨nI 0, rfl, (lf_x_holds_71), ht9⟩) (fun _ h => absurd h List.not_mem_nil) dX12_holds_365
            · refine lv_iconst (v := nI 1) hx hb dX12_holds_360 (by decide) ?_
              refine lv_goto (tgt := 365) hx hb dX12_holds_361 (by decide) ?_
              rw [hQ]
              exact W.zret (v := nI 1) hx hb hr (by decide) (fun t9 ht9 hW9 => ⟨nI 1, rfl, (lf_x_holds_72), ht9⟩) (fun _ h => absurd h List.not_mem_nil) dX12_holds_365
          · refine lv_iload hx hb dX12_holds_338 (lv_at hl 0 rfl) ?_
            refine lv_iload hx hb dX12_holds_340 (lv_at hl 2 rfl) ?_
            refine lv_icmp_ne (tgt := 349) hx hb dX12_holds_342 (by decide) (fun c124 => ?_) (fun c124 => ?_)
            · refine lv_iconst (v := nI 0) hx hb dX12_holds_349 (by decide) ?_
              refine lv_goto (tgt := 365) hx hb dX12_holds_350 (by decide) ?_
              rw [hQ]
              exact W.zret (v := nI 0) hx hb hr (by decide) (fun t9 ht9 hW9 => ⟨nI 0, rfl, (lf_x_holds_73), ht9⟩) (fun _ h => absurd h List.not_mem_nil) dX12_holds_365
            · refine lv_iconst (v := nI 1) hx hb dX12_holds_345 (by decide) ?_
              refine lv_goto (tgt := 365) hx hb dX12_holds_346 (by decide) ?_
              rw [hQ]
              exact W.zret (v := nI 1) hx hb hr (by decide) (fun t9 ht9 hW9 => ⟨nI 1, rfl, (lf_x_holds_74), ht9⟩) (fun _ h => absurd h List.not_mem_nil) dX12_holds_365
        · refine lv_iload hx hb dX12_holds_310 (lv_at hl 0 rfl) ?_
          refine lv_iload hx hb dX12_holds_312 (lv_at hl 2 rfl) ?_
          refine lv_icmp_ge (tgt := 321) hx hb dX12_holds_314 (by decide) (fun c125 => ?_) (fun c125 => ?_)
          · refine lv_iconst (v := nI 0) hx hb dX12_holds_321 (by decide) ?_
            refine lv_goto (tgt := 365) hx hb dX12_holds_322 (by decide) ?_
            rw [hQ]
            exact W.zret (v := nI 0) hx hb hr (by decide) (fun t9 ht9 hW9 => ⟨nI 0, rfl, (lf_x_holds_75), ht9⟩) (fun _ h => absurd h List.not_mem_nil) dX12_holds_365
          · refine lv_iconst (v := nI 1) hx hb dX12_holds_317 (by decide) ?_
            refine lv_goto (tgt := 365) hx hb dX12_holds_318 (by decide) ?_
            rw [hQ]
            exact W.zret (v := nI 1) hx hb hr (by decide) (fun t9 ht9 hW9 => ⟨nI 1, rfl, (lf_x_holds_76), ht9⟩) (fun _ h => absurd h List.not_mem_nil) dX12_holds_365
theorem c_x_holdsF (l : Launch) (dC : Nat → ClassId) (dI : Nat → Nat → Nat) (ky : Nat → ClassId) (o : Nat) (kthrown : Int32) (ktape : Nat) (ktaped : Nat) (ksize : Nat) (klimit : Nat) (kto : Nat) (kfrom : Nat) (kkind : Int32) (knumber : Int32) (ksign : Int32) (kfault : Int32) (kplace : Int32) (kword : Int64) (ktold : Int32) (know : Nat) (kread : Nat) (kkept : Nat) (ksnaps : Nat) (kaside : Nat) (kname : Nat) (kreadName : Nat) (kkeptName : Nat) (kisKept : Nat) (konces : Nat) (ksnapMany : Nat) (khasCells : Int32) (kpoured : Nat) (kfar : Nat) (ksides : Nat) (ksideMany : Nat) (kwayDays : Int32) (khasWay : Int32) (klines : Nat) (kmet : Nat) (kmetMany : Nat) (ksunk : Nat) (ktrying : Nat) (ksunkMany : Nat) (ksending : Int32) (kfleets : Int32) (ktext : Nat) (ktexts : Nat) (kseed : Int32) (kline : Nat) (kwritten : Nat) (klineMany : Nat) (khasWritten : Int32) (knode : Nat) (knodes : Nat) (konesMany : Nat) (kwithin : Nat) (ktop : Nat) (knowF : Nat → Int32) (kq : Nat) (bq : Nat) (iv_ko_0 : ktaped ≤ 940) (iv_ko_1 : ksize ≤ 940) (iv_ko_2 : klimit ≤ 900) (iv_ko_3 : kto ≤ ksize) (iv_ko_4 : kfrom ≤ 940) (iv_ko_5 : ksnapMany ≤ 8) (iv_ko_6 : ksideMany ≤ 36) (iv_ko_7 : kmetMany ≤ 3) (iv_ko_8 : ksunkMany ≤ 36) (iv_ko_9 : ktexts ≤ 64) (iv_ko_10 : klineMany ≤ 40) (iv_ko_11 : knodes ≤ 60) (iv_ko_12 : konesMany ≤ 20) (iv_ko_13 : kwithin ≤ 8) (iv_ko_14 : ktop ≤ 59) (ab_now : NB knowF) (sb_now : SB knowF) (hk60 : kq < 60) (hb6 : bq < 6) : Met l yX12_holds wsX12_holds ({ frames := 80, cells := 0, slots := 0, locals := 2800 }) (PcP dC dI ky [.ref o, .int (nI kq), .int (nI bq)] [(o, .inr (12, [.int kthrown, .ref ktape, .int (nI ktaped), .int (nI ksize), .int (nI klimit), .int (nI kto), .int (nI kfrom), .int kkind, .int knumber, .int ksign, .int kfault, .int kplace, .long kword, .int ktold, .ref know, .ref kread, .ref kkept, .ref ksnaps, .ref kaside, .ref kname, .ref kreadName, .ref kkeptName, .ref kisKept, .ref konces, .int (nI ksnapMany), .int khasCells, .ref kpoured, .ref kfar, .ref ksides, .int (nI ksideMany), .int kwayDays, .int khasWay, .ref klines, .ref kmet, .int (nI kmetMany), .ref ksunk, .ref ktrying, .int (nI ksunkMany), .int ksending, .int kfleets, .ref ktext, .int (nI ktexts), .int kseed, .ref kline, .ref kwritten, .int (nI klineMany), .int khasWritten, .ref knode, .int (nI knodes), .int (nI konesMany), .int (nI kwithin), .int (nI ktop)])), (know, .inl (ky 0, 373, .inl knowF))]) (vp_Si (fun r : Int32 => r = nI 0 ∨ r = nI 1)) 0 0 (fun _ => False) := c_x_holds l dC dI ky 60 o kthrown ktape ktaped ksize klimit kto kfrom kkind knumber ksign kfault kplace kword ktold know kread kkept ksnaps kaside kname kreadName kkeptName kisKept konces ksnapMany khasCells kpoured kfar ksides ksideMany kwayDays khasWay klines kmet kmetMany ksunk ktrying ksunkMany ksending kfleets ktext ktexts kseed kline kwritten klineMany khasWritten knode knodes konesMany kwithin ktop knowF kq bq iv_ko_0 iv_ko_1 iv_ko_2 iv_ko_3 iv_ko_4 iv_ko_5 iv_ko_6 iv_ko_7 iv_ko_8 iv_ko_9 iv_ko_10 iv_ko_11 iv_ko_12 iv_ko_13 iv_ko_14 ab_now sb_now hk60 hb6 hk60
