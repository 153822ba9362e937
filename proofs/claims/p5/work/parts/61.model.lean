theorem dX12_way_0 : decode cX12_way 0 = .ok (.aload_n 0, 1) := by decide +kernel
theorem dX12_way_1 : decode cX12_way 1 = .ok (.iconst 0, 1) := by decide +kernel
theorem dX12_way_2 : decode cX12_way 2 = .ok (.putfield 1, 3) := by decide +kernel
theorem dX12_way_5 : decode cX12_way 5 = .ok (.aload_n 0, 1) := by decide +kernel
theorem dX12_way_6 : decode cX12_way 6 = .ok (.iload_n 1, 1) := by decide +kernel
theorem dX12_way_7 : decode cX12_way 7 = .ok (.invokevirtual 260, 3) := by decide +kernel
theorem dX12_way_10 : decode cX12_way 10 = .ok (.ifCond .eq 19, 3) := by decide +kernel
theorem dX12_way_13 : decode cX12_way 13 = .ok (.aload_n 0, 1) := by decide +kernel
theorem dX12_way_14 : decode cX12_way 14 = .ok (.iload_n 2, 1) := by decide +kernel
theorem dX12_way_15 : decode cX12_way 15 = .ok (.invokevirtual 257, 3) := by decide +kernel
theorem dX12_way_18 : decode cX12_way 18 = .ok (.ifCond .eq 11, 3) := by decide +kernel
theorem dX12_way_21 : decode cX12_way 21 = .ok (.aload_n 0, 1) := by decide +kernel
theorem dX12_way_22 : decode cX12_way 22 = .ok (.iload_n 1, 1) := by decide +kernel
theorem dX12_way_23 : decode cX12_way 23 = .ok (.invokevirtual 246, 3) := by decide +kernel
theorem dX12_way_26 : decode cX12_way 26 = .ok (.ifCond .eq 5, 3) := by decide +kernel
theorem dX12_way_31 : decode cX12_way 31 = .ok (.aload_n 0, 1) := by decide +kernel
theorem dX12_way_32 : decode cX12_way 32 = .ok (.iload_n 1, 1) := by decide +kernel
theorem dX12_way_33 : decode cX12_way 33 = .ok (.aload_n 0, 1) := by decide +kernel
theorem dX12_way_34 : decode cX12_way 34 = .ok (.getfield 98, 3) := by decide +kernel
theorem dX12_way_37 : decode cX12_way 37 = .ok (.bipush 107, 2) := by decide +kernel
theorem dX12_way_39 : decode cX12_way 39 = .ok (.iload_n 2, 1) := by decide +kernel
theorem dX12_way_40 : decode cX12_way 40 = .ok (.iadd, 1) := by decide +kernel
theorem dX12_way_41 : decode cX12_way 41 = .ok (.iaload, 1) := by decide +kernel
theorem dX12_way_42 : decode cX12_way 42 = .ok (.invokevirtual 319, 3) := by decide +kernel
theorem dX12_way_45 : decode cX12_way 45 = .ok (.aload_n 0, 1) := by decide +kernel
theorem dX12_way_46 : decode cX12_way 46 = .ok (.getfield 98, 3) := by decide +kernel
theorem dX12_way_49 : decode cX12_way 49 = .ok (.bipush 113, 2) := by decide +kernel
theorem dX12_way_51 : decode cX12_way 51 = .ok (.iload_n 1, 1) := by decide +kernel
theorem dX12_way_52 : decode cX12_way 52 = .ok (.iadd, 1) := by decide +kernel
theorem dX12_way_53 : decode cX12_way 53 = .ok (.iaload, 1) := by decide +kernel
theorem dX12_way_54 : decode cX12_way 54 = .ok (.istore_n 3, 1) := by decide +kernel
theorem dX12_way_55 : decode cX12_way 55 = .ok (.aload_n 0, 1) := by decide +kernel
theorem dX12_way_56 : decode cX12_way 56 = .ok (.getfield 133, 3) := by decide +kernel
theorem dX12_way_59 : decode cX12_way 59 = .ok (.iload_n 3, 1) := by decide +kernel
theorem dX12_way_60 : decode cX12_way 60 = .ok (.iaload, 1) := by decide +kernel
theorem dX12_way_61 : decode cX12_way 61 = .ok (.ldc_w 315, 3) := by decide +kernel
theorem dX12_way_64 : decode cX12_way 64 = .ok (.if_icmp .lt 5, 3) := by decide +kernel
theorem dX12_way_69 : decode cX12_way 69 = .ok (.aload_n 0, 1) := by decide +kernel
theorem dX12_way_70 : decode cX12_way 70 = .ok (.getfield 133, 3) := by decide +kernel
theorem dX12_way_73 : decode cX12_way 73 = .ok (.iload_n 3, 1) := by decide +kernel
theorem dX12_way_74 : decode cX12_way 74 = .ok (.iaload, 1) := by decide +kernel
theorem dX12_way_75 : decode cX12_way 75 = .ok (.bipush 64, 2) := by decide +kernel
theorem dX12_way_77 : decode cX12_way 77 = .ok (.idiv, 1) := by decide +kernel
theorem dX12_way_78 : decode cX12_way 78 = .ok (.istore 4, 2) := by decide +kernel
theorem dX12_way_80 : decode cX12_way 80 = .ok (.aload_n 0, 1) := by decide +kernel
theorem dX12_way_81 : decode cX12_way 81 = .ok (.iconst 0, 1) := by decide +kernel
theorem dX12_way_82 : decode cX12_way 82 = .ok (.putfield 323, 3) := by decide +kernel
theorem dX12_way_85 : decode cX12_way 85 = .ok (.aload_n 0, 1) := by decide +kernel
theorem dX12_way_86 : decode cX12_way 86 = .ok (.iconst 0, 1) := by decide +kernel
theorem dX12_way_87 : decode cX12_way 87 = .ok (.putfield 139, 3) := by decide +kernel
theorem dX12_way_90 : decode cX12_way 90 = .ok (.iconst 0, 1) := by decide +kernel
theorem dX12_way_91 : decode cX12_way 91 = .ok (.istore 5, 2) := by decide +kernel
theorem dX12_way_93 : decode cX12_way 93 = .ok (.iload_n 3, 1) := by decide +kernel
theorem dX12_way_94 : decode cX12_way 94 = .ok (.aload_n 0, 1) := by decide +kernel
theorem dX12_way_95 : decode cX12_way 95 = .ok (.getfield 98, 3) := by decide +kernel
theorem dX12_way_98 : decode cX12_way 98 = .ok (.bipush 107, 2) := by decide +kernel
theorem dX12_way_100 : decode cX12_way 100 = .ok (.iload_n 2, 1) := by decide +kernel
theorem dX12_way_101 : decode cX12_way 101 = .ok (.iadd, 1) := by decide +kernel
theorem dX12_way_102 : decode cX12_way 102 = .ok (.iaload, 1) := by decide +kernel
theorem dX12_way_103 : decode cX12_way 103 = .ok (.if_icmp .eq 102, 3) := by decide +kernel
theorem dX12_way_205 : decode cX12_way 205 = .ok (.aload_n 0, 1) := by decide +kernel
theorem dX12_way_206 : decode cX12_way 206 = .ok (.iconst 1, 1) := by decide +kernel
theorem dX12_way_207 : decode cX12_way 207 = .ok (.putfield 326, 3) := by decide +kernel
theorem dX12_way_210 : decode cX12_way 210 = .ok (.iload 4, 2) := by decide +kernel
theorem dX12_way_212 : decode cX12_way 212 = .ok (.ireturn, 1) := by decide +kernel
theorem dX12_way_106 : decode cX12_way 106 = .ok (.iconst 0, 1) := by decide +kernel
theorem dX12_way_107 : decode cX12_way 107 = .ok (.istore 6, 2) := by decide +kernel
theorem dX12_way_109 : decode cX12_way 109 = .ok (.aload_n 0, 1) := by decide +kernel
theorem dX12_way_110 : decode cX12_way 110 = .ok (.iload_n 1, 1) := by decide +kernel
theorem dX12_way_111 : decode cX12_way 111 = .ok (.iload_n 3, 1) := by decide +kernel
theorem dX12_way_112 : decode cX12_way 112 = .ok (.iload 6, 2) := by decide +kernel
theorem dX12_way_114 : decode cX12_way 114 = .ok (.invokevirtual 316, 3) := by decide +kernel
theorem dX12_way_117 : decode cX12_way 117 = .ok (.aload_n 0, 1) := by decide +kernel
theorem dX12_way_118 : decode cX12_way 118 = .ok (.getfield 133, 3) := by decide +kernel
theorem dX12_way_121 : decode cX12_way 121 = .ok (.iload_n 3, 1) := by decide +kernel
theorem dX12_way_122 : decode cX12_way 122 = .ok (.iaload, 1) := by decide +kernel
theorem dX12_way_123 : decode cX12_way 123 = .ok (.if_icmp .eq 9, 3) := by decide +kernel
theorem dX12_way_132 : decode cX12_way 132 = .ok (.aload_n 0, 1) := by decide +kernel
theorem dX12_way_133 : decode cX12_way 133 = .ok (.getfield 136, 3) := by decide +kernel
theorem dX12_way_136 : decode cX12_way 136 = .ok (.aload_n 0, 1) := by decide +kernel
theorem dX12_way_137 : decode cX12_way 137 = .ok (.getfield 323, 3) := by decide +kernel
theorem dX12_way_140 : decode cX12_way 140 = .ok (.iload 6, 2) := by decide +kernel
theorem dX12_way_142 : decode cX12_way 142 = .ok (.iastore, 1) := by decide +kernel
theorem dX12_way_143 : decode cX12_way 143 = .ok (.aload_n 0, 1) := by decide +kernel
theorem dX12_way_144 : decode cX12_way 144 = .ok (.dup, 1) := by decide +kernel
theorem dX12_way_145 : decode cX12_way 145 = .ok (.getfield 323, 3) := by decide +kernel
theorem dX12_way_148 : decode cX12_way 148 = .ok (.iconst 1, 1) := by decide +kernel
theorem dX12_way_149 : decode cX12_way 149 = .ok (.iadd, 1) := by decide +kernel
theorem dX12_way_150 : decode cX12_way 150 = .ok (.putfield 323, 3) := by decide +kernel
theorem dX12_way_153 : decode cX12_way 153 = .ok (.aload_n 0, 1) := by decide +kernel
theorem dX12_way_154 : decode cX12_way 154 = .ok (.iload_n 3, 1) := by decide +kernel
theorem dX12_way_155 : decode cX12_way 155 = .ok (.iload 6, 2) := by decide +kernel
theorem dX12_way_157 : decode cX12_way 157 = .ok (.invokevirtual 272, 3) := by decide +kernel
theorem dX12_way_160 : decode cX12_way 160 = .ok (.istore_n 3, 1) := by decide +kernel
theorem dX12_way_161 : decode cX12_way 161 = .ok (.aload_n 0, 1) := by decide +kernel
theorem dX12_way_162 : decode cX12_way 162 = .ok (.iload_n 3, 1) := by decide +kernel
theorem dX12_way_163 : decode cX12_way 163 = .ok (.invokevirtual 276, 3) := by decide +kernel
theorem dX12_way_166 : decode cX12_way 166 = .ok (.iload 5, 2) := by decide +kernel
theorem dX12_way_168 : decode cX12_way 168 = .ok (.if_icmp .le 24, 3) := by decide +kernel
theorem dX12_way_192 : decode cX12_way 192 = .ok (.iload 5, 2) := by decide +kernel
theorem dX12_way_194 : decode cX12_way 194 = .ok (.aload_n 0, 1) := by decide +kernel
theorem dX12_way_195 : decode cX12_way 195 = .ok (.iload_n 3, 1) := by decide +kernel
theorem dX12_way_196 : decode cX12_way 196 = .ok (.invokevirtual 276, 3) := by decide +kernel
theorem dX12_way_199 : decode cX12_way 199 = .ok (.isub, 1) := by decide +kernel
theorem dX12_way_200 : decode cX12_way 200 = .ok (.istore 5, 2) := by decide +kernel
theorem dX12_way_202 : decode cX12_way 202 = .ok (.goto (-109), 3) := by decide +kernel
theorem dX12_way_171 : decode cX12_way 171 = .ok (.aload_n 0, 1) := by decide +kernel
theorem dX12_way_172 : decode cX12_way 172 = .ok (.dup, 1) := by decide +kernel
theorem dX12_way_173 : decode cX12_way 173 = .ok (.getfield 139, 3) := by decide +kernel
theorem dX12_way_176 : decode cX12_way 176 = .ok (.iconst 1, 1) := by decide +kernel
theorem dX12_way_177 : decode cX12_way 177 = .ok (.iadd, 1) := by decide +kernel
theorem dX12_way_178 : decode cX12_way 178 = .ok (.putfield 139, 3) := by decide +kernel
theorem dX12_way_181 : decode cX12_way 181 = .ok (.aload_n 0, 1) := by decide +kernel
theorem dX12_way_182 : decode cX12_way 182 = .ok (.getfield 98, 3) := by decide +kernel
theorem dX12_way_185 : decode cX12_way 185 = .ok (.bipush 61, 2) := by decide +kernel
theorem dX12_way_187 : decode cX12_way 187 = .ok (.iload_n 1, 1) := by decide +kernel
theorem dX12_way_188 : decode cX12_way 188 = .ok (.iadd, 1) := by decide +kernel
theorem dX12_way_189 : decode cX12_way 189 = .ok (.iaload, 1) := by decide +kernel
theorem dX12_way_190 : decode cX12_way 190 = .ok (.istore 5, 2) := by decide +kernel
theorem dX12_way_126 : decode cX12_way 126 = .ok (.iinc 6 1, 3) := by decide +kernel
theorem dX12_way_129 : decode cX12_way 129 = .ok (.goto (-20), 3) := by decide +kernel
theorem dX12_way_67 : decode cX12_way 67 = .ok (.iconst (-1), 1) := by decide +kernel
theorem dX12_way_68 : decode cX12_way 68 = .ok (.ireturn, 1) := by decide +kernel
theorem dX12_way_29 : decode cX12_way 29 = .ok (.iconst (-1), 1) := by decide +kernel
theorem dX12_way_30 : decode cX12_way 30 = .ok (.ireturn, 1) := by decide +kernel
set_option maxRecDepth 100000 in
theorem ggX12_way_X12_isBoat : GoodIn wsX12_way wsX12_isBoat := goodIn_r _ [13, 2, 14, 15, 12, 16, 53, 54, 55, 56, 57, 58, 59, 60, 61, 62, 63, 64, 65, 66, 67, 68, 69, 70, 71, 72, 73, 74, 75, 76, 77, 78, 79, 80, 81, 82, 83, 84, 85, 86, 87, 88, 89, 90, 91, 92, 93, 94, 95, 96, 97, 98, 99, 100, 101, 102, 103, 104] rfl (by decide +kernel)
set_option maxRecDepth 100000 in
theorem ggX12_way_X12_isLump : GoodIn wsX12_way wsX12_isLump := goodIn_r _ [20, 2, 14, 15, 12, 16, 53, 54, 55, 56, 57, 58, 59, 60, 61, 62, 63, 64, 65, 66, 67, 68, 69, 70, 71, 72, 73, 74, 75, 76, 77, 78, 79, 80, 81, 82, 83, 84, 85, 86, 87, 88, 89, 90, 91, 92, 93, 94, 95, 96, 97, 98, 99, 100, 101, 102, 103, 104] rfl (by decide +kernel)
set_option maxRecDepth 100000 in
theorem ggX12_way_X12_isEaten : GoodIn wsX12_way wsX12_isEaten := goodIn_r _ [24, 2, 53, 54, 55, 56, 57, 58, 59, 60, 61, 62, 63, 64, 65, 66, 67, 68, 69, 70, 71, 72, 73, 74, 75, 76, 77, 78, 79, 80, 81, 82, 83, 84, 85, 86, 87, 88, 89, 90, 91, 92, 93, 94, 95, 96, 97, 98, 99, 100, 101, 102, 103, 104] rfl (by decide +kernel)
set_option maxRecDepth 100000 in
theorem ggX12_way_X12_layFar : GoodIn wsX12_way wsX12_layFar := goodIn_r _ [28, 3, 4, 29, 30, 31, 12, 32, 2, 33, 34, 35, 36, 37, 38, 39, 40, 41, 42, 43, 44, 14, 15, 16, 45, 46, 47, 48, 49, 50, 51, 52, 53, 54, 55, 56, 57, 58, 59, 60, 61, 62, 63, 64, 65, 66, 67, 68, 69, 70, 71, 72, 73, 74, 75, 76, 77, 78, 79, 80, 81, 82, 83, 84, 85, 86, 87, 88, 89, 90, 91, 92, 93, 94, 95, 96, 97, 98, 99, 100, 101, 102, 103, 104] rfl (by decide +kernel)
set_option maxRecDepth 100000 in
theorem ggX12_way_X12_farBy : GoodIn wsX12_way wsX12_farBy := goodIn_r _ [36, 2, 3, 4, 37, 38, 39, 12, 40, 41, 42, 43, 44, 14, 15, 16, 45, 46, 47, 48, 49, 50, 51, 52, 53, 54, 55, 56, 57, 58, 59, 60, 61, 62, 63, 64, 65, 66, 67, 68, 69, 70, 71, 72, 73, 74, 75, 76, 77, 78, 79, 80, 81, 82, 83, 84, 85, 86, 87, 88, 89, 90, 91, 92, 93, 94, 95, 96, 97, 98, 99, 100, 101, 102, 103, 104] rfl (by decide +kernel)
set_option maxRecDepth 100000 in
theorem ggX12_way_X12_beside : GoodIn wsX12_way wsX12_beside := goodIn_r _ [40, 41, 42, 43, 12, 44, 2, 14, 15, 16, 53, 54, 55, 56, 57, 58, 59, 60, 61, 62, 63, 64, 65, 66, 67, 68, 69, 70, 71, 72, 73, 74, 75, 76, 77, 78, 79, 80, 81, 82, 83, 84, 85, 86, 87, 88, 89, 90, 91, 92, 93, 94, 95, 96, 97, 98, 99, 100, 101, 102, 103, 104] rfl (by decide +kernel)
set_option maxRecDepth 100000 in
theorem ggX12_way_X12_costOf : GoodIn wsX12_way wsX12_costOf := goodIn_r _ [48, 2, 49, 50, 51, 12, 52, 53, 54, 55, 56, 57, 58, 59, 60, 61, 62, 63, 64, 65, 66, 67, 68, 69, 70, 71, 72, 73, 74, 75, 76, 77, 78, 79, 80, 81, 82, 83, 84, 85, 86, 87, 88, 89, 90, 91, 92, 93, 94, 95, 96, 97, 98, 99, 100, 101, 102, 103, 104] rfl (by decide +kernel)
set_option maxRecDepth 100000 in
theorem gX12_way_X12_isBoat : GoodIn wsX12_way (wsV RX12 260 RX12 yX12_isBoat wsX12_isBoat) := goodIn_app (goodIn_of _ (by decide +kernel)) ggX12_way_X12_isBoat
set_option maxRecDepth 100000 in
theorem gX12_way_X12_isLump : GoodIn wsX12_way (wsV RX12 257 RX12 yX12_isLump wsX12_isLump) := goodIn_app (goodIn_of _ (by decide +kernel)) ggX12_way_X12_isLump
set_option maxRecDepth 100000 in
theorem gX12_way_X12_isEaten : GoodIn wsX12_way (wsV RX12 246 RX12 yX12_isEaten wsX12_isEaten) := goodIn_app (goodIn_of _ (by decide +kernel)) ggX12_way_X12_isEaten
set_option maxRecDepth 100000 in
theorem gX12_way_X12_layFar : GoodIn wsX12_way (wsV RX12 319 RX12 yX12_layFar wsX12_layFar) := goodIn_app (goodIn_of _ (by decide +kernel)) ggX12_way_X12_layFar
set_option maxRecDepth 100000 in
theorem gX12_way_X12_farBy : GoodIn wsX12_way (wsV RX12 316 RX12 yX12_farBy wsX12_farBy) := goodIn_app (goodIn_of _ (by decide +kernel)) ggX12_way_X12_farBy
set_option maxRecDepth 100000 in
theorem gX12_way_X12_beside : GoodIn wsX12_way (wsV RX12 272 RX12 yX12_beside wsX12_beside) := goodIn_app (goodIn_of _ (by decide +kernel)) ggX12_way_X12_beside
set_option maxRecDepth 100000 in
theorem gX12_way_X12_costOf : GoodIn wsX12_way (wsV RX12 276 RX12 yX12_costOf wsX12_costOf) := goodIn_app (goodIn_of _ (by decide +kernel)) ggX12_way_X12_costOf
set_option maxRecDepth 20000 in
theorem lf_x_way_1 (knowF : Nat → Int32) (x : Int32) (y : Int32) (ab_now : NB knowF) (t3 : 0 ≤ x.toInt) (t4 : x.toInt < (knowF 3).toInt) (t5 : x.toInt ≤ 5) (t10 : 0 ≤ y.toInt) (t11 : y.toInt < (knowF 2).toInt) (t12 : y.toInt ≤ 5) : 0 ≤ x.toInt ∧ x.toInt ≤ 5 := by
  have b_x := ia_b x
  have b_y := ia_b y
  try simp only [ia_lt, ia_le, ia_eq, ia_m1, ia_0, ia_1, ne_eq, true_and, and_true, false_and, and_false, or_false, false_or, or_true, true_or, not_true_eq_false, not_false_eq_true] at *
  all_goals omega
set_option maxRecDepth 20000 in
theorem lf_x_way_2 (knowF : Nat → Int32) (x : Int32) (y : Int32) (ab_now : NB knowF) (t3 : 0 ≤ x.toInt) (t4 : x.toInt < (knowF 3).toInt) (t5 : x.toInt ≤ 5) (t10 : 0 ≤ y.toInt) (t11 : y.toInt < (knowF 2).toInt) (t12 : y.toInt ≤ 5) : 0 ≤ y.toInt ∧ y.toInt < ((6 : Nat) : Int) := by
  have b_x := ia_b x
  have b_y := ia_b y
  try simp only [ia_lt, ia_le, ia_eq, ia_m1, ia_0, ia_1, ne_eq, true_and, and_true, false_and, and_false, or_false, false_or, or_true, true_or, not_true_eq_false, not_false_eq_true] at *
  all_goals omega
set_option maxRecDepth 20000 in
theorem lf_x_way_3 (knowF : Nat → Int32) (x : Int32) (y : Int32) (n18 : Nat) (y21 : Int32) (ab_now : NB knowF) (t3 : 0 ≤ x.toInt) (t4 : x.toInt < (knowF 3).toInt) (t5 : x.toInt ≤ 5) (t10 : 0 ≤ y.toInt) (t11 : y.toInt < (knowF 2).toInt) (t12 : y.toInt ≤ 5) (h19 : n18 < 6) (e20 : y = nI n18) (e22 : y21 = knowF (107 + n18)) : (107 + n18) < 373 := by
  have b_x := ia_b x
  have b_y := ia_b y
  have b_y21 := ia_b y21
  try have k_0 := ia_n n18 (by first | decide | omega)
  try simp only [ia_lt, ia_le, ia_eq, ia_m1, ia_0, ia_1, ne_eq, true_and, and_true, false_and, and_false, or_false, false_or, or_true, true_or, not_true_eq_false, not_false_eq_true] at *
  all_goals omega
set_option maxRecDepth 20000 in
theorem lf_x_way_4 (knowF : Nat → Int32) (x : Int32) (y : Int32) (n18 : Nat) (y21 : Int32) (ab_now : NB knowF) (t3 : 0 ≤ x.toInt) (t4 : x.toInt < (knowF 3).toInt) (t5 : x.toInt ≤ 5) (t10 : 0 ≤ y.toInt) (t11 : y.toInt < (knowF 2).toInt) (t12 : y.toInt ≤ 5) (h19 : n18 < 6) (e20 : y = nI n18) (e22 : y21 = knowF (107 + n18)) : 107 ≤ (107 + n18) := by
  have b_x := ia_b x
  have b_y := ia_b y
  have b_y21 := ia_b y21
  try have k_0 := ia_n n18 (by first | decide | omega)
  try simp only [ia_lt, ia_le, ia_eq, ia_m1, ia_0, ia_1, ne_eq, true_and, and_true, false_and, and_false, or_false, false_or, or_true, true_or, not_true_eq_false, not_false_eq_true] at *
  all_goals omega
set_option maxRecDepth 20000 in
theorem lf_x_way_5 (knowF : Nat → Int32) (x : Int32) (y : Int32) (n18 : Nat) (y21 : Int32) (ab_now : NB knowF) (t3 : 0 ≤ x.toInt) (t4 : x.toInt < (knowF 3).toInt) (t5 : x.toInt ≤ 5) (t10 : 0 ≤ y.toInt) (t11 : y.toInt < (knowF 2).toInt) (t12 : y.toInt ≤ 5) (h19 : n18 < 6) (e20 : y = nI n18) (e22 : y21 = knowF (107 + n18)) : (107 + n18) < 119 := by
  have b_x := ia_b x
  have b_y := ia_b y
  have b_y21 := ia_b y21
  try have k_0 := ia_n n18 (by first | decide | omega)
  try simp only [ia_lt, ia_le, ia_eq, ia_m1, ia_0, ia_1, ne_eq, true_and, and_true, false_and, and_false, or_false, false_or, or_true, true_or, not_true_eq_false, not_false_eq_true] at *
  all_goals omega
set_option maxRecDepth 20000 in
theorem lf_x_way_6 (knowF : Nat → Int32) (x : Int32) (y : Int32) (n18 : Nat) (y21 : Int32) (ab_now : NB knowF) (t3 : 0 ≤ x.toInt) (t4 : x.toInt < (knowF 3).toInt) (t5 : x.toInt ≤ 5) (t10 : 0 ≤ y.toInt) (t11 : y.toInt < (knowF 2).toInt) (t12 : y.toInt ≤ 5) (h19 : n18 < 6) (e20 : y = nI n18) (e22 : y21 = knowF (107 + n18)) (b23 : 0 ≤ y21.toInt) (b24 : y21.toInt ≤ 35) : 0 ≤ y21.toInt ∧ y21.toInt < ((36 : Nat) : Int) := by
  have b_x := ia_b x
  have b_y := ia_b y
  have b_y21 := ia_b y21
  try have k_0 := ia_n n18 (by first | decide | omega)
  try simp only [ia_lt, ia_le, ia_eq, ia_m1, ia_0, ia_1, ne_eq, true_and, and_true, false_and, and_false, or_false, false_or, or_true, true_or, not_true_eq_false, not_false_eq_true] at *
  all_goals omega
set_option maxRecDepth 20000 in
theorem lf_x_way_7 (knowF : Nat → Int32) (x : Int32) (y : Int32) (n18 : Nat) (y21 : Int32) (n25 : Nat) (ab_now : NB knowF) (t3 : 0 ≤ x.toInt) (t4 : x.toInt < (knowF 3).toInt) (t5 : x.toInt ≤ 5) (t10 : 0 ≤ y.toInt) (t11 : y.toInt < (knowF 2).toInt) (t12 : y.toInt ≤ 5) (h19 : n18 < 6) (e20 : y = nI n18) (e22 : y21 = knowF (107 + n18)) (b23 : 0 ≤ y21.toInt) (b24 : y21.toInt ≤ 35) (h26 : n25 < 36) (e27 : y21 = nI n25) : 0 ≤ x.toInt ∧ x.toInt < ((6 : Nat) : Int) := by
  have b_x := ia_b x
  have b_y := ia_b y
  have b_y21 := ia_b y21
  try have k_0 := ia_n n18 (by first | decide | omega)
  try have k_1 := ia_n n25 (by first | decide | omega)
  try simp only [ia_lt, ia_le, ia_eq, ia_m1, ia_0, ia_1, ne_eq, true_and, and_true, false_and, and_false, or_false, false_or, or_true, true_or, not_true_eq_false, not_false_eq_true] at *
  all_goals omega
set_option maxRecDepth 20000 in
theorem lf_x_way_8 (knowF : Nat → Int32) (x : Int32) (y : Int32) (n18 : Nat) (y21 : Int32) (n25 : Nat) (n28 : Nat) (kfarG_33 : Nat → Int32) (y37 : Int32) (ab_now : NB knowF) (t3 : 0 ≤ x.toInt) (t4 : x.toInt < (knowF 3).toInt) (t5 : x.toInt ≤ 5) (t10 : 0 ≤ y.toInt) (t11 : y.toInt < (knowF 2).toInt) (t12 : y.toInt ≤ 5) (h19 : n18 < 6) (e20 : y = nI n18) (e22 : y21 = knowF (107 + n18)) (b23 : 0 ≤ y21.toInt) (b24 : y21.toInt ≤ 35) (h26 : n25 < 36) (e27 : y21 = nI n25) (h29 : n28 < 6) (e30 : x = nI n28) (p34 : FB36 kfarG_33) (p35 : FI knowF kfarG_33 n28 n25) (p36 : FX knowF kfarG_33 n28 36 0) (e38 : y37 = knowF (113 + n28)) : (113 + n28) < 373 := by
  have b_x := ia_b x
  have b_y := ia_b y
  have b_y21 := ia_b y21
  have b_y37 := ia_b y37
  try have k_0 := ia_n n18 (by first | decide | omega)
  try have k_1 := ia_n n25 (by first | decide | omega)
  try have k_2 := ia_n n28 (by first | decide | omega)
  try simp only [ia_lt, ia_le, ia_eq, ia_m1, ia_0, ia_1, ne_eq, true_and, and_true, false_and, and_false, or_false, false_or, or_true, true_or, not_true_eq_false, not_false_eq_true] at *
  all_goals omega
set_option maxRecDepth 20000 in
theorem lf_x_way_9 (knowF : Nat → Int32) (x : Int32) (y : Int32) (n18 : Nat) (y21 : Int32) (n25 : Nat) (n28 : Nat) (kfarG_33 : Nat → Int32) (y37 : Int32) (ab_now : NB knowF) (t3 : 0 ≤ x.toInt) (t4 : x.toInt < (knowF 3).toInt) (t5 : x.toInt ≤ 5) (t10 : 0 ≤ y.toInt) (t11 : y.toInt < (knowF 2).toInt) (t12 : y.toInt ≤ 5) (h19 : n18 < 6) (e20 : y = nI n18) (e22 : y21 = knowF (107 + n18)) (b23 : 0 ≤ y21.toInt) (b24 : y21.toInt ≤ 35) (h26 : n25 < 36) (e27 : y21 = nI n25) (h29 : n28 < 6) (e30 : x = nI n28) (p34 : FB36 kfarG_33) (p35 : FI knowF kfarG_33 n28 n25) (p36 : FX knowF kfarG_33 n28 36 0) (e38 : y37 = knowF (113 + n28)) : 107 ≤ (113 + n28) := by
  have b_x := ia_b x
  have b_y := ia_b y
  have b_y21 := ia_b y21
  have b_y37 := ia_b y37
  try have k_0 := ia_n n18 (by first | decide | omega)
  try have k_1 := ia_n n25 (by first | decide | omega)
  try have k_2 := ia_n n28 (by first | decide | omega)
  try simp only [ia_lt, ia_le, ia_eq, ia_m1, ia_0, ia_1, ne_eq, true_and, and_true, false_and, and_false, or_false, false_or, or_true, true_or, not_true_eq_false, not_false_eq_true] at *
  all_goals omega
set_option maxRecDepth 20000 in
theorem lf_x_way_10 (knowF : Nat → Int32) (x : Int32) (y : Int32) (n18 : Nat) (y21 : Int32) (n25 : Nat) (n28 : Nat) (kfarG_33 : Nat → Int32) (y37 : Int32) (ab_now : NB knowF) (t3 : 0 ≤ x.toInt) (t4 : x.toInt < (knowF 3).toInt) (t5 : x.toInt ≤ 5) (t10 : 0 ≤ y.toInt) (t11 : y.toInt < (knowF 2).toInt) (t12 : y.toInt ≤ 5) (h19 : n18 < 6) (e20 : y = nI n18) (e22 : y21 = knowF (107 + n18)) (b23 : 0 ≤ y21.toInt) (b24 : y21.toInt ≤ 35) (h26 : n25 < 36) (e27 : y21 = nI n25) (h29 : n28 < 6) (e30 : x = nI n28) (p34 : FB36 kfarG_33) (p35 : FI knowF kfarG_33 n28 n25) (p36 : FX knowF kfarG_33 n28 36 0) (e38 : y37 = knowF (113 + n28)) : (113 + n28) < 119 := by
  have b_x := ia_b x
  have b_y := ia_b y
  have b_y21 := ia_b y21
  have b_y37 := ia_b y37
  try have k_0 := ia_n n18 (by first | decide | omega)
  try have k_1 := ia_n n25 (by first | decide | omega)
  try have k_2 := ia_n n28 (by first | decide | omega)
  try simp only [ia_lt, ia_le, ia_eq, ia_m1, ia_0, ia_1, ne_eq, true_and, and_true, false_and, and_false, or_false, false_or, or_true, true_or, not_true_eq_false, not_false_eq_true] at *
  all_goals omega
set_option maxRecDepth 20000 in
theorem lf_x_way_11 (knowF : Nat → Int32) (x : Int32) (y : Int32) (n18 : Nat) (y21 : Int32) (n25 : Nat) (n28 : Nat) (kfarG_33 : Nat → Int32) (y37 : Int32) (ab_now : NB knowF) (t3 : 0 ≤ x.toInt) (t4 : x.toInt < (knowF 3).toInt) (t5 : x.toInt ≤ 5) (t10 : 0 ≤ y.toInt) (t11 : y.toInt < (knowF 2).toInt) (t12 : y.toInt ≤ 5) (h19 : n18 < 6) (e20 : y = nI n18) (e22 : y21 = knowF (107 + n18)) (b23 : 0 ≤ y21.toInt) (b24 : y21.toInt ≤ 35) (h26 : n25 < 36) (e27 : y21 = nI n25) (h29 : n28 < 6) (e30 : x = nI n28) (p34 : FB36 kfarG_33) (p35 : FI knowF kfarG_33 n28 n25) (p36 : FX knowF kfarG_33 n28 36 0) (e38 : y37 = knowF (113 + n28)) (b39 : 0 ≤ y37.toInt) (b40 : y37.toInt ≤ 35) : 0 ≤ y37.toInt ∧ y37.toInt < ((36 : Nat) : Int) := by
  have b_x := ia_b x
  have b_y := ia_b y
  have b_y21 := ia_b y21
  have b_y37 := ia_b y37
  try have k_0 := ia_n n18 (by first | decide | omega)
  try have k_1 := ia_n n25 (by first | decide | omega)
  try have k_2 := ia_n n28 (by first | decide | omega)
  try simp only [ia_lt, ia_le, ia_eq, ia_m1, ia_0, ia_1, ne_eq, true_and, and_true, false_and, and_false, or_false, false_or, or_true, true_or, not_true_eq_false, not_false_eq_true] at *
  all_goals omega
set_option maxRecDepth 20000 in
theorem lf_x_way_12 (knowF : Nat → Int32) (x : Int32) (y : Int32) (n18 : Nat) (y21 : Int32) (n25 : Nat) (n28 : Nat) (kfarG_33 : Nat → Int32) (y37 : Int32) (n41 : Nat) (y44 : Int32) (ab_now : NB knowF) (t3 : 0 ≤ x.toInt) (t4 : x.toInt < (knowF 3).toInt) (t5 : x.toInt ≤ 5) (t10 : 0 ≤ y.toInt) (t11 : y.toInt < (knowF 2).toInt) (t12 : y.toInt ≤ 5) (h19 : n18 < 6) (e20 : y = nI n18) (e22 : y21 = knowF (107 + n18)) (b23 : 0 ≤ y21.toInt) (b24 : y21.toInt ≤ 35) (h26 : n25 < 36) (e27 : y21 = nI n25) (h29 : n28 < 6) (e30 : x = nI n28) (p34 : FB36 kfarG_33) (p35 : FI knowF kfarG_33 n28 n25) (p36 : FX knowF kfarG_33 n28 36 0) (e38 : y37 = knowF (113 + n28)) (b39 : 0 ≤ y37.toInt) (b40 : y37.toInt ≤ 35) (h42 : n41 < 36) (e43 : y37 = nI n41) (e45 : y44 = kfarG_33 n41) : n41 < 36 := by
  have b_x := ia_b x
  have b_y := ia_b y
  have b_y21 := ia_b y21
  have b_y37 := ia_b y37
  have b_y44 := ia_b y44
  try have k_0 := ia_n n18 (by first | decide | omega)
  try have k_1 := ia_n n25 (by first | decide | omega)
  try have k_2 := ia_n n28 (by first | decide | omega)
  try have k_3 := ia_n n41 (by first | decide | omega)
  try simp only [ia_lt, ia_le, ia_eq, ia_m1, ia_0, ia_1, ne_eq, true_and, and_true, false_and, and_false, or_false, false_or, or_true, true_or, not_true_eq_false, not_false_eq_true] at *
  all_goals omega
set_option maxRecDepth 20000 in
theorem lf_x_way_13 (knowF : Nat → Int32) (x : Int32) (y : Int32) (n18 : Nat) (y21 : Int32) (n25 : Nat) (n28 : Nat) (kfarG_33 : Nat → Int32) (y37 : Int32) (n41 : Nat) (y44 : Int32) (ab_now : NB knowF) (t3 : 0 ≤ x.toInt) (t4 : x.toInt < (knowF 3).toInt) (t5 : x.toInt ≤ 5) (t10 : 0 ≤ y.toInt) (t11 : y.toInt < (knowF 2).toInt) (t12 : y.toInt ≤ 5) (h19 : n18 < 6) (e20 : y = nI n18) (e22 : y21 = knowF (107 + n18)) (b23 : 0 ≤ y21.toInt) (b24 : y21.toInt ≤ 35) (h26 : n25 < 36) (e27 : y21 = nI n25) (h29 : n28 < 6) (e30 : x = nI n28) (p34 : FB36 kfarG_33) (p35 : FI knowF kfarG_33 n28 n25) (p36 : FX knowF kfarG_33 n28 36 0) (e38 : y37 = knowF (113 + n28)) (b39 : 0 ≤ y37.toInt) (b40 : y37.toInt ≤ 35) (h42 : n41 < 36) (e43 : y37 = nI n41) (e45 : y44 = kfarG_33 n41) : 0 ≤ n41 := by
  have b_x := ia_b x
  have b_y := ia_b y
  have b_y21 := ia_b y21
  have b_y37 := ia_b y37
  have b_y44 := ia_b y44
  try have k_0 := ia_n n18 (by first | decide | omega)
  try have k_1 := ia_n n25 (by first | decide | omega)
  try have k_2 := ia_n n28 (by first | decide | omega)
  try have k_3 := ia_n n41 (by first | decide | omega)
  try simp only [ia_lt, ia_le, ia_eq, ia_m1, ia_0, ia_1, ne_eq, true_and, and_true, false_and, and_false, or_false, false_or, or_true, true_or, not_true_eq_false, not_false_eq_true] at *
  all_goals omega
set_option maxRecDepth 20000 in
theorem lf_x_way_14 (knowF : Nat → Int32) (x : Int32) (y : Int32) (n18 : Nat) (y21 : Int32) (n25 : Nat) (n28 : Nat) (kfarG_33 : Nat → Int32) (y37 : Int32) (n41 : Nat) (y44 : Int32) (ab_now : NB knowF) (t3 : 0 ≤ x.toInt) (t4 : x.toInt < (knowF 3).toInt) (t5 : x.toInt ≤ 5) (t10 : 0 ≤ y.toInt) (t11 : y.toInt < (knowF 2).toInt) (t12 : y.toInt ≤ 5) (h19 : n18 < 6) (e20 : y = nI n18) (e22 : y21 = knowF (107 + n18)) (b23 : 0 ≤ y21.toInt) (b24 : y21.toInt ≤ 35) (h26 : n25 < 36) (e27 : y21 = nI n25) (h29 : n28 < 6) (e30 : x = nI n28) (p34 : FB36 kfarG_33) (p35 : FI knowF kfarG_33 n28 n25) (p36 : FX knowF kfarG_33 n28 36 0) (e38 : y37 = knowF (113 + n28)) (b39 : 0 ≤ y37.toInt) (b40 : y37.toInt ≤ 35) (h42 : n41 < 36) (e43 : y37 = nI n41) (e45 : y44 = kfarG_33 n41) : n41 < 36 := by
  have b_x := ia_b x
  have b_y := ia_b y
  have b_y21 := ia_b y21
  have b_y37 := ia_b y37
  have b_y44 := ia_b y44
  try have k_0 := ia_n n18 (by first | decide | omega)
  try have k_1 := ia_n n25 (by first | decide | omega)
  try have k_2 := ia_n n28 (by first | decide | omega)
  try have k_3 := ia_n n41 (by first | decide | omega)
  try simp only [ia_lt, ia_le, ia_eq, ia_m1, ia_0, ia_1, ne_eq, true_and, and_true, false_and, and_false, or_false, false_or, or_true, true_or, not_true_eq_false, not_false_eq_true] at *
  all_goals omega
set_option maxRecDepth 20000 in
theorem lf_x_way_15 (knowF : Nat → Int32) (x : Int32) (y : Int32) (n18 : Nat) (y21 : Int32) (n25 : Nat) (n28 : Nat) (kfarG_33 : Nat → Int32) (y37 : Int32) (n41 : Nat) (y44 : Int32) (ab_now : NB knowF) (t3 : 0 ≤ x.toInt) (t4 : x.toInt < (knowF 3).toInt) (t5 : x.toInt ≤ 5) (t10 : 0 ≤ y.toInt) (t11 : y.toInt < (knowF 2).toInt) (t12 : y.toInt ≤ 5) (h19 : n18 < 6) (e20 : y = nI n18) (e22 : y21 = knowF (107 + n18)) (b23 : 0 ≤ y21.toInt) (b24 : y21.toInt ≤ 35) (h26 : n25 < 36) (e27 : y21 = nI n25) (h29 : n28 < 6) (e30 : x = nI n28) (p34 : FB36 kfarG_33) (p35 : FI knowF kfarG_33 n28 n25) (p36 : FX knowF kfarG_33 n28 36 0) (e38 : y37 = knowF (113 + n28)) (b39 : 0 ≤ y37.toInt) (b40 : y37.toInt ≤ 35) (h42 : n41 < 36) (e43 : y37 = nI n41) (e45 : y44 = kfarG_33 n41) (b46 : 0 ≤ y44.toInt) (b47 : y44.toInt ≤ 100000) (c48 : y44 < nI 100000) : (kfarG_33 n41).toInt < 100000 := by
  have b_x := ia_b x
  have b_y := ia_b y
  have b_y21 := ia_b y21
  have b_y37 := ia_b y37
  have b_y44 := ia_b y44
  try have k_0 := ia_n n18 (by first | decide | omega)
  try have k_1 := ia_n n25 (by first | decide | omega)
  try have k_2 := ia_n n28 (by first | decide | omega)
  try have k_3 := ia_n n41 (by first | decide | omega)
  try have k_4 := ia_n 100000 (by first | decide | omega)
  try simp only [ia_lt, ia_le, ia_eq, ia_m1, ia_0, ia_1, ne_eq, true_and, and_true, false_and, and_false, or_false, false_or, or_true, true_or, not_true_eq_false, not_false_eq_true] at *
  all_goals omega
set_option maxRecDepth 20000 in
theorem lf_x_way_16 (knowF : Nat → Int32) (x : Int32) (y : Int32) (n18 : Nat) (y21 : Int32) (n25 : Nat) (n28 : Nat) (kfarG_33 : Nat → Int32) (y37 : Int32) (n41 : Nat) (y44 : Int32) (y51 : Int32) (ab_now : NB knowF) (t3 : 0 ≤ x.toInt) (t4 : x.toInt < (knowF 3).toInt) (t5 : x.toInt ≤ 5) (t10 : 0 ≤ y.toInt) (t11 : y.toInt < (knowF 2).toInt) (t12 : y.toInt ≤ 5) (h19 : n18 < 6) (e20 : y = nI n18) (e22 : y21 = knowF (107 + n18)) (b23 : 0 ≤ y21.toInt) (b24 : y21.toInt ≤ 35) (h26 : n25 < 36) (e27 : y21 = nI n25) (h29 : n28 < 6) (e30 : x = nI n28) (p34 : FB36 kfarG_33) (p35 : FI knowF kfarG_33 n28 n25) (p36 : FX knowF kfarG_33 n28 36 0) (e38 : y37 = knowF (113 + n28)) (b39 : 0 ≤ y37.toInt) (b40 : y37.toInt ≤ 35) (h42 : n41 < 36) (e43 : y37 = nI n41) (e45 : y44 = kfarG_33 n41) (b46 : 0 ≤ y44.toInt) (b47 : y44.toInt ≤ 100000) (c48 : y44 < nI 100000) (f49 : (kfarG_33 n41).toInt < 100000) (hR50 : rankF kfarG_33 (kfarG_33 n41).toInt 36 ≤ 35) (e52 : y51 = kfarG_33 n41) : n41 < 36 := by
  have b_x := ia_b x
  have b_y := ia_b y
  have b_y21 := ia_b y21
  have b_y37 := ia_b y37
  have b_y44 := ia_b y44
  have b_y51 := ia_b y51
  try have k_0 := ia_n n18 (by first | decide | omega)
  try have k_1 := ia_n n25 (by first | decide | omega)
  try have k_2 := ia_n n28 (by first | decide | omega)
  try have k_3 := ia_n n41 (by first | decide | omega)
  try have k_4 := ia_n 100000 (by first | decide | omega)
  try simp only [ia_lt, ia_le, ia_eq, ia_m1, ia_0, ia_1, ne_eq, true_and, and_true, false_and, and_false, or_false, false_or, or_true, true_or, not_true_eq_false, not_false_eq_true] at *
  all_goals omega
set_option maxRecDepth 20000 in
theorem lf_x_way_17 (knowF : Nat → Int32) (x : Int32) (y : Int32) (n18 : Nat) (y21 : Int32) (n25 : Nat) (n28 : Nat) (kfarG_33 : Nat → Int32) (y37 : Int32) (n41 : Nat) (y44 : Int32) (y51 : Int32) (ab_now : NB knowF) (t3 : 0 ≤ x.toInt) (t4 : x.toInt < (knowF 3).toInt) (t5 : x.toInt ≤ 5) (t10 : 0 ≤ y.toInt) (t11 : y.toInt < (knowF 2).toInt) (t12 : y.toInt ≤ 5) (h19 : n18 < 6) (e20 : y = nI n18) (e22 : y21 = knowF (107 + n18)) (b23 : 0 ≤ y21.toInt) (b24 : y21.toInt ≤ 35) (h26 : n25 < 36) (e27 : y21 = nI n25) (h29 : n28 < 6) (e30 : x = nI n28) (p34 : FB36 kfarG_33) (p35 : FI knowF kfarG_33 n28 n25) (p36 : FX knowF kfarG_33 n28 36 0) (e38 : y37 = knowF (113 + n28)) (b39 : 0 ≤ y37.toInt) (b40 : y37.toInt ≤ 35) (h42 : n41 < 36) (e43 : y37 = nI n41) (e45 : y44 = kfarG_33 n41) (b46 : 0 ≤ y44.toInt) (b47 : y44.toInt ≤ 100000) (c48 : y44 < nI 100000) (f49 : (kfarG_33 n41).toInt < 100000) (hR50 : rankF kfarG_33 (kfarG_33 n41).toInt 36 ≤ 35) (e52 : y51 = kfarG_33 n41) : 0 ≤ n41 := by
  have b_x := ia_b x
  have b_y := ia_b y
  have b_y21 := ia_b y21
  have b_y37 := ia_b y37
  have b_y44 := ia_b y44
  have b_y51 := ia_b y51
  try have k_0 := ia_n n18 (by first | decide | omega)
  try have k_1 := ia_n n25 (by first | decide | omega)
  try have k_2 := ia_n n28 (by first | decide | omega)
  try have k_3 := ia_n n41 (by first | decide | omega)
  try have k_4 := ia_n 100000 (by first | decide | omega)
  try simp only [ia_lt, ia_le, ia_eq, ia_m1, ia_0, ia_1, ne_eq, true_and, and_true, false_and, and_false, or_false, false_or, or_true, true_or, not_true_eq_false, not_false_eq_true] at *
  all_goals omega
set_option maxRecDepth 20000 in
theorem lf_x_way_18 (knowF : Nat → Int32) (x : Int32) (y : Int32) (n18 : Nat) (y21 : Int32) (n25 : Nat) (n28 : Nat) (kfarG_33 : Nat → Int32) (y37 : Int32) (n41 : Nat) (y44 : Int32) (y51 : Int32) (ab_now : NB knowF) (t3 : 0 ≤ x.toInt) (t4 : x.toInt < (knowF 3).toInt) (t5 : x.toInt ≤ 5) (t10 : 0 ≤ y.toInt) (t11 : y.toInt < (knowF 2).toInt) (t12 : y.toInt ≤ 5) (h19 : n18 < 6) (e20 : y = nI n18) (e22 : y21 = knowF (107 + n18)) (b23 : 0 ≤ y21.toInt) (b24 : y21.toInt ≤ 35) (h26 : n25 < 36) (e27 : y21 = nI n25) (h29 : n28 < 6) (e30 : x = nI n28) (p34 : FB36 kfarG_33) (p35 : FI knowF kfarG_33 n28 n25) (p36 : FX knowF kfarG_33 n28 36 0) (e38 : y37 = knowF (113 + n28)) (b39 : 0 ≤ y37.toInt) (b40 : y37.toInt ≤ 35) (h42 : n41 < 36) (e43 : y37 = nI n41) (e45 : y44 = kfarG_33 n41) (b46 : 0 ≤ y44.toInt) (b47 : y44.toInt ≤ 100000) (c48 : y44 < nI 100000) (f49 : (kfarG_33 n41).toInt < 100000) (hR50 : rankF kfarG_33 (kfarG_33 n41).toInt 36 ≤ 35) (e52 : y51 = kfarG_33 n41) : n41 < 36 := by
  have b_x := ia_b x
  have b_y := ia_b y
  have b_y21 := ia_b y21
  have b_y37 := ia_b y37
  have b_y44 := ia_b y44
  have b_y51 := ia_b y51
  try have k_0 := ia_n n18 (by first | decide | omega)
  try have k_1 := ia_n n25 (by first | decide | omega)
  try have k_2 := ia_n n28 (by first | decide | omega)
  try have k_3 := ia_n n41 (by first | decide | omega)
  try have k_4 := ia_n 100000 (by first | decide | omega)
  try simp only [ia_lt, ia_le, ia_eq, ia_m1, ia_0, ia_1, ne_eq, true_and, and_true, false_and, and_false, or_false, false_or, or_true, true_or, not_true_eq_false, not_false_eq_true] at *
  all_goals omega
set_option maxRecDepth 20000 in
theorem lf_x_way_19 (knowF : Nat → Int32) (x : Int32) (y : Int32) (n18 : Nat) (y21 : Int32) (n25 : Nat) (n28 : Nat) (kfarG_33 : Nat → Int32) (y37 : Int32) (n41 : Nat) (y44 : Int32) (y51 : Int32) (ab_now : NB knowF) (t3 : 0 ≤ x.toInt) (t4 : x.toInt < (knowF 3).toInt) (t5 : x.toInt ≤ 5) (t10 : 0 ≤ y.toInt) (t11 : y.toInt < (knowF 2).toInt) (t12 : y.toInt ≤ 5) (h19 : n18 < 6) (e20 : y = nI n18) (e22 : y21 = knowF (107 + n18)) (b23 : 0 ≤ y21.toInt) (b24 : y21.toInt ≤ 35) (h26 : n25 < 36) (e27 : y21 = nI n25) (h29 : n28 < 6) (e30 : x = nI n28) (p34 : FB36 kfarG_33) (p35 : FI knowF kfarG_33 n28 n25) (p36 : FX knowF kfarG_33 n28 36 0) (e38 : y37 = knowF (113 + n28)) (b39 : 0 ≤ y37.toInt) (b40 : y37.toInt ≤ 35) (h42 : n41 < 36) (e43 : y37 = nI n41) (e45 : y44 = kfarG_33 n41) (b46 : 0 ≤ y44.toInt) (b47 : y44.toInt ≤ 100000) (c48 : y44 < nI 100000) (f49 : (kfarG_33 n41).toInt < 100000) (hR50 : rankF kfarG_33 (kfarG_33 n41).toInt 36 ≤ 35) (e52 : y51 = kfarG_33 n41) (b53 : 0 ≤ y51.toInt) (b54 : y51.toInt ≤ 100000) : 0 ≤ y51.toInt ∧ y51.toInt < ((100001 : Nat) : Int) := by
  have b_x := ia_b x
  have b_y := ia_b y
  have b_y21 := ia_b y21
  have b_y37 := ia_b y37
  have b_y44 := ia_b y44
  have b_y51 := ia_b y51
  try have k_0 := ia_n n18 (by first | decide | omega)
  try have k_1 := ia_n n25 (by first | decide | omega)
  try have k_2 := ia_n n28 (by first | decide | omega)
  try have k_3 := ia_n n41 (by first | decide | omega)
  try have k_4 := ia_n 100000 (by first | decide | omega)
  try simp only [ia_lt, ia_le, ia_eq, ia_m1, ia_0, ia_1, ne_eq, true_and, and_true, false_and, and_false, or_false, false_or, or_true, true_or, not_true_eq_false, not_false_eq_true] at *
  all_goals omega
set_option maxRecDepth 20000 in
theorem lf_x_way_20 (knowF : Nat → Int32) (x : Int32) (y : Int32) (n18 : Nat) (y21 : Int32) (n25 : Nat) (n28 : Nat) (kfarG_33 : Nat → Int32) (y37 : Int32) (n41 : Nat) (y44 : Int32) (y51 : Int32) (n55 : Nat) (k81 : Nat) (k83 : Nat) (n91 : Nat) (y94 : Int32) (ab_now : NB knowF) (t3 : 0 ≤ x.toInt) (t4 : x.toInt < (knowF 3).toInt) (t5 : x.toInt ≤ 5) (t10 : 0 ≤ y.toInt) (t11 : y.toInt < (knowF 2).toInt) (t12 : y.toInt ≤ 5) (h19 : n18 < 6) (e20 : y = nI n18) (e22 : y21 = knowF (107 + n18)) (b23 : 0 ≤ y21.toInt) (b24 : y21.toInt ≤ 35) (h26 : n25 < 36) (e27 : y21 = nI n25) (h29 : n28 < 6) (e30 : x = nI n28) (p34 : FB36 kfarG_33) (p35 : FI knowF kfarG_33 n28 n25) (p36 : FX knowF kfarG_33 n28 36 0) (e38 : y37 = knowF (113 + n28)) (b39 : 0 ≤ y37.toInt) (b40 : y37.toInt ≤ 35) (h42 : n41 < 36) (e43 : y37 = nI n41) (e45 : y44 = kfarG_33 n41) (b46 : 0 ≤ y44.toInt) (b47 : y44.toInt ≤ 100000) (c48 : y44 < nI 100000) (f49 : (kfarG_33 n41).toInt < 100000) (hR50 : rankF kfarG_33 (kfarG_33 n41).toInt 36 ≤ 35) (e52 : y51 = kfarG_33 n41) (b53 : 0 ≤ y51.toInt) (b54 : y51.toInt ≤ 100000) (h56 : n55 < 100001) (e57 : y51 = nI n55) (j85 : k81 ≤ 35) (j86 : k83 ≤ 36) (j87 : k81 < 36) (j88 : (kfarG_33 k81).toInt < 100000) (j89 : k83 + rankF kfarG_33 (kfarG_33 k81).toInt 36 ≤ 35) (hm93 : rankF kfarG_33 (kfarG_33 k81).toInt 36 < n91 + 1) (e95 : y94 = knowF (107 + n18)) : (107 + n18) < 373 := by
  have b_x := ia_b x
  have b_y := ia_b y
  have b_y21 := ia_b y21
  have b_y37 := ia_b y37
  have b_y44 := ia_b y44
  have b_y51 := ia_b y51
  have b_y94 := ia_b y94
  try have k_0 := ia_n n18 (by first | decide | omega)
  try have k_1 := ia_n n25 (by first | decide | omega)
  try have k_2 := ia_n n28 (by first | decide | omega)
  try have k_3 := ia_n n41 (by first | decide | omega)
  try have k_4 := ia_n 100000 (by first | decide | omega)
  try have k_5 := ia_n n55 (by first | decide | omega)
  try simp only [ia_lt, ia_le, ia_eq, ia_m1, ia_0, ia_1, ne_eq, true_and, and_true, false_and, and_false, or_false, false_or, or_true, true_or, not_true_eq_false, not_false_eq_true] at *
  all_goals omega
set_option maxRecDepth 20000 in
theorem lf_x_way_21 (knowF : Nat → Int32) (x : Int32) (y : Int32) (n18 : Nat) (y21 : Int32) (n25 : Nat) (n28 : Nat) (kfarG_33 : Nat → Int32) (y37 : Int32) (n41 : Nat) (y44 : Int32) (y51 : Int32) (n55 : Nat) (k81 : Nat) (k83 : Nat) (n91 : Nat) (y94 : Int32) (ab_now : NB knowF) (t3 : 0 ≤ x.toInt) (t4 : x.toInt < (knowF 3).toInt) (t5 : x.toInt ≤ 5) (t10 : 0 ≤ y.toInt) (t11 : y.toInt < (knowF 2).toInt) (t12 : y.toInt ≤ 5) (h19 : n18 < 6) (e20 : y = nI n18) (e22 : y21 = knowF (107 + n18)) (b23 : 0 ≤ y21.toInt) (b24 : y21.toInt ≤ 35) (h26 : n25 < 36) (e27 : y21 = nI n25) (h29 : n28 < 6) (e30 : x = nI n28) (p34 : FB36 kfarG_33) (p35 : FI knowF kfarG_33 n28 n25) (p36 : FX knowF kfarG_33 n28 36 0) (e38 : y37 = knowF (113 + n28)) (b39 : 0 ≤ y37.toInt) (b40 : y37.toInt ≤ 35) (h42 : n41 < 36) (e43 : y37 = nI n41) (e45 : y44 = kfarG_33 n41) (b46 : 0 ≤ y44.toInt) (b47 : y44.toInt ≤ 100000) (c48 : y44 < nI 100000) (f49 : (kfarG_33 n41).toInt < 100000) (hR50 : rankF kfarG_33 (kfarG_33 n41).toInt 36 ≤ 35) (e52 : y51 = kfarG_33 n41) (b53 : 0 ≤ y51.toInt) (b54 : y51.toInt ≤ 100000) (h56 : n55 < 100001) (e57 : y51 = nI n55) (j85 : k81 ≤ 35) (j86 : k83 ≤ 36) (j87 : k81 < 36) (j88 : (kfarG_33 k81).toInt < 100000) (j89 : k83 + rankF kfarG_33 (kfarG_33 k81).toInt 36 ≤ 35) (hm93 : rankF kfarG_33 (kfarG_33 k81).toInt 36 < n91 + 1) (e95 : y94 = knowF (107 + n18)) : 107 ≤ (107 + n18) := by
  have b_x := ia_b x
  have b_y := ia_b y
  have b_y21 := ia_b y21
  have b_y37 := ia_b y37
  have b_y44 := ia_b y44
  have b_y51 := ia_b y51
  have b_y94 := ia_b y94
  try have k_0 := ia_n n18 (by first | decide | omega)
  try have k_1 := ia_n n25 (by first | decide | omega)
  try have k_2 := ia_n n28 (by first | decide | omega)
  try have k_3 := ia_n n41 (by first | decide | omega)
  try have k_4 := ia_n 100000 (by first | decide | omega)
  try have k_5 := ia_n n55 (by first | decide | omega)
  try simp only [ia_lt, ia_le, ia_eq, ia_m1, ia_0, ia_1, ne_eq, true_and, and_true, false_and, and_false, or_false, false_or, or_true, true_or, not_true_eq_false, not_false_eq_true] at *
  all_goals omega
set_option maxRecDepth 20000 in
theorem lf_x_way_22 (knowF : Nat → Int32) (x : Int32) (y : Int32) (n18 : Nat) (y21 : Int32) (n25 : Nat) (n28 : Nat) (kfarG_33 : Nat → Int32) (y37 : Int32) (n41 : Nat) (y44 : Int32) (y51 : Int32) (n55 : Nat) (k81 : Nat) (k83 : Nat) (n91 : Nat) (y94 : Int32) (ab_now : NB knowF) (t3 : 0 ≤ x.toInt) (t4 : x.toInt < (knowF 3).toInt) (t5 : x.toInt ≤ 5) (t10 : 0 ≤ y.toInt) (t11 : y.toInt < (knowF 2).toInt) (t12 : y.toInt ≤ 5) (h19 : n18 < 6) (e20 : y = nI n18) (e22 : y21 = knowF (107 + n18)) (b23 : 0 ≤ y21.toInt) (b24 : y21.toInt ≤ 35) (h26 : n25 < 36) (e27 : y21 = nI n25) (h29 : n28 < 6) (e30 : x = nI n28) (p34 : FB36 kfarG_33) (p35 : FI knowF kfarG_33 n28 n25) (p36 : FX knowF kfarG_33 n28 36 0) (e38 : y37 = knowF (113 + n28)) (b39 : 0 ≤ y37.toInt) (b40 : y37.toInt ≤ 35) (h42 : n41 < 36) (e43 : y37 = nI n41) (e45 : y44 = kfarG_33 n41) (b46 : 0 ≤ y44.toInt) (b47 : y44.toInt ≤ 100000) (c48 : y44 < nI 100000) (f49 : (kfarG_33 n41).toInt < 100000) (hR50 : rankF kfarG_33 (kfarG_33 n41).toInt 36 ≤ 35) (e52 : y51 = kfarG_33 n41) (b53 : 0 ≤ y51.toInt) (b54 : y51.toInt ≤ 100000) (h56 : n55 < 100001) (e57 : y51 = nI n55) (j85 : k81 ≤ 35) (j86 : k83 ≤ 36) (j87 : k81 < 36) (j88 : (kfarG_33 k81).toInt < 100000) (j89 : k83 + rankF kfarG_33 (kfarG_33 k81).toInt 36 ≤ 35) (hm93 : rankF kfarG_33 (kfarG_33 k81).toInt 36 < n91 + 1) (e95 : y94 = knowF (107 + n18)) : (107 + n18) < 119 := by
  have b_x := ia_b x
  have b_y := ia_b y
  have b_y21 := ia_b y21
  have b_y37 := ia_b y37
  have b_y44 := ia_b y44
  have b_y51 := ia_b y51
  have b_y94 := ia_b y94
  try have k_0 := ia_n n18 (by first | decide | omega)
  try have k_1 := ia_n n25 (by first | decide | omega)
  try have k_2 := ia_n n28 (by first | decide | omega)
  try have k_3 := ia_n n41 (by first | decide | omega)
  try have k_4 := ia_n 100000 (by first | decide | omega)
  try have k_5 := ia_n n55 (by first | decide | omega)
  try simp only [ia_lt, ia_le, ia_eq, ia_m1, ia_0, ia_1, ne_eq, true_and, and_true, false_and, and_false, or_false, false_or, or_true, true_or, not_true_eq_false, not_false_eq_true] at *
  all_goals omega
set_option maxRecDepth 20000 in
theorem lf_x_way_23 (knowF : Nat → Int32) (x : Int32) (y : Int32) (n18 : Nat) (y21 : Int32) (n25 : Nat) (n28 : Nat) (kfarG_33 : Nat → Int32) (y37 : Int32) (n41 : Nat) (y44 : Int32) (y51 : Int32) (n55 : Nat) (k81 : Nat) (k83 : Nat) (n91 : Nat) (y94 : Int32) (ab_now : NB knowF) (t3 : 0 ≤ x.toInt) (t4 : x.toInt < (knowF 3).toInt) (t5 : x.toInt ≤ 5) (t10 : 0 ≤ y.toInt) (t11 : y.toInt < (knowF 2).toInt) (t12 : y.toInt ≤ 5) (h19 : n18 < 6) (e20 : y = nI n18) (e22 : y21 = knowF (107 + n18)) (b23 : 0 ≤ y21.toInt) (b24 : y21.toInt ≤ 35) (h26 : n25 < 36) (e27 : y21 = nI n25) (h29 : n28 < 6) (e30 : x = nI n28) (p34 : FB36 kfarG_33) (p35 : FI knowF kfarG_33 n28 n25) (p36 : FX knowF kfarG_33 n28 36 0) (e38 : y37 = knowF (113 + n28)) (b39 : 0 ≤ y37.toInt) (b40 : y37.toInt ≤ 35) (h42 : n41 < 36) (e43 : y37 = nI n41) (e45 : y44 = kfarG_33 n41) (b46 : 0 ≤ y44.toInt) (b47 : y44.toInt ≤ 100000) (c48 : y44 < nI 100000) (f49 : (kfarG_33 n41).toInt < 100000) (hR50 : rankF kfarG_33 (kfarG_33 n41).toInt 36 ≤ 35) (e52 : y51 = kfarG_33 n41) (b53 : 0 ≤ y51.toInt) (b54 : y51.toInt ≤ 100000) (h56 : n55 < 100001) (e57 : y51 = nI n55) (j85 : k81 ≤ 35) (j86 : k83 ≤ 36) (j87 : k81 < 36) (j88 : (kfarG_33 k81).toInt < 100000) (j89 : k83 + rankF kfarG_33 (kfarG_33 k81).toInt 36 ≤ 35) (hm93 : rankF kfarG_33 (kfarG_33 k81).toInt 36 < n91 + 1) (e95 : y94 = knowF (107 + n18)) (b96 : 0 ≤ y94.toInt) (b97 : y94.toInt ≤ 35) (c98 : ¬ nI k81 = y94) : k81 ≠ n25 := by
  have b_x := ia_b x
  have b_y := ia_b y
  have b_y21 := ia_b y21
  have b_y37 := ia_b y37
  have b_y44 := ia_b y44
  have b_y51 := ia_b y51
  have b_y94 := ia_b y94
  try have k_0 := ia_n n18 (by first | decide | omega)
  try have k_1 := ia_n n25 (by first | decide | omega)
  try have k_2 := ia_n n28 (by first | decide | omega)
  try have k_3 := ia_n n41 (by first | decide | omega)
  try have k_4 := ia_n 100000 (by first | decide | omega)
  try have k_5 := ia_n n55 (by first | decide | omega)
  try have k_6 := ia_n k81 (by first | decide | omega)
  try simp only [ia_lt, ia_le, ia_eq, ia_m1, ia_0, ia_1, ne_eq, true_and, and_true, false_and, and_false, or_false, false_or, or_true, true_or, not_true_eq_false, not_false_eq_true] at *
  all_goals omega
set_option maxRecDepth 20000 in
theorem lf_x_way_24 (knowF : Nat → Int32) (x : Int32) (y : Int32) (n18 : Nat) (y21 : Int32) (n25 : Nat) (n28 : Nat) (kfarG_33 : Nat → Int32) (y37 : Int32) (n41 : Nat) (y44 : Int32) (y51 : Int32) (n55 : Nat) (k81 : Nat) (k83 : Nat) (n91 : Nat) (y94 : Int32) (k106 : Nat) (n110 : Nat) (r113 : Int32) (y115 : Int32) (ab_now : NB knowF) (t3 : 0 ≤ x.toInt) (t4 : x.toInt < (knowF 3).toInt) (t5 : x.toInt ≤ 5) (t10 : 0 ≤ y.toInt) (t11 : y.toInt < (knowF 2).toInt) (t12 : y.toInt ≤ 5) (h19 : n18 < 6) (e20 : y = nI n18) (e22 : y21 = knowF (107 + n18)) (b23 : 0 ≤ y21.toInt) (b24 : y21.toInt ≤ 35) (h26 : n25 < 36) (e27 : y21 = nI n25) (h29 : n28 < 6) (e30 : x = nI n28) (p34 : FB36 kfarG_33) (p35 : FI knowF kfarG_33 n28 n25) (p36 : FX knowF kfarG_33 n28 36 0) (e38 : y37 = knowF (113 + n28)) (b39 : 0 ≤ y37.toInt) (b40 : y37.toInt ≤ 35) (h42 : n41 < 36) (e43 : y37 = nI n41) (e45 : y44 = kfarG_33 n41) (b46 : 0 ≤ y44.toInt) (b47 : y44.toInt ≤ 100000) (c48 : y44 < nI 100000) (f49 : (kfarG_33 n41).toInt < 100000) (hR50 : rankF kfarG_33 (kfarG_33 n41).toInt 36 ≤ 35) (e52 : y51 = kfarG_33 n41) (b53 : 0 ≤ y51.toInt) (b54 : y51.toInt ≤ 100000) (h56 : n55 < 100001) (e57 : y51 = nI n55) (j85 : k81 ≤ 35) (j86 : k83 ≤ 36) (j87 : k81 < 36) (j88 : (kfarG_33 k81).toInt < 100000) (j89 : k83 + rankF kfarG_33 (kfarG_33 k81).toInt 36 ≤ 35) (hm93 : rankF kfarG_33 (kfarG_33 k81).toInt 36 < n91 + 1) (e95 : y94 = knowF (107 + n18)) (b96 : 0 ≤ y94.toInt) (b97 : y94.toInt ≤ 35) (c98 : ¬ nI k81 = y94) (hW99 : ∃ s9, s9 < 4 ∧ fbL knowF kfarG_33 n28 k81 s9 = (kfarG_33 k81).toInt) (j107 : k106 ≤ 4) (j108 : k106 < 4) (hns : ∀ s9, s9 < k106 → ¬ fbL knowF kfarG_33 n28 k81 s9 = (kfarG_33 k81).toInt) (hm112 : 5 - k106 < n110 + 1) (p114 : r113.toInt = fbL knowF kfarG_33 n28 k81 k106 ∧ 0 ≤ r113.toInt ∧ r113.toInt ≤ 100256) (e116 : y115 = kfarG_33 k81) : k81 < 36 := by
  have b_x := ia_b x
  have b_y := ia_b y
  have b_y21 := ia_b y21
  have b_y37 := ia_b y37
  have b_y44 := ia_b y44
  have b_y51 := ia_b y51
  have b_y94 := ia_b y94
  have b_r113 := ia_b r113
  have b_y115 := ia_b y115
  try have k_0 := ia_n n18 (by first | decide | omega)
  try have k_1 := ia_n n25 (by first | decide | omega)
  try have k_2 := ia_n n28 (by first | decide | omega)
  try have k_3 := ia_n n41 (by first | decide | omega)
  try have k_4 := ia_n 100000 (by first | decide | omega)
  try have k_5 := ia_n n55 (by first | decide | omega)
  try have k_6 := ia_n k81 (by first | decide | omega)
  try simp only [ia_lt, ia_le, ia_eq, ia_m1, ia_0, ia_1, ne_eq, true_and, and_true, false_and, and_false, or_false, false_or, or_true, true_or, not_true_eq_false, not_false_eq_true] at *
  all_goals omega
set_option maxRecDepth 20000 in
theorem lf_x_way_25 (knowF : Nat → Int32) (x : Int32) (y : Int32) (n18 : Nat) (y21 : Int32) (n25 : Nat) (n28 : Nat) (kfarG_33 : Nat → Int32) (y37 : Int32) (n41 : Nat) (y44 : Int32) (y51 : Int32) (n55 : Nat) (k81 : Nat) (k83 : Nat) (n91 : Nat) (y94 : Int32) (k106 : Nat) (n110 : Nat) (r113 : Int32) (y115 : Int32) (ab_now : NB knowF) (t3 : 0 ≤ x.toInt) (t4 : x.toInt < (knowF 3).toInt) (t5 : x.toInt ≤ 5) (t10 : 0 ≤ y.toInt) (t11 : y.toInt < (knowF 2).toInt) (t12 : y.toInt ≤ 5) (h19 : n18 < 6) (e20 : y = nI n18) (e22 : y21 = knowF (107 + n18)) (b23 : 0 ≤ y21.toInt) (b24 : y21.toInt ≤ 35) (h26 : n25 < 36) (e27 : y21 = nI n25) (h29 : n28 < 6) (e30 : x = nI n28) (p34 : FB36 kfarG_33) (p35 : FI knowF kfarG_33 n28 n25) (p36 : FX knowF kfarG_33 n28 36 0) (e38 : y37 = knowF (113 + n28)) (b39 : 0 ≤ y37.toInt) (b40 : y37.toInt ≤ 35) (h42 : n41 < 36) (e43 : y37 = nI n41) (e45 : y44 = kfarG_33 n41) (b46 : 0 ≤ y44.toInt) (b47 : y44.toInt ≤ 100000) (c48 : y44 < nI 100000) (f49 : (kfarG_33 n41).toInt < 100000) (hR50 : rankF kfarG_33 (kfarG_33 n41).toInt 36 ≤ 35) (e52 : y51 = kfarG_33 n41) (b53 : 0 ≤ y51.toInt) (b54 : y51.toInt ≤ 100000) (h56 : n55 < 100001) (e57 : y51 = nI n55) (j85 : k81 ≤ 35) (j86 : k83 ≤ 36) (j87 : k81 < 36) (j88 : (kfarG_33 k81).toInt < 100000) (j89 : k83 + rankF kfarG_33 (kfarG_33 k81).toInt 36 ≤ 35) (hm93 : rankF kfarG_33 (kfarG_33 k81).toInt 36 < n91 + 1) (e95 : y94 = knowF (107 + n18)) (b96 : 0 ≤ y94.toInt) (b97 : y94.toInt ≤ 35) (c98 : ¬ nI k81 = y94) (hW99 : ∃ s9, s9 < 4 ∧ fbL knowF kfarG_33 n28 k81 s9 = (kfarG_33 k81).toInt) (j107 : k106 ≤ 4) (j108 : k106 < 4) (hns : ∀ s9, s9 < k106 → ¬ fbL knowF kfarG_33 n28 k81 s9 = (kfarG_33 k81).toInt) (hm112 : 5 - k106 < n110 + 1) (p114 : r113.toInt = fbL knowF kfarG_33 n28 k81 k106 ∧ 0 ≤ r113.toInt ∧ r113.toInt ≤ 100256) (e116 : y115 = kfarG_33 k81) : 0 ≤ k81 := by
  have b_x := ia_b x
  have b_y := ia_b y
  have b_y21 := ia_b y21
  have b_y37 := ia_b y37
  have b_y44 := ia_b y44
  have b_y51 := ia_b y51
  have b_y94 := ia_b y94
  have b_r113 := ia_b r113
  have b_y115 := ia_b y115
  try have k_0 := ia_n n18 (by first | decide | omega)
  try have k_1 := ia_n n25 (by first | decide | omega)
  try have k_2 := ia_n n28 (by first | decide | omega)
  try have k_3 := ia_n n41 (by first | decide | omega)
  try have k_4 := ia_n 100000 (by first | decide | omega)
  try have k_5 := ia_n n55 (by first | decide | omega)
  try have k_6 := ia_n k81 (by first | decide | omega)
  try simp only [ia_lt, ia_le, ia_eq, ia_m1, ia_0, ia_1, ne_eq, true_and, and_true, false_and, and_false, or_false, false_or, or_true, true_or, not_true_eq_false, not_false_eq_true] at *
  all_goals omega
set_option maxRecDepth 20000 in
theorem lf_x_way_26 (knowF : Nat → Int32) (x : Int32) (y : Int32) (n18 : Nat) (y21 : Int32) (n25 : Nat) (n28 : Nat) (kfarG_33 : Nat → Int32) (y37 : Int32) (n41 : Nat) (y44 : Int32) (y51 : Int32) (n55 : Nat) (k81 : Nat) (k83 : Nat) (n91 : Nat) (y94 : Int32) (k106 : Nat) (n110 : Nat) (r113 : Int32) (y115 : Int32) (ab_now : NB knowF) (t3 : 0 ≤ x.toInt) (t4 : x.toInt < (knowF 3).toInt) (t5 : x.toInt ≤ 5) (t10 : 0 ≤ y.toInt) (t11 : y.toInt < (knowF 2).toInt) (t12 : y.toInt ≤ 5) (h19 : n18 < 6) (e20 : y = nI n18) (e22 : y21 = knowF (107 + n18)) (b23 : 0 ≤ y21.toInt) (b24 : y21.toInt ≤ 35) (h26 : n25 < 36) (e27 : y21 = nI n25) (h29 : n28 < 6) (e30 : x = nI n28) (p34 : FB36 kfarG_33) (p35 : FI knowF kfarG_33 n28 n25) (p36 : FX knowF kfarG_33 n28 36 0) (e38 : y37 = knowF (113 + n28)) (b39 : 0 ≤ y37.toInt) (b40 : y37.toInt ≤ 35) (h42 : n41 < 36) (e43 : y37 = nI n41) (e45 : y44 = kfarG_33 n41) (b46 : 0 ≤ y44.toInt) (b47 : y44.toInt ≤ 100000) (c48 : y44 < nI 100000) (f49 : (kfarG_33 n41).toInt < 100000) (hR50 : rankF kfarG_33 (kfarG_33 n41).toInt 36 ≤ 35) (e52 : y51 = kfarG_33 n41) (b53 : 0 ≤ y51.toInt) (b54 : y51.toInt ≤ 100000) (h56 : n55 < 100001) (e57 : y51 = nI n55) (j85 : k81 ≤ 35) (j86 : k83 ≤ 36) (j87 : k81 < 36) (j88 : (kfarG_33 k81).toInt < 100000) (j89 : k83 + rankF kfarG_33 (kfarG_33 k81).toInt 36 ≤ 35) (hm93 : rankF kfarG_33 (kfarG_33 k81).toInt 36 < n91 + 1) (e95 : y94 = knowF (107 + n18)) (b96 : 0 ≤ y94.toInt) (b97 : y94.toInt ≤ 35) (c98 : ¬ nI k81 = y94) (hW99 : ∃ s9, s9 < 4 ∧ fbL knowF kfarG_33 n28 k81 s9 = (kfarG_33 k81).toInt) (j107 : k106 ≤ 4) (j108 : k106 < 4) (hns : ∀ s9, s9 < k106 → ¬ fbL knowF kfarG_33 n28 k81 s9 = (kfarG_33 k81).toInt) (hm112 : 5 - k106 < n110 + 1) (p114 : r113.toInt = fbL knowF kfarG_33 n28 k81 k106 ∧ 0 ≤ r113.toInt ∧ r113.toInt ≤ 100256) (e116 : y115 = kfarG_33 k81) : k81 < 36 := by
  have b_x := ia_b x
  have b_y := ia_b y
  have b_y21 := ia_b y21
  have b_y37 := ia_b y37
  have b_y44 := ia_b y44
  have b_y51 := ia_b y51
  have b_y94 := ia_b y94
  have b_r113 := ia_b r113
  have b_y115 := ia_b y115
  try have k_0 := ia_n n18 (by first | decide | omega)
  try have k_1 := ia_n n25 (by first | decide | omega)
  try have k_2 := ia_n n28 (by first | decide | omega)
  try have k_3 := ia_n n41 (by first | decide | omega)
  try have k_4 := ia_n 100000 (by first | decide | omega)
  try have k_5 := ia_n n55 (by first | decide | omega)
  try have k_6 := ia_n k81 (by first | decide | omega)
  try simp only [ia_lt, ia_le, ia_eq, ia_m1, ia_0, ia_1, ne_eq, true_and, and_true, false_and, and_false, or_false, false_or, or_true, true_or, not_true_eq_false, not_false_eq_true] at *
  all_goals omega
set_option maxRecDepth 20000 in
theorem lf_x_way_27 (knowF : Nat → Int32) (x : Int32) (y : Int32) (n18 : Nat) (y21 : Int32) (n25 : Nat) (n28 : Nat) (kfarG_33 : Nat → Int32) (y37 : Int32) (n41 : Nat) (y44 : Int32) (y51 : Int32) (n55 : Nat) (k81 : Nat) (k83 : Nat) (n91 : Nat) (y94 : Int32) (k106 : Nat) (n110 : Nat) (r113 : Int32) (y115 : Int32) (ab_now : NB knowF) (t3 : 0 ≤ x.toInt) (t4 : x.toInt < (knowF 3).toInt) (t5 : x.toInt ≤ 5) (t10 : 0 ≤ y.toInt) (t11 : y.toInt < (knowF 2).toInt) (t12 : y.toInt ≤ 5) (h19 : n18 < 6) (e20 : y = nI n18) (e22 : y21 = knowF (107 + n18)) (b23 : 0 ≤ y21.toInt) (b24 : y21.toInt ≤ 35) (h26 : n25 < 36) (e27 : y21 = nI n25) (h29 : n28 < 6) (e30 : x = nI n28) (p34 : FB36 kfarG_33) (p35 : FI knowF kfarG_33 n28 n25) (p36 : FX knowF kfarG_33 n28 36 0) (e38 : y37 = knowF (113 + n28)) (b39 : 0 ≤ y37.toInt) (b40 : y37.toInt ≤ 35) (h42 : n41 < 36) (e43 : y37 = nI n41) (e45 : y44 = kfarG_33 n41) (b46 : 0 ≤ y44.toInt) (b47 : y44.toInt ≤ 100000) (c48 : y44 < nI 100000) (f49 : (kfarG_33 n41).toInt < 100000) (hR50 : rankF kfarG_33 (kfarG_33 n41).toInt 36 ≤ 35) (e52 : y51 = kfarG_33 n41) (b53 : 0 ≤ y51.toInt) (b54 : y51.toInt ≤ 100000) (h56 : n55 < 100001) (e57 : y51 = nI n55) (j85 : k81 ≤ 35) (j86 : k83 ≤ 36) (j87 : k81 < 36) (j88 : (kfarG_33 k81).toInt < 100000) (j89 : k83 + rankF kfarG_33 (kfarG_33 k81).toInt 36 ≤ 35) (hm93 : rankF kfarG_33 (kfarG_33 k81).toInt 36 < n91 + 1) (e95 : y94 = knowF (107 + n18)) (b96 : 0 ≤ y94.toInt) (b97 : y94.toInt ≤ 35) (c98 : ¬ nI k81 = y94) (hW99 : ∃ s9, s9 < 4 ∧ fbL knowF kfarG_33 n28 k81 s9 = (kfarG_33 k81).toInt) (j107 : k106 ≤ 4) (j108 : k106 < 4) (hns : ∀ s9, s9 < k106 → ¬ fbL knowF kfarG_33 n28 k81 s9 = (kfarG_33 k81).toInt) (hm112 : 5 - k106 < n110 + 1) (p114 : r113.toInt = fbL knowF kfarG_33 n28 k81 k106 ∧ 0 ≤ r113.toInt ∧ r113.toInt ≤ 100256) (e116 : y115 = kfarG_33 k81) (b117 : 0 ≤ y115.toInt) (b118 : y115.toInt ≤ 100000) (c119 : r113 = y115) : k83 < 36 := by
  have b_x := ia_b x
  have b_y := ia_b y
  have b_y21 := ia_b y21
  have b_y37 := ia_b y37
  have b_y44 := ia_b y44
  have b_y51 := ia_b y51
  have b_y94 := ia_b y94
  have b_r113 := ia_b r113
  have b_y115 := ia_b y115
  try have k_0 := ia_n n18 (by first | decide | omega)
  try have k_1 := ia_n n25 (by first | decide | omega)
  try have k_2 := ia_n n28 (by first | decide | omega)
  try have k_3 := ia_n n41 (by first | decide | omega)
  try have k_4 := ia_n 100000 (by first | decide | omega)
  try have k_5 := ia_n n55 (by first | decide | omega)
  try have k_6 := ia_n k81 (by first | decide | omega)
  try simp only [ia_lt, ia_le, ia_eq, ia_m1, ia_0, ia_1, ne_eq, true_and, and_true, false_and, and_false, or_false, false_or, or_true, true_or, not_true_eq_false, not_false_eq_true] at *
  all_goals omega
set_option maxRecDepth 20000 in
theorem lf_x_way_28 (knowF : Nat → Int32) (x : Int32) (y : Int32) (n18 : Nat) (y21 : Int32) (n25 : Nat) (n28 : Nat) (kfarG_33 : Nat → Int32) (y37 : Int32) (n41 : Nat) (y44 : Int32) (y51 : Int32) (n55 : Nat) (k81 : Nat) (k83 : Nat) (n91 : Nat) (y94 : Int32) (k106 : Nat) (n110 : Nat) (r113 : Int32) (y115 : Int32) (ab_now : NB knowF) (t3 : 0 ≤ x.toInt) (t4 : x.toInt < (knowF 3).toInt) (t5 : x.toInt ≤ 5) (t10 : 0 ≤ y.toInt) (t11 : y.toInt < (knowF 2).toInt) (t12 : y.toInt ≤ 5) (h19 : n18 < 6) (e20 : y = nI n18) (e22 : y21 = knowF (107 + n18)) (b23 : 0 ≤ y21.toInt) (b24 : y21.toInt ≤ 35) (h26 : n25 < 36) (e27 : y21 = nI n25) (h29 : n28 < 6) (e30 : x = nI n28) (p34 : FB36 kfarG_33) (p35 : FI knowF kfarG_33 n28 n25) (p36 : FX knowF kfarG_33 n28 36 0) (e38 : y37 = knowF (113 + n28)) (b39 : 0 ≤ y37.toInt) (b40 : y37.toInt ≤ 35) (h42 : n41 < 36) (e43 : y37 = nI n41) (e45 : y44 = kfarG_33 n41) (b46 : 0 ≤ y44.toInt) (b47 : y44.toInt ≤ 100000) (c48 : y44 < nI 100000) (f49 : (kfarG_33 n41).toInt < 100000) (hR50 : rankF kfarG_33 (kfarG_33 n41).toInt 36 ≤ 35) (e52 : y51 = kfarG_33 n41) (b53 : 0 ≤ y51.toInt) (b54 : y51.toInt ≤ 100000) (h56 : n55 < 100001) (e57 : y51 = nI n55) (j85 : k81 ≤ 35) (j86 : k83 ≤ 36) (j87 : k81 < 36) (j88 : (kfarG_33 k81).toInt < 100000) (j89 : k83 + rankF kfarG_33 (kfarG_33 k81).toInt 36 ≤ 35) (hm93 : rankF kfarG_33 (kfarG_33 k81).toInt 36 < n91 + 1) (e95 : y94 = knowF (107 + n18)) (b96 : 0 ≤ y94.toInt) (b97 : y94.toInt ≤ 35) (c98 : ¬ nI k81 = y94) (hW99 : ∃ s9, s9 < 4 ∧ fbL knowF kfarG_33 n28 k81 s9 = (kfarG_33 k81).toInt) (j107 : k106 ≤ 4) (j108 : k106 < 4) (hns : ∀ s9, s9 < k106 → ¬ fbL knowF kfarG_33 n28 k81 s9 = (kfarG_33 k81).toInt) (hm112 : 5 - k106 < n110 + 1) (p114 : r113.toInt = fbL knowF kfarG_33 n28 k81 k106 ∧ 0 ≤ r113.toInt ∧ r113.toInt ≤ 100256) (e116 : y115 = kfarG_33 k81) (b117 : 0 ≤ y115.toInt) (b118 : y115.toInt ≤ 100000) (c119 : r113 = y115) : (k83 + 1) ≤ 36 := by
  have b_x := ia_b x
  have b_y := ia_b y
  have b_y21 := ia_b y21
  have b_y37 := ia_b y37
  have b_y44 := ia_b y44
  have b_y51 := ia_b y51
  have b_y94 := ia_b y94
  have b_r113 := ia_b r113
  have b_y115 := ia_b y115
  try have k_0 := ia_n n18 (by first | decide | omega)
  try have k_1 := ia_n n25 (by first | decide | omega)
  try have k_2 := ia_n n28 (by first | decide | omega)
  try have k_3 := ia_n n41 (by first | decide | omega)
  try have k_4 := ia_n 100000 (by first | decide | omega)
  try have k_5 := ia_n n55 (by first | decide | omega)
  try have k_6 := ia_n k81 (by first | decide | omega)
  try simp only [ia_lt, ia_le, ia_eq, ia_m1, ia_0, ia_1, ne_eq, true_and, and_true, false_and, and_false, or_false, false_or, or_true, true_or, not_true_eq_false, not_false_eq_true] at *
  all_goals omega
set_option maxRecDepth 20000 in
theorem lf_x_way_29 (knowF : Nat → Int32) (x : Int32) (y : Int32) (n18 : Nat) (y21 : Int32) (n25 : Nat) (n28 : Nat) (kfarG_33 : Nat → Int32) (y37 : Int32) (n41 : Nat) (y44 : Int32) (y51 : Int32) (n55 : Nat) (k81 : Nat) (k83 : Nat) (n91 : Nat) (y94 : Int32) (k106 : Nat) (n110 : Nat) (r113 : Int32) (y115 : Int32) (ab_now : NB knowF) (t3 : 0 ≤ x.toInt) (t4 : x.toInt < (knowF 3).toInt) (t5 : x.toInt ≤ 5) (t10 : 0 ≤ y.toInt) (t11 : y.toInt < (knowF 2).toInt) (t12 : y.toInt ≤ 5) (h19 : n18 < 6) (e20 : y = nI n18) (e22 : y21 = knowF (107 + n18)) (b23 : 0 ≤ y21.toInt) (b24 : y21.toInt ≤ 35) (h26 : n25 < 36) (e27 : y21 = nI n25) (h29 : n28 < 6) (e30 : x = nI n28) (p34 : FB36 kfarG_33) (p35 : FI knowF kfarG_33 n28 n25) (p36 : FX knowF kfarG_33 n28 36 0) (e38 : y37 = knowF (113 + n28)) (b39 : 0 ≤ y37.toInt) (b40 : y37.toInt ≤ 35) (h42 : n41 < 36) (e43 : y37 = nI n41) (e45 : y44 = kfarG_33 n41) (b46 : 0 ≤ y44.toInt) (b47 : y44.toInt ≤ 100000) (c48 : y44 < nI 100000) (f49 : (kfarG_33 n41).toInt < 100000) (hR50 : rankF kfarG_33 (kfarG_33 n41).toInt 36 ≤ 35) (e52 : y51 = kfarG_33 n41) (b53 : 0 ≤ y51.toInt) (b54 : y51.toInt ≤ 100000) (h56 : n55 < 100001) (e57 : y51 = nI n55) (j85 : k81 ≤ 35) (j86 : k83 ≤ 36) (j87 : k81 < 36) (j88 : (kfarG_33 k81).toInt < 100000) (j89 : k83 + rankF kfarG_33 (kfarG_33 k81).toInt 36 ≤ 35) (hm93 : rankF kfarG_33 (kfarG_33 k81).toInt 36 < n91 + 1) (e95 : y94 = knowF (107 + n18)) (b96 : 0 ≤ y94.toInt) (b97 : y94.toInt ≤ 35) (c98 : ¬ nI k81 = y94) (hW99 : ∃ s9, s9 < 4 ∧ fbL knowF kfarG_33 n28 k81 s9 = (kfarG_33 k81).toInt) (j107 : k106 ≤ 4) (j108 : k106 < 4) (hns : ∀ s9, s9 < k106 → ¬ fbL knowF kfarG_33 n28 k81 s9 = (kfarG_33 k81).toInt) (hm112 : 5 - k106 < n110 + 1) (p114 : r113.toInt = fbL knowF kfarG_33 n28 k81 k106 ∧ 0 ≤ r113.toInt ∧ r113.toInt ≤ 100256) (e116 : y115 = kfarG_33 k81) (b117 : 0 ≤ y115.toInt) (b118 : y115.toInt ≤ 100000) (c119 : r113 = y115) (t128 : bsN (knowF 0).toInt (knowF 1).toInt k81 k106 = 36) : fbL knowF kfarG_33 n28 k81 k106 = (kfarG_33 k81).toInt := by
  have b_x := ia_b x
  have b_y := ia_b y
  have b_y21 := ia_b y21
  have b_y37 := ia_b y37
  have b_y44 := ia_b y44
  have b_y51 := ia_b y51
  have b_y94 := ia_b y94
  have b_r113 := ia_b r113
  have b_y115 := ia_b y115
  try have k_0 := ia_n n18 (by first | decide | omega)
  try have k_1 := ia_n n25 (by first | decide | omega)
  try have k_2 := ia_n n28 (by first | decide | omega)
  try have k_3 := ia_n n41 (by first | decide | omega)
  try have k_4 := ia_n 100000 (by first | decide | omega)
  try have k_5 := ia_n n55 (by first | decide | omega)
  try have k_6 := ia_n k81 (by first | decide | omega)
  try simp only [ia_lt, ia_le, ia_eq, ia_m1, ia_0, ia_1, ne_eq, true_and, and_true, false_and, and_false, or_false, false_or, or_true, true_or, not_true_eq_false, not_false_eq_true] at *
  all_goals omega
set_option maxRecDepth 20000 in
theorem lf_x_way_30 (knowF : Nat → Int32) (x : Int32) (y : Int32) (n18 : Nat) (y21 : Int32) (n25 : Nat) (n28 : Nat) (kfarG_33 : Nat → Int32) (y37 : Int32) (n41 : Nat) (y44 : Int32) (y51 : Int32) (n55 : Nat) (k81 : Nat) (k83 : Nat) (n91 : Nat) (y94 : Int32) (k106 : Nat) (n110 : Nat) (r113 : Int32) (y115 : Int32) (k124 : Nat) (ab_now : NB knowF) (t3 : 0 ≤ x.toInt) (t4 : x.toInt < (knowF 3).toInt) (t5 : x.toInt ≤ 5) (t10 : 0 ≤ y.toInt) (t11 : y.toInt < (knowF 2).toInt) (t12 : y.toInt ≤ 5) (h19 : n18 < 6) (e20 : y = nI n18) (e22 : y21 = knowF (107 + n18)) (b23 : 0 ≤ y21.toInt) (b24 : y21.toInt ≤ 35) (h26 : n25 < 36) (e27 : y21 = nI n25) (h29 : n28 < 6) (e30 : x = nI n28) (p34 : FB36 kfarG_33) (p35 : FI knowF kfarG_33 n28 n25) (p36 : FX knowF kfarG_33 n28 36 0) (e38 : y37 = knowF (113 + n28)) (b39 : 0 ≤ y37.toInt) (b40 : y37.toInt ≤ 35) (h42 : n41 < 36) (e43 : y37 = nI n41) (e45 : y44 = kfarG_33 n41) (b46 : 0 ≤ y44.toInt) (b47 : y44.toInt ≤ 100000) (c48 : y44 < nI 100000) (f49 : (kfarG_33 n41).toInt < 100000) (hR50 : rankF kfarG_33 (kfarG_33 n41).toInt 36 ≤ 35) (e52 : y51 = kfarG_33 n41) (b53 : 0 ≤ y51.toInt) (b54 : y51.toInt ≤ 100000) (h56 : n55 < 100001) (e57 : y51 = nI n55) (j85 : k81 ≤ 35) (j86 : k83 ≤ 36) (j87 : k81 < 36) (j88 : (kfarG_33 k81).toInt < 100000) (j89 : k83 + rankF kfarG_33 (kfarG_33 k81).toInt 36 ≤ 35) (hm93 : rankF kfarG_33 (kfarG_33 k81).toInt 36 < n91 + 1) (e95 : y94 = knowF (107 + n18)) (b96 : 0 ≤ y94.toInt) (b97 : y94.toInt ≤ 35) (c98 : ¬ nI k81 = y94) (hW99 : ∃ s9, s9 < 4 ∧ fbL knowF kfarG_33 n28 k81 s9 = (kfarG_33 k81).toInt) (j107 : k106 ≤ 4) (j108 : k106 < 4) (hns : ∀ s9, s9 < k106 → ¬ fbL knowF kfarG_33 n28 k81 s9 = (kfarG_33 k81).toInt) (hm112 : 5 - k106 < n110 + 1) (p114 : r113.toInt = fbL knowF kfarG_33 n28 k81 k106 ∧ 0 ≤ r113.toInt ∧ r113.toInt ≤ 100256) (e116 : y115 = kfarG_33 k81) (b117 : 0 ≤ y115.toInt) (b118 : y115.toInt ≤ 100000) (c119 : r113 = y115) (h126 : k124 < 36) (h127 : k124 = bsN (knowF 0).toInt (knowF 1).toInt k81 k106) : fbL knowF kfarG_33 n28 k81 k106 = (kfarG_33 k81).toInt := by
  have b_x := ia_b x
  have b_y := ia_b y
  have b_y21 := ia_b y21
  have b_y37 := ia_b y37
  have b_y44 := ia_b y44
  have b_y51 := ia_b y51
  have b_y94 := ia_b y94
  have b_r113 := ia_b r113
  have b_y115 := ia_b y115
  try have k_0 := ia_n n18 (by first | decide | omega)
  try have k_1 := ia_n n25 (by first | decide | omega)
  try have k_2 := ia_n n28 (by first | decide | omega)
  try have k_3 := ia_n n41 (by first | decide | omega)
  try have k_4 := ia_n 100000 (by first | decide | omega)
  try have k_5 := ia_n n55 (by first | decide | omega)
  try have k_6 := ia_n k81 (by first | decide | omega)
  try simp only [ia_lt, ia_le, ia_eq, ia_m1, ia_0, ia_1, ne_eq, true_and, and_true, false_and, and_false, or_false, false_or, or_true, true_or, not_true_eq_false, not_false_eq_true] at *
  all_goals omega
set_option maxRecDepth 20000 in
theorem lf_x_way_31 (knowF : Nat → Int32) (x : Int32) (y : Int32) (n18 : Nat) (y21 : Int32) (n25 : Nat) (n28 : Nat) (kfarG_33 : Nat → Int32) (y37 : Int32) (n41 : Nat) (y44 : Int32) (y51 : Int32) (n55 : Nat) (k81 : Nat) (k83 : Nat) (n91 : Nat) (y94 : Int32) (k106 : Nat) (n110 : Nat) (r113 : Int32) (y115 : Int32) (k124 : Nat) (ab_now : NB knowF) (t3 : 0 ≤ x.toInt) (t4 : x.toInt < (knowF 3).toInt) (t5 : x.toInt ≤ 5) (t10 : 0 ≤ y.toInt) (t11 : y.toInt < (knowF 2).toInt) (t12 : y.toInt ≤ 5) (h19 : n18 < 6) (e20 : y = nI n18) (e22 : y21 = knowF (107 + n18)) (b23 : 0 ≤ y21.toInt) (b24 : y21.toInt ≤ 35) (h26 : n25 < 36) (e27 : y21 = nI n25) (h29 : n28 < 6) (e30 : x = nI n28) (p34 : FB36 kfarG_33) (p35 : FI knowF kfarG_33 n28 n25) (p36 : FX knowF kfarG_33 n28 36 0) (e38 : y37 = knowF (113 + n28)) (b39 : 0 ≤ y37.toInt) (b40 : y37.toInt ≤ 35) (h42 : n41 < 36) (e43 : y37 = nI n41) (e45 : y44 = kfarG_33 n41) (b46 : 0 ≤ y44.toInt) (b47 : y44.toInt ≤ 100000) (c48 : y44 < nI 100000) (f49 : (kfarG_33 n41).toInt < 100000) (hR50 : rankF kfarG_33 (kfarG_33 n41).toInt 36 ≤ 35) (e52 : y51 = kfarG_33 n41) (b53 : 0 ≤ y51.toInt) (b54 : y51.toInt ≤ 100000) (h56 : n55 < 100001) (e57 : y51 = nI n55) (j85 : k81 ≤ 35) (j86 : k83 ≤ 36) (j87 : k81 < 36) (j88 : (kfarG_33 k81).toInt < 100000) (j89 : k83 + rankF kfarG_33 (kfarG_33 k81).toInt 36 ≤ 35) (hm93 : rankF kfarG_33 (kfarG_33 k81).toInt 36 < n91 + 1) (e95 : y94 = knowF (107 + n18)) (b96 : 0 ≤ y94.toInt) (b97 : y94.toInt ≤ 35) (c98 : ¬ nI k81 = y94) (hW99 : ∃ s9, s9 < 4 ∧ fbL knowF kfarG_33 n28 k81 s9 = (kfarG_33 k81).toInt) (j107 : k106 ≤ 4) (j108 : k106 < 4) (hns : ∀ s9, s9 < k106 → ¬ fbL knowF kfarG_33 n28 k81 s9 = (kfarG_33 k81).toInt) (hm112 : 5 - k106 < n110 + 1) (p114 : r113.toInt = fbL knowF kfarG_33 n28 k81 k106 ∧ 0 ≤ r113.toInt ∧ r113.toInt ≤ 100256) (e116 : y115 = kfarG_33 k81) (b117 : 0 ≤ y115.toInt) (b118 : y115.toInt ≤ 100000) (c119 : r113 = y115) (h126 : k124 < 36) (h127 : k124 = bsN (knowF 0).toInt (knowF 1).toInt k81 k106) (hE130 : fbL knowF kfarG_33 n28 k81 k106 = (kfarG_33 k81).toInt) (hG132 : (kfarG_33 k124).toInt < 100000) (hG133 : rankF kfarG_33 (kfarG_33 k124).toInt 36 < rankF kfarG_33 (kfarG_33 k81).toInt 36) : (k83 + 1) ≤ 36 := by
  have b_x := ia_b x
  have b_y := ia_b y
  have b_y21 := ia_b y21
  have b_y37 := ia_b y37
  have b_y44 := ia_b y44
  have b_y51 := ia_b y51
  have b_y94 := ia_b y94
  have b_r113 := ia_b r113
  have b_y115 := ia_b y115
  try have k_0 := ia_n n18 (by first | decide | omega)
  try have k_1 := ia_n n25 (by first | decide | omega)
  try have k_2 := ia_n n28 (by first | decide | omega)
  try have k_3 := ia_n n41 (by first | decide | omega)
  try have k_4 := ia_n 100000 (by first | decide | omega)
  try have k_5 := ia_n n55 (by first | decide | omega)
  try have k_6 := ia_n k81 (by first | decide | omega)
  try simp only [ia_lt, ia_le, ia_eq, ia_m1, ia_0, ia_1, ne_eq, true_and, and_true, false_and, and_false, or_false, false_or, or_true, true_or, not_true_eq_false, not_false_eq_true] at *
  all_goals omega
set_option maxRecDepth 20000 in
theorem lf_x_way_32 (knowF : Nat → Int32) (x : Int32) (y : Int32) (n18 : Nat) (y21 : Int32) (n25 : Nat) (n28 : Nat) (kfarG_33 : Nat → Int32) (y37 : Int32) (n41 : Nat) (y44 : Int32) (y51 : Int32) (n55 : Nat) (x80 : Int32) (k81 : Nat) (k83 : Nat) (n91 : Nat) (y94 : Int32) (k106 : Nat) (n110 : Nat) (r113 : Int32) (y115 : Int32) (k124 : Nat) (k136 : Nat) (ab_now : NB knowF) (t3 : 0 ≤ x.toInt) (t4 : x.toInt < (knowF 3).toInt) (t5 : x.toInt ≤ 5) (t10 : 0 ≤ y.toInt) (t11 : y.toInt < (knowF 2).toInt) (t12 : y.toInt ≤ 5) (h19 : n18 < 6) (e20 : y = nI n18) (e22 : y21 = knowF (107 + n18)) (b23 : 0 ≤ y21.toInt) (b24 : y21.toInt ≤ 35) (h26 : n25 < 36) (e27 : y21 = nI n25) (h29 : n28 < 6) (e30 : x = nI n28) (p34 : FB36 kfarG_33) (p35 : FI knowF kfarG_33 n28 n25) (p36 : FX knowF kfarG_33 n28 36 0) (e38 : y37 = knowF (113 + n28)) (b39 : 0 ≤ y37.toInt) (b40 : y37.toInt ≤ 35) (h42 : n41 < 36) (e43 : y37 = nI n41) (e45 : y44 = kfarG_33 n41) (b46 : 0 ≤ y44.toInt) (b47 : y44.toInt ≤ 100000) (c48 : y44 < nI 100000) (f49 : (kfarG_33 n41).toInt < 100000) (hR50 : rankF kfarG_33 (kfarG_33 n41).toInt 36 ≤ 35) (e52 : y51 = kfarG_33 n41) (b53 : 0 ≤ y51.toInt) (b54 : y51.toInt ≤ 100000) (h56 : n55 < 100001) (e57 : y51 = nI n55) (j85 : k81 ≤ 35) (j86 : k83 ≤ 36) (j87 : k81 < 36) (j88 : (kfarG_33 k81).toInt < 100000) (j89 : k83 + rankF kfarG_33 (kfarG_33 k81).toInt 36 ≤ 35) (hm93 : rankF kfarG_33 (kfarG_33 k81).toInt 36 < n91 + 1) (e95 : y94 = knowF (107 + n18)) (b96 : 0 ≤ y94.toInt) (b97 : y94.toInt ≤ 35) (c98 : ¬ nI k81 = y94) (hW99 : ∃ s9, s9 < 4 ∧ fbL knowF kfarG_33 n28 k81 s9 = (kfarG_33 k81).toInt) (j107 : k106 ≤ 4) (j108 : k106 < 4) (hns : ∀ s9, s9 < k106 → ¬ fbL knowF kfarG_33 n28 k81 s9 = (kfarG_33 k81).toInt) (hm112 : 5 - k106 < n110 + 1) (p114 : r113.toInt = fbL knowF kfarG_33 n28 k81 k106 ∧ 0 ≤ r113.toInt ∧ r113.toInt ≤ 100256) (e116 : y115 = kfarG_33 k81) (b117 : 0 ≤ y115.toInt) (b118 : y115.toInt ≤ 100000) (c119 : r113 = y115) (h126 : k124 < 36) (h127 : k124 = bsN (knowF 0).toInt (knowF 1).toInt k81 k106) (hE130 : fbL knowF kfarG_33 n28 k81 k106 = (kfarG_33 k81).toInt) (hG132 : (kfarG_33 k124).toInt < 100000) (hG133 : rankF kfarG_33 (kfarG_33 k124).toInt 36 < rankF kfarG_33 (kfarG_33 k81).toInt 36) (h138 : 1 ≤ k136) (h139 : k136 ≤ 4) (h140 : (k136 : Int) = coL knowF k124) (c141 : nI k136 ≤ x80) : (k83 + 1) ≤ 36 := by
  have b_x := ia_b x
  have b_y := ia_b y
  have b_y21 := ia_b y21
  have b_y37 := ia_b y37
  have b_y44 := ia_b y44
  have b_y51 := ia_b y51
  have b_x80 := ia_b x80
  have b_y94 := ia_b y94
  have b_r113 := ia_b r113
  have b_y115 := ia_b y115
  try have k_0 := ia_n n18 (by first | decide | omega)
  try have k_1 := ia_n n25 (by first | decide | omega)
  try have k_2 := ia_n n28 (by first | decide | omega)
  try have k_3 := ia_n n41 (by first | decide | omega)
  try have k_4 := ia_n 100000 (by first | decide | omega)
  try have k_5 := ia_n n55 (by first | decide | omega)
  try have k_6 := ia_n k81 (by first | decide | omega)
  try have k_7 := ia_n k136 (by first | decide | omega)
  try simp only [ia_lt, ia_le, ia_eq, ia_m1, ia_0, ia_1, ne_eq, true_and, and_true, false_and, and_false, or_false, false_or, or_true, true_or, not_true_eq_false, not_false_eq_true] at *
  all_goals omega
set_option maxRecDepth 20000 in
theorem lf_x_way_33 (knowF : Nat → Int32) (x : Int32) (y : Int32) (n18 : Nat) (y21 : Int32) (n25 : Nat) (n28 : Nat) (kfarG_33 : Nat → Int32) (y37 : Int32) (n41 : Nat) (y44 : Int32) (y51 : Int32) (n55 : Nat) (x80 : Int32) (k81 : Nat) (k83 : Nat) (n91 : Nat) (y94 : Int32) (k106 : Nat) (n110 : Nat) (r113 : Int32) (y115 : Int32) (k124 : Nat) (k136 : Nat) (k144 : Nat) (y149 : Int32) (ab_now : NB knowF) (t3 : 0 ≤ x.toInt) (t4 : x.toInt < (knowF 3).toInt) (t5 : x.toInt ≤ 5) (t10 : 0 ≤ y.toInt) (t11 : y.toInt < (knowF 2).toInt) (t12 : y.toInt ≤ 5) (h19 : n18 < 6) (e20 : y = nI n18) (e22 : y21 = knowF (107 + n18)) (b23 : 0 ≤ y21.toInt) (b24 : y21.toInt ≤ 35) (h26 : n25 < 36) (e27 : y21 = nI n25) (h29 : n28 < 6) (e30 : x = nI n28) (p34 : FB36 kfarG_33) (p35 : FI knowF kfarG_33 n28 n25) (p36 : FX knowF kfarG_33 n28 36 0) (e38 : y37 = knowF (113 + n28)) (b39 : 0 ≤ y37.toInt) (b40 : y37.toInt ≤ 35) (h42 : n41 < 36) (e43 : y37 = nI n41) (e45 : y44 = kfarG_33 n41) (b46 : 0 ≤ y44.toInt) (b47 : y44.toInt ≤ 100000) (c48 : y44 < nI 100000) (f49 : (kfarG_33 n41).toInt < 100000) (hR50 : rankF kfarG_33 (kfarG_33 n41).toInt 36 ≤ 35) (e52 : y51 = kfarG_33 n41) (b53 : 0 ≤ y51.toInt) (b54 : y51.toInt ≤ 100000) (h56 : n55 < 100001) (e57 : y51 = nI n55) (j85 : k81 ≤ 35) (j86 : k83 ≤ 36) (j87 : k81 < 36) (j88 : (kfarG_33 k81).toInt < 100000) (j89 : k83 + rankF kfarG_33 (kfarG_33 k81).toInt 36 ≤ 35) (hm93 : rankF kfarG_33 (kfarG_33 k81).toInt 36 < n91 + 1) (e95 : y94 = knowF (107 + n18)) (b96 : 0 ≤ y94.toInt) (b97 : y94.toInt ≤ 35) (c98 : ¬ nI k81 = y94) (hW99 : ∃ s9, s9 < 4 ∧ fbL knowF kfarG_33 n28 k81 s9 = (kfarG_33 k81).toInt) (j107 : k106 ≤ 4) (j108 : k106 < 4) (hns : ∀ s9, s9 < k106 → ¬ fbL knowF kfarG_33 n28 k81 s9 = (kfarG_33 k81).toInt) (hm112 : 5 - k106 < n110 + 1) (p114 : r113.toInt = fbL knowF kfarG_33 n28 k81 k106 ∧ 0 ≤ r113.toInt ∧ r113.toInt ≤ 100256) (e116 : y115 = kfarG_33 k81) (b117 : 0 ≤ y115.toInt) (b118 : y115.toInt ≤ 100000) (c119 : r113 = y115) (h126 : k124 < 36) (h127 : k124 = bsN (knowF 0).toInt (knowF 1).toInt k81 k106) (hE130 : fbL knowF kfarG_33 n28 k81 k106 = (kfarG_33 k81).toInt) (hG132 : (kfarG_33 k124).toInt < 100000) (hG133 : rankF kfarG_33 (kfarG_33 k124).toInt 36 < rankF kfarG_33 (kfarG_33 k81).toInt 36) (h138 : 1 ≤ k136) (h139 : k136 ≤ 4) (h140 : (k136 : Int) = coL knowF k124) (c141 : nI k136 ≤ x80) (h146 : 1 ≤ k144) (h147 : k144 ≤ 4) (h148 : (k144 : Int) = coL knowF k124) (e150 : y149 = x80 - (nI k144)) : k124 ≤ 35 := by
  have b_x := ia_b x
  have b_y := ia_b y
  have b_y21 := ia_b y21
  have b_y37 := ia_b y37
  have b_y44 := ia_b y44
  have b_y51 := ia_b y51
  have b_x80 := ia_b x80
  have b_y94 := ia_b y94
  have b_r113 := ia_b r113
  have b_y115 := ia_b y115
  have b_y149 := ia_b y149
  try have k_0 := ia_n n18 (by first | decide | omega)
  try have k_1 := ia_n n25 (by first | decide | omega)
  try have k_2 := ia_n n28 (by first | decide | omega)
  try have k_3 := ia_n n41 (by first | decide | omega)
  try have k_4 := ia_n 100000 (by first | decide | omega)
  try have k_5 := ia_n n55 (by first | decide | omega)
  try have k_6 := ia_n k81 (by first | decide | omega)
  try have k_7 := ia_n k136 (by first | decide | omega)
  try have k_8 := ia_n k144 (by first | decide | omega)
  try simp only [ia_lt, ia_le, ia_eq, ia_m1, ia_0, ia_1, ne_eq, true_and, and_true, false_and, and_false, or_false, false_or, or_true, true_or, not_true_eq_false, not_false_eq_true] at *
  all_goals omega
set_option maxRecDepth 20000 in
theorem lf_x_way_34 (knowF : Nat → Int32) (x : Int32) (y : Int32) (n18 : Nat) (y21 : Int32) (n25 : Nat) (n28 : Nat) (kfarG_33 : Nat → Int32) (y37 : Int32) (n41 : Nat) (y44 : Int32) (y51 : Int32) (n55 : Nat) (x80 : Int32) (k81 : Nat) (k83 : Nat) (n91 : Nat) (y94 : Int32) (k106 : Nat) (n110 : Nat) (r113 : Int32) (y115 : Int32) (k124 : Nat) (k136 : Nat) (k144 : Nat) (y149 : Int32) (ab_now : NB knowF) (t3 : 0 ≤ x.toInt) (t4 : x.toInt < (knowF 3).toInt) (t5 : x.toInt ≤ 5) (t10 : 0 ≤ y.toInt) (t11 : y.toInt < (knowF 2).toInt) (t12 : y.toInt ≤ 5) (h19 : n18 < 6) (e20 : y = nI n18) (e22 : y21 = knowF (107 + n18)) (b23 : 0 ≤ y21.toInt) (b24 : y21.toInt ≤ 35) (h26 : n25 < 36) (e27 : y21 = nI n25) (h29 : n28 < 6) (e30 : x = nI n28) (p34 : FB36 kfarG_33) (p35 : FI knowF kfarG_33 n28 n25) (p36 : FX knowF kfarG_33 n28 36 0) (e38 : y37 = knowF (113 + n28)) (b39 : 0 ≤ y37.toInt) (b40 : y37.toInt ≤ 35) (h42 : n41 < 36) (e43 : y37 = nI n41) (e45 : y44 = kfarG_33 n41) (b46 : 0 ≤ y44.toInt) (b47 : y44.toInt ≤ 100000) (c48 : y44 < nI 100000) (f49 : (kfarG_33 n41).toInt < 100000) (hR50 : rankF kfarG_33 (kfarG_33 n41).toInt 36 ≤ 35) (e52 : y51 = kfarG_33 n41) (b53 : 0 ≤ y51.toInt) (b54 : y51.toInt ≤ 100000) (h56 : n55 < 100001) (e57 : y51 = nI n55) (j85 : k81 ≤ 35) (j86 : k83 ≤ 36) (j87 : k81 < 36) (j88 : (kfarG_33 k81).toInt < 100000) (j89 : k83 + rankF kfarG_33 (kfarG_33 k81).toInt 36 ≤ 35) (hm93 : rankF kfarG_33 (kfarG_33 k81).toInt 36 < n91 + 1) (e95 : y94 = knowF (107 + n18)) (b96 : 0 ≤ y94.toInt) (b97 : y94.toInt ≤ 35) (c98 : ¬ nI k81 = y94) (hW99 : ∃ s9, s9 < 4 ∧ fbL knowF kfarG_33 n28 k81 s9 = (kfarG_33 k81).toInt) (j107 : k106 ≤ 4) (j108 : k106 < 4) (hns : ∀ s9, s9 < k106 → ¬ fbL knowF kfarG_33 n28 k81 s9 = (kfarG_33 k81).toInt) (hm112 : 5 - k106 < n110 + 1) (p114 : r113.toInt = fbL knowF kfarG_33 n28 k81 k106 ∧ 0 ≤ r113.toInt ∧ r113.toInt ≤ 100256) (e116 : y115 = kfarG_33 k81) (b117 : 0 ≤ y115.toInt) (b118 : y115.toInt ≤ 100000) (c119 : r113 = y115) (h126 : k124 < 36) (h127 : k124 = bsN (knowF 0).toInt (knowF 1).toInt k81 k106) (hE130 : fbL knowF kfarG_33 n28 k81 k106 = (kfarG_33 k81).toInt) (hG132 : (kfarG_33 k124).toInt < 100000) (hG133 : rankF kfarG_33 (kfarG_33 k124).toInt 36 < rankF kfarG_33 (kfarG_33 k81).toInt 36) (h138 : 1 ≤ k136) (h139 : k136 ≤ 4) (h140 : (k136 : Int) = coL knowF k124) (c141 : nI k136 ≤ x80) (h146 : 1 ≤ k144) (h147 : k144 ≤ 4) (h148 : (k144 : Int) = coL knowF k124) (e150 : y149 = x80 - (nI k144)) : (k83 + 1) ≤ 36 := by
  have b_x := ia_b x
  have b_y := ia_b y
  have b_y21 := ia_b y21
  have b_y37 := ia_b y37
  have b_y44 := ia_b y44
  have b_y51 := ia_b y51
  have b_x80 := ia_b x80
  have b_y94 := ia_b y94
  have b_r113 := ia_b r113
  have b_y115 := ia_b y115
  have b_y149 := ia_b y149
  try have k_0 := ia_n n18 (by first | decide | omega)
  try have k_1 := ia_n n25 (by first | decide | omega)
  try have k_2 := ia_n n28 (by first | decide | omega)
  try have k_3 := ia_n n41 (by first | decide | omega)
  try have k_4 := ia_n 100000 (by first | decide | omega)
  try have k_5 := ia_n n55 (by first | decide | omega)
  try have k_6 := ia_n k81 (by first | decide | omega)
  try have k_7 := ia_n k136 (by first | decide | omega)
  try have k_8 := ia_n k144 (by first | decide | omega)
  try simp only [ia_lt, ia_le, ia_eq, ia_m1, ia_0, ia_1, ne_eq, true_and, and_true, false_and, and_false, or_false, false_or, or_true, true_or, not_true_eq_false, not_false_eq_true] at *
  all_goals omega
set_option maxRecDepth 20000 in
theorem lf_x_way_35 (knowF : Nat → Int32) (x : Int32) (y : Int32) (n18 : Nat) (y21 : Int32) (n25 : Nat) (n28 : Nat) (kfarG_33 : Nat → Int32) (y37 : Int32) (n41 : Nat) (y44 : Int32) (y51 : Int32) (n55 : Nat) (x80 : Int32) (k81 : Nat) (k83 : Nat) (n91 : Nat) (y94 : Int32) (k106 : Nat) (n110 : Nat) (r113 : Int32) (y115 : Int32) (k124 : Nat) (k136 : Nat) (k144 : Nat) (y149 : Int32) (ab_now : NB knowF) (t3 : 0 ≤ x.toInt) (t4 : x.toInt < (knowF 3).toInt) (t5 : x.toInt ≤ 5) (t10 : 0 ≤ y.toInt) (t11 : y.toInt < (knowF 2).toInt) (t12 : y.toInt ≤ 5) (h19 : n18 < 6) (e20 : y = nI n18) (e22 : y21 = knowF (107 + n18)) (b23 : 0 ≤ y21.toInt) (b24 : y21.toInt ≤ 35) (h26 : n25 < 36) (e27 : y21 = nI n25) (h29 : n28 < 6) (e30 : x = nI n28) (p34 : FB36 kfarG_33) (p35 : FI knowF kfarG_33 n28 n25) (p36 : FX knowF kfarG_33 n28 36 0) (e38 : y37 = knowF (113 + n28)) (b39 : 0 ≤ y37.toInt) (b40 : y37.toInt ≤ 35) (h42 : n41 < 36) (e43 : y37 = nI n41) (e45 : y44 = kfarG_33 n41) (b46 : 0 ≤ y44.toInt) (b47 : y44.toInt ≤ 100000) (c48 : y44 < nI 100000) (f49 : (kfarG_33 n41).toInt < 100000) (hR50 : rankF kfarG_33 (kfarG_33 n41).toInt 36 ≤ 35) (e52 : y51 = kfarG_33 n41) (b53 : 0 ≤ y51.toInt) (b54 : y51.toInt ≤ 100000) (h56 : n55 < 100001) (e57 : y51 = nI n55) (j85 : k81 ≤ 35) (j86 : k83 ≤ 36) (j87 : k81 < 36) (j88 : (kfarG_33 k81).toInt < 100000) (j89 : k83 + rankF kfarG_33 (kfarG_33 k81).toInt 36 ≤ 35) (hm93 : rankF kfarG_33 (kfarG_33 k81).toInt 36 < n91 + 1) (e95 : y94 = knowF (107 + n18)) (b96 : 0 ≤ y94.toInt) (b97 : y94.toInt ≤ 35) (c98 : ¬ nI k81 = y94) (hW99 : ∃ s9, s9 < 4 ∧ fbL knowF kfarG_33 n28 k81 s9 = (kfarG_33 k81).toInt) (j107 : k106 ≤ 4) (j108 : k106 < 4) (hns : ∀ s9, s9 < k106 → ¬ fbL knowF kfarG_33 n28 k81 s9 = (kfarG_33 k81).toInt) (hm112 : 5 - k106 < n110 + 1) (p114 : r113.toInt = fbL knowF kfarG_33 n28 k81 k106 ∧ 0 ≤ r113.toInt ∧ r113.toInt ≤ 100256) (e116 : y115 = kfarG_33 k81) (b117 : 0 ≤ y115.toInt) (b118 : y115.toInt ≤ 100000) (c119 : r113 = y115) (h126 : k124 < 36) (h127 : k124 = bsN (knowF 0).toInt (knowF 1).toInt k81 k106) (hE130 : fbL knowF kfarG_33 n28 k81 k106 = (kfarG_33 k81).toInt) (hG132 : (kfarG_33 k124).toInt < 100000) (hG133 : rankF kfarG_33 (kfarG_33 k124).toInt 36 < rankF kfarG_33 (kfarG_33 k81).toInt 36) (h138 : 1 ≤ k136) (h139 : k136 ≤ 4) (h140 : (k136 : Int) = coL knowF k124) (c141 : nI k136 ≤ x80) (h146 : 1 ≤ k144) (h147 : k144 ≤ 4) (h148 : (k144 : Int) = coL knowF k124) (e150 : y149 = x80 - (nI k144)) : (k83 + 1) + rankF kfarG_33 (kfarG_33 k124).toInt 36 ≤ 35 := by
  have b_x := ia_b x
  have b_y := ia_b y
  have b_y21 := ia_b y21
  have b_y37 := ia_b y37
  have b_y44 := ia_b y44
  have b_y51 := ia_b y51
  have b_x80 := ia_b x80
  have b_y94 := ia_b y94
  have b_r113 := ia_b r113
  have b_y115 := ia_b y115
  have b_y149 := ia_b y149
  try have k_0 := ia_n n18 (by first | decide | omega)
  try have k_1 := ia_n n25 (by first | decide | omega)
  try have k_2 := ia_n n28 (by first | decide | omega)
  try have k_3 := ia_n n41 (by first | decide | omega)
  try have k_4 := ia_n 100000 (by first | decide | omega)
  try have k_5 := ia_n n55 (by first | decide | omega)
  try have k_6 := ia_n k81 (by first | decide | omega)
  try have k_7 := ia_n k136 (by first | decide | omega)
  try have k_8 := ia_n k144 (by first | decide | omega)
  try simp only [ia_lt, ia_le, ia_eq, ia_m1, ia_0, ia_1, ne_eq, true_and, and_true, false_and, and_false, or_false, false_or, or_true, true_or, not_true_eq_false, not_false_eq_true] at *
  all_goals omega
set_option maxRecDepth 20000 in
theorem lf_x_way_36 (knowF : Nat → Int32) (x : Int32) (y : Int32) (n18 : Nat) (y21 : Int32) (n25 : Nat) (n28 : Nat) (kfarG_33 : Nat → Int32) (y37 : Int32) (n41 : Nat) (y44 : Int32) (y51 : Int32) (n55 : Nat) (x80 : Int32) (k81 : Nat) (k83 : Nat) (n91 : Nat) (y94 : Int32) (k106 : Nat) (n110 : Nat) (r113 : Int32) (y115 : Int32) (k124 : Nat) (k136 : Nat) (k144 : Nat) (y149 : Int32) (ab_now : NB knowF) (t3 : 0 ≤ x.toInt) (t4 : x.toInt < (knowF 3).toInt) (t5 : x.toInt ≤ 5) (t10 : 0 ≤ y.toInt) (t11 : y.toInt < (knowF 2).toInt) (t12 : y.toInt ≤ 5) (h19 : n18 < 6) (e20 : y = nI n18) (e22 : y21 = knowF (107 + n18)) (b23 : 0 ≤ y21.toInt) (b24 : y21.toInt ≤ 35) (h26 : n25 < 36) (e27 : y21 = nI n25) (h29 : n28 < 6) (e30 : x = nI n28) (p34 : FB36 kfarG_33) (p35 : FI knowF kfarG_33 n28 n25) (p36 : FX knowF kfarG_33 n28 36 0) (e38 : y37 = knowF (113 + n28)) (b39 : 0 ≤ y37.toInt) (b40 : y37.toInt ≤ 35) (h42 : n41 < 36) (e43 : y37 = nI n41) (e45 : y44 = kfarG_33 n41) (b46 : 0 ≤ y44.toInt) (b47 : y44.toInt ≤ 100000) (c48 : y44 < nI 100000) (f49 : (kfarG_33 n41).toInt < 100000) (hR50 : rankF kfarG_33 (kfarG_33 n41).toInt 36 ≤ 35) (e52 : y51 = kfarG_33 n41) (b53 : 0 ≤ y51.toInt) (b54 : y51.toInt ≤ 100000) (h56 : n55 < 100001) (e57 : y51 = nI n55) (j85 : k81 ≤ 35) (j86 : k83 ≤ 36) (j87 : k81 < 36) (j88 : (kfarG_33 k81).toInt < 100000) (j89 : k83 + rankF kfarG_33 (kfarG_33 k81).toInt 36 ≤ 35) (hm93 : rankF kfarG_33 (kfarG_33 k81).toInt 36 < n91 + 1) (e95 : y94 = knowF (107 + n18)) (b96 : 0 ≤ y94.toInt) (b97 : y94.toInt ≤ 35) (c98 : ¬ nI k81 = y94) (hW99 : ∃ s9, s9 < 4 ∧ fbL knowF kfarG_33 n28 k81 s9 = (kfarG_33 k81).toInt) (j107 : k106 ≤ 4) (j108 : k106 < 4) (hns : ∀ s9, s9 < k106 → ¬ fbL knowF kfarG_33 n28 k81 s9 = (kfarG_33 k81).toInt) (hm112 : 5 - k106 < n110 + 1) (p114 : r113.toInt = fbL knowF kfarG_33 n28 k81 k106 ∧ 0 ≤ r113.toInt ∧ r113.toInt ≤ 100256) (e116 : y115 = kfarG_33 k81) (b117 : 0 ≤ y115.toInt) (b118 : y115.toInt ≤ 100000) (c119 : r113 = y115) (h126 : k124 < 36) (h127 : k124 = bsN (knowF 0).toInt (knowF 1).toInt k81 k106) (hE130 : fbL knowF kfarG_33 n28 k81 k106 = (kfarG_33 k81).toInt) (hG132 : (kfarG_33 k124).toInt < 100000) (hG133 : rankF kfarG_33 (kfarG_33 k124).toInt 36 < rankF kfarG_33 (kfarG_33 k81).toInt 36) (h138 : 1 ≤ k136) (h139 : k136 ≤ 4) (h140 : (k136 : Int) = coL knowF k124) (c141 : nI k136 ≤ x80) (h146 : 1 ≤ k144) (h147 : k144 ≤ 4) (h148 : (k144 : Int) = coL knowF k124) (e150 : y149 = x80 - (nI k144)) : rankF kfarG_33 (kfarG_33 k124).toInt 36 < n91 := by
  have b_x := ia_b x
  have b_y := ia_b y
  have b_y21 := ia_b y21
  have b_y37 := ia_b y37
  have b_y44 := ia_b y44
  have b_y51 := ia_b y51
  have b_x80 := ia_b x80
  have b_y94 := ia_b y94
  have b_r113 := ia_b r113
  have b_y115 := ia_b y115
  have b_y149 := ia_b y149
  try have k_0 := ia_n n18 (by first | decide | omega)
  try have k_1 := ia_n n25 (by first | decide | omega)
  try have k_2 := ia_n n28 (by first | decide | omega)
  try have k_3 := ia_n n41 (by first | decide | omega)
  try have k_4 := ia_n 100000 (by first | decide | omega)
  try have k_5 := ia_n n55 (by first | decide | omega)
  try have k_6 := ia_n k81 (by first | decide | omega)
  try have k_7 := ia_n k136 (by first | decide | omega)
  try have k_8 := ia_n k144 (by first | decide | omega)
  try simp only [ia_lt, ia_le, ia_eq, ia_m1, ia_0, ia_1, ne_eq, true_and, and_true, false_and, and_false, or_false, false_or, or_true, true_or, not_true_eq_false, not_false_eq_true] at *
  all_goals omega
set_option maxRecDepth 20000 in
theorem lf_x_way_37 (knowF : Nat → Int32) (x : Int32) (y : Int32) (n18 : Nat) (y21 : Int32) (n25 : Nat) (n28 : Nat) (kfarG_33 : Nat → Int32) (y37 : Int32) (n41 : Nat) (y44 : Int32) (y51 : Int32) (n55 : Nat) (x80 : Int32) (k81 : Nat) (k83 : Nat) (n91 : Nat) (y94 : Int32) (k106 : Nat) (n110 : Nat) (r113 : Int32) (y115 : Int32) (k124 : Nat) (k136 : Nat) (y153 : Int32) (ab_now : NB knowF) (t3 : 0 ≤ x.toInt) (t4 : x.toInt < (knowF 3).toInt) (t5 : x.toInt ≤ 5) (t10 : 0 ≤ y.toInt) (t11 : y.toInt < (knowF 2).toInt) (t12 : y.toInt ≤ 5) (h19 : n18 < 6) (e20 : y = nI n18) (e22 : y21 = knowF (107 + n18)) (b23 : 0 ≤ y21.toInt) (b24 : y21.toInt ≤ 35) (h26 : n25 < 36) (e27 : y21 = nI n25) (h29 : n28 < 6) (e30 : x = nI n28) (p34 : FB36 kfarG_33) (p35 : FI knowF kfarG_33 n28 n25) (p36 : FX knowF kfarG_33 n28 36 0) (e38 : y37 = knowF (113 + n28)) (b39 : 0 ≤ y37.toInt) (b40 : y37.toInt ≤ 35) (h42 : n41 < 36) (e43 : y37 = nI n41) (e45 : y44 = kfarG_33 n41) (b46 : 0 ≤ y44.toInt) (b47 : y44.toInt ≤ 100000) (c48 : y44 < nI 100000) (f49 : (kfarG_33 n41).toInt < 100000) (hR50 : rankF kfarG_33 (kfarG_33 n41).toInt 36 ≤ 35) (e52 : y51 = kfarG_33 n41) (b53 : 0 ≤ y51.toInt) (b54 : y51.toInt ≤ 100000) (h56 : n55 < 100001) (e57 : y51 = nI n55) (j85 : k81 ≤ 35) (j86 : k83 ≤ 36) (j87 : k81 < 36) (j88 : (kfarG_33 k81).toInt < 100000) (j89 : k83 + rankF kfarG_33 (kfarG_33 k81).toInt 36 ≤ 35) (hm93 : rankF kfarG_33 (kfarG_33 k81).toInt 36 < n91 + 1) (e95 : y94 = knowF (107 + n18)) (b96 : 0 ≤ y94.toInt) (b97 : y94.toInt ≤ 35) (c98 : ¬ nI k81 = y94) (hW99 : ∃ s9, s9 < 4 ∧ fbL knowF kfarG_33 n28 k81 s9 = (kfarG_33 k81).toInt) (j107 : k106 ≤ 4) (j108 : k106 < 4) (hns : ∀ s9, s9 < k106 → ¬ fbL knowF kfarG_33 n28 k81 s9 = (kfarG_33 k81).toInt) (hm112 : 5 - k106 < n110 + 1) (p114 : r113.toInt = fbL knowF kfarG_33 n28 k81 k106 ∧ 0 ≤ r113.toInt ∧ r113.toInt ≤ 100256) (e116 : y115 = kfarG_33 k81) (b117 : 0 ≤ y115.toInt) (b118 : y115.toInt ≤ 100000) (c119 : r113 = y115) (h126 : k124 < 36) (h127 : k124 = bsN (knowF 0).toInt (knowF 1).toInt k81 k106) (hE130 : fbL knowF kfarG_33 n28 k81 k106 = (kfarG_33 k81).toInt) (hG132 : (kfarG_33 k124).toInt < 100000) (hG133 : rankF kfarG_33 (kfarG_33 k124).toInt 36 < rankF kfarG_33 (kfarG_33 k81).toInt 36) (h138 : 1 ≤ k136) (h139 : k136 ≤ 4) (h140 : (k136 : Int) = coL knowF k124) (c141 : ¬ nI k136 ≤ x80) (e154 : y153 = knowF (61 + n28)) : (61 + n28) < 373 := by
  have b_x := ia_b x
  have b_y := ia_b y
  have b_y21 := ia_b y21
  have b_y37 := ia_b y37
  have b_y44 := ia_b y44
  have b_y51 := ia_b y51
  have b_x80 := ia_b x80
  have b_y94 := ia_b y94
  have b_r113 := ia_b r113
  have b_y115 := ia_b y115
  have b_y153 := ia_b y153
  try have k_0 := ia_n n18 (by first | decide | omega)
  try have k_1 := ia_n n25 (by first | decide | omega)
  try have k_2 := ia_n n28 (by first | decide | omega)
  try have k_3 := ia_n n41 (by first | decide | omega)
  try have k_4 := ia_n 100000 (by first | decide | omega)
  try have k_5 := ia_n n55 (by first | decide | omega)
  try have k_6 := ia_n k81 (by first | decide | omega)
  try have k_7 := ia_n k136 (by first | decide | omega)
  try simp only [ia_lt, ia_le, ia_eq, ia_m1, ia_0, ia_1, ne_eq, true_and, and_true, false_and, and_false, or_false, false_or, or_true, true_or, not_true_eq_false, not_false_eq_true] at *
  all_goals omega
set_option maxRecDepth 20000 in
theorem lf_x_way_38 (knowF : Nat → Int32) (x : Int32) (y : Int32) (n18 : Nat) (y21 : Int32) (n25 : Nat) (n28 : Nat) (kfarG_33 : Nat → Int32) (y37 : Int32) (n41 : Nat) (y44 : Int32) (y51 : Int32) (n55 : Nat) (x80 : Int32) (k81 : Nat) (k83 : Nat) (n91 : Nat) (y94 : Int32) (k106 : Nat) (n110 : Nat) (r113 : Int32) (y115 : Int32) (k124 : Nat) (k136 : Nat) (y153 : Int32) (ab_now : NB knowF) (t3 : 0 ≤ x.toInt) (t4 : x.toInt < (knowF 3).toInt) (t5 : x.toInt ≤ 5) (t10 : 0 ≤ y.toInt) (t11 : y.toInt < (knowF 2).toInt) (t12 : y.toInt ≤ 5) (h19 : n18 < 6) (e20 : y = nI n18) (e22 : y21 = knowF (107 + n18)) (b23 : 0 ≤ y21.toInt) (b24 : y21.toInt ≤ 35) (h26 : n25 < 36) (e27 : y21 = nI n25) (h29 : n28 < 6) (e30 : x = nI n28) (p34 : FB36 kfarG_33) (p35 : FI knowF kfarG_33 n28 n25) (p36 : FX knowF kfarG_33 n28 36 0) (e38 : y37 = knowF (113 + n28)) (b39 : 0 ≤ y37.toInt) (b40 : y37.toInt ≤ 35) (h42 : n41 < 36) (e43 : y37 = nI n41) (e45 : y44 = kfarG_33 n41) (b46 : 0 ≤ y44.toInt) (b47 : y44.toInt ≤ 100000) (c48 : y44 < nI 100000) (f49 : (kfarG_33 n41).toInt < 100000) (hR50 : rankF kfarG_33 (kfarG_33 n41).toInt 36 ≤ 35) (e52 : y51 = kfarG_33 n41) (b53 : 0 ≤ y51.toInt) (b54 : y51.toInt ≤ 100000) (h56 : n55 < 100001) (e57 : y51 = nI n55) (j85 : k81 ≤ 35) (j86 : k83 ≤ 36) (j87 : k81 < 36) (j88 : (kfarG_33 k81).toInt < 100000) (j89 : k83 + rankF kfarG_33 (kfarG_33 k81).toInt 36 ≤ 35) (hm93 : rankF kfarG_33 (kfarG_33 k81).toInt 36 < n91 + 1) (e95 : y94 = knowF (107 + n18)) (b96 : 0 ≤ y94.toInt) (b97 : y94.toInt ≤ 35) (c98 : ¬ nI k81 = y94) (hW99 : ∃ s9, s9 < 4 ∧ fbL knowF kfarG_33 n28 k81 s9 = (kfarG_33 k81).toInt) (j107 : k106 ≤ 4) (j108 : k106 < 4) (hns : ∀ s9, s9 < k106 → ¬ fbL knowF kfarG_33 n28 k81 s9 = (kfarG_33 k81).toInt) (hm112 : 5 - k106 < n110 + 1) (p114 : r113.toInt = fbL knowF kfarG_33 n28 k81 k106 ∧ 0 ≤ r113.toInt ∧ r113.toInt ≤ 100256) (e116 : y115 = kfarG_33 k81) (b117 : 0 ≤ y115.toInt) (b118 : y115.toInt ≤ 100000) (c119 : r113 = y115) (h126 : k124 < 36) (h127 : k124 = bsN (knowF 0).toInt (knowF 1).toInt k81 k106) (hE130 : fbL knowF kfarG_33 n28 k81 k106 = (kfarG_33 k81).toInt) (hG132 : (kfarG_33 k124).toInt < 100000) (hG133 : rankF kfarG_33 (kfarG_33 k124).toInt 36 < rankF kfarG_33 (kfarG_33 k81).toInt 36) (h138 : 1 ≤ k136) (h139 : k136 ≤ 4) (h140 : (k136 : Int) = coL knowF k124) (c141 : ¬ nI k136 ≤ x80) (e154 : y153 = knowF (61 + n28)) : (k83 + 1) ≤ 36 := by
  have b_x := ia_b x
  have b_y := ia_b y
  have b_y21 := ia_b y21
  have b_y37 := ia_b y37
  have b_y44 := ia_b y44
  have b_y51 := ia_b y51
  have b_x80 := ia_b x80
  have b_y94 := ia_b y94
  have b_r113 := ia_b r113
  have b_y115 := ia_b y115
  have b_y153 := ia_b y153
  try have k_0 := ia_n n18 (by first | decide | omega)
  try have k_1 := ia_n n25 (by first | decide | omega)
  try have k_2 := ia_n n28 (by first | decide | omega)
  try have k_3 := ia_n n41 (by first | decide | omega)
  try have k_4 := ia_n 100000 (by first | decide | omega)
  try have k_5 := ia_n n55 (by first | decide | omega)
  try have k_6 := ia_n k81 (by first | decide | omega)
  try have k_7 := ia_n k136 (by first | decide | omega)
  try simp only [ia_lt, ia_le, ia_eq, ia_m1, ia_0, ia_1, ne_eq, true_and, and_true, false_and, and_false, or_false, false_or, or_true, true_or, not_true_eq_false, not_false_eq_true] at *
  all_goals omega
set_option maxRecDepth 20000 in
theorem lf_x_way_39 (knowF : Nat → Int32) (x : Int32) (y : Int32) (n18 : Nat) (y21 : Int32) (n25 : Nat) (n28 : Nat) (kfarG_33 : Nat → Int32) (y37 : Int32) (n41 : Nat) (y44 : Int32) (y51 : Int32) (n55 : Nat) (x80 : Int32) (k81 : Nat) (k83 : Nat) (n91 : Nat) (y94 : Int32) (k106 : Nat) (n110 : Nat) (r113 : Int32) (y115 : Int32) (k124 : Nat) (k136 : Nat) (y153 : Int32) (k157 : Nat) (y162 : Int32) (ab_now : NB knowF) (t3 : 0 ≤ x.toInt) (t4 : x.toInt < (knowF 3).toInt) (t5 : x.toInt ≤ 5) (t10 : 0 ≤ y.toInt) (t11 : y.toInt < (knowF 2).toInt) (t12 : y.toInt ≤ 5) (h19 : n18 < 6) (e20 : y = nI n18) (e22 : y21 = knowF (107 + n18)) (b23 : 0 ≤ y21.toInt) (b24 : y21.toInt ≤ 35) (h26 : n25 < 36) (e27 : y21 = nI n25) (h29 : n28 < 6) (e30 : x = nI n28) (p34 : FB36 kfarG_33) (p35 : FI knowF kfarG_33 n28 n25) (p36 : FX knowF kfarG_33 n28 36 0) (e38 : y37 = knowF (113 + n28)) (b39 : 0 ≤ y37.toInt) (b40 : y37.toInt ≤ 35) (h42 : n41 < 36) (e43 : y37 = nI n41) (e45 : y44 = kfarG_33 n41) (b46 : 0 ≤ y44.toInt) (b47 : y44.toInt ≤ 100000) (c48 : y44 < nI 100000) (f49 : (kfarG_33 n41).toInt < 100000) (hR50 : rankF kfarG_33 (kfarG_33 n41).toInt 36 ≤ 35) (e52 : y51 = kfarG_33 n41) (b53 : 0 ≤ y51.toInt) (b54 : y51.toInt ≤ 100000) (h56 : n55 < 100001) (e57 : y51 = nI n55) (j85 : k81 ≤ 35) (j86 : k83 ≤ 36) (j87 : k81 < 36) (j88 : (kfarG_33 k81).toInt < 100000) (j89 : k83 + rankF kfarG_33 (kfarG_33 k81).toInt 36 ≤ 35) (hm93 : rankF kfarG_33 (kfarG_33 k81).toInt 36 < n91 + 1) (e95 : y94 = knowF (107 + n18)) (b96 : 0 ≤ y94.toInt) (b97 : y94.toInt ≤ 35) (c98 : ¬ nI k81 = y94) (hW99 : ∃ s9, s9 < 4 ∧ fbL knowF kfarG_33 n28 k81 s9 = (kfarG_33 k81).toInt) (j107 : k106 ≤ 4) (j108 : k106 < 4) (hns : ∀ s9, s9 < k106 → ¬ fbL knowF kfarG_33 n28 k81 s9 = (kfarG_33 k81).toInt) (hm112 : 5 - k106 < n110 + 1) (p114 : r113.toInt = fbL knowF kfarG_33 n28 k81 k106 ∧ 0 ≤ r113.toInt ∧ r113.toInt ≤ 100256) (e116 : y115 = kfarG_33 k81) (b117 : 0 ≤ y115.toInt) (b118 : y115.toInt ≤ 100000) (c119 : r113 = y115) (h126 : k124 < 36) (h127 : k124 = bsN (knowF 0).toInt (knowF 1).toInt k81 k106) (hE130 : fbL knowF kfarG_33 n28 k81 k106 = (kfarG_33 k81).toInt) (hG132 : (kfarG_33 k124).toInt < 100000) (hG133 : rankF kfarG_33 (kfarG_33 k124).toInt 36 < rankF kfarG_33 (kfarG_33 k81).toInt 36) (h138 : 1 ≤ k136) (h139 : k136 ≤ 4) (h140 : (k136 : Int) = coL knowF k124) (c141 : ¬ nI k136 ≤ x80) (e154 : y153 = knowF (61 + n28)) (h159 : 1 ≤ k157) (h160 : k157 ≤ 4) (h161 : (k157 : Int) = coL knowF k124) (e163 : y162 = y153 - (nI k157)) : k124 ≤ 35 := by
  have b_x := ia_b x
  have b_y := ia_b y
  have b_y21 := ia_b y21
  have b_y37 := ia_b y37
  have b_y44 := ia_b y44
  have b_y51 := ia_b y51
  have b_x80 := ia_b x80
  have b_y94 := ia_b y94
  have b_r113 := ia_b r113
  have b_y115 := ia_b y115
  have b_y153 := ia_b y153
  have b_y162 := ia_b y162
  try have k_0 := ia_n n18 (by first | decide | omega)
  try have k_1 := ia_n n25 (by first | decide | omega)
  try have k_2 := ia_n n28 (by first | decide | omega)
  try have k_3 := ia_n n41 (by first | decide | omega)
  try have k_4 := ia_n 100000 (by first | decide | omega)
  try have k_5 := ia_n n55 (by first | decide | omega)
  try have k_6 := ia_n k81 (by first | decide | omega)
  try have k_7 := ia_n k136 (by first | decide | omega)
  try have k_8 := ia_n k157 (by first | decide | omega)
  try simp only [ia_lt, ia_le, ia_eq, ia_m1, ia_0, ia_1, ne_eq, true_and, and_true, false_and, and_false, or_false, false_or, or_true, true_or, not_true_eq_false, not_false_eq_true] at *
  all_goals omega
set_option maxRecDepth 20000 in
theorem lf_x_way_40 (knowF : Nat → Int32) (x : Int32) (y : Int32) (n18 : Nat) (y21 : Int32) (n25 : Nat) (n28 : Nat) (kfarG_33 : Nat → Int32) (y37 : Int32) (n41 : Nat) (y44 : Int32) (y51 : Int32) (n55 : Nat) (x80 : Int32) (k81 : Nat) (k83 : Nat) (n91 : Nat) (y94 : Int32) (k106 : Nat) (n110 : Nat) (r113 : Int32) (y115 : Int32) (k124 : Nat) (k136 : Nat) (y153 : Int32) (k157 : Nat) (y162 : Int32) (ab_now : NB knowF) (t3 : 0 ≤ x.toInt) (t4 : x.toInt < (knowF 3).toInt) (t5 : x.toInt ≤ 5) (t10 : 0 ≤ y.toInt) (t11 : y.toInt < (knowF 2).toInt) (t12 : y.toInt ≤ 5) (h19 : n18 < 6) (e20 : y = nI n18) (e22 : y21 = knowF (107 + n18)) (b23 : 0 ≤ y21.toInt) (b24 : y21.toInt ≤ 35) (h26 : n25 < 36) (e27 : y21 = nI n25) (h29 : n28 < 6) (e30 : x = nI n28) (p34 : FB36 kfarG_33) (p35 : FI knowF kfarG_33 n28 n25) (p36 : FX knowF kfarG_33 n28 36 0) (e38 : y37 = knowF (113 + n28)) (b39 : 0 ≤ y37.toInt) (b40 : y37.toInt ≤ 35) (h42 : n41 < 36) (e43 : y37 = nI n41) (e45 : y44 = kfarG_33 n41) (b46 : 0 ≤ y44.toInt) (b47 : y44.toInt ≤ 100000) (c48 : y44 < nI 100000) (f49 : (kfarG_33 n41).toInt < 100000) (hR50 : rankF kfarG_33 (kfarG_33 n41).toInt 36 ≤ 35) (e52 : y51 = kfarG_33 n41) (b53 : 0 ≤ y51.toInt) (b54 : y51.toInt ≤ 100000) (h56 : n55 < 100001) (e57 : y51 = nI n55) (j85 : k81 ≤ 35) (j86 : k83 ≤ 36) (j87 : k81 < 36) (j88 : (kfarG_33 k81).toInt < 100000) (j89 : k83 + rankF kfarG_33 (kfarG_33 k81).toInt 36 ≤ 35) (hm93 : rankF kfarG_33 (kfarG_33 k81).toInt 36 < n91 + 1) (e95 : y94 = knowF (107 + n18)) (b96 : 0 ≤ y94.toInt) (b97 : y94.toInt ≤ 35) (c98 : ¬ nI k81 = y94) (hW99 : ∃ s9, s9 < 4 ∧ fbL knowF kfarG_33 n28 k81 s9 = (kfarG_33 k81).toInt) (j107 : k106 ≤ 4) (j108 : k106 < 4) (hns : ∀ s9, s9 < k106 → ¬ fbL knowF kfarG_33 n28 k81 s9 = (kfarG_33 k81).toInt) (hm112 : 5 - k106 < n110 + 1) (p114 : r113.toInt = fbL knowF kfarG_33 n28 k81 k106 ∧ 0 ≤ r113.toInt ∧ r113.toInt ≤ 100256) (e116 : y115 = kfarG_33 k81) (b117 : 0 ≤ y115.toInt) (b118 : y115.toInt ≤ 100000) (c119 : r113 = y115) (h126 : k124 < 36) (h127 : k124 = bsN (knowF 0).toInt (knowF 1).toInt k81 k106) (hE130 : fbL knowF kfarG_33 n28 k81 k106 = (kfarG_33 k81).toInt) (hG132 : (kfarG_33 k124).toInt < 100000) (hG133 : rankF kfarG_33 (kfarG_33 k124).toInt 36 < rankF kfarG_33 (kfarG_33 k81).toInt 36) (h138 : 1 ≤ k136) (h139 : k136 ≤ 4) (h140 : (k136 : Int) = coL knowF k124) (c141 : ¬ nI k136 ≤ x80) (e154 : y153 = knowF (61 + n28)) (h159 : 1 ≤ k157) (h160 : k157 ≤ 4) (h161 : (k157 : Int) = coL knowF k124) (e163 : y162 = y153 - (nI k157)) : (k83 + 1) ≤ 36 := by
  have b_x := ia_b x
  have b_y := ia_b y
  have b_y21 := ia_b y21
  have b_y37 := ia_b y37
  have b_y44 := ia_b y44
  have b_y51 := ia_b y51
  have b_x80 := ia_b x80
  have b_y94 := ia_b y94
  have b_r113 := ia_b r113
  have b_y115 := ia_b y115
  have b_y153 := ia_b y153
  have b_y162 := ia_b y162
  try have k_0 := ia_n n18 (by first | decide | omega)
  try have k_1 := ia_n n25 (by first | decide | omega)
  try have k_2 := ia_n n28 (by first | decide | omega)
  try have k_3 := ia_n n41 (by first | decide | omega)
  try have k_4 := ia_n 100000 (by first | decide | omega)
  try have k_5 := ia_n n55 (by first | decide | omega)
  try have k_6 := ia_n k81 (by first | decide | omega)
  try have k_7 := ia_n k136 (by first | decide | omega)
  try have k_8 := ia_n k157 (by first | decide | omega)
  try simp only [ia_lt, ia_le, ia_eq, ia_m1, ia_0, ia_1, ne_eq, true_and, and_true, false_and, and_false, or_false, false_or, or_true, true_or, not_true_eq_false, not_false_eq_true] at *
  all_goals omega
set_option maxRecDepth 20000 in
theorem lf_x_way_41 (knowF : Nat → Int32) (x : Int32) (y : Int32) (n18 : Nat) (y21 : Int32) (n25 : Nat) (n28 : Nat) (kfarG_33 : Nat → Int32) (y37 : Int32) (n41 : Nat) (y44 : Int32) (y51 : Int32) (n55 : Nat) (x80 : Int32) (k81 : Nat) (k83 : Nat) (n91 : Nat) (y94 : Int32) (k106 : Nat) (n110 : Nat) (r113 : Int32) (y115 : Int32) (k124 : Nat) (k136 : Nat) (y153 : Int32) (k157 : Nat) (y162 : Int32) (ab_now : NB knowF) (t3 : 0 ≤ x.toInt) (t4 : x.toInt < (knowF 3).toInt) (t5 : x.toInt ≤ 5) (t10 : 0 ≤ y.toInt) (t11 : y.toInt < (knowF 2).toInt) (t12 : y.toInt ≤ 5) (h19 : n18 < 6) (e20 : y = nI n18) (e22 : y21 = knowF (107 + n18)) (b23 : 0 ≤ y21.toInt) (b24 : y21.toInt ≤ 35) (h26 : n25 < 36) (e27 : y21 = nI n25) (h29 : n28 < 6) (e30 : x = nI n28) (p34 : FB36 kfarG_33) (p35 : FI knowF kfarG_33 n28 n25) (p36 : FX knowF kfarG_33 n28 36 0) (e38 : y37 = knowF (113 + n28)) (b39 : 0 ≤ y37.toInt) (b40 : y37.toInt ≤ 35) (h42 : n41 < 36) (e43 : y37 = nI n41) (e45 : y44 = kfarG_33 n41) (b46 : 0 ≤ y44.toInt) (b47 : y44.toInt ≤ 100000) (c48 : y44 < nI 100000) (f49 : (kfarG_33 n41).toInt < 100000) (hR50 : rankF kfarG_33 (kfarG_33 n41).toInt 36 ≤ 35) (e52 : y51 = kfarG_33 n41) (b53 : 0 ≤ y51.toInt) (b54 : y51.toInt ≤ 100000) (h56 : n55 < 100001) (e57 : y51 = nI n55) (j85 : k81 ≤ 35) (j86 : k83 ≤ 36) (j87 : k81 < 36) (j88 : (kfarG_33 k81).toInt < 100000) (j89 : k83 + rankF kfarG_33 (kfarG_33 k81).toInt 36 ≤ 35) (hm93 : rankF kfarG_33 (kfarG_33 k81).toInt 36 < n91 + 1) (e95 : y94 = knowF (107 + n18)) (b96 : 0 ≤ y94.toInt) (b97 : y94.toInt ≤ 35) (c98 : ¬ nI k81 = y94) (hW99 : ∃ s9, s9 < 4 ∧ fbL knowF kfarG_33 n28 k81 s9 = (kfarG_33 k81).toInt) (j107 : k106 ≤ 4) (j108 : k106 < 4) (hns : ∀ s9, s9 < k106 → ¬ fbL knowF kfarG_33 n28 k81 s9 = (kfarG_33 k81).toInt) (hm112 : 5 - k106 < n110 + 1) (p114 : r113.toInt = fbL knowF kfarG_33 n28 k81 k106 ∧ 0 ≤ r113.toInt ∧ r113.toInt ≤ 100256) (e116 : y115 = kfarG_33 k81) (b117 : 0 ≤ y115.toInt) (b118 : y115.toInt ≤ 100000) (c119 : r113 = y115) (h126 : k124 < 36) (h127 : k124 = bsN (knowF 0).toInt (knowF 1).toInt k81 k106) (hE130 : fbL knowF kfarG_33 n28 k81 k106 = (kfarG_33 k81).toInt) (hG132 : (kfarG_33 k124).toInt < 100000) (hG133 : rankF kfarG_33 (kfarG_33 k124).toInt 36 < rankF kfarG_33 (kfarG_33 k81).toInt 36) (h138 : 1 ≤ k136) (h139 : k136 ≤ 4) (h140 : (k136 : Int) = coL knowF k124) (c141 : ¬ nI k136 ≤ x80) (e154 : y153 = knowF (61 + n28)) (h159 : 1 ≤ k157) (h160 : k157 ≤ 4) (h161 : (k157 : Int) = coL knowF k124) (e163 : y162 = y153 - (nI k157)) : (k83 + 1) + rankF kfarG_33 (kfarG_33 k124).toInt 36 ≤ 35 := by
  have b_x := ia_b x
  have b_y := ia_b y
  have b_y21 := ia_b y21
  have b_y37 := ia_b y37
  have b_y44 := ia_b y44
  have b_y51 := ia_b y51
  have b_x80 := ia_b x80
  have b_y94 := ia_b y94
  have b_r113 := ia_b r113
  have b_y115 := ia_b y115
  have b_y153 := ia_b y153
  have b_y162 := ia_b y162
  try have k_0 := ia_n n18 (by first | decide | omega)
  try have k_1 := ia_n n25 (by first | decide | omega)
  try have k_2 := ia_n n28 (by first | decide | omega)
  try have k_3 := ia_n n41 (by first | decide | omega)
  try have k_4 := ia_n 100000 (by first | decide | omega)
  try have k_5 := ia_n n55 (by first | decide | omega)
  try have k_6 := ia_n k81 (by first | decide | omega)
  try have k_7 := ia_n k136 (by first | decide | omega)
  try have k_8 := ia_n k157 (by first | decide | omega)
  try simp only [ia_lt, ia_le, ia_eq, ia_m1, ia_0, ia_1, ne_eq, true_and, and_true, false_and, and_false, or_false, false_or, or_true, true_or, not_true_eq_false, not_false_eq_true] at *
  all_goals omega
set_option maxRecDepth 20000 in
theorem lf_x_way_42 (knowF : Nat → Int32) (x : Int32) (y : Int32) (n18 : Nat) (y21 : Int32) (n25 : Nat) (n28 : Nat) (kfarG_33 : Nat → Int32) (y37 : Int32) (n41 : Nat) (y44 : Int32) (y51 : Int32) (n55 : Nat) (x80 : Int32) (k81 : Nat) (k83 : Nat) (n91 : Nat) (y94 : Int32) (k106 : Nat) (n110 : Nat) (r113 : Int32) (y115 : Int32) (k124 : Nat) (k136 : Nat) (y153 : Int32) (k157 : Nat) (y162 : Int32) (ab_now : NB knowF) (t3 : 0 ≤ x.toInt) (t4 : x.toInt < (knowF 3).toInt) (t5 : x.toInt ≤ 5) (t10 : 0 ≤ y.toInt) (t11 : y.toInt < (knowF 2).toInt) (t12 : y.toInt ≤ 5) (h19 : n18 < 6) (e20 : y = nI n18) (e22 : y21 = knowF (107 + n18)) (b23 : 0 ≤ y21.toInt) (b24 : y21.toInt ≤ 35) (h26 : n25 < 36) (e27 : y21 = nI n25) (h29 : n28 < 6) (e30 : x = nI n28) (p34 : FB36 kfarG_33) (p35 : FI knowF kfarG_33 n28 n25) (p36 : FX knowF kfarG_33 n28 36 0) (e38 : y37 = knowF (113 + n28)) (b39 : 0 ≤ y37.toInt) (b40 : y37.toInt ≤ 35) (h42 : n41 < 36) (e43 : y37 = nI n41) (e45 : y44 = kfarG_33 n41) (b46 : 0 ≤ y44.toInt) (b47 : y44.toInt ≤ 100000) (c48 : y44 < nI 100000) (f49 : (kfarG_33 n41).toInt < 100000) (hR50 : rankF kfarG_33 (kfarG_33 n41).toInt 36 ≤ 35) (e52 : y51 = kfarG_33 n41) (b53 : 0 ≤ y51.toInt) (b54 : y51.toInt ≤ 100000) (h56 : n55 < 100001) (e57 : y51 = nI n55) (j85 : k81 ≤ 35) (j86 : k83 ≤ 36) (j87 : k81 < 36) (j88 : (kfarG_33 k81).toInt < 100000) (j89 : k83 + rankF kfarG_33 (kfarG_33 k81).toInt 36 ≤ 35) (hm93 : rankF kfarG_33 (kfarG_33 k81).toInt 36 < n91 + 1) (e95 : y94 = knowF (107 + n18)) (b96 : 0 ≤ y94.toInt) (b97 : y94.toInt ≤ 35) (c98 : ¬ nI k81 = y94) (hW99 : ∃ s9, s9 < 4 ∧ fbL knowF kfarG_33 n28 k81 s9 = (kfarG_33 k81).toInt) (j107 : k106 ≤ 4) (j108 : k106 < 4) (hns : ∀ s9, s9 < k106 → ¬ fbL knowF kfarG_33 n28 k81 s9 = (kfarG_33 k81).toInt) (hm112 : 5 - k106 < n110 + 1) (p114 : r113.toInt = fbL knowF kfarG_33 n28 k81 k106 ∧ 0 ≤ r113.toInt ∧ r113.toInt ≤ 100256) (e116 : y115 = kfarG_33 k81) (b117 : 0 ≤ y115.toInt) (b118 : y115.toInt ≤ 100000) (c119 : r113 = y115) (h126 : k124 < 36) (h127 : k124 = bsN (knowF 0).toInt (knowF 1).toInt k81 k106) (hE130 : fbL knowF kfarG_33 n28 k81 k106 = (kfarG_33 k81).toInt) (hG132 : (kfarG_33 k124).toInt < 100000) (hG133 : rankF kfarG_33 (kfarG_33 k124).toInt 36 < rankF kfarG_33 (kfarG_33 k81).toInt 36) (h138 : 1 ≤ k136) (h139 : k136 ≤ 4) (h140 : (k136 : Int) = coL knowF k124) (c141 : ¬ nI k136 ≤ x80) (e154 : y153 = knowF (61 + n28)) (h159 : 1 ≤ k157) (h160 : k157 ≤ 4) (h161 : (k157 : Int) = coL knowF k124) (e163 : y162 = y153 - (nI k157)) : rankF kfarG_33 (kfarG_33 k124).toInt 36 < n91 := by
  have b_x := ia_b x
  have b_y := ia_b y
  have b_y21 := ia_b y21
  have b_y37 := ia_b y37
  have b_y44 := ia_b y44
  have b_y51 := ia_b y51
  have b_x80 := ia_b x80
  have b_y94 := ia_b y94
  have b_r113 := ia_b r113
  have b_y115 := ia_b y115
  have b_y153 := ia_b y153
  have b_y162 := ia_b y162
  try have k_0 := ia_n n18 (by first | decide | omega)
  try have k_1 := ia_n n25 (by first | decide | omega)
  try have k_2 := ia_n n28 (by first | decide | omega)
  try have k_3 := ia_n n41 (by first | decide | omega)
  try have k_4 := ia_n 100000 (by first | decide | omega)
  try have k_5 := ia_n n55 (by first | decide | omega)
  try have k_6 := ia_n k81 (by first | decide | omega)
  try have k_7 := ia_n k136 (by first | decide | omega)
  try have k_8 := ia_n k157 (by first | decide | omega)
  try simp only [ia_lt, ia_le, ia_eq, ia_m1, ia_0, ia_1, ne_eq, true_and, and_true, false_and, and_false, or_false, false_or, or_true, true_or, not_true_eq_false, not_false_eq_true] at *
  all_goals omega
set_option maxRecDepth 20000 in
theorem lf_x_way_43 (knowF : Nat → Int32) (x : Int32) (y : Int32) (n18 : Nat) (y21 : Int32) (n25 : Nat) (n28 : Nat) (kfarG_33 : Nat → Int32) (y37 : Int32) (n41 : Nat) (y44 : Int32) (y51 : Int32) (n55 : Nat) (k81 : Nat) (k83 : Nat) (n91 : Nat) (y94 : Int32) (k106 : Nat) (n110 : Nat) (r113 : Int32) (y115 : Int32) (ab_now : NB knowF) (t3 : 0 ≤ x.toInt) (t4 : x.toInt < (knowF 3).toInt) (t5 : x.toInt ≤ 5) (t10 : 0 ≤ y.toInt) (t11 : y.toInt < (knowF 2).toInt) (t12 : y.toInt ≤ 5) (h19 : n18 < 6) (e20 : y = nI n18) (e22 : y21 = knowF (107 + n18)) (b23 : 0 ≤ y21.toInt) (b24 : y21.toInt ≤ 35) (h26 : n25 < 36) (e27 : y21 = nI n25) (h29 : n28 < 6) (e30 : x = nI n28) (p34 : FB36 kfarG_33) (p35 : FI knowF kfarG_33 n28 n25) (p36 : FX knowF kfarG_33 n28 36 0) (e38 : y37 = knowF (113 + n28)) (b39 : 0 ≤ y37.toInt) (b40 : y37.toInt ≤ 35) (h42 : n41 < 36) (e43 : y37 = nI n41) (e45 : y44 = kfarG_33 n41) (b46 : 0 ≤ y44.toInt) (b47 : y44.toInt ≤ 100000) (c48 : y44 < nI 100000) (f49 : (kfarG_33 n41).toInt < 100000) (hR50 : rankF kfarG_33 (kfarG_33 n41).toInt 36 ≤ 35) (e52 : y51 = kfarG_33 n41) (b53 : 0 ≤ y51.toInt) (b54 : y51.toInt ≤ 100000) (h56 : n55 < 100001) (e57 : y51 = nI n55) (j85 : k81 ≤ 35) (j86 : k83 ≤ 36) (j87 : k81 < 36) (j88 : (kfarG_33 k81).toInt < 100000) (j89 : k83 + rankF kfarG_33 (kfarG_33 k81).toInt 36 ≤ 35) (hm93 : rankF kfarG_33 (kfarG_33 k81).toInt 36 < n91 + 1) (e95 : y94 = knowF (107 + n18)) (b96 : 0 ≤ y94.toInt) (b97 : y94.toInt ≤ 35) (c98 : ¬ nI k81 = y94) (hW99 : ∃ s9, s9 < 4 ∧ fbL knowF kfarG_33 n28 k81 s9 = (kfarG_33 k81).toInt) (j107 : k106 ≤ 4) (j108 : k106 < 4) (hns : ∀ s9, s9 < k106 → ¬ fbL knowF kfarG_33 n28 k81 s9 = (kfarG_33 k81).toInt) (hm112 : 5 - k106 < n110 + 1) (p114 : r113.toInt = fbL knowF kfarG_33 n28 k81 k106 ∧ 0 ≤ r113.toInt ∧ r113.toInt ≤ 100256) (e116 : y115 = kfarG_33 k81) (b117 : 0 ≤ y115.toInt) (b118 : y115.toInt ≤ 100000) (c119 : ¬ r113 = y115) : (k106 + 1) ≤ 4 := by
  have b_x := ia_b x
  have b_y := ia_b y
  have b_y21 := ia_b y21
  have b_y37 := ia_b y37
  have b_y44 := ia_b y44
  have b_y51 := ia_b y51
  have b_y94 := ia_b y94
  have b_r113 := ia_b r113
  have b_y115 := ia_b y115
  try have k_0 := ia_n n18 (by first | decide | omega)
  try have k_1 := ia_n n25 (by first | decide | omega)
  try have k_2 := ia_n n28 (by first | decide | omega)
  try have k_3 := ia_n n41 (by first | decide | omega)
  try have k_4 := ia_n 100000 (by first | decide | omega)
  try have k_5 := ia_n n55 (by first | decide | omega)
  try have k_6 := ia_n k81 (by first | decide | omega)
  try simp only [ia_lt, ia_le, ia_eq, ia_m1, ia_0, ia_1, ne_eq, true_and, and_true, false_and, and_false, or_false, false_or, or_true, true_or, not_true_eq_false, not_false_eq_true] at *
  all_goals omega
set_option maxRecDepth 20000 in
theorem lf_x_way_44 (knowF : Nat → Int32) (x : Int32) (y : Int32) (n18 : Nat) (y21 : Int32) (n25 : Nat) (n28 : Nat) (kfarG_33 : Nat → Int32) (y37 : Int32) (n41 : Nat) (y44 : Int32) (y51 : Int32) (n55 : Nat) (k81 : Nat) (k83 : Nat) (n91 : Nat) (y94 : Int32) (k106 : Nat) (n110 : Nat) (r113 : Int32) (y115 : Int32) (ab_now : NB knowF) (t3 : 0 ≤ x.toInt) (t4 : x.toInt < (knowF 3).toInt) (t5 : x.toInt ≤ 5) (t10 : 0 ≤ y.toInt) (t11 : y.toInt < (knowF 2).toInt) (t12 : y.toInt ≤ 5) (h19 : n18 < 6) (e20 : y = nI n18) (e22 : y21 = knowF (107 + n18)) (b23 : 0 ≤ y21.toInt) (b24 : y21.toInt ≤ 35) (h26 : n25 < 36) (e27 : y21 = nI n25) (h29 : n28 < 6) (e30 : x = nI n28) (p34 : FB36 kfarG_33) (p35 : FI knowF kfarG_33 n28 n25) (p36 : FX knowF kfarG_33 n28 36 0) (e38 : y37 = knowF (113 + n28)) (b39 : 0 ≤ y37.toInt) (b40 : y37.toInt ≤ 35) (h42 : n41 < 36) (e43 : y37 = nI n41) (e45 : y44 = kfarG_33 n41) (b46 : 0 ≤ y44.toInt) (b47 : y44.toInt ≤ 100000) (c48 : y44 < nI 100000) (f49 : (kfarG_33 n41).toInt < 100000) (hR50 : rankF kfarG_33 (kfarG_33 n41).toInt 36 ≤ 35) (e52 : y51 = kfarG_33 n41) (b53 : 0 ≤ y51.toInt) (b54 : y51.toInt ≤ 100000) (h56 : n55 < 100001) (e57 : y51 = nI n55) (j85 : k81 ≤ 35) (j86 : k83 ≤ 36) (j87 : k81 < 36) (j88 : (kfarG_33 k81).toInt < 100000) (j89 : k83 + rankF kfarG_33 (kfarG_33 k81).toInt 36 ≤ 35) (hm93 : rankF kfarG_33 (kfarG_33 k81).toInt 36 < n91 + 1) (e95 : y94 = knowF (107 + n18)) (b96 : 0 ≤ y94.toInt) (b97 : y94.toInt ≤ 35) (c98 : ¬ nI k81 = y94) (hW99 : ∃ s9, s9 < 4 ∧ fbL knowF kfarG_33 n28 k81 s9 = (kfarG_33 k81).toInt) (j107 : k106 ≤ 4) (j108 : k106 < 4) (hns : ∀ s9, s9 < k106 → ¬ fbL knowF kfarG_33 n28 k81 s9 = (kfarG_33 k81).toInt) (hm112 : 5 - k106 < n110 + 1) (p114 : r113.toInt = fbL knowF kfarG_33 n28 k81 k106 ∧ 0 ≤ r113.toInt ∧ r113.toInt ≤ 100256) (e116 : y115 = kfarG_33 k81) (b117 : 0 ≤ y115.toInt) (b118 : y115.toInt ≤ 100000) (c119 : ¬ r113 = y115) : (k106 + 1) < 4 := by
  exact way_next hW99 hns (fun q => c119 (Int32.toInt_inj.mp (by rw [p114.1, e116]; exact q)))
set_option maxRecDepth 20000 in
theorem lf_x_way_45 (knowF : Nat → Int32) (x : Int32) (y : Int32) (n18 : Nat) (y21 : Int32) (n25 : Nat) (n28 : Nat) (kfarG_33 : Nat → Int32) (y37 : Int32) (n41 : Nat) (y44 : Int32) (y51 : Int32) (n55 : Nat) (k81 : Nat) (k83 : Nat) (n91 : Nat) (y94 : Int32) (k106 : Nat) (n110 : Nat) (r113 : Int32) (y115 : Int32) (ab_now : NB knowF) (t3 : 0 ≤ x.toInt) (t4 : x.toInt < (knowF 3).toInt) (t5 : x.toInt ≤ 5) (t10 : 0 ≤ y.toInt) (t11 : y.toInt < (knowF 2).toInt) (t12 : y.toInt ≤ 5) (h19 : n18 < 6) (e20 : y = nI n18) (e22 : y21 = knowF (107 + n18)) (b23 : 0 ≤ y21.toInt) (b24 : y21.toInt ≤ 35) (h26 : n25 < 36) (e27 : y21 = nI n25) (h29 : n28 < 6) (e30 : x = nI n28) (p34 : FB36 kfarG_33) (p35 : FI knowF kfarG_33 n28 n25) (p36 : FX knowF kfarG_33 n28 36 0) (e38 : y37 = knowF (113 + n28)) (b39 : 0 ≤ y37.toInt) (b40 : y37.toInt ≤ 35) (h42 : n41 < 36) (e43 : y37 = nI n41) (e45 : y44 = kfarG_33 n41) (b46 : 0 ≤ y44.toInt) (b47 : y44.toInt ≤ 100000) (c48 : y44 < nI 100000) (f49 : (kfarG_33 n41).toInt < 100000) (hR50 : rankF kfarG_33 (kfarG_33 n41).toInt 36 ≤ 35) (e52 : y51 = kfarG_33 n41) (b53 : 0 ≤ y51.toInt) (b54 : y51.toInt ≤ 100000) (h56 : n55 < 100001) (e57 : y51 = nI n55) (j85 : k81 ≤ 35) (j86 : k83 ≤ 36) (j87 : k81 < 36) (j88 : (kfarG_33 k81).toInt < 100000) (j89 : k83 + rankF kfarG_33 (kfarG_33 k81).toInt 36 ≤ 35) (hm93 : rankF kfarG_33 (kfarG_33 k81).toInt 36 < n91 + 1) (e95 : y94 = knowF (107 + n18)) (b96 : 0 ≤ y94.toInt) (b97 : y94.toInt ≤ 35) (c98 : ¬ nI k81 = y94) (hW99 : ∃ s9, s9 < 4 ∧ fbL knowF kfarG_33 n28 k81 s9 = (kfarG_33 k81).toInt) (j107 : k106 ≤ 4) (j108 : k106 < 4) (hns : ∀ s9, s9 < k106 → ¬ fbL knowF kfarG_33 n28 k81 s9 = (kfarG_33 k81).toInt) (hm112 : 5 - k106 < n110 + 1) (p114 : r113.toInt = fbL knowF kfarG_33 n28 k81 k106 ∧ 0 ≤ r113.toInt ∧ r113.toInt ≤ 100256) (e116 : y115 = kfarG_33 k81) (b117 : 0 ≤ y115.toInt) (b118 : y115.toInt ≤ 100000) (c119 : ¬ r113 = y115) : ∀ s9, s9 < (k106 + 1) → ¬ fbL knowF kfarG_33 n28 k81 s9 = (kfarG_33 k81).toInt := by
  intro s9 hs9
  by_cases h9 : s9 = k106
  · rw [h9, ← p114.1, ← e116]
    exact fun q => c119 (Int32.toInt_inj.mp q)
  · exact hns s9 (by omega)
set_option maxRecDepth 20000 in
theorem lf_x_way_46 (knowF : Nat → Int32) (x : Int32) (y : Int32) (n18 : Nat) (y21 : Int32) (n25 : Nat) (n28 : Nat) (kfarG_33 : Nat → Int32) (y37 : Int32) (n41 : Nat) (y44 : Int32) (y51 : Int32) (n55 : Nat) (k81 : Nat) (k83 : Nat) (n91 : Nat) (y94 : Int32) (k106 : Nat) (n110 : Nat) (r113 : Int32) (y115 : Int32) (ab_now : NB knowF) (t3 : 0 ≤ x.toInt) (t4 : x.toInt < (knowF 3).toInt) (t5 : x.toInt ≤ 5) (t10 : 0 ≤ y.toInt) (t11 : y.toInt < (knowF 2).toInt) (t12 : y.toInt ≤ 5) (h19 : n18 < 6) (e20 : y = nI n18) (e22 : y21 = knowF (107 + n18)) (b23 : 0 ≤ y21.toInt) (b24 : y21.toInt ≤ 35) (h26 : n25 < 36) (e27 : y21 = nI n25) (h29 : n28 < 6) (e30 : x = nI n28) (p34 : FB36 kfarG_33) (p35 : FI knowF kfarG_33 n28 n25) (p36 : FX knowF kfarG_33 n28 36 0) (e38 : y37 = knowF (113 + n28)) (b39 : 0 ≤ y37.toInt) (b40 : y37.toInt ≤ 35) (h42 : n41 < 36) (e43 : y37 = nI n41) (e45 : y44 = kfarG_33 n41) (b46 : 0 ≤ y44.toInt) (b47 : y44.toInt ≤ 100000) (c48 : y44 < nI 100000) (f49 : (kfarG_33 n41).toInt < 100000) (hR50 : rankF kfarG_33 (kfarG_33 n41).toInt 36 ≤ 35) (e52 : y51 = kfarG_33 n41) (b53 : 0 ≤ y51.toInt) (b54 : y51.toInt ≤ 100000) (h56 : n55 < 100001) (e57 : y51 = nI n55) (j85 : k81 ≤ 35) (j86 : k83 ≤ 36) (j87 : k81 < 36) (j88 : (kfarG_33 k81).toInt < 100000) (j89 : k83 + rankF kfarG_33 (kfarG_33 k81).toInt 36 ≤ 35) (hm93 : rankF kfarG_33 (kfarG_33 k81).toInt 36 < n91 + 1) (e95 : y94 = knowF (107 + n18)) (b96 : 0 ≤ y94.toInt) (b97 : y94.toInt ≤ 35) (c98 : ¬ nI k81 = y94) (hW99 : ∃ s9, s9 < 4 ∧ fbL knowF kfarG_33 n28 k81 s9 = (kfarG_33 k81).toInt) (j107 : k106 ≤ 4) (j108 : k106 < 4) (hns : ∀ s9, s9 < k106 → ¬ fbL knowF kfarG_33 n28 k81 s9 = (kfarG_33 k81).toInt) (hm112 : 5 - k106 < n110 + 1) (p114 : r113.toInt = fbL knowF kfarG_33 n28 k81 k106 ∧ 0 ≤ r113.toInt ∧ r113.toInt ≤ 100256) (e116 : y115 = kfarG_33 k81) (b117 : 0 ≤ y115.toInt) (b118 : y115.toInt ≤ 100000) (c119 : ¬ r113 = y115) : 5 - (k106 + 1) < n110 := by
  have b_x := ia_b x
  have b_y := ia_b y
  have b_y21 := ia_b y21
  have b_y37 := ia_b y37
  have b_y44 := ia_b y44
  have b_y51 := ia_b y51
  have b_y94 := ia_b y94
  have b_r113 := ia_b r113
  have b_y115 := ia_b y115
  try have k_0 := ia_n n18 (by first | decide | omega)
  try have k_1 := ia_n n25 (by first | decide | omega)
  try have k_2 := ia_n n28 (by first | decide | omega)
  try have k_3 := ia_n n41 (by first | decide | omega)
  try have k_4 := ia_n 100000 (by first | decide | omega)
  try have k_5 := ia_n n55 (by first | decide | omega)
  try have k_6 := ia_n k81 (by first | decide | omega)
  try simp only [ia_lt, ia_le, ia_eq, ia_m1, ia_0, ia_1, ne_eq, true_and, and_true, false_and, and_false, or_false, false_or, or_true, true_or, not_true_eq_false, not_false_eq_true] at *
  all_goals omega
set_option maxRecDepth 20000 in
theorem lf_x_way_47   : 0 ≤ 4 := by
  try simp only [ia_lt, ia_le, ia_eq, ia_m1, ia_0, ia_1, ne_eq, true_and, and_true, false_and, and_false, or_false, false_or, or_true, true_or, not_true_eq_false, not_false_eq_true] at *
  all_goals omega
set_option maxRecDepth 20000 in
theorem lf_x_way_48   : 0 < 4 := by
  omega
set_option maxRecDepth 20000 in
theorem lf_x_way_49 (knowF : Nat → Int32) (x : Int32) (y : Int32) (n18 : Nat) (y21 : Int32) (n25 : Nat) (n28 : Nat) (kfarG_33 : Nat → Int32) (y37 : Int32) (n41 : Nat) (y44 : Int32) (y51 : Int32) (n55 : Nat) (k81 : Nat) (k83 : Nat) (n91 : Nat) (y94 : Int32) (ab_now : NB knowF) (t3 : 0 ≤ x.toInt) (t4 : x.toInt < (knowF 3).toInt) (t5 : x.toInt ≤ 5) (t10 : 0 ≤ y.toInt) (t11 : y.toInt < (knowF 2).toInt) (t12 : y.toInt ≤ 5) (h19 : n18 < 6) (e20 : y = nI n18) (e22 : y21 = knowF (107 + n18)) (b23 : 0 ≤ y21.toInt) (b24 : y21.toInt ≤ 35) (h26 : n25 < 36) (e27 : y21 = nI n25) (h29 : n28 < 6) (e30 : x = nI n28) (p34 : FB36 kfarG_33) (p35 : FI knowF kfarG_33 n28 n25) (p36 : FX knowF kfarG_33 n28 36 0) (e38 : y37 = knowF (113 + n28)) (b39 : 0 ≤ y37.toInt) (b40 : y37.toInt ≤ 35) (h42 : n41 < 36) (e43 : y37 = nI n41) (e45 : y44 = kfarG_33 n41) (b46 : 0 ≤ y44.toInt) (b47 : y44.toInt ≤ 100000) (c48 : y44 < nI 100000) (f49 : (kfarG_33 n41).toInt < 100000) (hR50 : rankF kfarG_33 (kfarG_33 n41).toInt 36 ≤ 35) (e52 : y51 = kfarG_33 n41) (b53 : 0 ≤ y51.toInt) (b54 : y51.toInt ≤ 100000) (h56 : n55 < 100001) (e57 : y51 = nI n55) (j85 : k81 ≤ 35) (j86 : k83 ≤ 36) (j87 : k81 < 36) (j88 : (kfarG_33 k81).toInt < 100000) (j89 : k83 + rankF kfarG_33 (kfarG_33 k81).toInt 36 ≤ 35) (hm93 : rankF kfarG_33 (kfarG_33 k81).toInt 36 < n91 + 1) (e95 : y94 = knowF (107 + n18)) (b96 : 0 ≤ y94.toInt) (b97 : y94.toInt ≤ 35) (c98 : ¬ nI k81 = y94) (hW99 : ∃ s9, s9 < 4 ∧ fbL knowF kfarG_33 n28 k81 s9 = (kfarG_33 k81).toInt) : ∀ s9, s9 < 0 → ¬ fbL knowF kfarG_33 n28 k81 s9 = (kfarG_33 k81).toInt := by
  intro s9 hs9
  omega
set_option maxRecDepth 20000 in
theorem lf_x_way_50 (knowF : Nat → Int32) (x : Int32) (y : Int32) (n18 : Nat) (y21 : Int32) (n25 : Nat) (n28 : Nat) (kfarG_33 : Nat → Int32) (y37 : Int32) (n41 : Nat) (y44 : Int32) (y51 : Int32) (n55 : Nat) (ab_now : NB knowF) (t3 : 0 ≤ x.toInt) (t4 : x.toInt < (knowF 3).toInt) (t5 : x.toInt ≤ 5) (t10 : 0 ≤ y.toInt) (t11 : y.toInt < (knowF 2).toInt) (t12 : y.toInt ≤ 5) (h19 : n18 < 6) (e20 : y = nI n18) (e22 : y21 = knowF (107 + n18)) (b23 : 0 ≤ y21.toInt) (b24 : y21.toInt ≤ 35) (h26 : n25 < 36) (e27 : y21 = nI n25) (h29 : n28 < 6) (e30 : x = nI n28) (p34 : FB36 kfarG_33) (p35 : FI knowF kfarG_33 n28 n25) (p36 : FX knowF kfarG_33 n28 36 0) (e38 : y37 = knowF (113 + n28)) (b39 : 0 ≤ y37.toInt) (b40 : y37.toInt ≤ 35) (h42 : n41 < 36) (e43 : y37 = nI n41) (e45 : y44 = kfarG_33 n41) (b46 : 0 ≤ y44.toInt) (b47 : y44.toInt ≤ 100000) (c48 : y44 < nI 100000) (f49 : (kfarG_33 n41).toInt < 100000) (hR50 : rankF kfarG_33 (kfarG_33 n41).toInt 36 ≤ 35) (e52 : y51 = kfarG_33 n41) (b53 : 0 ≤ y51.toInt) (b54 : y51.toInt ≤ 100000) (h56 : n55 < 100001) (e57 : y51 = nI n55) : n41 ≤ 35 := by
  have b_x := ia_b x
  have b_y := ia_b y
  have b_y21 := ia_b y21
  have b_y37 := ia_b y37
  have b_y44 := ia_b y44
  have b_y51 := ia_b y51
  try have k_0 := ia_n n18 (by first | decide | omega)
  try have k_1 := ia_n n25 (by first | decide | omega)
  try have k_2 := ia_n n28 (by first | decide | omega)
  try have k_3 := ia_n n41 (by first | decide | omega)
  try have k_4 := ia_n 100000 (by first | decide | omega)
  try have k_5 := ia_n n55 (by first | decide | omega)
  try simp only [ia_lt, ia_le, ia_eq, ia_m1, ia_0, ia_1, ne_eq, true_and, and_true, false_and, and_false, or_false, false_or, or_true, true_or, not_true_eq_false, not_false_eq_true] at *
  all_goals omega
set_option maxRecDepth 20000 in
theorem lf_x_way_51   : 0 ≤ 36 := by
  try simp only [ia_lt, ia_le, ia_eq, ia_m1, ia_0, ia_1, ne_eq, true_and, and_true, false_and, and_false, or_false, false_or, or_true, true_or, not_true_eq_false, not_false_eq_true] at *
  all_goals omega
set_option maxRecDepth 20000 in
theorem lf_x_way_52 (knowF : Nat → Int32) (x : Int32) (y : Int32) (n18 : Nat) (y21 : Int32) (n25 : Nat) (n28 : Nat) (kfarG_33 : Nat → Int32) (y37 : Int32) (n41 : Nat) (y44 : Int32) (y51 : Int32) (n55 : Nat) (ab_now : NB knowF) (t3 : 0 ≤ x.toInt) (t4 : x.toInt < (knowF 3).toInt) (t5 : x.toInt ≤ 5) (t10 : 0 ≤ y.toInt) (t11 : y.toInt < (knowF 2).toInt) (t12 : y.toInt ≤ 5) (h19 : n18 < 6) (e20 : y = nI n18) (e22 : y21 = knowF (107 + n18)) (b23 : 0 ≤ y21.toInt) (b24 : y21.toInt ≤ 35) (h26 : n25 < 36) (e27 : y21 = nI n25) (h29 : n28 < 6) (e30 : x = nI n28) (p34 : FB36 kfarG_33) (p35 : FI knowF kfarG_33 n28 n25) (p36 : FX knowF kfarG_33 n28 36 0) (e38 : y37 = knowF (113 + n28)) (b39 : 0 ≤ y37.toInt) (b40 : y37.toInt ≤ 35) (h42 : n41 < 36) (e43 : y37 = nI n41) (e45 : y44 = kfarG_33 n41) (b46 : 0 ≤ y44.toInt) (b47 : y44.toInt ≤ 100000) (c48 : y44 < nI 100000) (f49 : (kfarG_33 n41).toInt < 100000) (hR50 : rankF kfarG_33 (kfarG_33 n41).toInt 36 ≤ 35) (e52 : y51 = kfarG_33 n41) (b53 : 0 ≤ y51.toInt) (b54 : y51.toInt ≤ 100000) (h56 : n55 < 100001) (e57 : y51 = nI n55) : 0 + rankF kfarG_33 (kfarG_33 n41).toInt 36 ≤ 35 := by
  have b_x := ia_b x
  have b_y := ia_b y
  have b_y21 := ia_b y21
  have b_y37 := ia_b y37
  have b_y44 := ia_b y44
  have b_y51 := ia_b y51
  try have k_0 := ia_n n18 (by first | decide | omega)
  try have k_1 := ia_n n25 (by first | decide | omega)
  try have k_2 := ia_n n28 (by first | decide | omega)
  try have k_3 := ia_n n41 (by first | decide | omega)
  try have k_4 := ia_n 100000 (by first | decide | omega)
  try have k_5 := ia_n n55 (by first | decide | omega)
  try simp only [ia_lt, ia_le, ia_eq, ia_m1, ia_0, ia_1, ne_eq, true_and, and_true, false_and, and_false, or_false, false_or, or_true, true_or, not_true_eq_false, not_false_eq_true] at *
  all_goals omega
set_option maxHeartbeats 4000000 in
set_option maxRecDepth 100000 in
theorem c_x_way (l : Launch) (dC : Nat → ClassId) (dI : Nat → Nat → Nat) (ky : Nat → ClassId) (sz : Nat) (o : Nat) (kthrown : Int32) (ktape : Nat) (ktaped : Nat) (ksize : Nat) (klimit : Nat) (kto : Nat) (kfrom : Nat) (kkind : Int32) (knumber : Int32) (ksign : Int32) (kfault : Int32) (kplace : Int32) (kword : Int64) (ktold : Int32) (know : Nat) (kread : Nat) (kkept : Nat) (ksnaps : Nat) (kaside : Nat) (kname : Nat) (kreadName : Nat) (kkeptName : Nat) (kisKept : Nat) (konces : Nat) (ksnapMany : Nat) (khasCells : Int32) (kpoured : Nat) (kfar : Nat) (ksides : Nat) (ksideMany : Nat) (kwayDays : Int32) (khasWay : Int32) (klines : Nat) (kmet : Nat) (kmetMany : Nat) (ksunk : Nat) (ktrying : Nat) (ksunkMany : Nat) (ksending : Int32) (kfleets : Int32) (ktext : Nat) (ktexts : Nat) (kseed : Int32) (kline : Nat) (kwritten : Nat) (klineMany : Nat) (khasWritten : Int32) (knode : Nat) (knodes : Nat) (konesMany : Nat) (kwithin : Nat) (ktop : Nat) (knowF : Nat → Int32) (kfarF : Nat → Int32) (ksidesF : Nat → Int32) (x : Int32) (y : Int32) (iv_ko_0 : ktaped ≤ 940) (iv_ko_1 : ksize ≤ 940) (iv_ko_2 : klimit ≤ 900) (iv_ko_3 : kto ≤ ksize) (iv_ko_4 : kfrom ≤ 940) (iv_ko_5 : ksnapMany ≤ 8) (iv_ko_6 : ksideMany ≤ 36) (iv_ko_7 : kmetMany ≤ 3) (iv_ko_8 : ksunkMany ≤ 36) (iv_ko_9 : ktexts ≤ 64) (iv_ko_10 : klineMany ≤ 40) (iv_ko_11 : knodes ≤ 60) (iv_ko_12 : konesMany ≤ 20) (iv_ko_13 : kwithin ≤ 8) (iv_ko_14 : ktop ≤ 59) (ab_now : NB knowF) (ab_far : FB36 kfarF) : Met l yX12_way wsX12_way ({ frames := 5, cells := 0, slots := 0, locals := 117 }) (PcU dC dI ky [.ref o, .int x, .int y] [(o, .inr (12, [.int kthrown, .ref ktape, .int (nI ktaped), .int (nI ksize), .int (nI klimit), .int (nI kto), .int (nI kfrom), .int kkind, .int knumber, .int ksign, .int kfault, .int kplace, .long kword, .int ktold, .ref know, .ref kread, .ref kkept, .ref ksnaps, .ref kaside, .ref kname, .ref kreadName, .ref kkeptName, .ref kisKept, .ref konces, .int (nI ksnapMany), .int khasCells, .ref kpoured, .ref kfar, .ref ksides, .int (nI ksideMany), .int kwayDays, .int khasWay, .ref klines, .ref kmet, .int (nI kmetMany), .ref ksunk, .ref ktrying, .int (nI ksunkMany), .int ksending, .int kfleets, .ref ktext, .int (nI ktexts), .int kseed, .ref kline, .ref kwritten, .int (nI klineMany), .int khasWritten, .ref knode, .int (nI knodes), .int (nI konesMany), .int (nI kwithin), .int (nI ktop)])), (know, .inl (ky 0, 373, .inl knowF)), (kfar, .inl (ky 0, 36, .inl kfarF)), (ksides, .inl (ky 0, 36, .inl ksidesF))] sz) (va_Qi (fun (r : Int32) (u : Int32 × Nat × Int32 × Int32 × (Nat → Int32) × (Nat → Int32)) => match u with | (kthrownG, ksideManyG, kwayDaysG, khasWayG, kfarG, ksidesG) => (ksideManyG ≤ 36) ∧ (FB36 kfarG)) (BU dC dI ky (fun (u : Int32 × Nat × Int32 × Int32 × (Nat → Int32) × (Nat → Int32)) => match u with | (kthrownG, ksideManyG, kwayDaysG, khasWayG, kfarG, ksidesG) => [(o, .inr (12, [.int kthrownG, .ref ktape, .int (nI ktaped), .int (nI ksize), .int (nI klimit), .int (nI kto), .int (nI kfrom), .int kkind, .int knumber, .int ksign, .int kfault, .int kplace, .long kword, .int ktold, .ref know, .ref kread, .ref kkept, .ref ksnaps, .ref kaside, .ref kname, .ref kreadName, .ref kkeptName, .ref kisKept, .ref konces, .int (nI ksnapMany), .int khasCells, .ref kpoured, .ref kfar, .ref ksides, .int (nI ksideManyG), .int kwayDaysG, .int khasWayG, .ref klines, .ref kmet, .int (nI kmetMany), .ref ksunk, .ref ktrying, .int (nI ksunkMany), .int ksending, .int kfleets, .ref ktext, .int (nI ktexts), .int kseed, .ref kline, .ref kwritten, .int (nI klineMany), .int khasWritten, .ref knode, .int (nI knodes), .int (nI konesMany), .int (nI kwithin), .int (nI ktop)])), (know, .inl (ky 0, 373, .inl knowF)), (kfar, .inl (ky 0, 36, .inl kfarG)), (ksides, .inl (ky 0, 36, .inl ksidesG))]) (va_A [(o, .inr (12, [.int kthrown, .ref ktape, .int (nI ktaped), .int (nI ksize), .int (nI klimit), .int (nI kto), .int (nI kfrom), .int kkind, .int knumber, .int ksign, .int kfault, .int kplace, .long kword, .int ktold, .ref know, .ref kread, .ref kkept, .ref ksnaps, .ref kaside, .ref kname, .ref kreadName, .ref kkeptName, .ref kisKept, .ref konces, .int (nI ksnapMany), .int khasCells, .ref kpoured, .ref kfar, .ref ksides, .int (nI ksideMany), .int kwayDays, .int khasWay, .ref klines, .ref kmet, .int (nI kmetMany), .ref ksunk, .ref ktrying, .int (nI ksunkMany), .int ksending, .int kfleets, .ref ktext, .int (nI ktexts), .int kseed, .ref kline, .ref kwritten, .int (nI klineMany), .int khasWritten, .ref knode, .int (nI knodes), .int (nI konesMany), .int (nI kwithin), .int (nI ktop)])), (know, .inl (ky 0, 373, .inl knowF)), (kfar, .inl (ky 0, 36, .inl kfarF)), (ksides, .inl (ky 0, 36, .inl ksidesF))] sz)) (va_A [(o, .inr (12, [.int kthrown, .ref ktape, .int (nI ktaped), .int (nI ksize), .int (nI klimit), .int (nI kto), .int (nI kfrom), .int kkind, .int knumber, .int ksign, .int kfault, .int kplace, .long kword, .int ktold, .ref know, .ref kread, .ref kkept, .ref ksnaps, .ref kaside, .ref kname, .ref kreadName, .ref kkeptName, .ref kisKept, .ref konces, .int (nI ksnapMany), .int khasCells, .ref kpoured, .ref kfar, .ref ksides, .int (nI ksideMany), .int kwayDays, .int khasWay, .ref klines, .ref kmet, .int (nI kmetMany), .ref ksunk, .ref ktrying, .int (nI ksunkMany), .int ksending, .int kfleets, .ref ktext, .int (nI ktexts), .int kseed, .ref kline, .ref kwritten, .int (nI klineMany), .int khasWritten, .ref knode, .int (nI knodes), .int (nI konesMany), .int (nI kwithin), .int (nI ktop)])), (know, .inl (ky 0, 373, .inl knowF)), (kfar, .inl (ky 0, 36, .inl kfarF)), (ksides, .inl (ky 0, 36, .inl ksidesF))] sz)) 0 0 (va_A [(o, .inr (12, [.int kthrown, .ref ktape, .int (nI ktaped), .int (nI ksize), .int (nI klimit), .int (nI kto), .int (nI kfrom), .int kkind, .int knumber, .int ksign, .int kfault, .int kplace, .long kword, .int ktold, .ref know, .ref kread, .ref kkept, .ref ksnaps, .ref kaside, .ref kname, .ref kreadName, .ref kkeptName, .ref kisKept, .ref konces, .int (nI ksnapMany), .int khasCells, .ref kpoured, .ref kfar, .ref ksides, .int (nI ksideMany), .int kwayDays, .int khasWay, .ref klines, .ref kmet, .int (nI kmetMany), .ref ksunk, .ref ktrying, .int (nI ksunkMany), .int ksending, .int kfleets, .ref ktext, .int (nI ktexts), .int kseed, .ref kline, .ref kwritten, .int (nI klineMany), .int khasWritten, .ref knode, .int (nI knodes), .int (nI konesMany), .int (nI kwithin), .int (nI ktop)])), (know, .inl (ky 0, 373, .inl knowF)), (kfar, .inl (ky 0, 36, .inl kfarF)), (ksides, .inl (ky 0, 36, .inl ksidesF))] sz) := by
  refine Met.ofW (cc := cX12_way) (maxL := 7) (ret := (some .int)) (by decide) rfl ?_
  intro p e s m args below meth c s₁ B hml hv
  obtain ⟨rfl, hsz, hP, hK, hD0⟩ := hv
  have hx := B.exec
  have hb := B.bytes
  have hr := B.returns
  have hts := atoms_spec (ws := wsX12_way) B.pre
  have hown : s.vm.findClass RX12 = some m.cls := findClass_of_methodNamed B.named
  have hlocks := B.notSynchronized
  have hin12 : ∀ w ∈ u_ws RX12 TX12 52, w ∈ wsX12_way := by decide +kernel
  subst hsz
  have hD := hD0.self (sz := s.heap.size)
  generalize hAe : va_A [(o, .inr (12, [.int kthrown, .ref ktape, .int (nI ktaped), .int (nI ksize), .int (nI klimit), .int (nI kto), .int (nI kfrom), .int kkind, .int knumber, .int ksign, .int kfault, .int kplace, .long kword, .int ktold, .ref know, .ref kread, .ref kkept, .ref ksnaps, .ref kaside, .ref kname, .ref kreadName, .ref kkeptName, .ref kisKept, .ref konces, .int (nI ksnapMany), .int khasCells, .ref kpoured, .ref kfar, .ref ksides, .int (nI ksideMany), .int kwayDays, .int khasWay, .ref klines, .ref kmet, .int (nI kmetMany), .ref ksunk, .ref ktrying, .int (nI ksunkMany), .int ksending, .int kfleets, .ref ktext, .int (nI ktexts), .int kseed, .ref kline, .ref kwritten, .int (nI klineMany), .int khasWritten, .ref knode, .int (nI knodes), .int (nI konesMany), .int (nI kwithin), .int (nI ktop)])), (know, .inl (ky 0, 373, .inl knowF)), (kfar, .inl (ky 0, 36, .inl kfarF)), (ksides, .inl (ky 0, 36, .inl ksidesF))] s.heap.size = A at hD ⊢
  have hA : ∀ q : Nat, s.heap.size ≤ q → A q := fun q h => by rw [← hAe]; exact Or.inr h
  have hS : va_S A s.heap s.heap [] := va_S.rf
  have hl := lv_entry ([.ref o, .int x, .int y]) (n := 7) (Nat.le_of_ble_eq_true rfl)
  rw [lg_entry_eq]
  generalize (lg_sl ([.ref o, .int x, .int y]) ++ List.replicate (7 - (lg_sl ([.ref o, .int x, .int y])).length) Slot.unset).toArray = ls at hl ⊢
  have hl : lv_has ls 7 [(0, .ref o), (1, .int x), (2, .int y)] := hl
  refine q_name (fun Q hQ => ?_)
  generalize ([.ref o, .int x, .int y] : List Value).toArray = args at hts hQ ⊢
  refine lv_aload_n hx hb dX12_way_0 rfl (lv_at hl 0 rfl) ?_
  refine lv_iconst (v := nI 0) hx hb dX12_way_1 (by decide) ?_
  refine va_put (D := (dC, dI)) (ci := 12) (v := .int (nI 0)) (ty := .int) (C := RX12) (T := TX12) (N := 52) hx hb hts hin12 tyX12 tyX12_ok nmX12 hown hK hP hD hS 0 rfl rfl 0 (by decide) (hts (.fieldLink RX12 1 "PorridgeSeaModel" "thrown" "I") (List.mem_of_getElem? (i := 1) rfl)) (fun _ h9 => h9) rfl (by decide +kernel) rfl rfl (Nat.le_of_ble_eq_true rfl) dX12_way_2 (fun H locs hP hD hS => ?_)
  have hP : va_P (dC, dI) vwCl [(o, .inr (12, [.int (nI 0), .ref ktape, .int (nI ktaped), .int (nI ksize), .int (nI klimit), .int (nI kto), .int (nI kfrom), .int kkind, .int knumber, .int ksign, .int kfault, .int kplace, .long kword, .int ktold, .ref know, .ref kread, .ref kkept, .ref ksnaps, .ref kaside, .ref kname, .ref kreadName, .ref kkeptName, .ref kisKept, .ref konces, .int (nI ksnapMany), .int khasCells, .ref kpoured, .ref kfar, .ref ksides, .int (nI ksideMany), .int kwayDays, .int khasWay, .ref klines, .ref kmet, .int (nI kmetMany), .ref ksunk, .ref ktrying, .int (nI ksunkMany), .int ksending, .int kfleets, .ref ktext, .int (nI ktexts), .int kseed, .ref kline, .ref kwritten, .int (nI klineMany), .int khasWritten, .ref knode, .int (nI knodes), .int (nI konesMany), .int (nI kwithin), .int (nI ktop)])), (know, .inl (ky 0, 373, .inl knowF)), (kfar, .inl (ky 0, 36, .inl kfarF)), (ksides, .inl (ky 0, 36, .inl ksidesF))] H := hP
  have hD : va_D A [(o, .inr (12, [.int (nI 0), .ref ktape, .int (nI ktaped), .int (nI ksize), .int (nI klimit), .int (nI kto), .int (nI kfrom), .int kkind, .int knumber, .int ksign, .int kfault, .int kplace, .long kword, .int ktold, .ref know, .ref kread, .ref kkept, .ref ksnaps, .ref kaside, .ref kname, .ref kreadName, .ref kkeptName, .ref kisKept, .ref konces, .int (nI ksnapMany), .int khasCells, .ref kpoured, .ref kfar, .ref ksides, .int (nI ksideMany), .int kwayDays, .int khasWay, .ref klines, .ref kmet, .int (nI kmetMany), .ref ksunk, .ref ktrying, .int (nI ksunkMany), .int ksending, .int kfleets, .ref ktext, .int (nI ktexts), .int kseed, .ref kline, .ref kwritten, .int (nI klineMany), .int khasWritten, .ref knode, .int (nI knodes), .int (nI konesMany), .int (nI kwithin), .int (nI ktop)])), (know, .inl (ky 0, 373, .inl knowF)), (kfar, .inl (ky 0, 36, .inl kfarF)), (ksides, .inl (ky 0, 36, .inl ksidesF))] := hD
  refine lv_aload_n hx hb dX12_way_5 rfl (lv_at hl 0 rfl) ?_
  refine lv_iload_n hx hb dX12_way_6 rfl (lv_at hl 1 rfl) ?_
  refine vp_callSi (W.runV (As := [.int x]) (rest := []) ⟨hx, hb, hml, hown, hts⟩ (c_x_isBoat l dC dI ky o (nI 0) ktape ktaped ksize klimit kto kfrom kkind knumber ksign kfault kplace kword ktold know kread kkept ksnaps kaside kname kreadName kkeptName kisKept konces ksnapMany khasCells kpoured kfar ksides ksideMany kwayDays khasWay klines kmet kmetMany ksunk ktrying ksunkMany ksending kfleets ktext ktexts kseed kline kwritten klineMany khasWritten knode knodes konesMany kwithin ktop knowF x iv_ko_0 iv_ko_1 iv_ko_2 iv_ko_3 iv_ko_4 iv_ko_5 iv_ko_6 iv_ko_7 iv_ko_8 iv_ko_9 iv_ko_10 iv_ko_11 iv_ko_12 iv_ko_13 iv_ko_14 ab_now) (cwV 1 hts gX12_way_X12_isBoat rfl rfl rfl (by decide +kernel) ⟨(Nat.le_of_ble_eq_true rfl), (Nat.le_of_ble_eq_true rfl)⟩) (pre_PV hK hP [0, 1] rfl (ci := 12) (q0 := 0) rfl rfl) rfl rfl hl.1 rfl (lv_room (Nat.le_of_ble_eq_true rfl)) dX12_way_7 ⟨(Nat.le_of_ble_eq_true rfl), (Nat.le_of_ble_eq_true rfl)⟩) (fun r1 p2 => ?_)
  rcases p2 with ⟨rfl, t3, t4, t5⟩ | ⟨rfl, t6⟩
  · refine lv_if_eq (tgt := 29) hx hb dX12_way_10 (by decide) (fun c7 => absurd c7 (by decide)) (fun c7 => ?_)
    refine lv_aload_n hx hb dX12_way_13 rfl (lv_at hl 0 rfl) ?_
    refine lv_iload_n hx hb dX12_way_14 rfl (lv_at hl 2 rfl) ?_
    refine vp_callSi (W.runV (As := [.int y]) (rest := []) ⟨hx, hb, hml, hown, hts⟩ (c_x_isLump l dC dI ky o (nI 0) ktape ktaped ksize klimit kto kfrom kkind knumber ksign kfault kplace kword ktold know kread kkept ksnaps kaside kname kreadName kkeptName kisKept konces ksnapMany khasCells kpoured kfar ksides ksideMany kwayDays khasWay klines kmet kmetMany ksunk ktrying ksunkMany ksending kfleets ktext ktexts kseed kline kwritten klineMany khasWritten knode knodes konesMany kwithin ktop knowF y iv_ko_0 iv_ko_1 iv_ko_2 iv_ko_3 iv_ko_4 iv_ko_5 iv_ko_6 iv_ko_7 iv_ko_8 iv_ko_9 iv_ko_10 iv_ko_11 iv_ko_12 iv_ko_13 iv_ko_14 ab_now) (cwV 1 hts gX12_way_X12_isLump rfl rfl rfl (by decide +kernel) ⟨(Nat.le_of_ble_eq_true rfl), (Nat.le_of_ble_eq_true rfl)⟩) (pre_PV hK hP [0, 1] rfl (ci := 12) (q0 := 0) rfl rfl) rfl rfl hl.1 rfl (lv_room (Nat.le_of_ble_eq_true rfl)) dX12_way_15 ⟨(Nat.le_of_ble_eq_true rfl), (Nat.le_of_ble_eq_true rfl)⟩) (fun r8 p9 => ?_)
    rcases p9 with ⟨rfl, t10, t11, t12⟩ | ⟨rfl, t13⟩
    · refine lv_if_eq (tgt := 29) hx hb dX12_way_18 (by decide) (fun c14 => absurd c14 (by decide)) (fun c14 => ?_)
      refine lv_aload_n hx hb dX12_way_21 rfl (lv_at hl 0 rfl) ?_
      refine lv_iload_n hx hb dX12_way_22 rfl (lv_at hl 1 rfl) ?_
      refine vp_callSi (W.runV (As := [.int x]) (rest := []) ⟨hx, hb, hml, hown, hts⟩ (c_x_isEaten l dC dI ky o (nI 0) ktape ktaped ksize klimit kto kfrom kkind knumber ksign kfault kplace kword ktold know kread kkept ksnaps kaside kname kreadName kkeptName kisKept konces ksnapMany khasCells kpoured kfar ksides ksideMany kwayDays khasWay klines kmet kmetMany ksunk ktrying ksunkMany ksending kfleets ktext ktexts kseed kline kwritten klineMany khasWritten knode knodes konesMany kwithin ktop knowF x iv_ko_0 iv_ko_1 iv_ko_2 iv_ko_3 iv_ko_4 iv_ko_5 iv_ko_6 iv_ko_7 iv_ko_8 iv_ko_9 iv_ko_10 iv_ko_11 iv_ko_12 iv_ko_13 iv_ko_14 ab_now (lf_x_way_1 knowF x y ab_now t3 t4 t5 t10 t11 t12)) (cwV 1 hts gX12_way_X12_isEaten rfl rfl rfl (by decide +kernel) ⟨(Nat.le_of_ble_eq_true rfl), (Nat.le_of_ble_eq_true rfl)⟩) (pre_PV hK hP [0, 1] rfl (ci := 12) (q0 := 0) rfl rfl) rfl rfl hl.1 rfl (lv_room (Nat.le_of_ble_eq_true rfl)) dX12_way_23 ⟨(Nat.le_of_ble_eq_true rfl), (Nat.le_of_ble_eq_true rfl)⟩) (fun r15 p16 => ?_)
      refine lv_if_eq (tgt := 31) hx hb dX12_way_26 (by decide) (fun c17 => ?_) (fun c17 => ?_)
      · refine lv_aload_n hx hb dX12_way_31 rfl (lv_at hl 0 rfl) ?_
        refine lv_iload_n hx hb dX12_way_32 rfl (lv_at hl 1 rfl) ?_
        refine lv_aload_n hx hb dX12_way_33 rfl (lv_at hl 0 rfl) ?_
        refine va_get (D := (dC, dI)) (ci := 12) (v := .ref know) (C := RX12) (T := TX12) (N := 52) hx hb hts hin12 hown hK hP 0 rfl rfl 14 (by decide) (hts (.fieldLink RX12 98 "PorridgeSeaModel" "now" "[I") (List.mem_of_getElem? (i := 2) rfl)) (fun _ h9 => h9) rfl dX12_way_34 ?_
        refine lv_bipush (v := nI 107) hx hb dX12_way_37 (by decide) ?_
        refine lv_iload_n hx hb dX12_way_39 rfl (lv_at hl 2 rfl) ?_
        obtain ⟨n18, h19, e20⟩ := nat_of y 6 (by decide) (lf_x_way_2 knowF x y ab_now t3 t4 t5 t10 t11 t12)
        rw [e20]
        refine lv_iadd hx hb dX12_way_40 ?_
        refine r_ti (nI (107 + n18)) (nI_add _ _) ?_
        obtain ⟨y21, e22⟩ : ∃ z9, z9 = knowF (107 + n18) := ⟨_, rfl⟩
        refine r_iald hx hb hK hP 1 rfl (107 + n18) (lf_x_way_3 knowF x y n18 y21 ab_now t3 t4 t5 t10 t11 t12 h19 e20 e22) (by decide) y21 e22.symm dX12_way_41 ?_
        obtain ⟨b23, b24⟩ : (0 : Int) ≤ y21.toInt ∧ y21.toInt ≤ 35 := by rw [e22]; exact ld_NB_107 ab_now (107 + n18) (lf_x_way_4 knowF x y n18 y21 ab_now t3 t4 t5 t10 t11 t12 h19 e20 e22) (lf_x_way_5 knowF x y n18 y21 ab_now t3 t4 t5 t10 t11 t12 h19 e20 e22)
        obtain ⟨n25, h26, e27⟩ := nat_of y21 36 (by decide) (lf_x_way_6 knowF x y n18 y21 ab_now t3 t4 t5 t10 t11 t12 h19 e20 e22 b23 b24)
        rw [e27]
        obtain ⟨n28, h29, e30⟩ := nat_of x 6 (by decide) (lf_x_way_7 knowF x y n18 y21 n25 ab_now t3 t4 t5 t10 t11 t12 h19 e20 e22 b23 b24 h26 e27)
        rw [e30]
        refine r_call_v (wr := [(ksides, .inl (ky 0, 36, .inl ksidesF))]) (va_runV (As := [.int (nI n28), .int (nI n25)]) (rest := []) ⟨hx, hb, hml, hown, hts⟩ (c_x_layFar l dC dI ky H.size o (nI 0) ktape ktaped ksize klimit kto kfrom kkind knumber ksign kfault kplace kword ktold know kread kkept ksnaps kaside kname kreadName kkeptName kisKept konces ksnapMany khasCells kpoured kfar ksides ksideMany kwayDays khasWay klines kmet kmetMany ksunk ktrying ksunkMany ksending kfleets ktext ktexts kseed kline kwritten klineMany khasWritten knode knodes konesMany kwithin ktop knowF kfarF n28 n25 iv_ko_0 iv_ko_1 iv_ko_2 iv_ko_3 iv_ko_4 iv_ko_5 iv_ko_6 iv_ko_7 iv_ko_8 iv_ko_9 iv_ko_10 iv_ko_11 iv_ko_12 iv_ko_13 iv_ko_14 ab_now ab_far h29 h26) (cwV 2 hts gX12_way_X12_layFar rfl rfl rfl (by decide +kernel) ⟨(Nat.le_of_ble_eq_true rfl), (Nat.le_of_ble_eq_true rfl)⟩) (pre_UV hK hP hD [0, 1, 2] (by decide) rfl (ci := 12) (q0 := 0) rfl rfl) rfl rfl hl.1 rfl (lv_room (Nat.le_of_ble_eq_true rfl)) dX12_way_42 ⟨(Nat.le_of_ble_eq_true rfl), (Nat.le_of_ble_eq_true rfl)⟩) hP hD hS hA [0, 1, 2] [3] rfl rfl (by decide) (by decide) (fun  u31 H locs p32 hP hD hS => ?_)
        obtain ⟨kfarG_33, rfl⟩ : ∃ z, z = u31 := ⟨_, rfl⟩
        try dsimp only at p32
        obtain ⟨p34, p35, p36⟩ := p32
        refine W.widen (k := 0) (n := 0) (Nat.le_of_ble_eq_true rfl) (Nat.le_of_ble_eq_true rfl) ?_
        have hP : va_P (dC, dI) vwCl [(ksides, .inl (ky 0, 36, .inl ksidesF)), (o, .inr (12, [.int (nI 0), .ref ktape, .int (nI ktaped), .int (nI ksize), .int (nI klimit), .int (nI kto), .int (nI kfrom), .int kkind, .int knumber, .int ksign, .int kfault, .int kplace, .long kword, .int ktold, .ref know, .ref kread, .ref kkept, .ref ksnaps, .ref kaside, .ref kname, .ref kreadName, .ref kkeptName, .ref kisKept, .ref konces, .int (nI ksnapMany), .int khasCells, .ref kpoured, .ref kfar, .ref ksides, .int (nI ksideMany), .int kwayDays, .int khasWay, .ref klines, .ref kmet, .int (nI kmetMany), .ref ksunk, .ref ktrying, .int (nI ksunkMany), .int ksending, .int kfleets, .ref ktext, .int (nI ktexts), .int kseed, .ref kline, .ref kwritten, .int (nI klineMany), .int khasWritten, .ref knode, .int (nI knodes), .int (nI konesMany), .int (nI kwithin), .int (nI ktop)])), (know, .inl (ky 0, 373, .inl knowF)), (kfar, .inl (ky 0, 36, .inl kfarG_33))] H := hP
        have hD : va_D A [(ksides, .inl (ky 0, 36, .inl ksidesF)), (o, .inr (12, [.int (nI 0), .ref ktape, .int (nI ktaped), .int (nI ksize), .int (nI klimit), .int (nI kto), .int (nI kfrom), .int kkind, .int knumber, .int ksign, .int kfault, .int kplace, .long kword, .int ktold, .ref know, .ref kread, .ref kkept, .ref ksnaps, .ref kaside, .ref kname, .ref kreadName, .ref kkeptName, .ref kisKept, .ref konces, .int (nI ksnapMany), .int khasCells, .ref kpoured, .ref kfar, .ref ksides, .int (nI ksideMany), .int kwayDays, .int khasWay, .ref klines, .ref kmet, .int (nI kmetMany), .ref ksunk, .ref ktrying, .int (nI ksunkMany), .int ksending, .int kfleets, .ref ktext, .int (nI ktexts), .int kseed, .ref kline, .ref kwritten, .int (nI klineMany), .int khasWritten, .ref knode, .int (nI knodes), .int (nI konesMany), .int (nI kwithin), .int (nI ktop)])), (know, .inl (ky 0, 373, .inl knowF)), (kfar, .inl (ky 0, 36, .inl kfarG_33))] := hD
        refine lv_aload_n hx hb dX12_way_45 rfl (lv_at hl 0 rfl) ?_
        refine va_get (D := (dC, dI)) (ci := 12) (v := .ref know) (C := RX12) (T := TX12) (N := 52) hx hb hts hin12 hown hK hP 1 rfl rfl 14 (by decide) (hts (.fieldLink RX12 98 "PorridgeSeaModel" "now" "[I") (List.mem_of_getElem? (i := 2) rfl)) (fun _ h9 => h9) rfl dX12_way_46 ?_
        refine lv_bipush (v := nI 113) hx hb dX12_way_49 (by decide) ?_
        refine lv_iload_n hx hb dX12_way_51 rfl (lv_at hl 1 rfl) ?_
        rw [e30]
        refine lv_iadd hx hb dX12_way_52 ?_
        refine r_ti (nI (113 + n28)) (nI_add _ _) ?_
        obtain ⟨y37, e38⟩ : ∃ z9, z9 = knowF (113 + n28) := ⟨_, rfl⟩
        refine r_iald hx hb hK hP 2 rfl (113 + n28) (lf_x_way_8 knowF x y n18 y21 n25 n28 kfarG_33 y37 ab_now t3 t4 t5 t10 t11 t12 h19 e20 e22 b23 b24 h26 e27 h29 e30 p34 p35 p36 e38) (by decide) y37 e38.symm dX12_way_53 ?_
        obtain ⟨b39, b40⟩ : (0 : Int) ≤ y37.toInt ∧ y37.toInt ≤ 35 := by rw [e38]; exact ld_NB_107 ab_now (113 + n28) (lf_x_way_9 knowF x y n18 y21 n25 n28 kfarG_33 y37 ab_now t3 t4 t5 t10 t11 t12 h19 e20 e22 b23 b24 h26 e27 h29 e30 p34 p35 p36 e38) (lf_x_way_10 knowF x y n18 y21 n25 n28 kfarG_33 y37 ab_now t3 t4 t5 t10 t11 t12 h19 e20 e22 b23 b24 h26 e27 h29 e30 p34 p35 p36 e38)
        refine lv_istore_n (lv' := [(3, .int y37), (0, .ref o), (1, .int x), (2, .int y)]) hx hb dX12_way_54 rfl hl (by decide) rfl (fun ls hl => ?_)
        refine lv_aload_n hx hb dX12_way_55 rfl (lv_at hl 1 rfl) ?_
        refine va_get (D := (dC, dI)) (ci := 12) (v := .ref kfar) (C := RX12) (T := TX12) (N := 52) hx hb hts hin12 hown hK hP 1 rfl rfl 27 (by decide) (hts (.fieldLink RX12 133 "PorridgeSeaModel" "far" "[I") (List.mem_of_getElem? (i := 3) rfl)) (fun _ h9 => h9) rfl dX12_way_56 ?_
        refine lv_iload_n hx hb dX12_way_59 rfl (lv_at hl 0 rfl) ?_
        obtain ⟨n41, h42, e43⟩ := nat_of y37 36 (by decide) (lf_x_way_11 knowF x y n18 y21 n25 n28 kfarG_33 y37 ab_now t3 t4 t5 t10 t11 t12 h19 e20 e22 b23 b24 h26 e27 h29 e30 p34 p35 p36 e38 b39 b40)
        rw [e43]
        obtain ⟨y44, e45⟩ : ∃ z9, z9 = kfarG_33 n41 := ⟨_, rfl⟩
        refine r_iald hx hb hK hP 3 rfl n41 (lf_x_way_12 knowF x y n18 y21 n25 n28 kfarG_33 y37 n41 y44 ab_now t3 t4 t5 t10 t11 t12 h19 e20 e22 b23 b24 h26 e27 h29 e30 p34 p35 p36 e38 b39 b40 h42 e43 e45) (by decide) y44 e45.symm dX12_way_60 ?_
        obtain ⟨b46, b47⟩ : (0 : Int) ≤ y44.toInt ∧ y44.toInt ≤ 100000 := by rw [e45]; exact ld_FB36_0 p34 n41 (lf_x_way_13 knowF x y n18 y21 n25 n28 kfarG_33 y37 n41 y44 ab_now t3 t4 t5 t10 t11 t12 h19 e20 e22 b23 b24 h26 e27 h29 e30 p34 p35 p36 e38 b39 b40 h42 e43 e45) (lf_x_way_14 knowF x y n18 y21 n25 n28 kfarG_33 y37 n41 y44 ab_now t3 t4 t5 t10 t11 t12 h19 e20 e22 b23 b24 h26 e27 h29 e30 p34 p35 p36 e38 b39 b40 h42 e43 e45)
        refine lv_ldcw (v := nI 100000) hx hb hown (hts (.constant RX12 315 (nI 100000)) (List.mem_of_getElem? (i := 4) rfl)) dX12_way_61 ?_
        refine lv_icmp_lt (tgt := 69) hx hb dX12_way_64 (by decide) (fun c48 => ?_) (fun c48 => ?_)
        · rw [e43] at hl
          have f49 : (kfarG_33 n41).toInt < 100000 := (lf_x_way_15 knowF x y n18 y21 n25 n28 kfarG_33 y37 n41 y44 ab_now t3 t4 t5 t10 t11 t12 h19 e20 e22 b23 b24 h26 e27 h29 e30 p34 p35 p36 e38 b39 b40 h42 e43 e45 b46 b47 c48)
          have hR50 : rankF kfarG_33 (kfarG_33 n41).toInt 36 ≤ 35 := rankF_35 (by omega)
          refine lv_aload_n hx hb dX12_way_69 rfl (lv_at hl 1 rfl) ?_
          refine va_get (D := (dC, dI)) (ci := 12) (v := .ref kfar) (C := RX12) (T := TX12) (N := 52) hx hb hts hin12 hown hK hP 1 rfl rfl 27 (by decide) (hts (.fieldLink RX12 133 "PorridgeSeaModel" "far" "[I") (List.mem_of_getElem? (i := 3) rfl)) (fun _ h9 => h9) rfl dX12_way_70 ?_
          refine lv_iload_n hx hb dX12_way_73 rfl (lv_at hl 0 rfl) ?_
          obtain ⟨y51, e52⟩ : ∃ z9, z9 = kfarG_33 n41 := ⟨_, rfl⟩
          refine r_iald hx hb hK hP 3 rfl n41 (lf_x_way_16 knowF x y n18 y21 n25 n28 kfarG_33 y37 n41 y44 y51 ab_now t3 t4 t5 t10 t11 t12 h19 e20 e22 b23 b24 h26 e27 h29 e30 p34 p35 p36 e38 b39 b40 h42 e43 e45 b46 b47 c48 f49 hR50 e52) (by decide) y51 e52.symm dX12_way_74 ?_
          obtain ⟨b53, b54⟩ : (0 : Int) ≤ y51.toInt ∧ y51.toInt ≤ 100000 := by rw [e52]; exact ld_FB36_0 p34 n41 (lf_x_way_17 knowF x y n18 y21 n25 n28 kfarG_33 y37 n41 y44 y51 ab_now t3 t4 t5 t10 t11 t12 h19 e20 e22 b23 b24 h26 e27 h29 e30 p34 p35 p36 e38 b39 b40 h42 e43 e45 b46 b47 c48 f49 hR50 e52) (lf_x_way_18 knowF x y n18 y21 n25 n28 kfarG_33 y37 n41 y44 y51 ab_now t3 t4 t5 t10 t11 t12 h19 e20 e22 b23 b24 h26 e27 h29 e30 p34 p35 p36 e38 b39 b40 h42 e43 e45 b46 b47 c48 f49 hR50 e52)
          refine lv_bipush (v := nI 64) hx hb dX12_way_75 (by decide) ?_
          obtain ⟨n55, h56, e57⟩ := nat_of y51 100001 (by decide) (lf_x_way_19 knowF x y n18 y21 n25 n28 kfarG_33 y37 n41 y44 y51 ab_now t3 t4 t5 t10 t11 t12 h19 e20 e22 b23 b24 h26 e27 h29 e30 p34 p35 p36 e38 b39 b40 h42 e43 e45 b46 b47 c48 f49 hR50 e52 b53 b54)
          rw [e57]
          refine lv_idiv hx hb dX12_way_77 (by decide) ?_
          refine r_ti (nI (n55 / 64)) (pk_div (by omega) (by omega) (by omega)) ?_
          refine lv_istore (lv' := [(4, .int (nI (n55 / 64))), (3, .int (nI n41)), (0, .ref o), (1, .int x), (2, .int y)]) hx hb dX12_way_78 hl (by decide) rfl (fun ls hl => ?_)
          refine lv_aload_n hx hb dX12_way_80 rfl (lv_at hl 2 rfl) ?_
          refine lv_iconst (v := nI 0) hx hb dX12_way_81 (by decide) ?_
          refine va_put (D := (dC, dI)) (ci := 12) (v := .int (nI 0)) (ty := .int) (C := RX12) (T := TX12) (N := 52) hx hb hts hin12 tyX12 tyX12_ok nmX12 hown hK hP hD hS 1 rfl rfl 29 (by decide) (hts (.fieldLink RX12 323 "PorridgeSeaModel" "sideMany" "I") (List.mem_of_getElem? (i := 5) rfl)) (fun _ h9 => h9) rfl (by decide +kernel) rfl rfl (Nat.le_of_ble_eq_true rfl) dX12_way_82 (fun H locs hP hD hS => ?_)
          have hP : va_P (dC, dI) vwCl [(ksides, .inl (ky 0, 36, .inl ksidesF)), (o, .inr (12, [.int (nI 0), .ref ktape, .int (nI ktaped), .int (nI ksize), .int (nI klimit), .int (nI kto), .int (nI kfrom), .int kkind, .int knumber, .int ksign, .int kfault, .int kplace, .long kword, .int ktold, .ref know, .ref kread, .ref kkept, .ref ksnaps, .ref kaside, .ref kname, .ref kreadName, .ref kkeptName, .ref kisKept, .ref konces, .int (nI ksnapMany), .int khasCells, .ref kpoured, .ref kfar, .ref ksides, .int (nI 0), .int kwayDays, .int khasWay, .ref klines, .ref kmet, .int (nI kmetMany), .ref ksunk, .ref ktrying, .int (nI ksunkMany), .int ksending, .int kfleets, .ref ktext, .int (nI ktexts), .int kseed, .ref kline, .ref kwritten, .int (nI klineMany), .int khasWritten, .ref knode, .int (nI knodes), .int (nI konesMany), .int (nI kwithin), .int (nI ktop)])), (know, .inl (ky 0, 373, .inl knowF)), (kfar, .inl (ky 0, 36, .inl kfarG_33))] H := hP
          have hD : va_D A [(ksides, .inl (ky 0, 36, .inl ksidesF)), (o, .inr (12, [.int (nI 0), .ref ktape, .int (nI ktaped), .int (nI ksize), .int (nI klimit), .int (nI kto), .int (nI kfrom), .int kkind, .int knumber, .int ksign, .int kfault, .int kplace, .long kword, .int ktold, .ref know, .ref kread, .ref kkept, .ref ksnaps, .ref kaside, .ref kname, .ref kreadName, .ref kkeptName, .ref kisKept, .ref konces, .int (nI ksnapMany), .int khasCells, .ref kpoured, .ref kfar, .ref ksides, .int (nI 0), .int kwayDays, .int khasWay, .ref klines, .ref kmet, .int (nI kmetMany), .ref ksunk, .ref ktrying, .int (nI ksunkMany), .int ksending, .int kfleets, .ref ktext, .int (nI ktexts), .int kseed, .ref kline, .ref kwritten, .int (nI klineMany), .int khasWritten, .ref knode, .int (nI knodes), .int (nI konesMany), .int (nI kwithin), .int (nI ktop)])), (know, .inl (ky 0, 373, .inl knowF)), (kfar, .inl (ky 0, 36, .inl kfarG_33))] := hD
          refine lv_aload_n hx hb dX12_way_85 rfl (lv_at hl 2 rfl) ?_
          refine lv_iconst (v := nI 0) hx hb dX12_way_86 (by decide) ?_
          refine va_put (D := (dC, dI)) (ci := 12) (v := .int (nI 0)) (ty := .int) (C := RX12) (T := TX12) (N := 52) hx hb hts hin12 tyX12 tyX12_ok nmX12 hown hK hP hD hS 1 rfl rfl 30 (by decide) (hts (.fieldLink RX12 139 "PorridgeSeaModel" "wayDays" "I") (List.mem_of_getElem? (i := 6) rfl)) (fun _ h9 => h9) rfl (by decide +kernel) rfl rfl (Nat.le_of_ble_eq_true rfl) dX12_way_87 (fun H locs hP hD hS => ?_)
          have hP : va_P (dC, dI) vwCl [(ksides, .inl (ky 0, 36, .inl ksidesF)), (o, .inr (12, [.int (nI 0), .ref ktape, .int (nI ktaped), .int (nI ksize), .int (nI klimit), .int (nI kto), .int (nI kfrom), .int kkind, .int knumber, .int ksign, .int kfault, .int kplace, .long kword, .int ktold, .ref know, .ref kread, .ref kkept, .ref ksnaps, .ref kaside, .ref kname, .ref kreadName, .ref kkeptName, .ref kisKept, .ref konces, .int (nI ksnapMany), .int khasCells, .ref kpoured, .ref kfar, .ref ksides, .int (nI 0), .int (nI 0), .int khasWay, .ref klines, .ref kmet, .int (nI kmetMany), .ref ksunk, .ref ktrying, .int (nI ksunkMany), .int ksending, .int kfleets, .ref ktext, .int (nI ktexts), .int kseed, .ref kline, .ref kwritten, .int (nI klineMany), .int khasWritten, .ref knode, .int (nI knodes), .int (nI konesMany), .int (nI kwithin), .int (nI ktop)])), (know, .inl (ky 0, 373, .inl knowF)), (kfar, .inl (ky 0, 36, .inl kfarG_33))] H := hP
          have hD : va_D A [(ksides, .inl (ky 0, 36, .inl ksidesF)), (o, .inr (12, [.int (nI 0), .ref ktape, .int (nI ktaped), .int (nI ksize), .int (nI klimit), .int (nI kto), .int (nI kfrom), .int kkind, .int knumber, .int ksign, .int kfault, .int kplace, .long kword, .int ktold, .ref know, .ref kread, .ref kkept, .ref ksnaps, .ref kaside, .ref kname, .ref kreadName, .ref kkeptName, .ref kisKept, .ref konces, .int (nI ksnapMany), .int khasCells, .ref kpoured, .ref kfar, .ref ksides, .int (nI 0), .int (nI 0), .int khasWay, .ref klines, .ref kmet, .int (nI kmetMany), .ref ksunk, .ref ktrying, .int (nI ksunkMany), .int ksending, .int kfleets, .ref ktext, .int (nI ktexts), .int kseed, .ref kline, .ref kwritten, .int (nI klineMany), .int khasWritten, .ref knode, .int (nI knodes), .int (nI konesMany), .int (nI kwithin), .int (nI ktop)])), (know, .inl (ky 0, 373, .inl knowF)), (kfar, .inl (ky 0, 36, .inl kfarG_33))] := hD
          refine lv_iconst (v := nI 0) hx hb dX12_way_90 (by decide) ?_
          refine lv_istore (lv' := [(5, .int (nI 0)), (4, .int (nI (n55 / 64))), (3, .int (nI n41)), (0, .ref o), (1, .int x), (2, .int y)]) hx hb dX12_way_91 hl (by decide) rfl (fun ls hl => ?_)
          have hL90 : ∀ (n91 : Nat) (x80 : Int32) (k81 : Nat) (f82 : Nat → Int32) (k83 : Nat) (x84 : Int32), (k81 ≤ 35) → (k83 ≤ 36) → (k81 < 36) → ((kfarG_33 k81).toInt < 100000) → (k83 + rankF kfarG_33 (kfarG_33 k81).toInt 36 ≤ 35) → rankF kfarG_33 (kfarG_33 k81).toInt 36 < n91 → ∀ (H : Heap) (locs : List Loc) (ls : Array Slot), va_P (dC, dI) vwCl [(ksides, .inl (ky 0, 36, .inl f82)), (o, .inr (12, [.int (nI 0), .ref ktape, .int (nI ktaped), .int (nI ksize), .int (nI klimit), .int (nI kto), .int (nI kfrom), .int kkind, .int knumber, .int ksign, .int kfault, .int kplace, .long kword, .int ktold, .ref know, .ref kread, .ref kkept, .ref ksnaps, .ref kaside, .ref kname, .ref kreadName, .ref kkeptName, .ref kisKept, .ref konces, .int (nI ksnapMany), .int khasCells, .ref kpoured, .ref kfar, .ref ksides, .int (nI k83), .int x84, .int khasWay, .ref klines, .ref kmet, .int (nI kmetMany), .ref ksunk, .ref ktrying, .int (nI ksunkMany), .int ksending, .int kfleets, .ref ktext, .int (nI ktexts), .int kseed, .ref kline, .ref kwritten, .int (nI klineMany), .int khasWritten, .ref knode, .int (nI knodes), .int (nI konesMany), .int (nI kwithin), .int (nI ktop)])), (know, .inl (ky 0, 373, .inl knowF)), (kfar, .inl (ky 0, 36, .inl kfarG_33))] H → va_D A [(ksides, .inl (ky 0, 36, .inl f82)), (o, .inr (12, [.int (nI 0), .ref ktape, .int (nI ktaped), .int (nI ksize), .int (nI klimit), .int (nI kto), .int (nI kfrom), .int kkind, .int knumber, .int ksign, .int kfault, .int kplace, .long kword, .int ktold, .ref know, .ref kread, .ref kkept, .ref ksnaps, .ref kaside, .ref kname, .ref kreadName, .ref kkeptName, .ref kisKept, .ref konces, .int (nI ksnapMany), .int khasCells, .ref kpoured, .ref kfar, .ref ksides, .int (nI k83), .int x84, .int khasWay, .ref klines, .ref kmet, .int (nI kmetMany), .ref ksunk, .ref ktrying, .int (nI ksunkMany), .int ksending, .int kfleets, .ref ktext, .int (nI ktexts), .int kseed, .ref kline, .ref kwritten, .int (nI klineMany), .int khasWritten, .ref knode, .int (nI knodes), .int (nI konesMany), .int (nI kwithin), .int (nI ktop)])), (know, .inl (ky 0, 373, .inl knowF)), (kfar, .inl (ky 0, 36, .inl kfarG_33))] → va_S A s.heap H locs → lv_has ls 7 [(5, .int x80), (4, .int (nI (n55 / 64))), (3, .int (nI k81)), (0, .ref o), (1, .int x), (2, .int y)] → W p l e (headSpec wsX12_way ({ frames := 5, cells := 0, slots := 0, locals := 117 })).room s m args below meth c H locs 0 0 Q (F0 m 93 ls []) := by
            intro n91
            induction n91 with
            | zero => intro x80 k81 f82 k83 x84 _ _ _ _ _ h9; exact absurd h9 (Nat.not_lt_zero _)
            | succ n91 ih92 =>
              intro x80 k81 f82 k83 x84 j85 j86 j87 j88 j89 hm93 H locs ls hP hD hS hl
              refine lv_iload_n hx hb dX12_way_93 rfl (lv_at hl 2 rfl) ?_
              refine lv_aload_n hx hb dX12_way_94 rfl (lv_at hl 3 rfl) ?_
              refine va_get (D := (dC, dI)) (ci := 12) (v := .ref know) (C := RX12) (T := TX12) (N := 52) hx hb hts hin12 hown hK hP 1 rfl rfl 14 (by decide) (hts (.fieldLink RX12 98 "PorridgeSeaModel" "now" "[I") (List.mem_of_getElem? (i := 2) rfl)) (fun _ h9 => h9) rfl dX12_way_95 ?_
              refine lv_bipush (v := nI 107) hx hb dX12_way_98 (by decide) ?_
              refine lv_iload_n hx hb dX12_way_100 rfl (lv_at hl 5 rfl) ?_
              rw [e20]
              refine lv_iadd hx hb dX12_way_101 ?_
              refine r_ti (nI (107 + n18)) (nI_add _ _) ?_
              obtain ⟨y94, e95⟩ : ∃ z9, z9 = knowF (107 + n18) := ⟨_, rfl⟩
              refine r_iald hx hb hK hP 2 rfl (107 + n18) (lf_x_way_20 knowF x y n18 y21 n25 n28 kfarG_33 y37 n41 y44 y51 n55 k81 k83 n91 y94 ab_now t3 t4 t5 t10 t11 t12 h19 e20 e22 b23 b24 h26 e27 h29 e30 p34 p35 p36 e38 b39 b40 h42 e43 e45 b46 b47 c48 f49 hR50 e52 b53 b54 h56 e57 j85 j86 j87 j88 j89 hm93 e95) (by decide) y94 e95.symm dX12_way_102 ?_
              obtain ⟨b96, b97⟩ : (0 : Int) ≤ y94.toInt ∧ y94.toInt ≤ 35 := by rw [e95]; exact ld_NB_107 ab_now (107 + n18) (lf_x_way_21 knowF x y n18 y21 n25 n28 kfarG_33 y37 n41 y44 y51 n55 k81 k83 n91 y94 ab_now t3 t4 t5 t10 t11 t12 h19 e20 e22 b23 b24 h26 e27 h29 e30 p34 p35 p36 e38 b39 b40 h42 e43 e45 b46 b47 c48 f49 hR50 e52 b53 b54 h56 e57 j85 j86 j87 j88 j89 hm93 e95) (lf_x_way_22 knowF x y n18 y21 n25 n28 kfarG_33 y37 n41 y44 y51 n55 k81 k83 n91 y94 ab_now t3 t4 t5 t10 t11 t12 h19 e20 e22 b23 b24 h26 e27 h29 e30 p34 p35 p36 e38 b39 b40 h42 e43 e45 b46 b47 c48 f49 hR50 e52 b53 b54 h56 e57 j85 j86 j87 j88 j89 hm93 e95)
              refine lv_icmp_eq (tgt := 205) hx hb dX12_way_103 (by decide) (fun c98 => ?_) (fun c98 => ?_)
              · refine lv_aload_n hx hb dX12_way_205 rfl (lv_at hl 3 rfl) ?_
                refine lv_iconst (v := nI 1) hx hb dX12_way_206 (by decide) ?_
                refine va_put (D := (dC, dI)) (ci := 12) (v := .int (nI 1)) (ty := .boolean) (C := RX12) (T := TX12) (N := 52) hx hb hts hin12 tyX12 tyX12_ok nmX12 hown hK hP hD hS 1 rfl rfl 31 (by decide) (hts (.fieldLink RX12 326 "PorridgeSeaModel" "hasWay" "Z") (List.mem_of_getElem? (i := 8) rfl)) (fun _ h9 => h9) rfl (by decide +kernel) (by decide) (by decide) (Nat.le_of_ble_eq_true rfl) dX12_way_207 (fun H locs hP hD hS => ?_)
                have hP : va_P (dC, dI) vwCl [(ksides, .inl (ky 0, 36, .inl f82)), (o, .inr (12, [.int (nI 0), .ref ktape, .int (nI ktaped), .int (nI ksize), .int (nI klimit), .int (nI kto), .int (nI kfrom), .int kkind, .int knumber, .int ksign, .int kfault, .int kplace, .long kword, .int ktold, .ref know, .ref kread, .ref kkept, .ref ksnaps, .ref kaside, .ref kname, .ref kreadName, .ref kkeptName, .ref kisKept, .ref konces, .int (nI ksnapMany), .int khasCells, .ref kpoured, .ref kfar, .ref ksides, .int (nI k83), .int x84, .int (nI 1), .ref klines, .ref kmet, .int (nI kmetMany), .ref ksunk, .ref ktrying, .int (nI ksunkMany), .int ksending, .int kfleets, .ref ktext, .int (nI ktexts), .int kseed, .ref kline, .ref kwritten, .int (nI klineMany), .int khasWritten, .ref knode, .int (nI knodes), .int (nI konesMany), .int (nI kwithin), .int (nI ktop)])), (know, .inl (ky 0, 373, .inl knowF)), (kfar, .inl (ky 0, 36, .inl kfarG_33))] H := hP
                have hD : va_D A [(ksides, .inl (ky 0, 36, .inl f82)), (o, .inr (12, [.int (nI 0), .ref ktape, .int (nI ktaped), .int (nI ksize), .int (nI klimit), .int (nI kto), .int (nI kfrom), .int kkind, .int knumber, .int ksign, .int kfault, .int kplace, .long kword, .int ktold, .ref know, .ref kread, .ref kkept, .ref ksnaps, .ref kaside, .ref kname, .ref kreadName, .ref kkeptName, .ref kisKept, .ref konces, .int (nI ksnapMany), .int khasCells, .ref kpoured, .ref kfar, .ref ksides, .int (nI k83), .int x84, .int (nI 1), .ref klines, .ref kmet, .int (nI kmetMany), .ref ksunk, .ref ktrying, .int (nI ksunkMany), .int ksending, .int kfleets, .ref ktext, .int (nI ktexts), .int kseed, .ref kline, .ref kwritten, .int (nI klineMany), .int khasWritten, .ref knode, .int (nI knodes), .int (nI konesMany), .int (nI kwithin), .int (nI ktop)])), (know, .inl (ky 0, 373, .inl knowF)), (kfar, .inl (ky 0, 36, .inl kfarG_33))] := hD
                refine lv_iload hx hb dX12_way_210 (lv_at hl 1 rfl) ?_
                rw [hQ]
                have hP9 := hP.sub (ws' := [(o, .inr (12, [.int (nI 0), .ref ktape, .int (nI ktaped), .int (nI ksize), .int (nI klimit), .int (nI kto), .int (nI kfrom), .int kkind, .int knumber, .int ksign, .int kfault, .int kplace, .long kword, .int ktold, .ref know, .ref kread, .ref kkept, .ref ksnaps, .ref kaside, .ref kname, .ref kreadName, .ref kkeptName, .ref kisKept, .ref konces, .int (nI ksnapMany), .int khasCells, .ref kpoured, .ref kfar, .ref ksides, .int (nI k83), .int x84, .int (nI 1), .ref klines, .ref kmet, .int (nI kmetMany), .ref ksunk, .ref ktrying, .int (nI ksunkMany), .int ksending, .int kfleets, .ref ktext, .int (nI ktexts), .int kseed, .ref kline, .ref kwritten, .int (nI klineMany), .int khasWritten, .ref knode, .int (nI knodes), .int (nI konesMany), .int (nI kwithin), .int (nI ktop)])), (know, .inl (ky 0, 373, .inl knowF)), (kfar, .inl (ky 0, 36, .inl kfarG_33)), (ksides, .inl (ky 0, 36, .inl f82))]) [1, 2, 3, 0] rfl
                have hD9 := hD.sub (ws' := [(o, .inr (12, [.int (nI 0), .ref ktape, .int (nI ktaped), .int (nI ksize), .int (nI klimit), .int (nI kto), .int (nI kfrom), .int kkind, .int knumber, .int ksign, .int kfault, .int kplace, .long kword, .int ktold, .ref know, .ref kread, .ref kkept, .ref ksnaps, .ref kaside, .ref kname, .ref kreadName, .ref kkeptName, .ref kisKept, .ref konces, .int (nI ksnapMany), .int khasCells, .ref kpoured, .ref kfar, .ref ksides, .int (nI k83), .int x84, .int (nI 1), .ref klines, .ref kmet, .int (nI kmetMany), .ref ksunk, .ref ktrying, .int (nI ksunkMany), .int ksending, .int kfleets, .ref ktext, .int (nI ktexts), .int kseed, .ref kline, .ref kwritten, .int (nI klineMany), .int khasWritten, .ref knode, .int (nI knodes), .int (nI konesMany), .int (nI kwithin), .int (nI ktop)])), (know, .inl (ky 0, 373, .inl knowF)), (kfar, .inl (ky 0, 36, .inl kfarG_33)), (ksides, .inl (ky 0, 36, .inl f82))]) [1, 2, 3, 0] (by decide) rfl
                exact W.iret (v := nI (n55 / 64)) hx hb hr (fun t9 ht9 hW9 => ⟨⟨nI (n55 / 64), (nI 0, k83, x84, nI 1, kfarG_33, f82), rfl, ⟨j86, p34⟩, by rw [ht9]; exact hP9, va_K.moved hW9.alike hK, hD9⟩, hS.F ht9⟩) hS.2.2 dX12_way_212
              · have hW99 : ∃ s9, s9 < 4 ∧ fbL knowF kfarG_33 n28 k81 s9 = (kfarG_33 k81).toInt := way_ok p35 p36 (by omega) (lf_x_way_23 knowF x y n18 y21 n25 n28 kfarG_33 y37 n41 y44 y51 n55 k81 k83 n91 y94 ab_now t3 t4 t5 t10 t11 t12 h19 e20 e22 b23 b24 h26 e27 h29 e30 p34 p35 p36 e38 b39 b40 h42 e43 e45 b46 b47 c48 f49 hR50 e52 b53 b54 h56 e57 j85 j86 j87 j88 j89 hm93 e95 b96 b97 c98) (by assumption)
                refine lv_iconst (v := nI 0) hx hb dX12_way_106 (by decide) ?_
                refine lv_istore (lv' := [(6, .int (nI 0)), (5, .int x80), (4, .int (nI (n55 / 64))), (3, .int (nI k81)), (0, .ref o), (1, .int x), (2, .int y)]) hx hb dX12_way_107 hl (by decide) rfl (fun ls hl => ?_)
                have hL109 : ∀ (n110 : Nat) (k106 : Nat), (k106 ≤ 4) → (k106 < 4) → (∀ s9, s9 < k106 → ¬ fbL knowF kfarG_33 n28 k81 s9 = (kfarG_33 k81).toInt) → 5 - k106 < n110 → ∀ (H : Heap) (locs : List Loc) (ls : Array Slot), va_P (dC, dI) vwCl [(ksides, .inl (ky 0, 36, .inl f82)), (o, .inr (12, [.int (nI 0), .ref ktape, .int (nI ktaped), .int (nI ksize), .int (nI klimit), .int (nI kto), .int (nI kfrom), .int kkind, .int knumber, .int ksign, .int kfault, .int kplace, .long kword, .int ktold, .ref know, .ref kread, .ref kkept, .ref ksnaps, .ref kaside, .ref kname, .ref kreadName, .ref kkeptName, .ref kisKept, .ref konces, .int (nI ksnapMany), .int khasCells, .ref kpoured, .ref kfar, .ref ksides, .int (nI k83), .int x84, .int khasWay, .ref klines, .ref kmet, .int (nI kmetMany), .ref ksunk, .ref ktrying, .int (nI ksunkMany), .int ksending, .int kfleets, .ref ktext, .int (nI ktexts), .int kseed, .ref kline, .ref kwritten, .int (nI klineMany), .int khasWritten, .ref knode, .int (nI knodes), .int (nI konesMany), .int (nI kwithin), .int (nI ktop)])), (know, .inl (ky 0, 373, .inl knowF)), (kfar, .inl (ky 0, 36, .inl kfarG_33))] H → va_D A [(ksides, .inl (ky 0, 36, .inl f82)), (o, .inr (12, [.int (nI 0), .ref ktape, .int (nI ktaped), .int (nI ksize), .int (nI klimit), .int (nI kto), .int (nI kfrom), .int kkind, .int knumber, .int ksign, .int kfault, .int kplace, .long kword, .int ktold, .ref know, .ref kread, .ref kkept, .ref ksnaps, .ref kaside, .ref kname, .ref kreadName, .ref kkeptName, .ref kisKept, .ref konces, .int (nI ksnapMany), .int khasCells, .ref kpoured, .ref kfar, .ref ksides, .int (nI k83), .int x84, .int khasWay, .ref klines, .ref kmet, .int (nI kmetMany), .ref ksunk, .ref ktrying, .int (nI ksunkMany), .int ksending, .int kfleets, .ref ktext, .int (nI ktexts), .int kseed, .ref kline, .ref kwritten, .int (nI klineMany), .int khasWritten, .ref knode, .int (nI knodes), .int (nI konesMany), .int (nI kwithin), .int (nI ktop)])), (know, .inl (ky 0, 373, .inl knowF)), (kfar, .inl (ky 0, 36, .inl kfarG_33))] → va_S A s.heap H locs → lv_has ls 7 [(6, .int (nI k106)), (5, .int x80), (4, .int (nI (n55 / 64))), (3, .int (nI k81)), (0, .ref o), (1, .int x), (2, .int y)] → W p l e (headSpec wsX12_way ({ frames := 5, cells := 0, slots := 0, locals := 117 })).room s m args below meth c H locs 0 0 Q (F0 m 109 ls []) := by
                  intro n110
                  induction n110 with
                  | zero => intro k106 _ _ _ h9; exact absurd h9 (Nat.not_lt_zero _)
                  | succ n110 ih111 =>
                    intro k106 j107 j108 hns hm112 H locs ls hP hD hS hl
                    refine lv_aload_n hx hb dX12_way_109 rfl (lv_at hl 4 rfl) ?_
                    refine lv_iload_n hx hb dX12_way_110 rfl (lv_at hl 5 rfl) ?_
                    refine lv_iload_n hx hb dX12_way_111 rfl (lv_at hl 3 rfl) ?_
                    refine lv_iload hx hb dX12_way_112 (lv_at hl 0 rfl) ?_
                    rw [e30]
                    refine vp_callSi (W.runV (As := [.int (nI n28), .int (nI k81), .int (nI k106)]) (rest := []) ⟨hx, hb, hml, hown, hts⟩ (c_x_farBy l dC dI ky o (nI 0) ktape ktaped ksize klimit kto kfrom kkind knumber ksign kfault kplace kword ktold know kread kkept ksnaps kaside kname kreadName kkeptName kisKept konces ksnapMany khasCells kpoured kfar ksides k83 x84 khasWay klines kmet kmetMany ksunk ktrying ksunkMany ksending kfleets ktext ktexts kseed kline kwritten klineMany khasWritten knode knodes konesMany kwithin ktop knowF kfarG_33 n28 k81 k106 iv_ko_0 iv_ko_1 iv_ko_2 iv_ko_3 iv_ko_4 iv_ko_5 j86 iv_ko_7 iv_ko_8 iv_ko_9 iv_ko_10 iv_ko_11 iv_ko_12 iv_ko_13 iv_ko_14 ab_now p34 h29 j87 j108) (cwV 3 hts gX12_way_X12_farBy rfl rfl rfl (by decide +kernel) ⟨(Nat.le_of_ble_eq_true rfl), (Nat.le_of_ble_eq_true rfl)⟩) (pre_PV hK hP [1, 2, 3] rfl (ci := 12) (q0 := 1) rfl rfl) rfl rfl hl.1 rfl (lv_room (Nat.le_of_ble_eq_true rfl)) dX12_way_114 ⟨(Nat.le_of_ble_eq_true rfl), (Nat.le_of_ble_eq_true rfl)⟩) (fun r113 p114 => ?_)
                    refine lv_aload_n hx hb dX12_way_117 rfl (lv_at hl 4 rfl) ?_
                    refine va_get (D := (dC, dI)) (ci := 12) (v := .ref kfar) (C := RX12) (T := TX12) (N := 52) hx hb hts hin12 hown hK hP 1 rfl rfl 27 (by decide) (hts (.fieldLink RX12 133 "PorridgeSeaModel" "far" "[I") (List.mem_of_getElem? (i := 3) rfl)) (fun _ h9 => h9) rfl dX12_way_118 ?_
                    refine lv_iload_n hx hb dX12_way_121 rfl (lv_at hl 3 rfl) ?_
                    obtain ⟨y115, e116⟩ : ∃ z9, z9 = kfarG_33 k81 := ⟨_, rfl⟩
                    refine r_iald hx hb hK hP 3 rfl k81 (lf_x_way_24 knowF x y n18 y21 n25 n28 kfarG_33 y37 n41 y44 y51 n55 k81 k83 n91 y94 k106 n110 r113 y115 ab_now t3 t4 t5 t10 t11 t12 h19 e20 e22 b23 b24 h26 e27 h29 e30 p34 p35 p36 e38 b39 b40 h42 e43 e45 b46 b47 c48 f49 hR50 e52 b53 b54 h56 e57 j85 j86 j87 j88 j89 hm93 e95 b96 b97 c98 hW99 j107 j108 hns hm112 p114 e116) (by decide) y115 e116.symm dX12_way_122 ?_
                    obtain ⟨b117, b118⟩ : (0 : Int) ≤ y115.toInt ∧ y115.toInt ≤ 100000 := by rw [e116]; exact ld_FB36_0 p34 k81 (lf_x_way_25 knowF x y n18 y21 n25 n28 kfarG_33 y37 n41 y44 y51 n55 k81 k83 n91 y94 k106 n110 r113 y115 ab_now t3 t4 t5 t10 t11 t12 h19 e20 e22 b23 b24 h26 e27 h29 e30 p34 p35 p36 e38 b39 b40 h42 e43 e45 b46 b47 c48 f49 hR50 e52 b53 b54 h56 e57 j85 j86 j87 j88 j89 hm93 e95 b96 b97 c98 hW99 j107 j108 hns hm112 p114 e116) (lf_x_way_26 knowF x y n18 y21 n25 n28 kfarG_33 y37 n41 y44 y51 n55 k81 k83 n91 y94 k106 n110 r113 y115 ab_now t3 t4 t5 t10 t11 t12 h19 e20 e22 b23 b24 h26 e27 h29 e30 p34 p35 p36 e38 b39 b40 h42 e43 e45 b46 b47 c48 f49 hR50 e52 b53 b54 h56 e57 j85 j86 j87 j88 j89 hm93 e95 b96 b97 c98 hW99 j107 j108 hns hm112 p114 e116)
                    refine lv_icmp_eq (tgt := 132) hx hb dX12_way_123 (by decide) (fun c119 => ?_) (fun c119 => ?_)
                    · refine lv_aload_n hx hb dX12_way_132 rfl (lv_at hl 4 rfl) ?_
                      refine va_get (D := (dC, dI)) (ci := 12) (v := .ref ksides) (C := RX12) (T := TX12) (N := 52) hx hb hts hin12 hown hK hP 1 rfl rfl 28 (by decide) (hts (.fieldLink RX12 136 "PorridgeSeaModel" "sides" "[I") (List.mem_of_getElem? (i := 7) rfl)) (fun _ h9 => h9) rfl dX12_way_133 ?_
                      refine lv_aload_n hx hb dX12_way_136 rfl (lv_at hl 4 rfl) ?_
                      refine va_get (D := (dC, dI)) (ci := 12) (v := .int (nI k83)) (C := RX12) (T := TX12) (N := 52) hx hb hts hin12 hown hK hP 1 rfl rfl 29 (by decide) (hts (.fieldLink RX12 323 "PorridgeSeaModel" "sideMany" "I") (List.mem_of_getElem? (i := 5) rfl)) (fun _ h9 => h9) rfl dX12_way_137 ?_
                      refine lv_iload hx hb dX12_way_140 (lv_at hl 0 rfl) ?_
                      refine r_iast (x := (nI k106)) hx hb hK hP hD hS 0 rfl k83 (lf_x_way_27 knowF x y n18 y21 n25 n28 kfarG_33 y37 n41 y44 y51 n55 k81 k83 n91 y94 k106 n110 r113 y115 ab_now t3 t4 t5 t10 t11 t12 h19 e20 e22 b23 b24 h26 e27 h29 e30 p34 p35 p36 e38 b39 b40 h42 e43 e45 b46 b47 c48 f49 hR50 e52 b53 b54 h56 e57 j85 j86 j87 j88 j89 hm93 e95 b96 b97 c98 hW99 j107 j108 hns hm112 p114 e116 b117 b118 c119) (by decide) dX12_way_142 (fun H locs hP hD hS => ?_)
                      obtain ⟨g120, e121⟩ : ∃ z9, z9 = upd f82 k83 (nI k106) := ⟨_, rfl⟩
                      rw [← e121] at hP hD
                      have hP : va_P (dC, dI) vwCl [(ksides, .inl (ky 0, 36, .inl g120)), (o, .inr (12, [.int (nI 0), .ref ktape, .int (nI ktaped), .int (nI ksize), .int (nI klimit), .int (nI kto), .int (nI kfrom), .int kkind, .int knumber, .int ksign, .int kfault, .int kplace, .long kword, .int ktold, .ref know, .ref kread, .ref kkept, .ref ksnaps, .ref kaside, .ref kname, .ref kreadName, .ref kkeptName, .ref kisKept, .ref konces, .int (nI ksnapMany), .int khasCells, .ref kpoured, .ref kfar, .ref ksides, .int (nI k83), .int x84, .int khasWay, .ref klines, .ref kmet, .int (nI kmetMany), .ref ksunk, .ref ktrying, .int (nI ksunkMany), .int ksending, .int kfleets, .ref ktext, .int (nI ktexts), .int kseed, .ref kline, .ref kwritten, .int (nI klineMany), .int khasWritten, .ref knode, .int (nI knodes), .int (nI konesMany), .int (nI kwithin), .int (nI ktop)])), (know, .inl (ky 0, 373, .inl knowF)), (kfar, .inl (ky 0, 36, .inl kfarG_33))] H := hP
                      have hD : va_D A [(ksides, .inl (ky 0, 36, .inl g120)), (o, .inr (12, [.int (nI 0), .ref ktape, .int (nI ktaped), .int (nI ksize), .int (nI klimit), .int (nI kto), .int (nI kfrom), .int kkind, .int knumber, .int ksign, .int kfault, .int kplace, .long kword, .int ktold, .ref know, .ref kread, .ref kkept, .ref ksnaps, .ref kaside, .ref kname, .ref kreadName, .ref kkeptName, .ref kisKept, .ref konces, .int (nI ksnapMany), .int khasCells, .ref kpoured, .ref kfar, .ref ksides, .int (nI k83), .int x84, .int khasWay, .ref klines, .ref kmet, .int (nI kmetMany), .ref ksunk, .ref ktrying, .int (nI ksunkMany), .int ksending, .int kfleets, .ref ktext, .int (nI ktexts), .int kseed, .ref kline, .ref kwritten, .int (nI klineMany), .int khasWritten, .ref knode, .int (nI knodes), .int (nI konesMany), .int (nI kwithin), .int (nI ktop)])), (know, .inl (ky 0, 373, .inl knowF)), (kfar, .inl (ky 0, 36, .inl kfarG_33))] := hD
                      refine lv_aload_n hx hb dX12_way_143 rfl (lv_at hl 4 rfl) ?_
                      refine lv_dup hx hb dX12_way_144 rfl ?_
                      refine va_get (D := (dC, dI)) (ci := 12) (v := .int (nI k83)) (C := RX12) (T := TX12) (N := 52) hx hb hts hin12 hown hK hP 1 rfl rfl 29 (by decide) (hts (.fieldLink RX12 323 "PorridgeSeaModel" "sideMany" "I") (List.mem_of_getElem? (i := 5) rfl)) (fun _ h9 => h9) rfl dX12_way_145 ?_
                      refine lv_iconst (v := nI 1) hx hb dX12_way_148 (by decide) ?_
                      refine lv_iadd hx hb dX12_way_149 ?_
                      refine r_ti (nI (k83 + 1)) (nI_add _ _) ?_
                      refine va_put (D := (dC, dI)) (ci := 12) (v := .int (nI (k83 + 1))) (ty := .int) (C := RX12) (T := TX12) (N := 52) hx hb hts hin12 tyX12 tyX12_ok nmX12 hown hK hP hD hS 1 rfl rfl 29 (by decide) (hts (.fieldLink RX12 323 "PorridgeSeaModel" "sideMany" "I") (List.mem_of_getElem? (i := 5) rfl)) (fun _ h9 => h9) rfl (by decide +kernel) rfl rfl (Nat.le_of_ble_eq_true rfl) dX12_way_150 (fun H locs hP hD hS => ?_)
                      have hP : va_P (dC, dI) vwCl [(ksides, .inl (ky 0, 36, .inl g120)), (o, .inr (12, [.int (nI 0), .ref ktape, .int (nI ktaped), .int (nI ksize), .int (nI klimit), .int (nI kto), .int (nI kfrom), .int kkind, .int knumber, .int ksign, .int kfault, .int kplace, .long kword, .int ktold, .ref know, .ref kread, .ref kkept, .ref ksnaps, .ref kaside, .ref kname, .ref kreadName, .ref kkeptName, .ref kisKept, .ref konces, .int (nI ksnapMany), .int khasCells, .ref kpoured, .ref kfar, .ref ksides, .int (nI (k83 + 1)), .int x84, .int khasWay, .ref klines, .ref kmet, .int (nI kmetMany), .ref ksunk, .ref ktrying, .int (nI ksunkMany), .int ksending, .int kfleets, .ref ktext, .int (nI ktexts), .int kseed, .ref kline, .ref kwritten, .int (nI klineMany), .int khasWritten, .ref knode, .int (nI knodes), .int (nI konesMany), .int (nI kwithin), .int (nI ktop)])), (know, .inl (ky 0, 373, .inl knowF)), (kfar, .inl (ky 0, 36, .inl kfarG_33))] H := hP
                      have hD : va_D A [(ksides, .inl (ky 0, 36, .inl g120)), (o, .inr (12, [.int (nI 0), .ref ktape, .int (nI ktaped), .int (nI ksize), .int (nI klimit), .int (nI kto), .int (nI kfrom), .int kkind, .int knumber, .int ksign, .int kfault, .int kplace, .long kword, .int ktold, .ref know, .ref kread, .ref kkept, .ref ksnaps, .ref kaside, .ref kname, .ref kreadName, .ref kkeptName, .ref kisKept, .ref konces, .int (nI ksnapMany), .int khasCells, .ref kpoured, .ref kfar, .ref ksides, .int (nI (k83 + 1)), .int x84, .int khasWay, .ref klines, .ref kmet, .int (nI kmetMany), .ref ksunk, .ref ktrying, .int (nI ksunkMany), .int ksending, .int kfleets, .ref ktext, .int (nI ktexts), .int kseed, .ref kline, .ref kwritten, .int (nI klineMany), .int khasWritten, .ref knode, .int (nI knodes), .int (nI konesMany), .int (nI kwithin), .int (nI ktop)])), (know, .inl (ky 0, 373, .inl knowF)), (kfar, .inl (ky 0, 36, .inl kfarG_33))] := hD
                      refine lv_aload_n hx hb dX12_way_153 rfl (lv_at hl 4 rfl) ?_
                      refine lv_iload_n hx hb dX12_way_154 rfl (lv_at hl 3 rfl) ?_
                      refine lv_iload hx hb dX12_way_155 (lv_at hl 0 rfl) ?_
                      refine vp_callSi (W.runV (As := [.int (nI k81), .int (nI k106)]) (rest := []) ⟨hx, hb, hml, hown, hts⟩ (c_x_besideE l dC dI ky o (nI 0) ktape ktaped ksize klimit kto kfrom kkind knumber ksign kfault kplace kword ktold know kread kkept ksnaps kaside kname kreadName kkeptName kisKept konces ksnapMany khasCells kpoured kfar ksides (k83 + 1) x84 khasWay klines kmet kmetMany ksunk ktrying ksunkMany ksending kfleets ktext ktexts kseed kline kwritten klineMany khasWritten knode knodes konesMany kwithin ktop knowF k81 k106 iv_ko_0 iv_ko_1 iv_ko_2 iv_ko_3 iv_ko_4 iv_ko_5 (lf_x_way_28 knowF x y n18 y21 n25 n28 kfarG_33 y37 n41 y44 y51 n55 k81 k83 n91 y94 k106 n110 r113 y115 ab_now t3 t4 t5 t10 t11 t12 h19 e20 e22 b23 b24 h26 e27 h29 e30 p34 p35 p36 e38 b39 b40 h42 e43 e45 b46 b47 c48 f49 hR50 e52 b53 b54 h56 e57 j85 j86 j87 j88 j89 hm93 e95 b96 b97 c98 hW99 j107 j108 hns hm112 p114 e116 b117 b118 c119) iv_ko_7 iv_ko_8 iv_ko_9 iv_ko_10 iv_ko_11 iv_ko_12 iv_ko_13 iv_ko_14 ab_now j87 j108) (cwV 2 hts gX12_way_X12_beside rfl rfl rfl (by decide +kernel) ⟨(Nat.le_of_ble_eq_true rfl), (Nat.le_of_ble_eq_true rfl)⟩) (pre_PV hK hP [1, 2] rfl (ci := 12) (q0 := 1) rfl rfl) rfl rfl hl.1 rfl (lv_room (Nat.le_of_ble_eq_true rfl)) dX12_way_157 ⟨(Nat.le_of_ble_eq_true rfl), (Nat.le_of_ble_eq_true rfl)⟩) (fun r122 p123 => ?_)
                      rcases p123 with ⟨rfl, t128⟩ | ⟨k124, ⟨h126, h127⟩, rfl⟩
                      · have hE129 : fbL knowF kfarG_33 n28 k81 k106 = (kfarG_33 k81).toInt := (lf_x_way_29 knowF x y n18 y21 n25 n28 kfarG_33 y37 n41 y44 y51 n55 k81 k83 n91 y94 k106 n110 r113 y115 ab_now t3 t4 t5 t10 t11 t12 h19 e20 e22 b23 b24 h26 e27 h29 e30 p34 p35 p36 e38 b39 b40 h42 e43 e45 b46 b47 c48 f49 hR50 e52 b53 b54 h56 e57 j85 j86 j87 j88 j89 hm93 e95 b96 b97 c98 hW99 j107 j108 hns hm112 p114 e116 b117 b118 c119 t128)
                        exact absurd (fbL_none (f := kfarG_33) (b := n28) t128) (by omega)
                      · have hE130 : fbL knowF kfarG_33 n28 k81 k106 = (kfarG_33 k81).toInt := (lf_x_way_30 knowF x y n18 y21 n25 n28 kfarG_33 y37 n41 y44 y51 n55 k81 k83 n91 y94 k106 n110 r113 y115 k124 ab_now t3 t4 t5 t10 t11 t12 h19 e20 e22 b23 b24 h26 e27 h29 e30 p34 p35 p36 e38 b39 b40 h42 e43 e45 b46 b47 c48 f49 hR50 e52 b53 b54 h56 e57 j85 j86 j87 j88 j89 hm93 e95 b96 b97 c98 hW99 j107 j108 hns hm112 p114 e116 b117 b118 c119 h126 h127)
                        obtain ⟨hG131, hG132⟩ := fbL_some (f := kfarG_33) (b := n28) ab_now h127 (by omega) (by omega)
                        have hG133 : rankF kfarG_33 (kfarG_33 k124).toInt 36 < rankF kfarG_33 (kfarG_33 k81).toInt 36 := rankF_lt0 (by omega) 36 (by omega)
                        refine lv_istore_n (lv' := [(3, .int (nI k124)), (6, .int (nI k106)), (5, .int x80), (4, .int (nI (n55 / 64))), (0, .ref o), (1, .int x), (2, .int y)]) hx hb dX12_way_160 rfl hl (by decide) rfl (fun ls hl => ?_)
                        refine lv_aload_n hx hb dX12_way_161 rfl (lv_at hl 4 rfl) ?_
                        refine lv_iload_n hx hb dX12_way_162 rfl (lv_at hl 0 rfl) ?_
                        refine vp_callSi (W.runV (As := [.int (nI k124)]) (rest := []) ⟨hx, hb, hml, hown, hts⟩ (c_x_costOfE l dC dI ky o (nI 0) ktape ktaped ksize klimit kto kfrom kkind knumber ksign kfault kplace kword ktold know kread kkept ksnaps kaside kname kreadName kkeptName kisKept konces ksnapMany khasCells kpoured kfar ksides (k83 + 1) x84 khasWay klines kmet kmetMany ksunk ktrying ksunkMany ksending kfleets ktext ktexts kseed kline kwritten klineMany khasWritten knode knodes konesMany kwithin ktop knowF k124 iv_ko_0 iv_ko_1 iv_ko_2 iv_ko_3 iv_ko_4 iv_ko_5 (lf_x_way_31 knowF x y n18 y21 n25 n28 kfarG_33 y37 n41 y44 y51 n55 k81 k83 n91 y94 k106 n110 r113 y115 k124 ab_now t3 t4 t5 t10 t11 t12 h19 e20 e22 b23 b24 h26 e27 h29 e30 p34 p35 p36 e38 b39 b40 h42 e43 e45 b46 b47 c48 f49 hR50 e52 b53 b54 h56 e57 j85 j86 j87 j88 j89 hm93 e95 b96 b97 c98 hW99 j107 j108 hns hm112 p114 e116 b117 b118 c119 h126 h127 hE130 hG132 hG133) iv_ko_7 iv_ko_8 iv_ko_9 iv_ko_10 iv_ko_11 iv_ko_12 iv_ko_13 iv_ko_14 ab_now h126) (cwV 1 hts gX12_way_X12_costOf rfl rfl rfl (by decide +kernel) ⟨(Nat.le_of_ble_eq_true rfl), (Nat.le_of_ble_eq_true rfl)⟩) (pre_PV hK hP [1, 2] rfl (ci := 12) (q0 := 1) rfl rfl) rfl rfl hl.1 rfl (lv_room (Nat.le_of_ble_eq_true rfl)) dX12_way_163 ⟨(Nat.le_of_ble_eq_true rfl), (Nat.le_of_ble_eq_true rfl)⟩) (fun r134 p135 => ?_)
                        obtain ⟨k136, ⟨h138, h139, h140⟩, rfl⟩ := p135
                        refine lv_iload hx hb dX12_way_166 (lv_at hl 2 rfl) ?_
                        refine lv_icmp_le (tgt := 192) hx hb dX12_way_168 (by decide) (fun c141 => ?_) (fun c141 => ?_)
                        · refine lv_iload hx hb dX12_way_192 (lv_at hl 2 rfl) ?_
                          refine lv_aload_n hx hb dX12_way_194 rfl (lv_at hl 4 rfl) ?_
                          refine lv_iload_n hx hb dX12_way_195 rfl (lv_at hl 0 rfl) ?_
                          refine vp_callSi (W.runV (As := [.int (nI k124)]) (rest := [.int x80]) ⟨hx, hb, hml, hown, hts⟩ (c_x_costOfE l dC dI ky o (nI 0) ktape ktaped ksize klimit kto kfrom kkind knumber ksign kfault kplace kword ktold know kread kkept ksnaps kaside kname kreadName kkeptName kisKept konces ksnapMany khasCells kpoured kfar ksides (k83 + 1) x84 khasWay klines kmet kmetMany ksunk ktrying ksunkMany ksending kfleets ktext ktexts kseed kline kwritten klineMany khasWritten knode knodes konesMany kwithin ktop knowF k124 iv_ko_0 iv_ko_1 iv_ko_2 iv_ko_3 iv_ko_4 iv_ko_5 (lf_x_way_32 knowF x y n18 y21 n25 n28 kfarG_33 y37 n41 y44 y51 n55 x80 k81 k83 n91 y94 k106 n110 r113 y115 k124 k136 ab_now t3 t4 t5 t10 t11 t12 h19 e20 e22 b23 b24 h26 e27 h29 e30 p34 p35 p36 e38 b39 b40 h42 e43 e45 b46 b47 c48 f49 hR50 e52 b53 b54 h56 e57 j85 j86 j87 j88 j89 hm93 e95 b96 b97 c98 hW99 j107 j108 hns hm112 p114 e116 b117 b118 c119 h126 h127 hE130 hG132 hG133 h138 h139 h140 c141) iv_ko_7 iv_ko_8 iv_ko_9 iv_ko_10 iv_ko_11 iv_ko_12 iv_ko_13 iv_ko_14 ab_now h126) (cwV 1 hts gX12_way_X12_costOf rfl rfl rfl (by decide +kernel) ⟨(Nat.le_of_ble_eq_true rfl), (Nat.le_of_ble_eq_true rfl)⟩) (pre_PV hK hP [1, 2] rfl (ci := 12) (q0 := 1) rfl rfl) rfl rfl hl.1 rfl (lv_room (Nat.le_of_ble_eq_true rfl)) dX12_way_196 ⟨(Nat.le_of_ble_eq_true rfl), (Nat.le_of_ble_eq_true rfl)⟩) (fun r142 p143 => ?_)
                          obtain ⟨k144, ⟨h146, h147, h148⟩, rfl⟩ := p143
                          refine lv_isub hx hb dX12_way_199 ?_
                          refine lv_topi (fun y149 e150 => ?_)
                          refine lv_istore (lv' := [(5, .int y149), (3, .int (nI k124)), (6, .int (nI k106)), (4, .int (nI (n55 / 64))), (0, .ref o), (1, .int x), (2, .int y)]) hx hb dX12_way_200 hl (by decide) rfl (fun ls hl => ?_)
                          refine lv_goto (tgt := 93) hx hb dX12_way_202 (by decide) ?_
                          exact ih92 y149 k124 g120 (k83 + 1) x84 (lf_x_way_33 knowF x y n18 y21 n25 n28 kfarG_33 y37 n41 y44 y51 n55 x80 k81 k83 n91 y94 k106 n110 r113 y115 k124 k136 k144 y149 ab_now t3 t4 t5 t10 t11 t12 h19 e20 e22 b23 b24 h26 e27 h29 e30 p34 p35 p36 e38 b39 b40 h42 e43 e45 b46 b47 c48 f49 hR50 e52 b53 b54 h56 e57 j85 j86 j87 j88 j89 hm93 e95 b96 b97 c98 hW99 j107 j108 hns hm112 p114 e116 b117 b118 c119 h126 h127 hE130 hG132 hG133 h138 h139 h140 c141 h146 h147 h148 e150) (lf_x_way_34 knowF x y n18 y21 n25 n28 kfarG_33 y37 n41 y44 y51 n55 x80 k81 k83 n91 y94 k106 n110 r113 y115 k124 k136 k144 y149 ab_now t3 t4 t5 t10 t11 t12 h19 e20 e22 b23 b24 h26 e27 h29 e30 p34 p35 p36 e38 b39 b40 h42 e43 e45 b46 b47 c48 f49 hR50 e52 b53 b54 h56 e57 j85 j86 j87 j88 j89 hm93 e95 b96 b97 c98 hW99 j107 j108 hns hm112 p114 e116 b117 b118 c119 h126 h127 hE130 hG132 hG133 h138 h139 h140 c141 h146 h147 h148 e150) h126 hG132 (lf_x_way_35 knowF x y n18 y21 n25 n28 kfarG_33 y37 n41 y44 y51 n55 x80 k81 k83 n91 y94 k106 n110 r113 y115 k124 k136 k144 y149 ab_now t3 t4 t5 t10 t11 t12 h19 e20 e22 b23 b24 h26 e27 h29 e30 p34 p35 p36 e38 b39 b40 h42 e43 e45 b46 b47 c48 f49 hR50 e52 b53 b54 h56 e57 j85 j86 j87 j88 j89 hm93 e95 b96 b97 c98 hW99 j107 j108 hns hm112 p114 e116 b117 b118 c119 h126 h127 hE130 hG132 hG133 h138 h139 h140 c141 h146 h147 h148 e150) (lf_x_way_36 knowF x y n18 y21 n25 n28 kfarG_33 y37 n41 y44 y51 n55 x80 k81 k83 n91 y94 k106 n110 r113 y115 k124 k136 k144 y149 ab_now t3 t4 t5 t10 t11 t12 h19 e20 e22 b23 b24 h26 e27 h29 e30 p34 p35 p36 e38 b39 b40 h42 e43 e45 b46 b47 c48 f49 hR50 e52 b53 b54 h56 e57 j85 j86 j87 j88 j89 hm93 e95 b96 b97 c98 hW99 j107 j108 hns hm112 p114 e116 b117 b118 c119 h126 h127 hE130 hG132 hG133 h138 h139 h140 c141 h146 h147 h148 e150) _ _ _ hP hD hS (lv_sub hl [0, 3, 1, 4, 5, 6] rfl)
                        · refine lv_aload_n hx hb dX12_way_171 rfl (lv_at hl 4 rfl) ?_
                          refine lv_dup hx hb dX12_way_172 rfl ?_
                          refine va_get (D := (dC, dI)) (ci := 12) (v := .int x84) (C := RX12) (T := TX12) (N := 52) hx hb hts hin12 hown hK hP 1 rfl rfl 30 (by decide) (hts (.fieldLink RX12 139 "PorridgeSeaModel" "wayDays" "I") (List.mem_of_getElem? (i := 6) rfl)) (fun _ h9 => h9) rfl dX12_way_173 ?_
                          refine lv_iconst (v := nI 1) hx hb dX12_way_176 (by decide) ?_
                          refine lv_iadd hx hb dX12_way_177 ?_
                          refine lv_topi (fun y151 e152 => ?_)
                          refine va_put (D := (dC, dI)) (ci := 12) (v := .int y151) (ty := .int) (C := RX12) (T := TX12) (N := 52) hx hb hts hin12 tyX12 tyX12_ok nmX12 hown hK hP hD hS 1 rfl rfl 30 (by decide) (hts (.fieldLink RX12 139 "PorridgeSeaModel" "wayDays" "I") (List.mem_of_getElem? (i := 6) rfl)) (fun _ h9 => h9) rfl (by decide +kernel) rfl rfl (Nat.le_of_ble_eq_true rfl) dX12_way_178 (fun H locs hP hD hS => ?_)
                          have hP : va_P (dC, dI) vwCl [(ksides, .inl (ky 0, 36, .inl g120)), (o, .inr (12, [.int (nI 0), .ref ktape, .int (nI ktaped), .int (nI ksize), .int (nI klimit), .int (nI kto), .int (nI kfrom), .int kkind, .int knumber, .int ksign, .int kfault, .int kplace, .long kword, .int ktold, .ref know, .ref kread, .ref kkept, .ref ksnaps, .ref kaside, .ref kname, .ref kreadName, .ref kkeptName, .ref kisKept, .ref konces, .int (nI ksnapMany), .int khasCells, .ref kpoured, .ref kfar, .ref ksides, .int (nI (k83 + 1)), .int y151, .int khasWay, .ref klines, .ref kmet, .int (nI kmetMany), .ref ksunk, .ref ktrying, .int (nI ksunkMany), .int ksending, .int kfleets, .ref ktext, .int (nI ktexts), .int kseed, .ref kline, .ref kwritten, .int (nI klineMany), .int khasWritten, .ref knode, .int (nI knodes), .int (nI konesMany), .int (nI kwithin), .int (nI ktop)])), (know, .inl (ky 0, 373, .inl knowF)), (kfar, .inl (ky 0, 36, .inl kfarG_33))] H := hP
                          have hD : va_D A [(ksides, .inl (ky 0, 36, .inl g120)), (o, .inr (12, [.int (nI 0), .ref ktape, .int (nI ktaped), .int (nI ksize), .int (nI klimit), .int (nI kto), .int (nI kfrom), .int kkind, .int knumber, .int ksign, .int kfault, .int kplace, .long kword, .int ktold, .ref know, .ref kread, .ref kkept, .ref ksnaps, .ref kaside, .ref kname, .ref kreadName, .ref kkeptName, .ref kisKept, .ref konces, .int (nI ksnapMany), .int khasCells, .ref kpoured, .ref kfar, .ref ksides, .int (nI (k83 + 1)), .int y151, .int khasWay, .ref klines, .ref kmet, .int (nI kmetMany), .ref ksunk, .ref ktrying, .int (nI ksunkMany), .int ksending, .int kfleets, .ref ktext, .int (nI ktexts), .int kseed, .ref kline, .ref kwritten, .int (nI klineMany), .int khasWritten, .ref knode, .int (nI knodes), .int (nI konesMany), .int (nI kwithin), .int (nI ktop)])), (know, .inl (ky 0, 373, .inl knowF)), (kfar, .inl (ky 0, 36, .inl kfarG_33))] := hD
                          refine lv_aload_n hx hb dX12_way_181 rfl (lv_at hl 4 rfl) ?_
                          refine va_get (D := (dC, dI)) (ci := 12) (v := .ref know) (C := RX12) (T := TX12) (N := 52) hx hb hts hin12 hown hK hP 1 rfl rfl 14 (by decide) (hts (.fieldLink RX12 98 "PorridgeSeaModel" "now" "[I") (List.mem_of_getElem? (i := 2) rfl)) (fun _ h9 => h9) rfl dX12_way_182 ?_
                          refine lv_bipush (v := nI 61) hx hb dX12_way_185 (by decide) ?_
                          refine lv_iload_n hx hb dX12_way_187 rfl (lv_at hl 5 rfl) ?_
                          rw [e30]
                          refine lv_iadd hx hb dX12_way_188 ?_
                          refine r_ti (nI (61 + n28)) (nI_add _ _) ?_
                          obtain ⟨y153, e154⟩ : ∃ z9, z9 = knowF (61 + n28) := ⟨_, rfl⟩
                          refine r_iald hx hb hK hP 2 rfl (61 + n28) (lf_x_way_37 knowF x y n18 y21 n25 n28 kfarG_33 y37 n41 y44 y51 n55 x80 k81 k83 n91 y94 k106 n110 r113 y115 k124 k136 y153 ab_now t3 t4 t5 t10 t11 t12 h19 e20 e22 b23 b24 h26 e27 h29 e30 p34 p35 p36 e38 b39 b40 h42 e43 e45 b46 b47 c48 f49 hR50 e52 b53 b54 h56 e57 j85 j86 j87 j88 j89 hm93 e95 b96 b97 c98 hW99 j107 j108 hns hm112 p114 e116 b117 b118 c119 h126 h127 hE130 hG132 hG133 h138 h139 h140 c141 e154) (by decide) y153 e154.symm dX12_way_189 ?_
                          refine lv_istore (lv' := [(5, .int y153), (3, .int (nI k124)), (6, .int (nI k106)), (4, .int (nI (n55 / 64))), (0, .ref o), (1, .int x), (2, .int y)]) hx hb dX12_way_190 hl (by decide) rfl (fun ls hl => ?_)
                          refine lv_iload hx hb dX12_way_192 (lv_at hl 0 rfl) ?_
                          refine lv_aload_n hx hb dX12_way_194 rfl (lv_at hl 4 rfl) ?_
                          refine lv_iload_n hx hb dX12_way_195 rfl (lv_at hl 1 rfl) ?_
                          refine vp_callSi (W.runV (As := [.int (nI k124)]) (rest := [.int y153]) ⟨hx, hb, hml, hown, hts⟩ (c_x_costOfE l dC dI ky o (nI 0) ktape ktaped ksize klimit kto kfrom kkind knumber ksign kfault kplace kword ktold know kread kkept ksnaps kaside kname kreadName kkeptName kisKept konces ksnapMany khasCells kpoured kfar ksides (k83 + 1) y151 khasWay klines kmet kmetMany ksunk ktrying ksunkMany ksending kfleets ktext ktexts kseed kline kwritten klineMany khasWritten knode knodes konesMany kwithin ktop knowF k124 iv_ko_0 iv_ko_1 iv_ko_2 iv_ko_3 iv_ko_4 iv_ko_5 (lf_x_way_38 knowF x y n18 y21 n25 n28 kfarG_33 y37 n41 y44 y51 n55 x80 k81 k83 n91 y94 k106 n110 r113 y115 k124 k136 y153 ab_now t3 t4 t5 t10 t11 t12 h19 e20 e22 b23 b24 h26 e27 h29 e30 p34 p35 p36 e38 b39 b40 h42 e43 e45 b46 b47 c48 f49 hR50 e52 b53 b54 h56 e57 j85 j86 j87 j88 j89 hm93 e95 b96 b97 c98 hW99 j107 j108 hns hm112 p114 e116 b117 b118 c119 h126 h127 hE130 hG132 hG133 h138 h139 h140 c141 e154) iv_ko_7 iv_ko_8 iv_ko_9 iv_ko_10 iv_ko_11 iv_ko_12 iv_ko_13 iv_ko_14 ab_now h126) (cwV 1 hts gX12_way_X12_costOf rfl rfl rfl (by decide +kernel) ⟨(Nat.le_of_ble_eq_true rfl), (Nat.le_of_ble_eq_true rfl)⟩) (pre_PV hK hP [1, 2] rfl (ci := 12) (q0 := 1) rfl rfl) rfl rfl hl.1 rfl (lv_room (Nat.le_of_ble_eq_true rfl)) dX12_way_196 ⟨(Nat.le_of_ble_eq_true rfl), (Nat.le_of_ble_eq_true rfl)⟩) (fun r155 p156 => ?_)
                          obtain ⟨k157, ⟨h159, h160, h161⟩, rfl⟩ := p156
                          refine lv_isub hx hb dX12_way_199 ?_
                          refine lv_topi (fun y162 e163 => ?_)
                          refine lv_istore (lv' := [(5, .int y162), (3, .int (nI k124)), (6, .int (nI k106)), (4, .int (nI (n55 / 64))), (0, .ref o), (1, .int x), (2, .int y)]) hx hb dX12_way_200 hl (by decide) rfl (fun ls hl => ?_)
                          refine lv_goto (tgt := 93) hx hb dX12_way_202 (by decide) ?_
                          exact ih92 y162 k124 g120 (k83 + 1) y151 (lf_x_way_39 knowF x y n18 y21 n25 n28 kfarG_33 y37 n41 y44 y51 n55 x80 k81 k83 n91 y94 k106 n110 r113 y115 k124 k136 y153 k157 y162 ab_now t3 t4 t5 t10 t11 t12 h19 e20 e22 b23 b24 h26 e27 h29 e30 p34 p35 p36 e38 b39 b40 h42 e43 e45 b46 b47 c48 f49 hR50 e52 b53 b54 h56 e57 j85 j86 j87 j88 j89 hm93 e95 b96 b97 c98 hW99 j107 j108 hns hm112 p114 e116 b117 b118 c119 h126 h127 hE130 hG132 hG133 h138 h139 h140 c141 e154 h159 h160 h161 e163) (lf_x_way_40 knowF x y n18 y21 n25 n28 kfarG_33 y37 n41 y44 y51 n55 x80 k81 k83 n91 y94 k106 n110 r113 y115 k124 k136 y153 k157 y162 ab_now t3 t4 t5 t10 t11 t12 h19 e20 e22 b23 b24 h26 e27 h29 e30 p34 p35 p36 e38 b39 b40 h42 e43 e45 b46 b47 c48 f49 hR50 e52 b53 b54 h56 e57 j85 j86 j87 j88 j89 hm93 e95 b96 b97 c98 hW99 j107 j108 hns hm112 p114 e116 b117 b118 c119 h126 h127 hE130 hG132 hG133 h138 h139 h140 c141 e154 h159 h160 h161 e163) h126 hG132 (lf_x_way_41 knowF x y n18 y21 n25 n28 kfarG_33 y37 n41 y44 y51 n55 x80 k81 k83 n91 y94 k106 n110 r113 y115 k124 k136 y153 k157 y162 ab_now t3 t4 t5 t10 t11 t12 h19 e20 e22 b23 b24 h26 e27 h29 e30 p34 p35 p36 e38 b39 b40 h42 e43 e45 b46 b47 c48 f49 hR50 e52 b53 b54 h56 e57 j85 j86 j87 j88 j89 hm93 e95 b96 b97 c98 hW99 j107 j108 hns hm112 p114 e116 b117 b118 c119 h126 h127 hE130 hG132 hG133 h138 h139 h140 c141 e154 h159 h160 h161 e163) (lf_x_way_42 knowF x y n18 y21 n25 n28 kfarG_33 y37 n41 y44 y51 n55 x80 k81 k83 n91 y94 k106 n110 r113 y115 k124 k136 y153 k157 y162 ab_now t3 t4 t5 t10 t11 t12 h19 e20 e22 b23 b24 h26 e27 h29 e30 p34 p35 p36 e38 b39 b40 h42 e43 e45 b46 b47 c48 f49 hR50 e52 b53 b54 h56 e57 j85 j86 j87 j88 j89 hm93 e95 b96 b97 c98 hW99 j107 j108 hns hm112 p114 e116 b117 b118 c119 h126 h127 hE130 hG132 hG133 h138 h139 h140 c141 e154 h159 h160 h161 e163) _ _ _ hP hD hS (lv_sub hl [0, 3, 1, 4, 5, 6] rfl)
                    · refine lv_iinc (v := nI (k106 + 1)) (lv' := [(6, .int (nI (k106 + 1))), (5, .int x80), (4, .int (nI (n55 / 64))), (3, .int (nI k81)), (0, .ref o), (1, .int x), (2, .int y)]) hx hb dX12_way_126 hl (k := 0) rfl (show nI k106 + nI 1 = nI (k106 + 1) from nI_add _ _) (by decide) rfl (fun ls hl => ?_)
                      refine lv_goto (tgt := 109) hx hb dX12_way_129 (by decide) ?_
                      exact ih111 (k106 + 1) (lf_x_way_43 knowF x y n18 y21 n25 n28 kfarG_33 y37 n41 y44 y51 n55 k81 k83 n91 y94 k106 n110 r113 y115 ab_now t3 t4 t5 t10 t11 t12 h19 e20 e22 b23 b24 h26 e27 h29 e30 p34 p35 p36 e38 b39 b40 h42 e43 e45 b46 b47 c48 f49 hR50 e52 b53 b54 h56 e57 j85 j86 j87 j88 j89 hm93 e95 b96 b97 c98 hW99 j107 j108 hns hm112 p114 e116 b117 b118 c119) (lf_x_way_44 knowF x y n18 y21 n25 n28 kfarG_33 y37 n41 y44 y51 n55 k81 k83 n91 y94 k106 n110 r113 y115 ab_now t3 t4 t5 t10 t11 t12 h19 e20 e22 b23 b24 h26 e27 h29 e30 p34 p35 p36 e38 b39 b40 h42 e43 e45 b46 b47 c48 f49 hR50 e52 b53 b54 h56 e57 j85 j86 j87 j88 j89 hm93 e95 b96 b97 c98 hW99 j107 j108 hns hm112 p114 e116 b117 b118 c119) (lf_x_way_45 knowF x y n18 y21 n25 n28 kfarG_33 y37 n41 y44 y51 n55 k81 k83 n91 y94 k106 n110 r113 y115 ab_now t3 t4 t5 t10 t11 t12 h19 e20 e22 b23 b24 h26 e27 h29 e30 p34 p35 p36 e38 b39 b40 h42 e43 e45 b46 b47 c48 f49 hR50 e52 b53 b54 h56 e57 j85 j86 j87 j88 j89 hm93 e95 b96 b97 c98 hW99 j107 j108 hns hm112 p114 e116 b117 b118 c119) (lf_x_way_46 knowF x y n18 y21 n25 n28 kfarG_33 y37 n41 y44 y51 n55 k81 k83 n91 y94 k106 n110 r113 y115 ab_now t3 t4 t5 t10 t11 t12 h19 e20 e22 b23 b24 h26 e27 h29 e30 p34 p35 p36 e38 b39 b40 h42 e43 e45 b46 b47 c48 f49 hR50 e52 b53 b54 h56 e57 j85 j86 j87 j88 j89 hm93 e95 b96 b97 c98 hW99 j107 j108 hns hm112 p114 e116 b117 b118 c119) _ _ _ hP hD hS (lv_sub hl [0, 1, 2, 3, 4, 5, 6] rfl)
                exact hL109 ((5 - 0) + 1) 0 (lf_x_way_47) (lf_x_way_48) (lf_x_way_49 knowF x y n18 y21 n25 n28 kfarG_33 y37 n41 y44 y51 n55 k81 k83 n91 y94 ab_now t3 t4 t5 t10 t11 t12 h19 e20 e22 b23 b24 h26 e27 h29 e30 p34 p35 p36 e38 b39 b40 h42 e43 e45 b46 b47 c48 f49 hR50 e52 b53 b54 h56 e57 j85 j86 j87 j88 j89 hm93 e95 b96 b97 c98 hW99) (Nat.lt_succ_self _) _ _ _ hP hD hS (lv_sub hl [0, 1, 2, 3, 4, 5, 6] rfl)
          exact hL90 ((rankF kfarG_33 (kfarG_33 n41).toInt 36) + 1) (nI 0) n41 ksidesF 0 (nI 0) (lf_x_way_50 knowF x y n18 y21 n25 n28 kfarG_33 y37 n41 y44 y51 n55 ab_now t3 t4 t5 t10 t11 t12 h19 e20 e22 b23 b24 h26 e27 h29 e30 p34 p35 p36 e38 b39 b40 h42 e43 e45 b46 b47 c48 f49 hR50 e52 b53 b54 h56 e57) (lf_x_way_51) h42 f49 (lf_x_way_52 knowF x y n18 y21 n25 n28 kfarG_33 y37 n41 y44 y51 n55 ab_now t3 t4 t5 t10 t11 t12 h19 e20 e22 b23 b24 h26 e27 h29 e30 p34 p35 p36 e38 b39 b40 h42 e43 e45 b46 b47 c48 f49 hR50 e52 b53 b54 h56 e57) (Nat.lt_succ_self _) _ _ _ hP hD hS (lv_sub hl [0, 1, 2, 3, 4, 5] rfl)
        · refine lv_iconst (v := (-1 : Int32)) hx hb dX12_way_67 (by decide) ?_
          rw [hQ]
          have hP9 := hP.sub (ws' := [(o, .inr (12, [.int (nI 0), .ref ktape, .int (nI ktaped), .int (nI ksize), .int (nI klimit), .int (nI kto), .int (nI kfrom), .int kkind, .int knumber, .int ksign, .int kfault, .int kplace, .long kword, .int ktold, .ref know, .ref kread, .ref kkept, .ref ksnaps, .ref kaside, .ref kname, .ref kreadName, .ref kkeptName, .ref kisKept, .ref konces, .int (nI ksnapMany), .int khasCells, .ref kpoured, .ref kfar, .ref ksides, .int (nI ksideMany), .int kwayDays, .int khasWay, .ref klines, .ref kmet, .int (nI kmetMany), .ref ksunk, .ref ktrying, .int (nI ksunkMany), .int ksending, .int kfleets, .ref ktext, .int (nI ktexts), .int kseed, .ref kline, .ref kwritten, .int (nI klineMany), .int khasWritten, .ref knode, .int (nI knodes), .int (nI konesMany), .int (nI kwithin), .int (nI ktop)])), (know, .inl (ky 0, 373, .inl knowF)), (kfar, .inl (ky 0, 36, .inl kfarG_33)), (ksides, .inl (ky 0, 36, .inl ksidesF))]) [1, 2, 3, 0] rfl
          have hD9 := hD.sub (ws' := [(o, .inr (12, [.int (nI 0), .ref ktape, .int (nI ktaped), .int (nI ksize), .int (nI klimit), .int (nI kto), .int (nI kfrom), .int kkind, .int knumber, .int ksign, .int kfault, .int kplace, .long kword, .int ktold, .ref know, .ref kread, .ref kkept, .ref ksnaps, .ref kaside, .ref kname, .ref kreadName, .ref kkeptName, .ref kisKept, .ref konces, .int (nI ksnapMany), .int khasCells, .ref kpoured, .ref kfar, .ref ksides, .int (nI ksideMany), .int kwayDays, .int khasWay, .ref klines, .ref kmet, .int (nI kmetMany), .ref ksunk, .ref ktrying, .int (nI ksunkMany), .int ksending, .int kfleets, .ref ktext, .int (nI ktexts), .int kseed, .ref kline, .ref kwritten, .int (nI klineMany), .int khasWritten, .ref knode, .int (nI knodes), .int (nI konesMany), .int (nI kwithin), .int (nI ktop)])), (know, .inl (ky 0, 373, .inl knowF)), (kfar, .inl (ky 0, 36, .inl kfarG_33)), (ksides, .inl (ky 0, 36, .inl ksidesF))]) [1, 2, 3, 0] (by decide) rfl
          exact W.iret (v := (-1 : Int32)) hx hb hr (fun t9 ht9 hW9 => ⟨⟨(-1 : Int32), (nI 0, ksideMany, kwayDays, khasWay, kfarG_33, ksidesF), rfl, ⟨iv_ko_6, p34⟩, by rw [ht9]; exact hP9, va_K.moved hW9.alike hK, hD9⟩, hS.F ht9⟩) hS.2.2 dX12_way_68
      · refine lv_iconst (v := (-1 : Int32)) hx hb dX12_way_29 (by decide) ?_
        rw [hQ]
        exact W.iret (v := (-1 : Int32)) hx hb hr (fun t9 ht9 hW9 => ⟨⟨(-1 : Int32), (nI 0, ksideMany, kwayDays, khasWay, kfarF, ksidesF), rfl, ⟨iv_ko_6, ab_far⟩, by rw [ht9]; exact hP, va_K.moved hW9.alike hK, hD⟩, hS.F ht9⟩) hS.2.2 dX12_way_30
    · refine lv_if_eq (tgt := 29) hx hb dX12_way_18 (by decide) (fun c164 => ?_) (fun c164 => absurd (by decide) c164)
      refine lv_iconst (v := (-1 : Int32)) hx hb dX12_way_29 (by decide) ?_
      rw [hQ]
      exact W.iret (v := (-1 : Int32)) hx hb hr (fun t9 ht9 hW9 => ⟨⟨(-1 : Int32), (nI 0, ksideMany, kwayDays, khasWay, kfarF, ksidesF), rfl, ⟨iv_ko_6, ab_far⟩, by rw [ht9]; exact hP, va_K.moved hW9.alike hK, hD⟩, hS.F ht9⟩) hS.2.2 dX12_way_30
  · refine lv_if_eq (tgt := 29) hx hb dX12_way_10 (by decide) (fun c165 => ?_) (fun c165 => absurd (by decide) c165)
    refine lv_iconst (v := (-1 : Int32)) hx hb dX12_way_29 (by decide) ?_
    rw [hQ]
    exact W.iret (v := (-1 : Int32)) hx hb hr (fun t9 ht9 hW9 => ⟨⟨(-1 : Int32), (nI 0, ksideMany, kwayDays, khasWay, kfarF, ksidesF), rfl, ⟨iv_ko_6, ab_far⟩, by rw [ht9]; exact hP, va_K.moved hW9.alike hK, hD⟩, hS.F ht9⟩) hS.2.2 dX12_way_30
