theorem dX12_goBy_0 : decode cX12_goBy 0 = .ok (.aload_n 0, 1) := by decide +kernel
theorem dX12_goBy_1 : decode cX12_goBy 1 = .ok (.getfield 163, 3) := by decide +kernel
theorem dX12_goBy_4 : decode cX12_goBy 4 = .ok (.iload_n 1, 1) := by decide +kernel
theorem dX12_goBy_5 : decode cX12_goBy 5 = .ok (.iaload, 1) := by decide +kernel
theorem dX12_goBy_6 : decode cX12_goBy 6 = .ok (.istore_n 2, 1) := by decide +kernel
theorem dX12_goBy_7 : decode cX12_goBy 7 = .ok (.aload_n 0, 1) := by decide +kernel
theorem dX12_goBy_8 : decode cX12_goBy 8 = .ok (.getfield 163, 3) := by decide +kernel
theorem dX12_goBy_11 : decode cX12_goBy 11 = .ok (.iload_n 1, 1) := by decide +kernel
theorem dX12_goBy_12 : decode cX12_goBy 12 = .ok (.iconst 1, 1) := by decide +kernel
theorem dX12_goBy_13 : decode cX12_goBy 13 = .ok (.iadd, 1) := by decide +kernel
theorem dX12_goBy_14 : decode cX12_goBy 14 = .ok (.iaload, 1) := by decide +kernel
theorem dX12_goBy_15 : decode cX12_goBy 15 = .ok (.istore_n 3, 1) := by decide +kernel
theorem dX12_goBy_16 : decode cX12_goBy 16 = .ok (.aload_n 0, 1) := by decide +kernel
theorem dX12_goBy_17 : decode cX12_goBy 17 = .ok (.getfield 163, 3) := by decide +kernel
theorem dX12_goBy_20 : decode cX12_goBy 20 = .ok (.iload_n 1, 1) := by decide +kernel
theorem dX12_goBy_21 : decode cX12_goBy 21 = .ok (.iconst 2, 1) := by decide +kernel
theorem dX12_goBy_22 : decode cX12_goBy 22 = .ok (.iadd, 1) := by decide +kernel
theorem dX12_goBy_23 : decode cX12_goBy 23 = .ok (.iaload, 1) := by decide +kernel
theorem dX12_goBy_24 : decode cX12_goBy 24 = .ok (.istore 4, 2) := by decide +kernel
theorem dX12_goBy_26 : decode cX12_goBy 26 = .ok (.iload_n 2, 1) := by decide +kernel
theorem dX12_goBy_27 : decode cX12_goBy 27 = .ok (.iconst 5, 1) := by decide +kernel
theorem dX12_goBy_28 : decode cX12_goBy 28 = .ok (.if_icmp .ne 29, 3) := by decide +kernel
theorem dX12_goBy_57 : decode cX12_goBy 57 = .ok (.iload_n 2, 1) := by decide +kernel
theorem dX12_goBy_58 : decode cX12_goBy 58 = .ok (.ifCond .ne 29, 3) := by decide +kernel
theorem dX12_goBy_61 : decode cX12_goBy 61 = .ok (.iload_n 3, 1) := by decide +kernel
theorem dX12_goBy_62 : decode cX12_goBy 62 = .ok (.iload 4, 2) := by decide +kernel
theorem dX12_goBy_64 : decode cX12_goBy 64 = .ok (.aload_n 0, 1) := by decide +kernel
theorem dX12_goBy_65 : decode cX12_goBy 65 = .ok (.getfield 163, 3) := by decide +kernel
theorem dX12_goBy_68 : decode cX12_goBy 68 = .ok (.iload_n 1, 1) := by decide +kernel
theorem dX12_goBy_69 : decode cX12_goBy 69 = .ok (.iconst 3, 1) := by decide +kernel
theorem dX12_goBy_70 : decode cX12_goBy 70 = .ok (.iadd, 1) := by decide +kernel
theorem dX12_goBy_71 : decode cX12_goBy 71 = .ok (.iaload, 1) := by decide +kernel
theorem dX12_goBy_72 : decode cX12_goBy 72 = .ok (.invokestatic 302, 3) := by decide +kernel
theorem dX12_goBy_75 : decode cX12_goBy 75 = .ok (.istore_n 3, 1) := by decide +kernel
theorem dX12_goBy_76 : decode cX12_goBy 76 = .ok (.aload_n 0, 1) := by decide +kernel
theorem dX12_goBy_77 : decode cX12_goBy 77 = .ok (.iload_n 3, 1) := by decide +kernel
theorem dX12_goBy_78 : decode cX12_goBy 78 = .ok (.invokevirtual 332, 3) := by decide +kernel
theorem dX12_goBy_81 : decode cX12_goBy 81 = .ok (.ifCond .ne 6, 3) := by decide +kernel
theorem dX12_goBy_87 : decode cX12_goBy 87 = .ok (.iload_n 2, 1) := by decide +kernel
theorem dX12_goBy_88 : decode cX12_goBy 88 = .ok (.iconst 2, 1) := by decide +kernel
theorem dX12_goBy_89 : decode cX12_goBy 89 = .ok (.if_icmp .eq 8, 3) := by decide +kernel
theorem dX12_goBy_92 : decode cX12_goBy 92 = .ok (.iload_n 2, 1) := by decide +kernel
theorem dX12_goBy_93 : decode cX12_goBy 93 = .ok (.iconst 3, 1) := by decide +kernel
theorem dX12_goBy_94 : decode cX12_goBy 94 = .ok (.if_icmp .ne 39, 3) := by decide +kernel
theorem dX12_goBy_133 : decode cX12_goBy 133 = .ok (.aload_n 0, 1) := by decide +kernel
theorem dX12_goBy_134 : decode cX12_goBy 134 = .ok (.iload_n 2, 1) := by decide +kernel
theorem dX12_goBy_135 : decode cX12_goBy 135 = .ok (.iload_n 3, 1) := by decide +kernel
theorem dX12_goBy_136 : decode cX12_goBy 136 = .ok (.iload 4, 2) := by decide +kernel
theorem dX12_goBy_138 : decode cX12_goBy 138 = .ok (.invokevirtual 291, 3) := by decide +kernel
theorem dX12_goBy_141 : decode cX12_goBy 141 = .ok (.istore 5, 2) := by decide +kernel
theorem dX12_goBy_143 : decode cX12_goBy 143 = .ok (.iload 5, 2) := by decide +kernel
theorem dX12_goBy_145 : decode cX12_goBy 145 = .ok (.ifCond .eq 11, 3) := by decide +kernel
theorem dX12_goBy_156 : decode cX12_goBy 156 = .ok (.aload_n 0, 1) := by decide +kernel
theorem dX12_goBy_157 : decode cX12_goBy 157 = .ok (.iload_n 2, 1) := by decide +kernel
theorem dX12_goBy_158 : decode cX12_goBy 158 = .ok (.iload_n 3, 1) := by decide +kernel
theorem dX12_goBy_159 : decode cX12_goBy 159 = .ok (.iload 4, 2) := by decide +kernel
theorem dX12_goBy_161 : decode cX12_goBy 161 = .ok (.invokevirtual 298, 3) := by decide +kernel
theorem dX12_goBy_164 : decode cX12_goBy 164 = .ok (.iconst 0, 1) := by decide +kernel
theorem dX12_goBy_165 : decode cX12_goBy 165 = .ok (.ireturn, 1) := by decide +kernel
theorem dX12_goBy_148 : decode cX12_goBy 148 = .ok (.bipush 10, 2) := by decide +kernel
theorem dX12_goBy_150 : decode cX12_goBy 150 = .ok (.iload_n 2, 1) := by decide +kernel
theorem dX12_goBy_151 : decode cX12_goBy 151 = .ok (.imul, 1) := by decide +kernel
theorem dX12_goBy_152 : decode cX12_goBy 152 = .ok (.iload 5, 2) := by decide +kernel
theorem dX12_goBy_154 : decode cX12_goBy 154 = .ok (.iadd, 1) := by decide +kernel
theorem dX12_goBy_155 : decode cX12_goBy 155 = .ok (.ireturn, 1) := by decide +kernel
theorem dX12_goBy_84 : decode cX12_goBy 84 = .ok (.bipush 9, 2) := by decide +kernel
theorem dX12_goBy_86 : decode cX12_goBy 86 = .ok (.ireturn, 1) := by decide +kernel
theorem dX12_goBy_97 : decode cX12_goBy 97 = .ok (.aload_n 0, 1) := by decide +kernel
theorem dX12_goBy_98 : decode cX12_goBy 98 = .ok (.iload_n 3, 1) := by decide +kernel
theorem dX12_goBy_99 : decode cX12_goBy 99 = .ok (.iload 4, 2) := by decide +kernel
theorem dX12_goBy_101 : decode cX12_goBy 101 = .ok (.invokevirtual 252, 3) := by decide +kernel
theorem dX12_goBy_104 : decode cX12_goBy 104 = .ok (.ifCond .ne 11, 3) := by decide +kernel
theorem dX12_goBy_115 : decode cX12_goBy 115 = .ok (.bipush 6, 2) := by decide +kernel
theorem dX12_goBy_117 : decode cX12_goBy 117 = .ok (.iload 4, 2) := by decide +kernel
theorem dX12_goBy_119 : decode cX12_goBy 119 = .ok (.imul, 1) := by decide +kernel
theorem dX12_goBy_120 : decode cX12_goBy 120 = .ok (.iload_n 3, 1) := by decide +kernel
theorem dX12_goBy_121 : decode cX12_goBy 121 = .ok (.iadd, 1) := by decide +kernel
theorem dX12_goBy_122 : decode cX12_goBy 122 = .ok (.istore_n 3, 1) := by decide +kernel
theorem dX12_goBy_123 : decode cX12_goBy 123 = .ok (.aload_n 0, 1) := by decide +kernel
theorem dX12_goBy_124 : decode cX12_goBy 124 = .ok (.getfield 163, 3) := by decide +kernel
theorem dX12_goBy_127 : decode cX12_goBy 127 = .ok (.iload_n 1, 1) := by decide +kernel
theorem dX12_goBy_128 : decode cX12_goBy 128 = .ok (.iconst 3, 1) := by decide +kernel
theorem dX12_goBy_129 : decode cX12_goBy 129 = .ok (.iadd, 1) := by decide +kernel
theorem dX12_goBy_130 : decode cX12_goBy 130 = .ok (.iaload, 1) := by decide +kernel
theorem dX12_goBy_131 : decode cX12_goBy 131 = .ok (.istore 4, 2) := by decide +kernel
theorem dX12_goBy_107 : decode cX12_goBy 107 = .ok (.bipush 10, 2) := by decide +kernel
theorem dX12_goBy_109 : decode cX12_goBy 109 = .ok (.iload_n 2, 1) := by decide +kernel
theorem dX12_goBy_110 : decode cX12_goBy 110 = .ok (.imul, 1) := by decide +kernel
theorem dX12_goBy_111 : decode cX12_goBy 111 = .ok (.bipush 9, 2) := by decide +kernel
theorem dX12_goBy_113 : decode cX12_goBy 113 = .ok (.iadd, 1) := by decide +kernel
theorem dX12_goBy_114 : decode cX12_goBy 114 = .ok (.ireturn, 1) := by decide +kernel
theorem dX12_goBy_31 : decode cX12_goBy 31 = .ok (.aload_n 0, 1) := by decide +kernel
theorem dX12_goBy_32 : decode cX12_goBy 32 = .ok (.getfield 98, 3) := by decide +kernel
theorem dX12_goBy_35 : decode cX12_goBy 35 = .ok (.bipush 67, 2) := by decide +kernel
theorem dX12_goBy_37 : decode cX12_goBy 37 = .ok (.iaload, 1) := by decide +kernel
theorem dX12_goBy_38 : decode cX12_goBy 38 = .ok (.iload_n 3, 1) := by decide +kernel
theorem dX12_goBy_39 : decode cX12_goBy 39 = .ok (.iadd, 1) := by decide +kernel
theorem dX12_goBy_40 : decode cX12_goBy 40 = .ok (.sipush 400, 3) := by decide +kernel
theorem dX12_goBy_43 : decode cX12_goBy 43 = .ok (.if_icmp .le 6, 3) := by decide +kernel
theorem dX12_goBy_49 : decode cX12_goBy 49 = .ok (.aload_n 0, 1) := by decide +kernel
theorem dX12_goBy_50 : decode cX12_goBy 50 = .ok (.iload_n 3, 1) := by decide +kernel
theorem dX12_goBy_51 : decode cX12_goBy 51 = .ok (.invokevirtual 312, 3) := by decide +kernel
theorem dX12_goBy_54 : decode cX12_goBy 54 = .ok (.pop, 1) := by decide +kernel
theorem dX12_goBy_55 : decode cX12_goBy 55 = .ok (.iconst 0, 1) := by decide +kernel
theorem dX12_goBy_56 : decode cX12_goBy 56 = .ok (.ireturn, 1) := by decide +kernel
theorem dX12_goBy_46 : decode cX12_goBy 46 = .ok (.bipush 51, 2) := by decide +kernel
theorem dX12_goBy_48 : decode cX12_goBy 48 = .ok (.ireturn, 1) := by decide +kernel
set_option maxRecDepth 100000 in
theorem ggX12_goBy_X12_lineOf : GoodIn wsX12_goBy wsX12_lineOf := goodIn_r _ [37] rfl (by decide +kernel)
set_option maxRecDepth 100000 in
theorem ggX12_goBy_X12_isLine : GoodIn wsX12_goBy wsX12_isLine := goodIn_r _ [41, 2, 78, 79, 80, 81, 82, 83, 84, 85, 86, 87, 88, 89, 90, 91, 92, 93, 94, 95, 96, 97, 98, 99, 100, 101, 102, 103, 104, 105, 106, 107, 108, 109, 110, 111, 112, 113, 114, 115, 116, 117, 118, 119, 120, 121, 122, 123, 124, 125, 126, 127, 128, 129] rfl (by decide +kernel)
set_option maxRecDepth 100000 in
theorem ggX12_goBy_X12_why : GoodIn wsX12_goBy wsX12_why := goodIn_r _ [52, 2, 27, 28, 29, 6, 30, 19, 20, 21, 22, 53, 54, 55, 56, 42, 43, 44, 45, 46, 47, 48, 57, 58, 59, 60, 78, 79, 80, 81, 82, 83, 84, 85, 86, 87, 88, 89, 90, 91, 92, 93, 94, 95, 96, 97, 98, 99, 100, 101, 102, 103, 104, 105, 106, 107, 108, 109, 110, 111, 112, 113, 114, 115, 116, 117, 118, 119, 120, 121, 122, 123, 124, 125, 126, 127, 128, 129] rfl (by decide +kernel)
set_option maxRecDepth 100000 in
theorem ggX12_goBy_X12_live : GoodIn wsX12_goBy wsX12_live := goodIn_r _ [64, 2, 65, 66, 67, 6, 68, 69, 70, 71, 72, 73, 74, 75, 76, 77, 19, 20, 21, 22, 53, 54, 55, 56, 42, 43, 44, 45, 46, 47, 48, 57, 58, 59, 60, 27, 28, 29, 30, 8, 9, 10, 78, 79, 80, 81, 82, 83, 84, 85, 86, 87, 88, 89, 90, 91, 92, 93, 94, 95, 96, 97, 98, 99, 100, 101, 102, 103, 104, 105, 106, 107, 108, 109, 110, 111, 112, 113, 114, 115, 116, 117, 118, 119, 120, 121, 122, 123, 124, 125, 126, 127, 128, 129] rfl (by decide +kernel)
set_option maxRecDepth 100000 in
theorem ggX12_goBy_X12_isCell : GoodIn wsX12_goBy wsX12_isCell := goodIn_r _ [45, 2, 46, 47, 6, 48, 78, 79, 80, 81, 82, 83, 84, 85, 86, 87, 88, 89, 90, 91, 92, 93, 94, 95, 96, 97, 98, 99, 100, 101, 102, 103, 104, 105, 106, 107, 108, 109, 110, 111, 112, 113, 114, 115, 116, 117, 118, 119, 120, 121, 122, 123, 124, 125, 126, 127, 128, 129] rfl (by decide +kernel)
set_option maxRecDepth 100000 in
theorem ggX12_goBy_X12_passDays : GoodIn wsX12_goBy wsX12_passDays := goodIn_r _ [7, 2, 8, 9, 6, 10, 11, 12, 13, 14, 15, 16, 17, 18, 19, 20, 21, 22, 23, 24, 25, 26, 27, 28, 29, 30, 31, 32, 33, 34, 78, 79, 80, 81, 82, 83, 84, 85, 86, 87, 88, 89, 90, 91, 92, 93, 94, 95, 96, 97, 98, 99, 100, 101, 102, 103, 104, 105, 106, 107, 108, 109, 110, 111, 112, 113, 114, 115, 116, 117, 118, 119, 120, 121, 122, 123, 124, 125, 126, 127, 128, 129] rfl (by decide +kernel)
set_option maxRecDepth 100000 in
theorem gX12_goBy_X12_lineOf : GoodIn wsX12_goBy (va_wsS RX12 302 yX12_lineOf wsX12_lineOf) := goodIn_app (goodIn_of _ (by decide +kernel)) ggX12_goBy_X12_lineOf
set_option maxRecDepth 100000 in
theorem gX12_goBy_X12_isLine : GoodIn wsX12_goBy (wsV RX12 332 RX12 yX12_isLine wsX12_isLine) := goodIn_app (goodIn_of _ (by decide +kernel)) ggX12_goBy_X12_isLine
set_option maxRecDepth 100000 in
theorem gX12_goBy_X12_why : GoodIn wsX12_goBy (wsV RX12 291 RX12 yX12_why wsX12_why) := goodIn_app (goodIn_of _ (by decide +kernel)) ggX12_goBy_X12_why
set_option maxRecDepth 100000 in
theorem gX12_goBy_X12_live : GoodIn wsX12_goBy (wsV RX12 298 RX12 yX12_live wsX12_live) := goodIn_app (goodIn_of _ (by decide +kernel)) ggX12_goBy_X12_live
set_option maxRecDepth 100000 in
theorem gX12_goBy_X12_isCell : GoodIn wsX12_goBy (wsV RX12 252 RX12 yX12_isCell wsX12_isCell) := goodIn_app (goodIn_of _ (by decide +kernel)) ggX12_goBy_X12_isCell
set_option maxRecDepth 100000 in
theorem gX12_goBy_X12_passDays : GoodIn wsX12_goBy (wsV RX12 312 RX12 yX12_passDays wsX12_passDays) := goodIn_app (goodIn_of _ (by decide +kernel)) ggX12_goBy_X12_passDays
set_option maxRecDepth 20000 in
theorem lf_x_goBy_1 (klineF : Nat → Int32) (aq : Nat) (y1 : Int32) (ha : aq ≤ 156) (hl0 : 0 ≤ (klineF aq).toInt ∧ (klineF aq).toInt ≤ 5) (hl1 : ¬ klineF aq = nI 0 ∨ (0 ≤ (klineF (aq + 1)).toInt ∧ (klineF (aq + 1)).toInt ≤ 1 ∧ 0 ≤ (klineF (aq + 2)).toInt ∧ (klineF (aq + 2)).toInt ≤ 5 ∧ 0 ≤ (klineF (aq + 3)).toInt ∧ (klineF (aq + 3)).toInt ≤ 1)) (hl2 : ¬ klineF aq = nI 1 ∨ (0 ≤ (klineF (aq + 1)).toInt ∧ (klineF (aq + 1)).toInt ≤ 5 ∧ 0 ≤ (klineF (aq + 2)).toInt ∧ (klineF (aq + 2)).toInt ≤ 3)) (hl3 : (¬ klineF aq = nI 2 ∧ ¬ klineF aq = nI 3) ∨ (1 ≤ (klineF (aq + 3)).toInt ∧ (klineF (aq + 3)).toInt ≤ 9)) (e2 : y1 = klineF aq) : aq < 160 := by
  have b_y1 := ia_b y1
  try have k_0 := ia_n 0 (by first | decide | omega)
  try have k_1 := ia_n 1 (by first | decide | omega)
  try have k_2 := ia_n 2 (by first | decide | omega)
  try have k_3 := ia_n 3 (by first | decide | omega)
  try simp only [ia_lt, ia_le, ia_eq, ia_m1, ia_0, ia_1, ne_eq, true_and, and_true, false_and, and_false, or_false, false_or, or_true, true_or, not_true_eq_false, not_false_eq_true] at *
  all_goals omega
set_option maxRecDepth 20000 in
theorem lf_x_goBy_2 (klineF : Nat → Int32) (aq : Nat) (y1 : Int32) (ha : aq ≤ 156) (hl0 : 0 ≤ (klineF aq).toInt ∧ (klineF aq).toInt ≤ 5) (hl1 : ¬ klineF aq = nI 0 ∨ (0 ≤ (klineF (aq + 1)).toInt ∧ (klineF (aq + 1)).toInt ≤ 1 ∧ 0 ≤ (klineF (aq + 2)).toInt ∧ (klineF (aq + 2)).toInt ≤ 5 ∧ 0 ≤ (klineF (aq + 3)).toInt ∧ (klineF (aq + 3)).toInt ≤ 1)) (hl2 : ¬ klineF aq = nI 1 ∨ (0 ≤ (klineF (aq + 1)).toInt ∧ (klineF (aq + 1)).toInt ≤ 5 ∧ 0 ≤ (klineF (aq + 2)).toInt ∧ (klineF (aq + 2)).toInt ≤ 3)) (hl3 : (¬ klineF aq = nI 2 ∧ ¬ klineF aq = nI 3) ∨ (1 ≤ (klineF (aq + 3)).toInt ∧ (klineF (aq + 3)).toInt ≤ 9)) (e2 : y1 = klineF aq) : y1 = nI 0 ∨ y1 = nI 1 ∨ y1 = nI 2 ∨ y1 = nI 3 ∨ y1 = nI 4 ∨ y1 = nI 5 := by
  have b_y1 := ia_b y1
  try have k_0 := ia_n 0 (by first | decide | omega)
  try have k_1 := ia_n 1 (by first | decide | omega)
  try have k_2 := ia_n 2 (by first | decide | omega)
  try have k_3 := ia_n 3 (by first | decide | omega)
  try have k_4 := ia_n 4 (by first | decide | omega)
  try have k_5 := ia_n 5 (by first | decide | omega)
  try simp only [ia_lt, ia_le, ia_eq, ia_m1, ia_0, ia_1, ne_eq, true_and, and_true, false_and, and_false, or_false, false_or, or_true, true_or, not_true_eq_false, not_false_eq_true] at *
  all_goals omega
set_option maxRecDepth 20000 in
theorem lf_x_goBy_3 (klineF : Nat → Int32) (aq : Nat) (y1 : Int32) (y10 : Int32) (ha : aq ≤ 156) (hl0 : 0 ≤ (klineF aq).toInt ∧ (klineF aq).toInt ≤ 5) (hl1 : ¬ klineF aq = nI 0 ∨ (0 ≤ (klineF (aq + 1)).toInt ∧ (klineF (aq + 1)).toInt ≤ 1 ∧ 0 ≤ (klineF (aq + 2)).toInt ∧ (klineF (aq + 2)).toInt ≤ 5 ∧ 0 ≤ (klineF (aq + 3)).toInt ∧ (klineF (aq + 3)).toInt ≤ 1)) (hl2 : ¬ klineF aq = nI 1 ∨ (0 ≤ (klineF (aq + 1)).toInt ∧ (klineF (aq + 1)).toInt ≤ 5 ∧ 0 ≤ (klineF (aq + 2)).toInt ∧ (klineF (aq + 2)).toInt ≤ 3)) (hl3 : (¬ klineF aq = nI 2 ∧ ¬ klineF aq = nI 3) ∨ (1 ≤ (klineF (aq + 3)).toInt ∧ (klineF (aq + 3)).toInt ≤ 9)) (e2 : y1 = klineF aq) (c4 : y1 = nI 0) (e11 : y10 = klineF (aq + 1)) : (aq + 1) < 160 := by
  have b_y1 := ia_b y1
  have b_y10 := ia_b y10
  try have k_0 := ia_n 0 (by first | decide | omega)
  try have k_1 := ia_n 1 (by first | decide | omega)
  try have k_2 := ia_n 2 (by first | decide | omega)
  try have k_3 := ia_n 3 (by first | decide | omega)
  try simp only [ia_lt, ia_le, ia_eq, ia_m1, ia_0, ia_1, ne_eq, true_and, and_true, false_and, and_false, or_false, false_or, or_true, true_or, not_true_eq_false, not_false_eq_true] at *
  all_goals omega
set_option maxRecDepth 20000 in
theorem lf_x_goBy_4 (klineF : Nat → Int32) (aq : Nat) (y1 : Int32) (y10 : Int32) (y12 : Int32) (ha : aq ≤ 156) (hl0 : 0 ≤ (klineF aq).toInt ∧ (klineF aq).toInt ≤ 5) (hl1 : ¬ klineF aq = nI 0 ∨ (0 ≤ (klineF (aq + 1)).toInt ∧ (klineF (aq + 1)).toInt ≤ 1 ∧ 0 ≤ (klineF (aq + 2)).toInt ∧ (klineF (aq + 2)).toInt ≤ 5 ∧ 0 ≤ (klineF (aq + 3)).toInt ∧ (klineF (aq + 3)).toInt ≤ 1)) (hl2 : ¬ klineF aq = nI 1 ∨ (0 ≤ (klineF (aq + 1)).toInt ∧ (klineF (aq + 1)).toInt ≤ 5 ∧ 0 ≤ (klineF (aq + 2)).toInt ∧ (klineF (aq + 2)).toInt ≤ 3)) (hl3 : (¬ klineF aq = nI 2 ∧ ¬ klineF aq = nI 3) ∨ (1 ≤ (klineF (aq + 3)).toInt ∧ (klineF (aq + 3)).toInt ≤ 9)) (e2 : y1 = klineF aq) (c4 : y1 = nI 0) (e11 : y10 = klineF (aq + 1)) (e13 : y12 = klineF (aq + 2)) : (aq + 2) < 160 := by
  have b_y1 := ia_b y1
  have b_y10 := ia_b y10
  have b_y12 := ia_b y12
  try have k_0 := ia_n 0 (by first | decide | omega)
  try have k_1 := ia_n 1 (by first | decide | omega)
  try have k_2 := ia_n 2 (by first | decide | omega)
  try have k_3 := ia_n 3 (by first | decide | omega)
  try simp only [ia_lt, ia_le, ia_eq, ia_m1, ia_0, ia_1, ne_eq, true_and, and_true, false_and, and_false, or_false, false_or, or_true, true_or, not_true_eq_false, not_false_eq_true] at *
  all_goals omega
set_option maxRecDepth 20000 in
theorem lf_x_goBy_5 (klineF : Nat → Int32) (aq : Nat) (y1 : Int32) (y10 : Int32) (y12 : Int32) (y16 : Int32) (ha : aq ≤ 156) (hl0 : 0 ≤ (klineF aq).toInt ∧ (klineF aq).toInt ≤ 5) (hl1 : ¬ klineF aq = nI 0 ∨ (0 ≤ (klineF (aq + 1)).toInt ∧ (klineF (aq + 1)).toInt ≤ 1 ∧ 0 ≤ (klineF (aq + 2)).toInt ∧ (klineF (aq + 2)).toInt ≤ 5 ∧ 0 ≤ (klineF (aq + 3)).toInt ∧ (klineF (aq + 3)).toInt ≤ 1)) (hl2 : ¬ klineF aq = nI 1 ∨ (0 ≤ (klineF (aq + 1)).toInt ∧ (klineF (aq + 1)).toInt ≤ 5 ∧ 0 ≤ (klineF (aq + 2)).toInt ∧ (klineF (aq + 2)).toInt ≤ 3)) (hl3 : (¬ klineF aq = nI 2 ∧ ¬ klineF aq = nI 3) ∨ (1 ≤ (klineF (aq + 3)).toInt ∧ (klineF (aq + 3)).toInt ≤ 9)) (e2 : y1 = klineF aq) (c4 : y1 = nI 0) (e11 : y10 = klineF (aq + 1)) (e13 : y12 = klineF (aq + 2)) (e17 : y16 = klineF (aq + 3)) : (aq + 3) < 160 := by
  have b_y1 := ia_b y1
  have b_y10 := ia_b y10
  have b_y12 := ia_b y12
  have b_y16 := ia_b y16
  try have k_0 := ia_n 0 (by first | decide | omega)
  try have k_1 := ia_n 1 (by first | decide | omega)
  try have k_2 := ia_n 2 (by first | decide | omega)
  try have k_3 := ia_n 3 (by first | decide | omega)
  try simp only [ia_lt, ia_le, ia_eq, ia_m1, ia_0, ia_1, ne_eq, true_and, and_true, false_and, and_false, or_false, false_or, or_true, true_or, not_true_eq_false, not_false_eq_true] at *
  all_goals omega
set_option maxRecDepth 20000 in
theorem lf_x_goBy_6 (klineF : Nat → Int32) (aq : Nat) (y1 : Int32) (y10 : Int32) (y12 : Int32) (y16 : Int32) (r18 : Int32) (ha : aq ≤ 156) (hl0 : 0 ≤ (klineF aq).toInt ∧ (klineF aq).toInt ≤ 5) (hl1 : ¬ klineF aq = nI 0 ∨ (0 ≤ (klineF (aq + 1)).toInt ∧ (klineF (aq + 1)).toInt ≤ 1 ∧ 0 ≤ (klineF (aq + 2)).toInt ∧ (klineF (aq + 2)).toInt ≤ 5 ∧ 0 ≤ (klineF (aq + 3)).toInt ∧ (klineF (aq + 3)).toInt ≤ 1)) (hl2 : ¬ klineF aq = nI 1 ∨ (0 ≤ (klineF (aq + 1)).toInt ∧ (klineF (aq + 1)).toInt ≤ 5 ∧ 0 ≤ (klineF (aq + 2)).toInt ∧ (klineF (aq + 2)).toInt ≤ 3)) (hl3 : (¬ klineF aq = nI 2 ∧ ¬ klineF aq = nI 3) ∨ (1 ≤ (klineF (aq + 3)).toInt ∧ (klineF (aq + 3)).toInt ≤ 9)) (e2 : y1 = klineF aq) (c4 : y1 = nI 0) (e11 : y10 = klineF (aq + 1)) (e13 : y12 = klineF (aq + 2)) (e17 : y16 = klineF (aq + 3)) (p19 : r18 = nI 12 * y10 + nI 2 * y12 + y16) : 0 ≤ r18.toInt ∧ r18.toInt ≤ 23 := by
  have b_y1 := ia_b y1
  have b_y10 := ia_b y10
  have b_y12 := ia_b y12
  have b_y16 := ia_b y16
  have b_r18 := ia_b r18
  try have k_0 := ia_n 0 (by first | decide | omega)
  try have k_1 := ia_n 1 (by first | decide | omega)
  try have k_2 := ia_n 2 (by first | decide | omega)
  try have k_3 := ia_n 3 (by first | decide | omega)
  try have k_4 := ia_n 12 (by first | decide | omega)
  subst_vars
  apply line_b
  all_goals try simp only [ia_lt, ia_le, ia_eq, ia_m1, ia_0, ia_1, ne_eq, true_and, and_true, false_and, and_false, or_false, false_or, or_true, true_or, not_true_eq_false, not_false_eq_true] at *
  all_goals omega
set_option maxRecDepth 20000 in
theorem lf_x_goBy_7 (klineF : Nat → Int32) (aq : Nat) (y1 : Int32) (y10 : Int32) (y12 : Int32) (y16 : Int32) (r18 : Int32) (ha : aq ≤ 156) (hl0 : 0 ≤ (klineF aq).toInt ∧ (klineF aq).toInt ≤ 5) (hl1 : ¬ klineF aq = nI 0 ∨ (0 ≤ (klineF (aq + 1)).toInt ∧ (klineF (aq + 1)).toInt ≤ 1 ∧ 0 ≤ (klineF (aq + 2)).toInt ∧ (klineF (aq + 2)).toInt ≤ 5 ∧ 0 ≤ (klineF (aq + 3)).toInt ∧ (klineF (aq + 3)).toInt ≤ 1)) (hl2 : ¬ klineF aq = nI 1 ∨ (0 ≤ (klineF (aq + 1)).toInt ∧ (klineF (aq + 1)).toInt ≤ 5 ∧ 0 ≤ (klineF (aq + 2)).toInt ∧ (klineF (aq + 2)).toInt ≤ 3)) (hl3 : (¬ klineF aq = nI 2 ∧ ¬ klineF aq = nI 3) ∨ (1 ≤ (klineF (aq + 3)).toInt ∧ (klineF (aq + 3)).toInt ≤ 9)) (e2 : y1 = klineF aq) (c4 : y1 = nI 0) (e11 : y10 = klineF (aq + 1)) (e13 : y12 = klineF (aq + 2)) (e17 : y16 = klineF (aq + 3)) (p19 : r18 = nI 12 * y10 + nI 2 * y12 + y16) (p26 : True) : 0 ≤ r18.toInt ∧ r18.toInt ≤ 23 := by
  have b_y1 := ia_b y1
  have b_y10 := ia_b y10
  have b_y12 := ia_b y12
  have b_y16 := ia_b y16
  have b_r18 := ia_b r18
  try have k_0 := ia_n 0 (by first | decide | omega)
  try have k_1 := ia_n 1 (by first | decide | omega)
  try have k_2 := ia_n 2 (by first | decide | omega)
  try have k_3 := ia_n 3 (by first | decide | omega)
  try have k_4 := ia_n 12 (by first | decide | omega)
  subst_vars
  apply line_b
  all_goals try simp only [ia_lt, ia_le, ia_eq, ia_m1, ia_0, ia_1, ne_eq, true_and, and_true, false_and, and_false, or_false, false_or, or_true, true_or, not_true_eq_false, not_false_eq_true] at *
  all_goals omega
set_option maxRecDepth 20000 in
theorem lf_x_goBy_8 (klineF : Nat → Int32) (aq : Nat) (y1 : Int32) (y37 : Int32) (ha : aq ≤ 156) (hl0 : 0 ≤ (klineF aq).toInt ∧ (klineF aq).toInt ≤ 5) (hl1 : ¬ klineF aq = nI 0 ∨ (0 ≤ (klineF (aq + 1)).toInt ∧ (klineF (aq + 1)).toInt ≤ 1 ∧ 0 ≤ (klineF (aq + 2)).toInt ∧ (klineF (aq + 2)).toInt ≤ 5 ∧ 0 ≤ (klineF (aq + 3)).toInt ∧ (klineF (aq + 3)).toInt ≤ 1)) (hl2 : ¬ klineF aq = nI 1 ∨ (0 ≤ (klineF (aq + 1)).toInt ∧ (klineF (aq + 1)).toInt ≤ 5 ∧ 0 ≤ (klineF (aq + 2)).toInt ∧ (klineF (aq + 2)).toInt ≤ 3)) (hl3 : (¬ klineF aq = nI 2 ∧ ¬ klineF aq = nI 3) ∨ (1 ≤ (klineF (aq + 3)).toInt ∧ (klineF (aq + 3)).toInt ≤ 9)) (e2 : y1 = klineF aq) (c5 : y1 = nI 1) (e38 : y37 = klineF (aq + 1)) : (aq + 1) < 160 := by
  have b_y1 := ia_b y1
  have b_y37 := ia_b y37
  try have k_0 := ia_n 0 (by first | decide | omega)
  try have k_1 := ia_n 1 (by first | decide | omega)
  try have k_2 := ia_n 2 (by first | decide | omega)
  try have k_3 := ia_n 3 (by first | decide | omega)
  try simp only [ia_lt, ia_le, ia_eq, ia_m1, ia_0, ia_1, ne_eq, true_and, and_true, false_and, and_false, or_false, false_or, or_true, true_or, not_true_eq_false, not_false_eq_true] at *
  all_goals omega
set_option maxRecDepth 20000 in
theorem lf_x_goBy_9 (klineF : Nat → Int32) (aq : Nat) (y1 : Int32) (y37 : Int32) (y39 : Int32) (ha : aq ≤ 156) (hl0 : 0 ≤ (klineF aq).toInt ∧ (klineF aq).toInt ≤ 5) (hl1 : ¬ klineF aq = nI 0 ∨ (0 ≤ (klineF (aq + 1)).toInt ∧ (klineF (aq + 1)).toInt ≤ 1 ∧ 0 ≤ (klineF (aq + 2)).toInt ∧ (klineF (aq + 2)).toInt ≤ 5 ∧ 0 ≤ (klineF (aq + 3)).toInt ∧ (klineF (aq + 3)).toInt ≤ 1)) (hl2 : ¬ klineF aq = nI 1 ∨ (0 ≤ (klineF (aq + 1)).toInt ∧ (klineF (aq + 1)).toInt ≤ 5 ∧ 0 ≤ (klineF (aq + 2)).toInt ∧ (klineF (aq + 2)).toInt ≤ 3)) (hl3 : (¬ klineF aq = nI 2 ∧ ¬ klineF aq = nI 3) ∨ (1 ≤ (klineF (aq + 3)).toInt ∧ (klineF (aq + 3)).toInt ≤ 9)) (e2 : y1 = klineF aq) (c5 : y1 = nI 1) (e38 : y37 = klineF (aq + 1)) (e40 : y39 = klineF (aq + 2)) : (aq + 2) < 160 := by
  have b_y1 := ia_b y1
  have b_y37 := ia_b y37
  have b_y39 := ia_b y39
  try have k_0 := ia_n 0 (by first | decide | omega)
  try have k_1 := ia_n 1 (by first | decide | omega)
  try have k_2 := ia_n 2 (by first | decide | omega)
  try have k_3 := ia_n 3 (by first | decide | omega)
  try simp only [ia_lt, ia_le, ia_eq, ia_m1, ia_0, ia_1, ne_eq, true_and, and_true, false_and, and_false, or_false, false_or, or_true, true_or, not_true_eq_false, not_false_eq_true] at *
  all_goals omega
set_option maxRecDepth 20000 in
theorem lf_x_goBy_10 (klineF : Nat → Int32) (aq : Nat) (y1 : Int32) (y37 : Int32) (y39 : Int32) (ha : aq ≤ 156) (hl0 : 0 ≤ (klineF aq).toInt ∧ (klineF aq).toInt ≤ 5) (hl1 : ¬ klineF aq = nI 0 ∨ (0 ≤ (klineF (aq + 1)).toInt ∧ (klineF (aq + 1)).toInt ≤ 1 ∧ 0 ≤ (klineF (aq + 2)).toInt ∧ (klineF (aq + 2)).toInt ≤ 5 ∧ 0 ≤ (klineF (aq + 3)).toInt ∧ (klineF (aq + 3)).toInt ≤ 1)) (hl2 : ¬ klineF aq = nI 1 ∨ (0 ≤ (klineF (aq + 1)).toInt ∧ (klineF (aq + 1)).toInt ≤ 5 ∧ 0 ≤ (klineF (aq + 2)).toInt ∧ (klineF (aq + 2)).toInt ≤ 3)) (hl3 : (¬ klineF aq = nI 2 ∧ ¬ klineF aq = nI 3) ∨ (1 ≤ (klineF (aq + 3)).toInt ∧ (klineF (aq + 3)).toInt ≤ 9)) (e2 : y1 = klineF aq) (c5 : y1 = nI 1) (e38 : y37 = klineF (aq + 1)) (e40 : y39 = klineF (aq + 2)) : 0 ≤ y37.toInt ∧ y37.toInt < ((6 : Nat) : Int) := by
  have b_y1 := ia_b y1
  have b_y37 := ia_b y37
  have b_y39 := ia_b y39
  try have k_0 := ia_n 0 (by first | decide | omega)
  try have k_1 := ia_n 1 (by first | decide | omega)
  try have k_2 := ia_n 2 (by first | decide | omega)
  try have k_3 := ia_n 3 (by first | decide | omega)
  try simp only [ia_lt, ia_le, ia_eq, ia_m1, ia_0, ia_1, ne_eq, true_and, and_true, false_and, and_false, or_false, false_or, or_true, true_or, not_true_eq_false, not_false_eq_true] at *
  all_goals omega
set_option maxRecDepth 20000 in
theorem lf_x_goBy_11 (klineF : Nat → Int32) (aq : Nat) (y1 : Int32) (y37 : Int32) (y39 : Int32) (n45 : Nat) (ha : aq ≤ 156) (hl0 : 0 ≤ (klineF aq).toInt ∧ (klineF aq).toInt ≤ 5) (hl1 : ¬ klineF aq = nI 0 ∨ (0 ≤ (klineF (aq + 1)).toInt ∧ (klineF (aq + 1)).toInt ≤ 1 ∧ 0 ≤ (klineF (aq + 2)).toInt ∧ (klineF (aq + 2)).toInt ≤ 5 ∧ 0 ≤ (klineF (aq + 3)).toInt ∧ (klineF (aq + 3)).toInt ≤ 1)) (hl2 : ¬ klineF aq = nI 1 ∨ (0 ≤ (klineF (aq + 1)).toInt ∧ (klineF (aq + 1)).toInt ≤ 5 ∧ 0 ≤ (klineF (aq + 2)).toInt ∧ (klineF (aq + 2)).toInt ≤ 3)) (hl3 : (¬ klineF aq = nI 2 ∧ ¬ klineF aq = nI 3) ∨ (1 ≤ (klineF (aq + 3)).toInt ∧ (klineF (aq + 3)).toInt ≤ 9)) (e2 : y1 = klineF aq) (c5 : y1 = nI 1) (e38 : y37 = klineF (aq + 1)) (e40 : y39 = klineF (aq + 2)) (h46 : n45 < 6) (e47 : y37 = nI n45) : 0 ≤ y39.toInt ∧ y39.toInt ≤ 3 := by
  have b_y1 := ia_b y1
  have b_y37 := ia_b y37
  have b_y39 := ia_b y39
  try have k_0 := ia_n 0 (by first | decide | omega)
  try have k_1 := ia_n 1 (by first | decide | omega)
  try have k_2 := ia_n 2 (by first | decide | omega)
  try have k_3 := ia_n 3 (by first | decide | omega)
  try have k_4 := ia_n n45 (by first | decide | omega)
  try simp only [ia_lt, ia_le, ia_eq, ia_m1, ia_0, ia_1, ne_eq, true_and, and_true, false_and, and_false, or_false, false_or, or_true, true_or, not_true_eq_false, not_false_eq_true] at *
  all_goals omega
set_option maxRecDepth 20000 in
theorem lf_x_goBy_12 (knowF : Nat → Int32) (klineF : Nat → Int32) (aq : Nat) (y1 : Int32) (y37 : Int32) (y39 : Int32) (n45 : Nat) (r48 : Int32) (ab_now : NB knowF) (sb_now : SB knowF) (ha : aq ≤ 156) (hl0 : 0 ≤ (klineF aq).toInt ∧ (klineF aq).toInt ≤ 5) (hl1 : ¬ klineF aq = nI 0 ∨ (0 ≤ (klineF (aq + 1)).toInt ∧ (klineF (aq + 1)).toInt ≤ 1 ∧ 0 ≤ (klineF (aq + 2)).toInt ∧ (klineF (aq + 2)).toInt ≤ 5 ∧ 0 ≤ (klineF (aq + 3)).toInt ∧ (klineF (aq + 3)).toInt ≤ 1)) (hl2 : ¬ klineF aq = nI 1 ∨ (0 ≤ (klineF (aq + 1)).toInt ∧ (klineF (aq + 1)).toInt ≤ 5 ∧ 0 ≤ (klineF (aq + 2)).toInt ∧ (klineF (aq + 2)).toInt ≤ 3)) (hl3 : (¬ klineF aq = nI 2 ∧ ¬ klineF aq = nI 3) ∨ (1 ≤ (klineF (aq + 3)).toInt ∧ (klineF (aq + 3)).toInt ≤ 9)) (e2 : y1 = klineF aq) (c5 : y1 = nI 1) (e38 : y37 = klineF (aq + 1)) (e40 : y39 = klineF (aq + 2)) (h46 : n45 < 6) (e47 : y37 = nI n45) (p49 : ¬ r48 = nI 0 ∨ BSok (knowF (113 + n45)).toInt y39.toInt (knowF 0).toInt (knowF 1).toInt) (c50 : r48 = 0) : 0 ≤ y39.toInt ∧ y39.toInt ≤ 3 := by
  have b_y1 := ia_b y1
  have b_y37 := ia_b y37
  have b_y39 := ia_b y39
  have b_r48 := ia_b r48
  try have k_0 := ia_n 0 (by first | decide | omega)
  try have k_1 := ia_n 1 (by first | decide | omega)
  try have k_2 := ia_n 2 (by first | decide | omega)
  try have k_3 := ia_n 3 (by first | decide | omega)
  try have k_4 := ia_n n45 (by first | decide | omega)
  try unfold BSok at *
  try simp only [ia_lt, ia_le, ia_eq, ia_m1, ia_0, ia_1, ne_eq, true_and, and_true, false_and, and_false, or_false, false_or, or_true, true_or, not_true_eq_false, not_false_eq_true] at *
  all_goals omega
set_option maxRecDepth 20000 in
theorem lf_x_goBy_13 (knowF : Nat → Int32) (klineF : Nat → Int32) (aq : Nat) (y1 : Int32) (y37 : Int32) (y39 : Int32) (n45 : Nat) (r48 : Int32) (ab_now : NB knowF) (sb_now : SB knowF) (ha : aq ≤ 156) (hl0 : 0 ≤ (klineF aq).toInt ∧ (klineF aq).toInt ≤ 5) (hl1 : ¬ klineF aq = nI 0 ∨ (0 ≤ (klineF (aq + 1)).toInt ∧ (klineF (aq + 1)).toInt ≤ 1 ∧ 0 ≤ (klineF (aq + 2)).toInt ∧ (klineF (aq + 2)).toInt ≤ 5 ∧ 0 ≤ (klineF (aq + 3)).toInt ∧ (klineF (aq + 3)).toInt ≤ 1)) (hl2 : ¬ klineF aq = nI 1 ∨ (0 ≤ (klineF (aq + 1)).toInt ∧ (klineF (aq + 1)).toInt ≤ 5 ∧ 0 ≤ (klineF (aq + 2)).toInt ∧ (klineF (aq + 2)).toInt ≤ 3)) (hl3 : (¬ klineF aq = nI 2 ∧ ¬ klineF aq = nI 3) ∨ (1 ≤ (klineF (aq + 3)).toInt ∧ (klineF (aq + 3)).toInt ≤ 9)) (e2 : y1 = klineF aq) (c5 : y1 = nI 1) (e38 : y37 = klineF (aq + 1)) (e40 : y39 = klineF (aq + 2)) (h46 : n45 < 6) (e47 : y37 = nI n45) (p49 : ¬ r48 = nI 0 ∨ BSok (knowF (113 + n45)).toInt y39.toInt (knowF 0).toInt (knowF 1).toInt) (c50 : r48 = 0) : BSok (knowF (113 + n45)).toInt y39.toInt (knowF 0).toInt (knowF 1).toInt := by
  rcases p49 with h9 | h9
  · exfalso
    apply h9
    have b_y1 := ia_b y1
    have b_y37 := ia_b y37
    have b_y39 := ia_b y39
    have b_r48 := ia_b r48
    try have k_0 := ia_n 0 (by first | decide | omega)
    try have k_1 := ia_n 1 (by first | decide | omega)
    try have k_2 := ia_n 2 (by first | decide | omega)
    try have k_3 := ia_n 3 (by first | decide | omega)
    try have k_4 := ia_n n45 (by first | decide | omega)
    try simp only [ia_lt, ia_le, ia_eq, ia_m1, ia_0, ia_1, ne_eq, true_and, and_true, false_and, and_false, or_false, false_or, or_true, true_or, not_true_eq_false, not_false_eq_true] at *
    all_goals omega
  · exact h9
set_option maxRecDepth 20000 in
theorem lf_x_goBy_14 (klineF : Nat → Int32) (aq : Nat) (y1 : Int32) (y58 : Int32) (ha : aq ≤ 156) (hl0 : 0 ≤ (klineF aq).toInt ∧ (klineF aq).toInt ≤ 5) (hl1 : ¬ klineF aq = nI 0 ∨ (0 ≤ (klineF (aq + 1)).toInt ∧ (klineF (aq + 1)).toInt ≤ 1 ∧ 0 ≤ (klineF (aq + 2)).toInt ∧ (klineF (aq + 2)).toInt ≤ 5 ∧ 0 ≤ (klineF (aq + 3)).toInt ∧ (klineF (aq + 3)).toInt ≤ 1)) (hl2 : ¬ klineF aq = nI 1 ∨ (0 ≤ (klineF (aq + 1)).toInt ∧ (klineF (aq + 1)).toInt ≤ 5 ∧ 0 ≤ (klineF (aq + 2)).toInt ∧ (klineF (aq + 2)).toInt ≤ 3)) (hl3 : (¬ klineF aq = nI 2 ∧ ¬ klineF aq = nI 3) ∨ (1 ≤ (klineF (aq + 3)).toInt ∧ (klineF (aq + 3)).toInt ≤ 9)) (e2 : y1 = klineF aq) (c6 : y1 = nI 2) (e59 : y58 = klineF (aq + 1)) : (aq + 1) < 160 := by
  have b_y1 := ia_b y1
  have b_y58 := ia_b y58
  try have k_0 := ia_n 0 (by first | decide | omega)
  try have k_1 := ia_n 1 (by first | decide | omega)
  try have k_2 := ia_n 2 (by first | decide | omega)
  try have k_3 := ia_n 3 (by first | decide | omega)
  try simp only [ia_lt, ia_le, ia_eq, ia_m1, ia_0, ia_1, ne_eq, true_and, and_true, false_and, and_false, or_false, false_or, or_true, true_or, not_true_eq_false, not_false_eq_true] at *
  all_goals omega
set_option maxRecDepth 20000 in
theorem lf_x_goBy_15 (klineF : Nat → Int32) (aq : Nat) (y1 : Int32) (y58 : Int32) (y60 : Int32) (ha : aq ≤ 156) (hl0 : 0 ≤ (klineF aq).toInt ∧ (klineF aq).toInt ≤ 5) (hl1 : ¬ klineF aq = nI 0 ∨ (0 ≤ (klineF (aq + 1)).toInt ∧ (klineF (aq + 1)).toInt ≤ 1 ∧ 0 ≤ (klineF (aq + 2)).toInt ∧ (klineF (aq + 2)).toInt ≤ 5 ∧ 0 ≤ (klineF (aq + 3)).toInt ∧ (klineF (aq + 3)).toInt ≤ 1)) (hl2 : ¬ klineF aq = nI 1 ∨ (0 ≤ (klineF (aq + 1)).toInt ∧ (klineF (aq + 1)).toInt ≤ 5 ∧ 0 ≤ (klineF (aq + 2)).toInt ∧ (klineF (aq + 2)).toInt ≤ 3)) (hl3 : (¬ klineF aq = nI 2 ∧ ¬ klineF aq = nI 3) ∨ (1 ≤ (klineF (aq + 3)).toInt ∧ (klineF (aq + 3)).toInt ≤ 9)) (e2 : y1 = klineF aq) (c6 : y1 = nI 2) (e59 : y58 = klineF (aq + 1)) (e61 : y60 = klineF (aq + 2)) : (aq + 2) < 160 := by
  have b_y1 := ia_b y1
  have b_y58 := ia_b y58
  have b_y60 := ia_b y60
  try have k_0 := ia_n 0 (by first | decide | omega)
  try have k_1 := ia_n 1 (by first | decide | omega)
  try have k_2 := ia_n 2 (by first | decide | omega)
  try have k_3 := ia_n 3 (by first | decide | omega)
  try simp only [ia_lt, ia_le, ia_eq, ia_m1, ia_0, ia_1, ne_eq, true_and, and_true, false_and, and_false, or_false, false_or, or_true, true_or, not_true_eq_false, not_false_eq_true] at *
  all_goals omega
set_option maxRecDepth 20000 in
theorem lf_x_goBy_16 (knowF : Nat → Int32) (klineF : Nat → Int32) (aq : Nat) (y1 : Int32) (y58 : Int32) (y60 : Int32) (ab_now : NB knowF) (sb_now : SB knowF) (ha : aq ≤ 156) (hl0 : 0 ≤ (klineF aq).toInt ∧ (klineF aq).toInt ≤ 5) (hl1 : ¬ klineF aq = nI 0 ∨ (0 ≤ (klineF (aq + 1)).toInt ∧ (klineF (aq + 1)).toInt ≤ 1 ∧ 0 ≤ (klineF (aq + 2)).toInt ∧ (klineF (aq + 2)).toInt ≤ 5 ∧ 0 ≤ (klineF (aq + 3)).toInt ∧ (klineF (aq + 3)).toInt ≤ 1)) (hl2 : ¬ klineF aq = nI 1 ∨ (0 ≤ (klineF (aq + 1)).toInt ∧ (klineF (aq + 1)).toInt ≤ 5 ∧ 0 ≤ (klineF (aq + 2)).toInt ∧ (klineF (aq + 2)).toInt ≤ 3)) (hl3 : (¬ klineF aq = nI 2 ∧ ¬ klineF aq = nI 3) ∨ (1 ≤ (klineF (aq + 3)).toInt ∧ (klineF (aq + 3)).toInt ≤ 9)) (e2 : y1 = klineF aq) (c6 : y1 = nI 2) (e59 : y58 = klineF (aq + 1)) (e61 : y60 = klineF (aq + 2)) (t67 : 0 ≤ y58.toInt) (t68 : y58.toInt < (knowF 0).toInt) (t69 : 0 ≤ y60.toInt) (t70 : y60.toInt < (knowF 1).toInt) (t71 : y58.toInt ≤ 5) (t72 : y60.toInt ≤ 5) : 0 ≤ y60.toInt ∧ y60.toInt < ((6 : Nat) : Int) := by
  have b_y1 := ia_b y1
  have b_y58 := ia_b y58
  have b_y60 := ia_b y60
  try have k_0 := ia_n 0 (by first | decide | omega)
  try have k_1 := ia_n 1 (by first | decide | omega)
  try have k_2 := ia_n 2 (by first | decide | omega)
  try have k_3 := ia_n 3 (by first | decide | omega)
  try simp only [ia_lt, ia_le, ia_eq, ia_m1, ia_0, ia_1, ne_eq, true_and, and_true, false_and, and_false, or_false, false_or, or_true, true_or, not_true_eq_false, not_false_eq_true] at *
  all_goals omega
set_option maxRecDepth 20000 in
theorem lf_x_goBy_17 (knowF : Nat → Int32) (klineF : Nat → Int32) (aq : Nat) (y1 : Int32) (y58 : Int32) (y60 : Int32) (n75 : Nat) (ab_now : NB knowF) (sb_now : SB knowF) (ha : aq ≤ 156) (hl0 : 0 ≤ (klineF aq).toInt ∧ (klineF aq).toInt ≤ 5) (hl1 : ¬ klineF aq = nI 0 ∨ (0 ≤ (klineF (aq + 1)).toInt ∧ (klineF (aq + 1)).toInt ≤ 1 ∧ 0 ≤ (klineF (aq + 2)).toInt ∧ (klineF (aq + 2)).toInt ≤ 5 ∧ 0 ≤ (klineF (aq + 3)).toInt ∧ (klineF (aq + 3)).toInt ≤ 1)) (hl2 : ¬ klineF aq = nI 1 ∨ (0 ≤ (klineF (aq + 1)).toInt ∧ (klineF (aq + 1)).toInt ≤ 5 ∧ 0 ≤ (klineF (aq + 2)).toInt ∧ (klineF (aq + 2)).toInt ≤ 3)) (hl3 : (¬ klineF aq = nI 2 ∧ ¬ klineF aq = nI 3) ∨ (1 ≤ (klineF (aq + 3)).toInt ∧ (klineF (aq + 3)).toInt ≤ 9)) (e2 : y1 = klineF aq) (c6 : y1 = nI 2) (e59 : y58 = klineF (aq + 1)) (e61 : y60 = klineF (aq + 2)) (t67 : 0 ≤ y58.toInt) (t68 : y58.toInt < (knowF 0).toInt) (t69 : 0 ≤ y60.toInt) (t70 : y60.toInt < (knowF 1).toInt) (t71 : y58.toInt ≤ 5) (t72 : y60.toInt ≤ 5) (h76 : n75 < 6) (e77 : y60 = nI n75) : 0 ≤ y58.toInt ∧ y58.toInt < ((6 : Nat) : Int) := by
  have b_y1 := ia_b y1
  have b_y58 := ia_b y58
  have b_y60 := ia_b y60
  try have k_0 := ia_n 0 (by first | decide | omega)
  try have k_1 := ia_n 1 (by first | decide | omega)
  try have k_2 := ia_n 2 (by first | decide | omega)
  try have k_3 := ia_n 3 (by first | decide | omega)
  try have k_4 := ia_n n75 (by first | decide | omega)
  try simp only [ia_lt, ia_le, ia_eq, ia_m1, ia_0, ia_1, ne_eq, true_and, and_true, false_and, and_false, or_false, false_or, or_true, true_or, not_true_eq_false, not_false_eq_true] at *
  all_goals omega
set_option maxRecDepth 20000 in
theorem lf_x_goBy_18 (knowF : Nat → Int32) (klineF : Nat → Int32) (aq : Nat) (y1 : Int32) (y58 : Int32) (y60 : Int32) (n75 : Nat) (n78 : Nat) (y81 : Int32) (ab_now : NB knowF) (sb_now : SB knowF) (ha : aq ≤ 156) (hl0 : 0 ≤ (klineF aq).toInt ∧ (klineF aq).toInt ≤ 5) (hl1 : ¬ klineF aq = nI 0 ∨ (0 ≤ (klineF (aq + 1)).toInt ∧ (klineF (aq + 1)).toInt ≤ 1 ∧ 0 ≤ (klineF (aq + 2)).toInt ∧ (klineF (aq + 2)).toInt ≤ 5 ∧ 0 ≤ (klineF (aq + 3)).toInt ∧ (klineF (aq + 3)).toInt ≤ 1)) (hl2 : ¬ klineF aq = nI 1 ∨ (0 ≤ (klineF (aq + 1)).toInt ∧ (klineF (aq + 1)).toInt ≤ 5 ∧ 0 ≤ (klineF (aq + 2)).toInt ∧ (klineF (aq + 2)).toInt ≤ 3)) (hl3 : (¬ klineF aq = nI 2 ∧ ¬ klineF aq = nI 3) ∨ (1 ≤ (klineF (aq + 3)).toInt ∧ (klineF (aq + 3)).toInt ≤ 9)) (e2 : y1 = klineF aq) (c6 : y1 = nI 2) (e59 : y58 = klineF (aq + 1)) (e61 : y60 = klineF (aq + 2)) (t67 : 0 ≤ y58.toInt) (t68 : y58.toInt < (knowF 0).toInt) (t69 : 0 ≤ y60.toInt) (t70 : y60.toInt < (knowF 1).toInt) (t71 : y58.toInt ≤ 5) (t72 : y60.toInt ≤ 5) (h76 : n75 < 6) (e77 : y60 = nI n75) (h79 : n78 < 6) (e80 : y58 = nI n78) (e82 : y81 = klineF (aq + 3)) : (aq + 3) < 160 := by
  have b_y1 := ia_b y1
  have b_y58 := ia_b y58
  have b_y60 := ia_b y60
  have b_y81 := ia_b y81
  try have k_0 := ia_n 0 (by first | decide | omega)
  try have k_1 := ia_n 1 (by first | decide | omega)
  try have k_2 := ia_n 2 (by first | decide | omega)
  try have k_3 := ia_n 3 (by first | decide | omega)
  try have k_4 := ia_n n75 (by first | decide | omega)
  try have k_5 := ia_n n78 (by first | decide | omega)
  try simp only [ia_lt, ia_le, ia_eq, ia_m1, ia_0, ia_1, ne_eq, true_and, and_true, false_and, and_false, or_false, false_or, or_true, true_or, not_true_eq_false, not_false_eq_true] at *
  all_goals omega
set_option maxRecDepth 20000 in
theorem lf_x_goBy_19 (knowF : Nat → Int32) (klineF : Nat → Int32) (aq : Nat) (y1 : Int32) (y58 : Int32) (y60 : Int32) (n75 : Nat) (n78 : Nat) (y81 : Int32) (ab_now : NB knowF) (sb_now : SB knowF) (ha : aq ≤ 156) (hl0 : 0 ≤ (klineF aq).toInt ∧ (klineF aq).toInt ≤ 5) (hl1 : ¬ klineF aq = nI 0 ∨ (0 ≤ (klineF (aq + 1)).toInt ∧ (klineF (aq + 1)).toInt ≤ 1 ∧ 0 ≤ (klineF (aq + 2)).toInt ∧ (klineF (aq + 2)).toInt ≤ 5 ∧ 0 ≤ (klineF (aq + 3)).toInt ∧ (klineF (aq + 3)).toInt ≤ 1)) (hl2 : ¬ klineF aq = nI 1 ∨ (0 ≤ (klineF (aq + 1)).toInt ∧ (klineF (aq + 1)).toInt ≤ 5 ∧ 0 ≤ (klineF (aq + 2)).toInt ∧ (klineF (aq + 2)).toInt ≤ 3)) (hl3 : (¬ klineF aq = nI 2 ∧ ¬ klineF aq = nI 3) ∨ (1 ≤ (klineF (aq + 3)).toInt ∧ (klineF (aq + 3)).toInt ≤ 9)) (e2 : y1 = klineF aq) (c6 : y1 = nI 2) (e59 : y58 = klineF (aq + 1)) (e61 : y60 = klineF (aq + 2)) (t67 : 0 ≤ y58.toInt) (t68 : y58.toInt < (knowF 0).toInt) (t69 : 0 ≤ y60.toInt) (t70 : y60.toInt < (knowF 1).toInt) (t71 : y58.toInt ≤ 5) (t72 : y60.toInt ≤ 5) (h76 : n75 < 6) (e77 : y60 = nI n75) (h79 : n78 < 6) (e80 : y58 = nI n78) (e82 : y81 = klineF (aq + 3)) : 0 ≤ (nI ((6 * n75) + n78)).toInt ∧ (nI ((6 * n75) + n78)).toInt ≤ 35 := by
  have b_y1 := ia_b y1
  have b_y58 := ia_b y58
  have b_y60 := ia_b y60
  have b_y81 := ia_b y81
  try have k_0 := ia_n 0 (by first | decide | omega)
  try have k_1 := ia_n 1 (by first | decide | omega)
  try have k_2 := ia_n 2 (by first | decide | omega)
  try have k_3 := ia_n 3 (by first | decide | omega)
  try have k_4 := ia_n n75 (by first | decide | omega)
  try have k_5 := ia_n n78 (by first | decide | omega)
  try have k_6 := ia_n ((6 * n75) + n78) (by first | decide | omega)
  try simp only [ia_lt, ia_le, ia_eq, ia_m1, ia_0, ia_1, ne_eq, true_and, and_true, false_and, and_false, or_false, false_or, or_true, true_or, not_true_eq_false, not_false_eq_true] at *
  all_goals omega
set_option maxRecDepth 20000 in
theorem lf_x_goBy_20 (knowF : Nat → Int32) (klineF : Nat → Int32) (aq : Nat) (y1 : Int32) (y58 : Int32) (y60 : Int32) (n75 : Nat) (n78 : Nat) (y81 : Int32) (ab_now : NB knowF) (sb_now : SB knowF) (ha : aq ≤ 156) (hl0 : 0 ≤ (klineF aq).toInt ∧ (klineF aq).toInt ≤ 5) (hl1 : ¬ klineF aq = nI 0 ∨ (0 ≤ (klineF (aq + 1)).toInt ∧ (klineF (aq + 1)).toInt ≤ 1 ∧ 0 ≤ (klineF (aq + 2)).toInt ∧ (klineF (aq + 2)).toInt ≤ 5 ∧ 0 ≤ (klineF (aq + 3)).toInt ∧ (klineF (aq + 3)).toInt ≤ 1)) (hl2 : ¬ klineF aq = nI 1 ∨ (0 ≤ (klineF (aq + 1)).toInt ∧ (klineF (aq + 1)).toInt ≤ 5 ∧ 0 ≤ (klineF (aq + 2)).toInt ∧ (klineF (aq + 2)).toInt ≤ 3)) (hl3 : (¬ klineF aq = nI 2 ∧ ¬ klineF aq = nI 3) ∨ (1 ≤ (klineF (aq + 3)).toInt ∧ (klineF (aq + 3)).toInt ≤ 9)) (e2 : y1 = klineF aq) (c6 : y1 = nI 2) (e59 : y58 = klineF (aq + 1)) (e61 : y60 = klineF (aq + 2)) (t67 : 0 ≤ y58.toInt) (t68 : y58.toInt < (knowF 0).toInt) (t69 : 0 ≤ y60.toInt) (t70 : y60.toInt < (knowF 1).toInt) (t71 : y58.toInt ≤ 5) (t72 : y60.toInt ≤ 5) (h76 : n75 < 6) (e77 : y60 = nI n75) (h79 : n78 < 6) (e80 : y58 = nI n78) (e82 : y81 = klineF (aq + 3)) (p84 : True) : 0 ≤ (nI ((6 * n75) + n78)).toInt ∧ (nI ((6 * n75) + n78)).toInt ≤ 35 := by
  have b_y1 := ia_b y1
  have b_y58 := ia_b y58
  have b_y60 := ia_b y60
  have b_y81 := ia_b y81
  try have k_0 := ia_n 0 (by first | decide | omega)
  try have k_1 := ia_n 1 (by first | decide | omega)
  try have k_2 := ia_n 2 (by first | decide | omega)
  try have k_3 := ia_n 3 (by first | decide | omega)
  try have k_4 := ia_n n75 (by first | decide | omega)
  try have k_5 := ia_n n78 (by first | decide | omega)
  try have k_6 := ia_n ((6 * n75) + n78) (by first | decide | omega)
  try simp only [ia_lt, ia_le, ia_eq, ia_m1, ia_0, ia_1, ne_eq, true_and, and_true, false_and, and_false, or_false, false_or, or_true, true_or, not_true_eq_false, not_false_eq_true] at *
  all_goals omega
set_option maxRecDepth 20000 in
theorem lf_x_goBy_21 (knowF : Nat → Int32) (klineF : Nat → Int32) (aq : Nat) (y1 : Int32) (y58 : Int32) (y60 : Int32) (n75 : Nat) (n78 : Nat) (y81 : Int32) (ab_now : NB knowF) (sb_now : SB knowF) (ha : aq ≤ 156) (hl0 : 0 ≤ (klineF aq).toInt ∧ (klineF aq).toInt ≤ 5) (hl1 : ¬ klineF aq = nI 0 ∨ (0 ≤ (klineF (aq + 1)).toInt ∧ (klineF (aq + 1)).toInt ≤ 1 ∧ 0 ≤ (klineF (aq + 2)).toInt ∧ (klineF (aq + 2)).toInt ≤ 5 ∧ 0 ≤ (klineF (aq + 3)).toInt ∧ (klineF (aq + 3)).toInt ≤ 1)) (hl2 : ¬ klineF aq = nI 1 ∨ (0 ≤ (klineF (aq + 1)).toInt ∧ (klineF (aq + 1)).toInt ≤ 5 ∧ 0 ≤ (klineF (aq + 2)).toInt ∧ (klineF (aq + 2)).toInt ≤ 3)) (hl3 : (¬ klineF aq = nI 2 ∧ ¬ klineF aq = nI 3) ∨ (1 ≤ (klineF (aq + 3)).toInt ∧ (klineF (aq + 3)).toInt ≤ 9)) (e2 : y1 = klineF aq) (c6 : y1 = nI 2) (e59 : y58 = klineF (aq + 1)) (e61 : y60 = klineF (aq + 2)) (t67 : 0 ≤ y58.toInt) (t68 : y58.toInt < (knowF 0).toInt) (t69 : 0 ≤ y60.toInt) (t70 : y60.toInt < (knowF 1).toInt) (t71 : y58.toInt ≤ 5) (t72 : y60.toInt ≤ 5) (h76 : n75 < 6) (e77 : y60 = nI n75) (h79 : n78 < 6) (e80 : y58 = nI n78) (e82 : y81 = klineF (aq + 3)) (p84 : True) : 1 ≤ y81.toInt ∧ y81.toInt ≤ 9 := by
  have b_y1 := ia_b y1
  have b_y58 := ia_b y58
  have b_y60 := ia_b y60
  have b_y81 := ia_b y81
  try have k_0 := ia_n 0 (by first | decide | omega)
  try have k_1 := ia_n 1 (by first | decide | omega)
  try have k_2 := ia_n 2 (by first | decide | omega)
  try have k_3 := ia_n 3 (by first | decide | omega)
  try have k_4 := ia_n n75 (by first | decide | omega)
  try have k_5 := ia_n n78 (by first | decide | omega)
  try simp only [ia_lt, ia_le, ia_eq, ia_m1, ia_0, ia_1, ne_eq, true_and, and_true, false_and, and_false, or_false, false_or, or_true, true_or, not_true_eq_false, not_false_eq_true] at *
  all_goals omega
set_option maxRecDepth 20000 in
theorem lf_x_goBy_22 (klineF : Nat → Int32) (aq : Nat) (y1 : Int32) (y94 : Int32) (ha : aq ≤ 156) (hl0 : 0 ≤ (klineF aq).toInt ∧ (klineF aq).toInt ≤ 5) (hl1 : ¬ klineF aq = nI 0 ∨ (0 ≤ (klineF (aq + 1)).toInt ∧ (klineF (aq + 1)).toInt ≤ 1 ∧ 0 ≤ (klineF (aq + 2)).toInt ∧ (klineF (aq + 2)).toInt ≤ 5 ∧ 0 ≤ (klineF (aq + 3)).toInt ∧ (klineF (aq + 3)).toInt ≤ 1)) (hl2 : ¬ klineF aq = nI 1 ∨ (0 ≤ (klineF (aq + 1)).toInt ∧ (klineF (aq + 1)).toInt ≤ 5 ∧ 0 ≤ (klineF (aq + 2)).toInt ∧ (klineF (aq + 2)).toInt ≤ 3)) (hl3 : (¬ klineF aq = nI 2 ∧ ¬ klineF aq = nI 3) ∨ (1 ≤ (klineF (aq + 3)).toInt ∧ (klineF (aq + 3)).toInt ≤ 9)) (e2 : y1 = klineF aq) (c7 : y1 = nI 3) (e95 : y94 = klineF (aq + 1)) : (aq + 1) < 160 := by
  have b_y1 := ia_b y1
  have b_y94 := ia_b y94
  try have k_0 := ia_n 0 (by first | decide | omega)
  try have k_1 := ia_n 1 (by first | decide | omega)
  try have k_2 := ia_n 2 (by first | decide | omega)
  try have k_3 := ia_n 3 (by first | decide | omega)
  try simp only [ia_lt, ia_le, ia_eq, ia_m1, ia_0, ia_1, ne_eq, true_and, and_true, false_and, and_false, or_false, false_or, or_true, true_or, not_true_eq_false, not_false_eq_true] at *
  all_goals omega
set_option maxRecDepth 20000 in
theorem lf_x_goBy_23 (klineF : Nat → Int32) (aq : Nat) (y1 : Int32) (y94 : Int32) (y96 : Int32) (ha : aq ≤ 156) (hl0 : 0 ≤ (klineF aq).toInt ∧ (klineF aq).toInt ≤ 5) (hl1 : ¬ klineF aq = nI 0 ∨ (0 ≤ (klineF (aq + 1)).toInt ∧ (klineF (aq + 1)).toInt ≤ 1 ∧ 0 ≤ (klineF (aq + 2)).toInt ∧ (klineF (aq + 2)).toInt ≤ 5 ∧ 0 ≤ (klineF (aq + 3)).toInt ∧ (klineF (aq + 3)).toInt ≤ 1)) (hl2 : ¬ klineF aq = nI 1 ∨ (0 ≤ (klineF (aq + 1)).toInt ∧ (klineF (aq + 1)).toInt ≤ 5 ∧ 0 ≤ (klineF (aq + 2)).toInt ∧ (klineF (aq + 2)).toInt ≤ 3)) (hl3 : (¬ klineF aq = nI 2 ∧ ¬ klineF aq = nI 3) ∨ (1 ≤ (klineF (aq + 3)).toInt ∧ (klineF (aq + 3)).toInt ≤ 9)) (e2 : y1 = klineF aq) (c7 : y1 = nI 3) (e95 : y94 = klineF (aq + 1)) (e97 : y96 = klineF (aq + 2)) : (aq + 2) < 160 := by
  have b_y1 := ia_b y1
  have b_y94 := ia_b y94
  have b_y96 := ia_b y96
  try have k_0 := ia_n 0 (by first | decide | omega)
  try have k_1 := ia_n 1 (by first | decide | omega)
  try have k_2 := ia_n 2 (by first | decide | omega)
  try have k_3 := ia_n 3 (by first | decide | omega)
  try simp only [ia_lt, ia_le, ia_eq, ia_m1, ia_0, ia_1, ne_eq, true_and, and_true, false_and, and_false, or_false, false_or, or_true, true_or, not_true_eq_false, not_false_eq_true] at *
  all_goals omega
set_option maxRecDepth 20000 in
theorem lf_x_goBy_24 (knowF : Nat → Int32) (klineF : Nat → Int32) (aq : Nat) (y1 : Int32) (y94 : Int32) (y96 : Int32) (ab_now : NB knowF) (sb_now : SB knowF) (ha : aq ≤ 156) (hl0 : 0 ≤ (klineF aq).toInt ∧ (klineF aq).toInt ≤ 5) (hl1 : ¬ klineF aq = nI 0 ∨ (0 ≤ (klineF (aq + 1)).toInt ∧ (klineF (aq + 1)).toInt ≤ 1 ∧ 0 ≤ (klineF (aq + 2)).toInt ∧ (klineF (aq + 2)).toInt ≤ 5 ∧ 0 ≤ (klineF (aq + 3)).toInt ∧ (klineF (aq + 3)).toInt ≤ 1)) (hl2 : ¬ klineF aq = nI 1 ∨ (0 ≤ (klineF (aq + 1)).toInt ∧ (klineF (aq + 1)).toInt ≤ 5 ∧ 0 ≤ (klineF (aq + 2)).toInt ∧ (klineF (aq + 2)).toInt ≤ 3)) (hl3 : (¬ klineF aq = nI 2 ∧ ¬ klineF aq = nI 3) ∨ (1 ≤ (klineF (aq + 3)).toInt ∧ (klineF (aq + 3)).toInt ≤ 9)) (e2 : y1 = klineF aq) (c7 : y1 = nI 3) (e95 : y94 = klineF (aq + 1)) (e97 : y96 = klineF (aq + 2)) (t104 : 0 ≤ y94.toInt) (t105 : y94.toInt < (knowF 0).toInt) (t106 : 0 ≤ y96.toInt) (t107 : y96.toInt < (knowF 1).toInt) (t108 : y94.toInt ≤ 5) (t109 : y96.toInt ≤ 5) : 0 ≤ y96.toInt ∧ y96.toInt < ((6 : Nat) : Int) := by
  have b_y1 := ia_b y1
  have b_y94 := ia_b y94
  have b_y96 := ia_b y96
  try have k_0 := ia_n 0 (by first | decide | omega)
  try have k_1 := ia_n 1 (by first | decide | omega)
  try have k_2 := ia_n 2 (by first | decide | omega)
  try have k_3 := ia_n 3 (by first | decide | omega)
  try simp only [ia_lt, ia_le, ia_eq, ia_m1, ia_0, ia_1, ne_eq, true_and, and_true, false_and, and_false, or_false, false_or, or_true, true_or, not_true_eq_false, not_false_eq_true] at *
  all_goals omega
set_option maxRecDepth 20000 in
theorem lf_x_goBy_25 (knowF : Nat → Int32) (klineF : Nat → Int32) (aq : Nat) (y1 : Int32) (y94 : Int32) (y96 : Int32) (n112 : Nat) (ab_now : NB knowF) (sb_now : SB knowF) (ha : aq ≤ 156) (hl0 : 0 ≤ (klineF aq).toInt ∧ (klineF aq).toInt ≤ 5) (hl1 : ¬ klineF aq = nI 0 ∨ (0 ≤ (klineF (aq + 1)).toInt ∧ (klineF (aq + 1)).toInt ≤ 1 ∧ 0 ≤ (klineF (aq + 2)).toInt ∧ (klineF (aq + 2)).toInt ≤ 5 ∧ 0 ≤ (klineF (aq + 3)).toInt ∧ (klineF (aq + 3)).toInt ≤ 1)) (hl2 : ¬ klineF aq = nI 1 ∨ (0 ≤ (klineF (aq + 1)).toInt ∧ (klineF (aq + 1)).toInt ≤ 5 ∧ 0 ≤ (klineF (aq + 2)).toInt ∧ (klineF (aq + 2)).toInt ≤ 3)) (hl3 : (¬ klineF aq = nI 2 ∧ ¬ klineF aq = nI 3) ∨ (1 ≤ (klineF (aq + 3)).toInt ∧ (klineF (aq + 3)).toInt ≤ 9)) (e2 : y1 = klineF aq) (c7 : y1 = nI 3) (e95 : y94 = klineF (aq + 1)) (e97 : y96 = klineF (aq + 2)) (t104 : 0 ≤ y94.toInt) (t105 : y94.toInt < (knowF 0).toInt) (t106 : 0 ≤ y96.toInt) (t107 : y96.toInt < (knowF 1).toInt) (t108 : y94.toInt ≤ 5) (t109 : y96.toInt ≤ 5) (h113 : n112 < 6) (e114 : y96 = nI n112) : 0 ≤ y94.toInt ∧ y94.toInt < ((6 : Nat) : Int) := by
  have b_y1 := ia_b y1
  have b_y94 := ia_b y94
  have b_y96 := ia_b y96
  try have k_0 := ia_n 0 (by first | decide | omega)
  try have k_1 := ia_n 1 (by first | decide | omega)
  try have k_2 := ia_n 2 (by first | decide | omega)
  try have k_3 := ia_n 3 (by first | decide | omega)
  try have k_4 := ia_n n112 (by first | decide | omega)
  try simp only [ia_lt, ia_le, ia_eq, ia_m1, ia_0, ia_1, ne_eq, true_and, and_true, false_and, and_false, or_false, false_or, or_true, true_or, not_true_eq_false, not_false_eq_true] at *
  all_goals omega
set_option maxRecDepth 20000 in
theorem lf_x_goBy_26 (knowF : Nat → Int32) (klineF : Nat → Int32) (aq : Nat) (y1 : Int32) (y94 : Int32) (y96 : Int32) (n112 : Nat) (n115 : Nat) (y118 : Int32) (ab_now : NB knowF) (sb_now : SB knowF) (ha : aq ≤ 156) (hl0 : 0 ≤ (klineF aq).toInt ∧ (klineF aq).toInt ≤ 5) (hl1 : ¬ klineF aq = nI 0 ∨ (0 ≤ (klineF (aq + 1)).toInt ∧ (klineF (aq + 1)).toInt ≤ 1 ∧ 0 ≤ (klineF (aq + 2)).toInt ∧ (klineF (aq + 2)).toInt ≤ 5 ∧ 0 ≤ (klineF (aq + 3)).toInt ∧ (klineF (aq + 3)).toInt ≤ 1)) (hl2 : ¬ klineF aq = nI 1 ∨ (0 ≤ (klineF (aq + 1)).toInt ∧ (klineF (aq + 1)).toInt ≤ 5 ∧ 0 ≤ (klineF (aq + 2)).toInt ∧ (klineF (aq + 2)).toInt ≤ 3)) (hl3 : (¬ klineF aq = nI 2 ∧ ¬ klineF aq = nI 3) ∨ (1 ≤ (klineF (aq + 3)).toInt ∧ (klineF (aq + 3)).toInt ≤ 9)) (e2 : y1 = klineF aq) (c7 : y1 = nI 3) (e95 : y94 = klineF (aq + 1)) (e97 : y96 = klineF (aq + 2)) (t104 : 0 ≤ y94.toInt) (t105 : y94.toInt < (knowF 0).toInt) (t106 : 0 ≤ y96.toInt) (t107 : y96.toInt < (knowF 1).toInt) (t108 : y94.toInt ≤ 5) (t109 : y96.toInt ≤ 5) (h113 : n112 < 6) (e114 : y96 = nI n112) (h116 : n115 < 6) (e117 : y94 = nI n115) (e119 : y118 = klineF (aq + 3)) : (aq + 3) < 160 := by
  have b_y1 := ia_b y1
  have b_y94 := ia_b y94
  have b_y96 := ia_b y96
  have b_y118 := ia_b y118
  try have k_0 := ia_n 0 (by first | decide | omega)
  try have k_1 := ia_n 1 (by first | decide | omega)
  try have k_2 := ia_n 2 (by first | decide | omega)
  try have k_3 := ia_n 3 (by first | decide | omega)
  try have k_4 := ia_n n112 (by first | decide | omega)
  try have k_5 := ia_n n115 (by first | decide | omega)
  try simp only [ia_lt, ia_le, ia_eq, ia_m1, ia_0, ia_1, ne_eq, true_and, and_true, false_and, and_false, or_false, false_or, or_true, true_or, not_true_eq_false, not_false_eq_true] at *
  all_goals omega
set_option maxRecDepth 20000 in
theorem lf_x_goBy_27 (knowF : Nat → Int32) (klineF : Nat → Int32) (aq : Nat) (y1 : Int32) (y94 : Int32) (y96 : Int32) (n112 : Nat) (n115 : Nat) (y118 : Int32) (ab_now : NB knowF) (sb_now : SB knowF) (ha : aq ≤ 156) (hl0 : 0 ≤ (klineF aq).toInt ∧ (klineF aq).toInt ≤ 5) (hl1 : ¬ klineF aq = nI 0 ∨ (0 ≤ (klineF (aq + 1)).toInt ∧ (klineF (aq + 1)).toInt ≤ 1 ∧ 0 ≤ (klineF (aq + 2)).toInt ∧ (klineF (aq + 2)).toInt ≤ 5 ∧ 0 ≤ (klineF (aq + 3)).toInt ∧ (klineF (aq + 3)).toInt ≤ 1)) (hl2 : ¬ klineF aq = nI 1 ∨ (0 ≤ (klineF (aq + 1)).toInt ∧ (klineF (aq + 1)).toInt ≤ 5 ∧ 0 ≤ (klineF (aq + 2)).toInt ∧ (klineF (aq + 2)).toInt ≤ 3)) (hl3 : (¬ klineF aq = nI 2 ∧ ¬ klineF aq = nI 3) ∨ (1 ≤ (klineF (aq + 3)).toInt ∧ (klineF (aq + 3)).toInt ≤ 9)) (e2 : y1 = klineF aq) (c7 : y1 = nI 3) (e95 : y94 = klineF (aq + 1)) (e97 : y96 = klineF (aq + 2)) (t104 : 0 ≤ y94.toInt) (t105 : y94.toInt < (knowF 0).toInt) (t106 : 0 ≤ y96.toInt) (t107 : y96.toInt < (knowF 1).toInt) (t108 : y94.toInt ≤ 5) (t109 : y96.toInt ≤ 5) (h113 : n112 < 6) (e114 : y96 = nI n112) (h116 : n115 < 6) (e117 : y94 = nI n115) (e119 : y118 = klineF (aq + 3)) : 0 ≤ (nI ((6 * n112) + n115)).toInt ∧ (nI ((6 * n112) + n115)).toInt ≤ 35 := by
  have b_y1 := ia_b y1
  have b_y94 := ia_b y94
  have b_y96 := ia_b y96
  have b_y118 := ia_b y118
  try have k_0 := ia_n 0 (by first | decide | omega)
  try have k_1 := ia_n 1 (by first | decide | omega)
  try have k_2 := ia_n 2 (by first | decide | omega)
  try have k_3 := ia_n 3 (by first | decide | omega)
  try have k_4 := ia_n n112 (by first | decide | omega)
  try have k_5 := ia_n n115 (by first | decide | omega)
  try have k_6 := ia_n ((6 * n112) + n115) (by first | decide | omega)
  try simp only [ia_lt, ia_le, ia_eq, ia_m1, ia_0, ia_1, ne_eq, true_and, and_true, false_and, and_false, or_false, false_or, or_true, true_or, not_true_eq_false, not_false_eq_true] at *
  all_goals omega
set_option maxRecDepth 20000 in
theorem lf_x_goBy_28 (knowF : Nat → Int32) (klineF : Nat → Int32) (aq : Nat) (y1 : Int32) (y94 : Int32) (y96 : Int32) (n112 : Nat) (n115 : Nat) (y118 : Int32) (ab_now : NB knowF) (sb_now : SB knowF) (ha : aq ≤ 156) (hl0 : 0 ≤ (klineF aq).toInt ∧ (klineF aq).toInt ≤ 5) (hl1 : ¬ klineF aq = nI 0 ∨ (0 ≤ (klineF (aq + 1)).toInt ∧ (klineF (aq + 1)).toInt ≤ 1 ∧ 0 ≤ (klineF (aq + 2)).toInt ∧ (klineF (aq + 2)).toInt ≤ 5 ∧ 0 ≤ (klineF (aq + 3)).toInt ∧ (klineF (aq + 3)).toInt ≤ 1)) (hl2 : ¬ klineF aq = nI 1 ∨ (0 ≤ (klineF (aq + 1)).toInt ∧ (klineF (aq + 1)).toInt ≤ 5 ∧ 0 ≤ (klineF (aq + 2)).toInt ∧ (klineF (aq + 2)).toInt ≤ 3)) (hl3 : (¬ klineF aq = nI 2 ∧ ¬ klineF aq = nI 3) ∨ (1 ≤ (klineF (aq + 3)).toInt ∧ (klineF (aq + 3)).toInt ≤ 9)) (e2 : y1 = klineF aq) (c7 : y1 = nI 3) (e95 : y94 = klineF (aq + 1)) (e97 : y96 = klineF (aq + 2)) (t104 : 0 ≤ y94.toInt) (t105 : y94.toInt < (knowF 0).toInt) (t106 : 0 ≤ y96.toInt) (t107 : y96.toInt < (knowF 1).toInt) (t108 : y94.toInt ≤ 5) (t109 : y96.toInt ≤ 5) (h113 : n112 < 6) (e114 : y96 = nI n112) (h116 : n115 < 6) (e117 : y94 = nI n115) (e119 : y118 = klineF (aq + 3)) (p121 : True) : 0 ≤ (nI ((6 * n112) + n115)).toInt ∧ (nI ((6 * n112) + n115)).toInt ≤ 35 := by
  have b_y1 := ia_b y1
  have b_y94 := ia_b y94
  have b_y96 := ia_b y96
  have b_y118 := ia_b y118
  try have k_0 := ia_n 0 (by first | decide | omega)
  try have k_1 := ia_n 1 (by first | decide | omega)
  try have k_2 := ia_n 2 (by first | decide | omega)
  try have k_3 := ia_n 3 (by first | decide | omega)
  try have k_4 := ia_n n112 (by first | decide | omega)
  try have k_5 := ia_n n115 (by first | decide | omega)
  try have k_6 := ia_n ((6 * n112) + n115) (by first | decide | omega)
  try simp only [ia_lt, ia_le, ia_eq, ia_m1, ia_0, ia_1, ne_eq, true_and, and_true, false_and, and_false, or_false, false_or, or_true, true_or, not_true_eq_false, not_false_eq_true] at *
  all_goals omega
set_option maxRecDepth 20000 in
theorem lf_x_goBy_29 (knowF : Nat → Int32) (klineF : Nat → Int32) (aq : Nat) (y1 : Int32) (y94 : Int32) (y96 : Int32) (n112 : Nat) (n115 : Nat) (y118 : Int32) (ab_now : NB knowF) (sb_now : SB knowF) (ha : aq ≤ 156) (hl0 : 0 ≤ (klineF aq).toInt ∧ (klineF aq).toInt ≤ 5) (hl1 : ¬ klineF aq = nI 0 ∨ (0 ≤ (klineF (aq + 1)).toInt ∧ (klineF (aq + 1)).toInt ≤ 1 ∧ 0 ≤ (klineF (aq + 2)).toInt ∧ (klineF (aq + 2)).toInt ≤ 5 ∧ 0 ≤ (klineF (aq + 3)).toInt ∧ (klineF (aq + 3)).toInt ≤ 1)) (hl2 : ¬ klineF aq = nI 1 ∨ (0 ≤ (klineF (aq + 1)).toInt ∧ (klineF (aq + 1)).toInt ≤ 5 ∧ 0 ≤ (klineF (aq + 2)).toInt ∧ (klineF (aq + 2)).toInt ≤ 3)) (hl3 : (¬ klineF aq = nI 2 ∧ ¬ klineF aq = nI 3) ∨ (1 ≤ (klineF (aq + 3)).toInt ∧ (klineF (aq + 3)).toInt ≤ 9)) (e2 : y1 = klineF aq) (c7 : y1 = nI 3) (e95 : y94 = klineF (aq + 1)) (e97 : y96 = klineF (aq + 2)) (t104 : 0 ≤ y94.toInt) (t105 : y94.toInt < (knowF 0).toInt) (t106 : 0 ≤ y96.toInt) (t107 : y96.toInt < (knowF 1).toInt) (t108 : y94.toInt ≤ 5) (t109 : y96.toInt ≤ 5) (h113 : n112 < 6) (e114 : y96 = nI n112) (h116 : n115 < 6) (e117 : y94 = nI n115) (e119 : y118 = klineF (aq + 3)) (p121 : True) : 1 ≤ y118.toInt ∧ y118.toInt ≤ 9 := by
  have b_y1 := ia_b y1
  have b_y94 := ia_b y94
  have b_y96 := ia_b y96
  have b_y118 := ia_b y118
  try have k_0 := ia_n 0 (by first | decide | omega)
  try have k_1 := ia_n 1 (by first | decide | omega)
  try have k_2 := ia_n 2 (by first | decide | omega)
  try have k_3 := ia_n 3 (by first | decide | omega)
  try have k_4 := ia_n n112 (by first | decide | omega)
  try have k_5 := ia_n n115 (by first | decide | omega)
  try simp only [ia_lt, ia_le, ia_eq, ia_m1, ia_0, ia_1, ne_eq, true_and, and_true, false_and, and_false, or_false, false_or, or_true, true_or, not_true_eq_false, not_false_eq_true] at *
  all_goals omega
set_option maxRecDepth 20000 in
theorem lf_x_goBy_30 (klineF : Nat → Int32) (aq : Nat) (y1 : Int32) (y131 : Int32) (ha : aq ≤ 156) (hl0 : 0 ≤ (klineF aq).toInt ∧ (klineF aq).toInt ≤ 5) (hl1 : ¬ klineF aq = nI 0 ∨ (0 ≤ (klineF (aq + 1)).toInt ∧ (klineF (aq + 1)).toInt ≤ 1 ∧ 0 ≤ (klineF (aq + 2)).toInt ∧ (klineF (aq + 2)).toInt ≤ 5 ∧ 0 ≤ (klineF (aq + 3)).toInt ∧ (klineF (aq + 3)).toInt ≤ 1)) (hl2 : ¬ klineF aq = nI 1 ∨ (0 ≤ (klineF (aq + 1)).toInt ∧ (klineF (aq + 1)).toInt ≤ 5 ∧ 0 ≤ (klineF (aq + 2)).toInt ∧ (klineF (aq + 2)).toInt ≤ 3)) (hl3 : (¬ klineF aq = nI 2 ∧ ¬ klineF aq = nI 3) ∨ (1 ≤ (klineF (aq + 3)).toInt ∧ (klineF (aq + 3)).toInt ≤ 9)) (e2 : y1 = klineF aq) (c8 : y1 = nI 4) (e132 : y131 = klineF (aq + 1)) : (aq + 1) < 160 := by
  have b_y1 := ia_b y1
  have b_y131 := ia_b y131
  try have k_0 := ia_n 0 (by first | decide | omega)
  try have k_1 := ia_n 1 (by first | decide | omega)
  try have k_2 := ia_n 2 (by first | decide | omega)
  try have k_3 := ia_n 3 (by first | decide | omega)
  try have k_4 := ia_n 4 (by first | decide | omega)
  try simp only [ia_lt, ia_le, ia_eq, ia_m1, ia_0, ia_1, ne_eq, true_and, and_true, false_and, and_false, or_false, false_or, or_true, true_or, not_true_eq_false, not_false_eq_true] at *
  all_goals omega
set_option maxRecDepth 20000 in
theorem lf_x_goBy_31 (klineF : Nat → Int32) (aq : Nat) (y1 : Int32) (y131 : Int32) (y133 : Int32) (ha : aq ≤ 156) (hl0 : 0 ≤ (klineF aq).toInt ∧ (klineF aq).toInt ≤ 5) (hl1 : ¬ klineF aq = nI 0 ∨ (0 ≤ (klineF (aq + 1)).toInt ∧ (klineF (aq + 1)).toInt ≤ 1 ∧ 0 ≤ (klineF (aq + 2)).toInt ∧ (klineF (aq + 2)).toInt ≤ 5 ∧ 0 ≤ (klineF (aq + 3)).toInt ∧ (klineF (aq + 3)).toInt ≤ 1)) (hl2 : ¬ klineF aq = nI 1 ∨ (0 ≤ (klineF (aq + 1)).toInt ∧ (klineF (aq + 1)).toInt ≤ 5 ∧ 0 ≤ (klineF (aq + 2)).toInt ∧ (klineF (aq + 2)).toInt ≤ 3)) (hl3 : (¬ klineF aq = nI 2 ∧ ¬ klineF aq = nI 3) ∨ (1 ≤ (klineF (aq + 3)).toInt ∧ (klineF (aq + 3)).toInt ≤ 9)) (e2 : y1 = klineF aq) (c8 : y1 = nI 4) (e132 : y131 = klineF (aq + 1)) (e134 : y133 = klineF (aq + 2)) : (aq + 2) < 160 := by
  have b_y1 := ia_b y1
  have b_y131 := ia_b y131
  have b_y133 := ia_b y133
  try have k_0 := ia_n 0 (by first | decide | omega)
  try have k_1 := ia_n 1 (by first | decide | omega)
  try have k_2 := ia_n 2 (by first | decide | omega)
  try have k_3 := ia_n 3 (by first | decide | omega)
  try have k_4 := ia_n 4 (by first | decide | omega)
  try simp only [ia_lt, ia_le, ia_eq, ia_m1, ia_0, ia_1, ne_eq, true_and, and_true, false_and, and_false, or_false, false_or, or_true, true_or, not_true_eq_false, not_false_eq_true] at *
  all_goals omega
set_option maxRecDepth 20000 in
theorem lf_x_goBy_32 (klineF : Nat → Int32) (aq : Nat) (y1 : Int32) (y149 : Int32) (ha : aq ≤ 156) (hl0 : 0 ≤ (klineF aq).toInt ∧ (klineF aq).toInt ≤ 5) (hl1 : ¬ klineF aq = nI 0 ∨ (0 ≤ (klineF (aq + 1)).toInt ∧ (klineF (aq + 1)).toInt ≤ 1 ∧ 0 ≤ (klineF (aq + 2)).toInt ∧ (klineF (aq + 2)).toInt ≤ 5 ∧ 0 ≤ (klineF (aq + 3)).toInt ∧ (klineF (aq + 3)).toInt ≤ 1)) (hl2 : ¬ klineF aq = nI 1 ∨ (0 ≤ (klineF (aq + 1)).toInt ∧ (klineF (aq + 1)).toInt ≤ 5 ∧ 0 ≤ (klineF (aq + 2)).toInt ∧ (klineF (aq + 2)).toInt ≤ 3)) (hl3 : (¬ klineF aq = nI 2 ∧ ¬ klineF aq = nI 3) ∨ (1 ≤ (klineF (aq + 3)).toInt ∧ (klineF (aq + 3)).toInt ≤ 9)) (e2 : y1 = klineF aq) (c9 : y1 = nI 5) (e150 : y149 = klineF (aq + 1)) : (aq + 1) < 160 := by
  have b_y1 := ia_b y1
  have b_y149 := ia_b y149
  try have k_0 := ia_n 0 (by first | decide | omega)
  try have k_1 := ia_n 1 (by first | decide | omega)
  try have k_2 := ia_n 2 (by first | decide | omega)
  try have k_3 := ia_n 3 (by first | decide | omega)
  try have k_4 := ia_n 5 (by first | decide | omega)
  try simp only [ia_lt, ia_le, ia_eq, ia_m1, ia_0, ia_1, ne_eq, true_and, and_true, false_and, and_false, or_false, false_or, or_true, true_or, not_true_eq_false, not_false_eq_true] at *
  all_goals omega
set_option maxRecDepth 20000 in
theorem lf_x_goBy_33 (klineF : Nat → Int32) (aq : Nat) (y1 : Int32) (y149 : Int32) (y151 : Int32) (ha : aq ≤ 156) (hl0 : 0 ≤ (klineF aq).toInt ∧ (klineF aq).toInt ≤ 5) (hl1 : ¬ klineF aq = nI 0 ∨ (0 ≤ (klineF (aq + 1)).toInt ∧ (klineF (aq + 1)).toInt ≤ 1 ∧ 0 ≤ (klineF (aq + 2)).toInt ∧ (klineF (aq + 2)).toInt ≤ 5 ∧ 0 ≤ (klineF (aq + 3)).toInt ∧ (klineF (aq + 3)).toInt ≤ 1)) (hl2 : ¬ klineF aq = nI 1 ∨ (0 ≤ (klineF (aq + 1)).toInt ∧ (klineF (aq + 1)).toInt ≤ 5 ∧ 0 ≤ (klineF (aq + 2)).toInt ∧ (klineF (aq + 2)).toInt ≤ 3)) (hl3 : (¬ klineF aq = nI 2 ∧ ¬ klineF aq = nI 3) ∨ (1 ≤ (klineF (aq + 3)).toInt ∧ (klineF (aq + 3)).toInt ≤ 9)) (e2 : y1 = klineF aq) (c9 : y1 = nI 5) (e150 : y149 = klineF (aq + 1)) (e152 : y151 = klineF (aq + 2)) : (aq + 2) < 160 := by
  have b_y1 := ia_b y1
  have b_y149 := ia_b y149
  have b_y151 := ia_b y151
  try have k_0 := ia_n 0 (by first | decide | omega)
  try have k_1 := ia_n 1 (by first | decide | omega)
  try have k_2 := ia_n 2 (by first | decide | omega)
  try have k_3 := ia_n 3 (by first | decide | omega)
  try have k_4 := ia_n 5 (by first | decide | omega)
  try simp only [ia_lt, ia_le, ia_eq, ia_m1, ia_0, ia_1, ne_eq, true_and, and_true, false_and, and_false, or_false, false_or, or_true, true_or, not_true_eq_false, not_false_eq_true] at *
  all_goals omega
set_option maxHeartbeats 4000000 in
set_option maxRecDepth 100000 in
theorem c_x_goBy (l : Launch) (dC : Nat → ClassId) (dI : Nat → Nat → Nat) (ky : Nat → ClassId) (sz : Nat) (o : Nat) (kthrown : Int32) (ktape : Nat) (ktaped : Nat) (ksize : Nat) (klimit : Nat) (kto : Nat) (kfrom : Nat) (kkind : Int32) (knumber : Int32) (ksign : Int32) (kfault : Int32) (kplace : Int32) (kword : Int64) (ktold : Int32) (know : Nat) (kread : Nat) (kkept : Nat) (ksnaps : Nat) (kaside : Nat) (kname : Nat) (kreadName : Nat) (kkeptName : Nat) (kisKept : Nat) (konces : Nat) (ksnapMany : Nat) (khasCells : Int32) (kpoured : Nat) (kfar : Nat) (ksides : Nat) (ksideMany : Nat) (kwayDays : Int32) (khasWay : Int32) (klines : Nat) (kmet : Nat) (kmetMany : Nat) (ksunk : Nat) (ktrying : Nat) (ksunkMany : Nat) (ksending : Int32) (kfleets : Int32) (ktext : Nat) (ktexts : Nat) (kseed : Int32) (kline : Nat) (kwritten : Nat) (klineMany : Nat) (khasWritten : Int32) (knode : Nat) (knodes : Nat) (konesMany : Nat) (kwithin : Nat) (ktop : Nat) (knowF : Nat → Int32) (kpouredF : Nat → Int32) (klineF : Nat → Int32) (aq : Nat) (iv_ko_0 : ktaped ≤ 940) (iv_ko_1 : ksize ≤ 940) (iv_ko_2 : klimit ≤ 900) (iv_ko_3 : kto ≤ ksize) (iv_ko_4 : kfrom ≤ 940) (iv_ko_5 : ksnapMany ≤ 8) (iv_ko_6 : ksideMany ≤ 36) (iv_ko_7 : kmetMany ≤ 3) (iv_ko_8 : ksunkMany ≤ 36) (iv_ko_9 : ktexts ≤ 64) (iv_ko_10 : klineMany ≤ 40) (iv_ko_11 : knodes ≤ 60) (iv_ko_12 : konesMany ≤ 20) (iv_ko_13 : kwithin ≤ 8) (iv_ko_14 : ktop ≤ 59) (ab_now : NB knowF) (ab_poured : AP36 kpouredF) (sb_now : SB knowF) (ha : aq ≤ 156) (hLn : LineOk (klineF aq) (klineF (aq + 1)) (klineF (aq + 2)) (klineF (aq + 3))) : Met l yX12_goBy wsX12_goBy ({ frames := 5, cells := 0, slots := 0, locals := 109 }) (PcU dC dI ky [.ref o, .int (nI aq)] [(o, .inr (12, [.int kthrown, .ref ktape, .int (nI ktaped), .int (nI ksize), .int (nI klimit), .int (nI kto), .int (nI kfrom), .int kkind, .int knumber, .int ksign, .int kfault, .int kplace, .long kword, .int ktold, .ref know, .ref kread, .ref kkept, .ref ksnaps, .ref kaside, .ref kname, .ref kreadName, .ref kkeptName, .ref kisKept, .ref konces, .int (nI ksnapMany), .int khasCells, .ref kpoured, .ref kfar, .ref ksides, .int (nI ksideMany), .int kwayDays, .int khasWay, .ref klines, .ref kmet, .int (nI kmetMany), .ref ksunk, .ref ktrying, .int (nI ksunkMany), .int ksending, .int kfleets, .ref ktext, .int (nI ktexts), .int kseed, .ref kline, .ref kwritten, .int (nI klineMany), .int khasWritten, .ref knode, .int (nI knodes), .int (nI konesMany), .int (nI kwithin), .int (nI ktop)])), (know, .inl (ky 0, 373, .inl knowF)), (kpoured, .inl (ky 0, 36, .inl kpouredF)), (kline, .inl (ky 0, 160, .inl klineF))] sz) (va_Qi (fun (r : Int32) (u : (Nat → Int32) × (Nat → Int32)) => match u with | (knowG, kpouredG) => (NB knowG) ∧ (SB knowG) ∧ (AP36 kpouredG)) (BU dC dI ky (fun (u : (Nat → Int32) × (Nat → Int32)) => match u with | (knowG, kpouredG) => [(o, .inr (12, [.int kthrown, .ref ktape, .int (nI ktaped), .int (nI ksize), .int (nI klimit), .int (nI kto), .int (nI kfrom), .int kkind, .int knumber, .int ksign, .int kfault, .int kplace, .long kword, .int ktold, .ref know, .ref kread, .ref kkept, .ref ksnaps, .ref kaside, .ref kname, .ref kreadName, .ref kkeptName, .ref kisKept, .ref konces, .int (nI ksnapMany), .int khasCells, .ref kpoured, .ref kfar, .ref ksides, .int (nI ksideMany), .int kwayDays, .int khasWay, .ref klines, .ref kmet, .int (nI kmetMany), .ref ksunk, .ref ktrying, .int (nI ksunkMany), .int ksending, .int kfleets, .ref ktext, .int (nI ktexts), .int kseed, .ref kline, .ref kwritten, .int (nI klineMany), .int khasWritten, .ref knode, .int (nI knodes), .int (nI konesMany), .int (nI kwithin), .int (nI ktop)])), (know, .inl (ky 0, 373, .inl knowG)), (kpoured, .inl (ky 0, 36, .inl kpouredG)), (kline, .inl (ky 0, 160, .inl klineF))]) (va_A [(o, .inr (12, [.int kthrown, .ref ktape, .int (nI ktaped), .int (nI ksize), .int (nI klimit), .int (nI kto), .int (nI kfrom), .int kkind, .int knumber, .int ksign, .int kfault, .int kplace, .long kword, .int ktold, .ref know, .ref kread, .ref kkept, .ref ksnaps, .ref kaside, .ref kname, .ref kreadName, .ref kkeptName, .ref kisKept, .ref konces, .int (nI ksnapMany), .int khasCells, .ref kpoured, .ref kfar, .ref ksides, .int (nI ksideMany), .int kwayDays, .int khasWay, .ref klines, .ref kmet, .int (nI kmetMany), .ref ksunk, .ref ktrying, .int (nI ksunkMany), .int ksending, .int kfleets, .ref ktext, .int (nI ktexts), .int kseed, .ref kline, .ref kwritten, .int (nI klineMany), .int khasWritten, .ref knode, .int (nI knodes), .int (nI konesMany), .int (nI kwithin), .int (nI ktop)])), (know, .inl (ky 0, 373, .inl knowF)), (kpoured, .inl (ky 0, 36, .inl kpouredF)), (kline, .inl (ky 0, 160, .inl klineF))] sz)) (va_A [(o, .inr (12, [.int kthrown, .ref ktape, .int (nI ktaped), .int (nI ksize), .int (nI klimit), .int (nI kto), .int (nI kfrom), .int kkind, .int knumber, .int ksign, .int kfault, .int kplace, .long kword, .int ktold, .ref know, .ref kread, .ref kkept, .ref ksnaps, .ref kaside, .ref kname, .ref kreadName, .ref kkeptName, .ref kisKept, .ref konces, .int (nI ksnapMany), .int khasCells, .ref kpoured, .ref kfar, .ref ksides, .int (nI ksideMany), .int kwayDays, .int khasWay, .ref klines, .ref kmet, .int (nI kmetMany), .ref ksunk, .ref ktrying, .int (nI ksunkMany), .int ksending, .int kfleets, .ref ktext, .int (nI ktexts), .int kseed, .ref kline, .ref kwritten, .int (nI klineMany), .int khasWritten, .ref knode, .int (nI knodes), .int (nI konesMany), .int (nI kwithin), .int (nI ktop)])), (know, .inl (ky 0, 373, .inl knowF)), (kpoured, .inl (ky 0, 36, .inl kpouredF)), (kline, .inl (ky 0, 160, .inl klineF))] sz)) 0 0 (va_A [(o, .inr (12, [.int kthrown, .ref ktape, .int (nI ktaped), .int (nI ksize), .int (nI klimit), .int (nI kto), .int (nI kfrom), .int kkind, .int knumber, .int ksign, .int kfault, .int kplace, .long kword, .int ktold, .ref know, .ref kread, .ref kkept, .ref ksnaps, .ref kaside, .ref kname, .ref kreadName, .ref kkeptName, .ref kisKept, .ref konces, .int (nI ksnapMany), .int khasCells, .ref kpoured, .ref kfar, .ref ksides, .int (nI ksideMany), .int kwayDays, .int khasWay, .ref klines, .ref kmet, .int (nI kmetMany), .ref ksunk, .ref ktrying, .int (nI ksunkMany), .int ksending, .int kfleets, .ref ktext, .int (nI ktexts), .int kseed, .ref kline, .ref kwritten, .int (nI klineMany), .int khasWritten, .ref knode, .int (nI knodes), .int (nI konesMany), .int (nI kwithin), .int (nI ktop)])), (know, .inl (ky 0, 373, .inl knowF)), (kpoured, .inl (ky 0, 36, .inl kpouredF)), (kline, .inl (ky 0, 160, .inl klineF))] sz) := by
  refine Met.ofW (cc := cX12_goBy) (maxL := 6) (ret := (some .int)) (by decide) rfl ?_
  intro p e s m args below meth c s₁ B hml hv
  obtain ⟨rfl, hsz, hP, hK, hD0⟩ := hv
  have hx := B.exec
  have hb := B.bytes
  have hr := B.returns
  have hts := atoms_spec (ws := wsX12_goBy) B.pre
  have hown : s.vm.findClass RX12 = some m.cls := findClass_of_methodNamed B.named
  have hlocks := B.notSynchronized
  have hin12 : ∀ w ∈ u_ws RX12 TX12 52, w ∈ wsX12_goBy := by decide +kernel
  subst hsz
  have hD := hD0.self (sz := s.heap.size)
  generalize hAe : va_A [(o, .inr (12, [.int kthrown, .ref ktape, .int (nI ktaped), .int (nI ksize), .int (nI klimit), .int (nI kto), .int (nI kfrom), .int kkind, .int knumber, .int ksign, .int kfault, .int kplace, .long kword, .int ktold, .ref know, .ref kread, .ref kkept, .ref ksnaps, .ref kaside, .ref kname, .ref kreadName, .ref kkeptName, .ref kisKept, .ref konces, .int (nI ksnapMany), .int khasCells, .ref kpoured, .ref kfar, .ref ksides, .int (nI ksideMany), .int kwayDays, .int khasWay, .ref klines, .ref kmet, .int (nI kmetMany), .ref ksunk, .ref ktrying, .int (nI ksunkMany), .int ksending, .int kfleets, .ref ktext, .int (nI ktexts), .int kseed, .ref kline, .ref kwritten, .int (nI klineMany), .int khasWritten, .ref knode, .int (nI knodes), .int (nI konesMany), .int (nI kwithin), .int (nI ktop)])), (know, .inl (ky 0, 373, .inl knowF)), (kpoured, .inl (ky 0, 36, .inl kpouredF)), (kline, .inl (ky 0, 160, .inl klineF))] s.heap.size = A at hD ⊢
  have hA : ∀ q : Nat, s.heap.size ≤ q → A q := fun q h => by rw [← hAe]; exact Or.inr h
  have hS : va_S A s.heap s.heap [] := va_S.rf
  have hl := lv_entry ([.ref o, .int (nI aq)]) (n := 6) (Nat.le_of_ble_eq_true rfl)
  rw [lg_entry_eq]
  generalize (lg_sl ([.ref o, .int (nI aq)]) ++ List.replicate (6 - (lg_sl ([.ref o, .int (nI aq)])).length) Slot.unset).toArray = ls at hl ⊢
  have hl : lv_has ls 6 [(0, .ref o), (1, .int (nI aq))] := hl
  refine q_name (fun Q hQ => ?_)
  generalize ([.ref o, .int (nI aq)] : List Value).toArray = args at hts hQ ⊢
  refine lv_aload_n hx hb dX12_goBy_0 rfl (lv_at hl 0 rfl) ?_
  refine va_get (D := (dC, dI)) (ci := 12) (v := .ref kline) (C := RX12) (T := TX12) (N := 52) hx hb hts hin12 hown hK hP 0 rfl rfl 43 (by decide) (hts (.fieldLink RX12 163 "PorridgeSeaModel" "line" "[I") (List.mem_of_getElem? (i := 1) rfl)) (fun _ h9 => h9) rfl dX12_goBy_1 ?_
  refine lv_iload_n hx hb dX12_goBy_4 rfl (lv_at hl 1 rfl) ?_
  have hl0 : 0 ≤ (klineF aq).toInt ∧ (klineF aq).toInt ≤ 5 := hLn.1
  have hl1 : ¬ klineF aq = nI 0 ∨ (0 ≤ (klineF (aq + 1)).toInt ∧ (klineF (aq + 1)).toInt ≤ 1 ∧ 0 ≤ (klineF (aq + 2)).toInt ∧ (klineF (aq + 2)).toInt ≤ 5 ∧ 0 ≤ (klineF (aq + 3)).toInt ∧ (klineF (aq + 3)).toInt ≤ 1) := hLn.2.1
  have hl2 : ¬ klineF aq = nI 1 ∨ (0 ≤ (klineF (aq + 1)).toInt ∧ (klineF (aq + 1)).toInt ≤ 5 ∧ 0 ≤ (klineF (aq + 2)).toInt ∧ (klineF (aq + 2)).toInt ≤ 3) := hLn.2.2.1
  have hl3 : (¬ klineF aq = nI 2 ∧ ¬ klineF aq = nI 3) ∨ (1 ≤ (klineF (aq + 3)).toInt ∧ (klineF (aq + 3)).toInt ≤ 9) := hLn.2.2.2
  obtain ⟨y1, e2⟩ : ∃ z9, z9 = klineF aq := ⟨_, rfl⟩
  refine r_iald hx hb hK hP 3 rfl aq (lf_x_goBy_1 klineF aq y1 ha hl0 hl1 hl2 hl3 e2) (by decide) y1 e2.symm dX12_goBy_5 ?_
  have hc3 : y1 = nI 0 ∨ y1 = nI 1 ∨ y1 = nI 2 ∨ y1 = nI 3 ∨ y1 = nI 4 ∨ y1 = nI 5 := (lf_x_goBy_2 klineF aq y1 ha hl0 hl1 hl2 hl3 e2)
  rcases hc3 with c4 | c5 | c6 | c7 | c8 | c9
  · refine r_ti (nI 0) c4 ?_
    refine lv_istore_n (lv' := [(2, .int (nI 0)), (0, .ref o), (1, .int (nI aq))]) hx hb dX12_goBy_6 rfl hl (by decide) rfl (fun ls hl => ?_)
    refine lv_aload_n hx hb dX12_goBy_7 rfl (lv_at hl 1 rfl) ?_
    refine va_get (D := (dC, dI)) (ci := 12) (v := .ref kline) (C := RX12) (T := TX12) (N := 52) hx hb hts hin12 hown hK hP 0 rfl rfl 43 (by decide) (hts (.fieldLink RX12 163 "PorridgeSeaModel" "line" "[I") (List.mem_of_getElem? (i := 1) rfl)) (fun _ h9 => h9) rfl dX12_goBy_8 ?_
    refine lv_iload_n hx hb dX12_goBy_11 rfl (lv_at hl 2 rfl) ?_
    refine lv_iconst (v := nI 1) hx hb dX12_goBy_12 (by decide) ?_
    refine lv_iadd hx hb dX12_goBy_13 ?_
    refine r_ti (nI (aq + 1)) (nI_add _ _) ?_
    obtain ⟨y10, e11⟩ : ∃ z9, z9 = klineF (aq + 1) := ⟨_, rfl⟩
    refine r_iald hx hb hK hP 3 rfl (aq + 1) (lf_x_goBy_3 klineF aq y1 y10 ha hl0 hl1 hl2 hl3 e2 c4 e11) (by decide) y10 e11.symm dX12_goBy_14 ?_
    refine lv_istore_n (lv' := [(3, .int y10), (2, .int (nI 0)), (0, .ref o), (1, .int (nI aq))]) hx hb dX12_goBy_15 rfl hl (by decide) rfl (fun ls hl => ?_)
    refine lv_aload_n hx hb dX12_goBy_16 rfl (lv_at hl 2 rfl) ?_
    refine va_get (D := (dC, dI)) (ci := 12) (v := .ref kline) (C := RX12) (T := TX12) (N := 52) hx hb hts hin12 hown hK hP 0 rfl rfl 43 (by decide) (hts (.fieldLink RX12 163 "PorridgeSeaModel" "line" "[I") (List.mem_of_getElem? (i := 1) rfl)) (fun _ h9 => h9) rfl dX12_goBy_17 ?_
    refine lv_iload_n hx hb dX12_goBy_20 rfl (lv_at hl 3 rfl) ?_
    refine lv_iconst (v := nI 2) hx hb dX12_goBy_21 (by decide) ?_
    refine lv_iadd hx hb dX12_goBy_22 ?_
    refine r_ti (nI (aq + 2)) (nI_add _ _) ?_
    obtain ⟨y12, e13⟩ : ∃ z9, z9 = klineF (aq + 2) := ⟨_, rfl⟩
    refine r_iald hx hb hK hP 3 rfl (aq + 2) (lf_x_goBy_4 klineF aq y1 y10 y12 ha hl0 hl1 hl2 hl3 e2 c4 e11 e13) (by decide) y12 e13.symm dX12_goBy_23 ?_
    refine lv_istore (lv' := [(4, .int y12), (3, .int y10), (2, .int (nI 0)), (0, .ref o), (1, .int (nI aq))]) hx hb dX12_goBy_24 hl (by decide) rfl (fun ls hl => ?_)
    refine lv_iload_n hx hb dX12_goBy_26 rfl (lv_at hl 2 rfl) ?_
    refine lv_iconst (v := nI 5) hx hb dX12_goBy_27 (by decide) ?_
    refine lv_icmp_ne (tgt := 57) hx hb dX12_goBy_28 (by decide) (fun c14 => ?_) (fun c14 => absurd c14 (by decide))
    refine lv_iload_n hx hb dX12_goBy_57 rfl (lv_at hl 2 rfl) ?_
    refine lv_if_ne (tgt := 87) hx hb dX12_goBy_58 (by decide) (fun c15 => absurd c15 (by decide)) (fun c15 => ?_)
    refine lv_iload_n hx hb dX12_goBy_61 rfl (lv_at hl 1 rfl) ?_
    refine lv_iload hx hb dX12_goBy_62 (lv_at hl 0 rfl) ?_
    refine lv_aload_n hx hb dX12_goBy_64 rfl (lv_at hl 3 rfl) ?_
    refine va_get (D := (dC, dI)) (ci := 12) (v := .ref kline) (C := RX12) (T := TX12) (N := 52) hx hb hts hin12 hown hK hP 0 rfl rfl 43 (by decide) (hts (.fieldLink RX12 163 "PorridgeSeaModel" "line" "[I") (List.mem_of_getElem? (i := 1) rfl)) (fun _ h9 => h9) rfl dX12_goBy_65 ?_
    refine lv_iload_n hx hb dX12_goBy_68 rfl (lv_at hl 4 rfl) ?_
    refine lv_iconst (v := nI 3) hx hb dX12_goBy_69 (by decide) ?_
    refine lv_iadd hx hb dX12_goBy_70 ?_
    refine r_ti (nI (aq + 3)) (nI_add _ _) ?_
    obtain ⟨y16, e17⟩ : ∃ z9, z9 = klineF (aq + 3) := ⟨_, rfl⟩
    refine r_iald hx hb hK hP 3 rfl (aq + 3) (lf_x_goBy_5 klineF aq y1 y10 y12 y16 ha hl0 hl1 hl2 hl3 e2 c4 e11 e13 e17) (by decide) y16 e17.symm dX12_goBy_71 ?_
    refine vp_callSi (W.runS (As := [.int y10, .int y12, .int y16]) (rest := []) ⟨hx, hb, hml, hown, hts⟩ (c_x_lineOf l dC dI ky y10 y12 y16) (va_cwS 3 hts gX12_goBy_X12_lineOf rfl rfl rfl (by decide +kernel) ⟨(Nat.le_of_ble_eq_true rfl), (Nat.le_of_ble_eq_true rfl)⟩) (pre_PS hK hP [] rfl) rfl rfl hl.1 rfl (lv_room (Nat.le_of_ble_eq_true rfl)) dX12_goBy_72 ⟨(Nat.le_of_ble_eq_true rfl), (Nat.le_of_ble_eq_true rfl)⟩) (fun r18 p19 => ?_)
    refine lv_istore_n (lv' := [(3, .int r18), (4, .int y12), (2, .int (nI 0)), (0, .ref o), (1, .int (nI aq))]) hx hb dX12_goBy_75 rfl hl (by decide) rfl (fun ls hl => ?_)
    refine lv_aload_n hx hb dX12_goBy_76 rfl (lv_at hl 3 rfl) ?_
    refine lv_iload_n hx hb dX12_goBy_77 rfl (lv_at hl 0 rfl) ?_
    refine vp_callSi (W.runV (As := [.int r18]) (rest := []) ⟨hx, hb, hml, hown, hts⟩ (c_x_isLine l dC dI ky o kthrown ktape ktaped ksize klimit kto kfrom kkind knumber ksign kfault kplace kword ktold know kread kkept ksnaps kaside kname kreadName kkeptName kisKept konces ksnapMany khasCells kpoured kfar ksides ksideMany kwayDays khasWay klines kmet kmetMany ksunk ktrying ksunkMany ksending kfleets ktext ktexts kseed kline kwritten klineMany khasWritten knode knodes konesMany kwithin ktop knowF r18 iv_ko_0 iv_ko_1 iv_ko_2 iv_ko_3 iv_ko_4 iv_ko_5 iv_ko_6 iv_ko_7 iv_ko_8 iv_ko_9 iv_ko_10 iv_ko_11 iv_ko_12 iv_ko_13 iv_ko_14 ab_now (lf_x_goBy_6 klineF aq y1 y10 y12 y16 r18 ha hl0 hl1 hl2 hl3 e2 c4 e11 e13 e17 p19)) (cwV 1 hts gX12_goBy_X12_isLine rfl rfl rfl (by decide +kernel) ⟨(Nat.le_of_ble_eq_true rfl), (Nat.le_of_ble_eq_true rfl)⟩) (pre_PV hK hP [0, 1] rfl (ci := 12) (q0 := 0) rfl rfl) rfl rfl hl.1 rfl (lv_room (Nat.le_of_ble_eq_true rfl)) dX12_goBy_78 ⟨(Nat.le_of_ble_eq_true rfl), (Nat.le_of_ble_eq_true rfl)⟩) (fun r20 p21 => ?_)
    refine lv_if_ne (tgt := 87) hx hb dX12_goBy_81 (by decide) (fun c22 => ?_) (fun c22 => ?_)
    · refine lv_iload_n hx hb dX12_goBy_87 rfl (lv_at hl 2 rfl) ?_
      refine lv_iconst (v := nI 2) hx hb dX12_goBy_88 (by decide) ?_
      refine lv_icmp_eq (tgt := 97) hx hb dX12_goBy_89 (by decide) (fun c23 => absurd c23 (by decide)) (fun c23 => ?_)
      refine lv_iload_n hx hb dX12_goBy_92 rfl (lv_at hl 2 rfl) ?_
      refine lv_iconst (v := nI 3) hx hb dX12_goBy_93 (by decide) ?_
      refine lv_icmp_ne (tgt := 133) hx hb dX12_goBy_94 (by decide) (fun c24 => ?_) (fun c24 => absurd c24 (by decide))
      refine lv_aload_n hx hb dX12_goBy_133 rfl (lv_at hl 3 rfl) ?_
      refine lv_iload_n hx hb dX12_goBy_134 rfl (lv_at hl 2 rfl) ?_
      refine lv_iload_n hx hb dX12_goBy_135 rfl (lv_at hl 0 rfl) ?_
      refine lv_iload hx hb dX12_goBy_136 (lv_at hl 1 rfl) ?_
      refine vp_callSi (W.runV (As := [.int (nI 0), .int r18, .int y12]) (rest := []) ⟨hx, hb, hml, hown, hts⟩ (c_x_why0 l dC dI ky o kthrown ktape ktaped ksize klimit kto kfrom kkind knumber ksign kfault kplace kword ktold know kread kkept ksnaps kaside kname kreadName kkeptName kisKept konces ksnapMany khasCells kpoured kfar ksides ksideMany kwayDays khasWay klines kmet kmetMany ksunk ktrying ksunkMany ksending kfleets ktext ktexts kseed kline kwritten klineMany khasWritten knode knodes konesMany kwithin ktop knowF r18 y12 iv_ko_0 iv_ko_1 iv_ko_2 iv_ko_3 iv_ko_4 iv_ko_5 iv_ko_6 iv_ko_7 iv_ko_8 iv_ko_9 iv_ko_10 iv_ko_11 iv_ko_12 iv_ko_13 iv_ko_14 ab_now) (cwV 3 hts gX12_goBy_X12_why rfl rfl rfl (by decide +kernel) ⟨(Nat.le_of_ble_eq_true rfl), (Nat.le_of_ble_eq_true rfl)⟩) (pre_PV hK hP [0, 1] rfl (ci := 12) (q0 := 0) rfl rfl) rfl rfl hl.1 rfl (lv_room (Nat.le_of_ble_eq_true rfl)) dX12_goBy_138 ⟨(Nat.le_of_ble_eq_true rfl), (Nat.le_of_ble_eq_true rfl)⟩) (fun r25 p26 => ?_)
      refine lv_istore (lv' := [(5, .int r25), (3, .int r18), (4, .int y12), (2, .int (nI 0)), (0, .ref o), (1, .int (nI aq))]) hx hb dX12_goBy_141 hl (by decide) rfl (fun ls hl => ?_)
      refine lv_iload hx hb dX12_goBy_143 (lv_at hl 0 rfl) ?_
      refine lv_if_eq (tgt := 156) hx hb dX12_goBy_145 (by decide) (fun c27 => ?_) (fun c27 => ?_)
      · refine lv_aload_n hx hb dX12_goBy_156 rfl (lv_at hl 4 rfl) ?_
        refine lv_iload_n hx hb dX12_goBy_157 rfl (lv_at hl 3 rfl) ?_
        refine lv_iload_n hx hb dX12_goBy_158 rfl (lv_at hl 1 rfl) ?_
        refine lv_iload hx hb dX12_goBy_159 (lv_at hl 2 rfl) ?_
        refine r_call_v (wr := [(kline, .inl (ky 0, 160, .inl klineF))]) (va_runV (As := [.int (nI 0), .int r18, .int y12]) (rest := []) ⟨hx, hb, hml, hown, hts⟩ (c_x_live0 l dC dI ky s.heap.size o kthrown ktape ktaped ksize klimit kto kfrom kkind knumber ksign kfault kplace kword ktold know kread kkept ksnaps kaside kname kreadName kkeptName kisKept konces ksnapMany khasCells kpoured kfar ksides ksideMany kwayDays khasWay klines kmet kmetMany ksunk ktrying ksunkMany ksending kfleets ktext ktexts kseed kline kwritten klineMany khasWritten knode knodes konesMany kwithin ktop knowF kpouredF r18 y12 iv_ko_0 iv_ko_1 iv_ko_2 iv_ko_3 iv_ko_4 iv_ko_5 iv_ko_6 iv_ko_7 iv_ko_8 iv_ko_9 iv_ko_10 iv_ko_11 iv_ko_12 iv_ko_13 iv_ko_14 ab_now ab_poured sb_now (lf_x_goBy_7 klineF aq y1 y10 y12 y16 r18 ha hl0 hl1 hl2 hl3 e2 c4 e11 e13 e17 p19 p26)) (cwV 3 hts gX12_goBy_X12_live rfl rfl rfl (by decide +kernel) ⟨(Nat.le_of_ble_eq_true rfl), (Nat.le_of_ble_eq_true rfl)⟩) (pre_UV hK hP hD [0, 1, 2] (by decide) rfl (ci := 12) (q0 := 0) rfl rfl) rfl rfl hl.1 rfl (lv_room (Nat.le_of_ble_eq_true rfl)) dX12_goBy_161 ⟨(Nat.le_of_ble_eq_true rfl), (Nat.le_of_ble_eq_true rfl)⟩) hP hD hS hA [0, 1, 2] [3] rfl rfl (by decide) (by decide) (fun  u28 H locs p29 hP hD hS => ?_)
        obtain ⟨knowG_30, kpouredG_31⟩ := u28
        try dsimp only at p29
        obtain ⟨p32, p33, p34⟩ := p29
        refine W.widen (k := 0) (n := 0) (Nat.le_of_ble_eq_true rfl) (Nat.le_of_ble_eq_true rfl) ?_
        have hP : va_P (dC, dI) vwCl [(kline, .inl (ky 0, 160, .inl klineF)), (o, .inr (12, [.int kthrown, .ref ktape, .int (nI ktaped), .int (nI ksize), .int (nI klimit), .int (nI kto), .int (nI kfrom), .int kkind, .int knumber, .int ksign, .int kfault, .int kplace, .long kword, .int ktold, .ref know, .ref kread, .ref kkept, .ref ksnaps, .ref kaside, .ref kname, .ref kreadName, .ref kkeptName, .ref kisKept, .ref konces, .int (nI ksnapMany), .int khasCells, .ref kpoured, .ref kfar, .ref ksides, .int (nI ksideMany), .int kwayDays, .int khasWay, .ref klines, .ref kmet, .int (nI kmetMany), .ref ksunk, .ref ktrying, .int (nI ksunkMany), .int ksending, .int kfleets, .ref ktext, .int (nI ktexts), .int kseed, .ref kline, .ref kwritten, .int (nI klineMany), .int khasWritten, .ref knode, .int (nI knodes), .int (nI konesMany), .int (nI kwithin), .int (nI ktop)])), (know, .inl (ky 0, 373, .inl knowG_30)), (kpoured, .inl (ky 0, 36, .inl kpouredG_31))] H := hP
        have hD : va_D A [(kline, .inl (ky 0, 160, .inl klineF)), (o, .inr (12, [.int kthrown, .ref ktape, .int (nI ktaped), .int (nI ksize), .int (nI klimit), .int (nI kto), .int (nI kfrom), .int kkind, .int knumber, .int ksign, .int kfault, .int kplace, .long kword, .int ktold, .ref know, .ref kread, .ref kkept, .ref ksnaps, .ref kaside, .ref kname, .ref kreadName, .ref kkeptName, .ref kisKept, .ref konces, .int (nI ksnapMany), .int khasCells, .ref kpoured, .ref kfar, .ref ksides, .int (nI ksideMany), .int kwayDays, .int khasWay, .ref klines, .ref kmet, .int (nI kmetMany), .ref ksunk, .ref ktrying, .int (nI ksunkMany), .int ksending, .int kfleets, .ref ktext, .int (nI ktexts), .int kseed, .ref kline, .ref kwritten, .int (nI klineMany), .int khasWritten, .ref knode, .int (nI knodes), .int (nI konesMany), .int (nI kwithin), .int (nI ktop)])), (know, .inl (ky 0, 373, .inl knowG_30)), (kpoured, .inl (ky 0, 36, .inl kpouredG_31))] := hD
        refine lv_iconst (v := nI 0) hx hb dX12_goBy_164 (by decide) ?_
        rw [hQ]
        have hP9 := hP.sub (ws' := [(o, .inr (12, [.int kthrown, .ref ktape, .int (nI ktaped), .int (nI ksize), .int (nI klimit), .int (nI kto), .int (nI kfrom), .int kkind, .int knumber, .int ksign, .int kfault, .int kplace, .long kword, .int ktold, .ref know, .ref kread, .ref kkept, .ref ksnaps, .ref kaside, .ref kname, .ref kreadName, .ref kkeptName, .ref kisKept, .ref konces, .int (nI ksnapMany), .int khasCells, .ref kpoured, .ref kfar, .ref ksides, .int (nI ksideMany), .int kwayDays, .int khasWay, .ref klines, .ref kmet, .int (nI kmetMany), .ref ksunk, .ref ktrying, .int (nI ksunkMany), .int ksending, .int kfleets, .ref ktext, .int (nI ktexts), .int kseed, .ref kline, .ref kwritten, .int (nI klineMany), .int khasWritten, .ref knode, .int (nI knodes), .int (nI konesMany), .int (nI kwithin), .int (nI ktop)])), (know, .inl (ky 0, 373, .inl knowG_30)), (kpoured, .inl (ky 0, 36, .inl kpouredG_31)), (kline, .inl (ky 0, 160, .inl klineF))]) [1, 2, 3, 0] rfl
        have hD9 := hD.sub (ws' := [(o, .inr (12, [.int kthrown, .ref ktape, .int (nI ktaped), .int (nI ksize), .int (nI klimit), .int (nI kto), .int (nI kfrom), .int kkind, .int knumber, .int ksign, .int kfault, .int kplace, .long kword, .int ktold, .ref know, .ref kread, .ref kkept, .ref ksnaps, .ref kaside, .ref kname, .ref kreadName, .ref kkeptName, .ref kisKept, .ref konces, .int (nI ksnapMany), .int khasCells, .ref kpoured, .ref kfar, .ref ksides, .int (nI ksideMany), .int kwayDays, .int khasWay, .ref klines, .ref kmet, .int (nI kmetMany), .ref ksunk, .ref ktrying, .int (nI ksunkMany), .int ksending, .int kfleets, .ref ktext, .int (nI ktexts), .int kseed, .ref kline, .ref kwritten, .int (nI klineMany), .int khasWritten, .ref knode, .int (nI knodes), .int (nI konesMany), .int (nI kwithin), .int (nI ktop)])), (know, .inl (ky 0, 373, .inl knowG_30)), (kpoured, .inl (ky 0, 36, .inl kpouredG_31)), (kline, .inl (ky 0, 160, .inl klineF))]) [1, 2, 3, 0] (by decide) rfl
        exact W.iret (v := nI 0) hx hb hr (fun t9 ht9 hW9 => ⟨⟨nI 0, (knowG_30, kpouredG_31), rfl, ⟨p32, p33, p34⟩, by rw [ht9]; exact hP9, va_K.moved hW9.alike hK, hD9⟩, hS.F ht9⟩) hS.2.2 dX12_goBy_165
      · refine lv_bipush (v := nI 10) hx hb dX12_goBy_148 (by decide) ?_
        refine lv_iload_n hx hb dX12_goBy_150 rfl (lv_at hl 3 rfl) ?_
        refine lv_imul hx hb dX12_goBy_151 ?_
        refine r_ti (nI 0) (by decide) ?_
        refine lv_iload hx hb dX12_goBy_152 (lv_at hl 0 rfl) ?_
        refine lv_iadd hx hb dX12_goBy_154 ?_
        refine lv_topi (fun y35 e36 => ?_)
        rw [hQ]
        exact W.iret (v := y35) hx hb hr (fun t9 ht9 hW9 => ⟨⟨y35, (knowF, kpouredF), rfl, ⟨ab_now, sb_now, ab_poured⟩, by rw [ht9]; exact hP, va_K.moved hW9.alike hK, hD⟩, hS.F ht9⟩) hS.2.2 dX12_goBy_155
    · refine lv_bipush (v := nI 9) hx hb dX12_goBy_84 (by decide) ?_
      rw [hQ]
      exact W.iret (v := nI 9) hx hb hr (fun t9 ht9 hW9 => ⟨⟨nI 9, (knowF, kpouredF), rfl, ⟨ab_now, sb_now, ab_poured⟩, by rw [ht9]; exact hP, va_K.moved hW9.alike hK, hD⟩, hS.F ht9⟩) hS.2.2 dX12_goBy_86
  · refine r_ti (nI 1) c5 ?_
    refine lv_istore_n (lv' := [(2, .int (nI 1)), (0, .ref o), (1, .int (nI aq))]) hx hb dX12_goBy_6 rfl hl (by decide) rfl (fun ls hl => ?_)
    refine lv_aload_n hx hb dX12_goBy_7 rfl (lv_at hl 1 rfl) ?_
    refine va_get (D := (dC, dI)) (ci := 12) (v := .ref kline) (C := RX12) (T := TX12) (N := 52) hx hb hts hin12 hown hK hP 0 rfl rfl 43 (by decide) (hts (.fieldLink RX12 163 "PorridgeSeaModel" "line" "[I") (List.mem_of_getElem? (i := 1) rfl)) (fun _ h9 => h9) rfl dX12_goBy_8 ?_
    refine lv_iload_n hx hb dX12_goBy_11 rfl (lv_at hl 2 rfl) ?_
    refine lv_iconst (v := nI 1) hx hb dX12_goBy_12 (by decide) ?_
    refine lv_iadd hx hb dX12_goBy_13 ?_
    refine r_ti (nI (aq + 1)) (nI_add _ _) ?_
    obtain ⟨y37, e38⟩ : ∃ z9, z9 = klineF (aq + 1) := ⟨_, rfl⟩
    refine r_iald hx hb hK hP 3 rfl (aq + 1) (lf_x_goBy_8 klineF aq y1 y37 ha hl0 hl1 hl2 hl3 e2 c5 e38) (by decide) y37 e38.symm dX12_goBy_14 ?_
    refine lv_istore_n (lv' := [(3, .int y37), (2, .int (nI 1)), (0, .ref o), (1, .int (nI aq))]) hx hb dX12_goBy_15 rfl hl (by decide) rfl (fun ls hl => ?_)
    refine lv_aload_n hx hb dX12_goBy_16 rfl (lv_at hl 2 rfl) ?_
    refine va_get (D := (dC, dI)) (ci := 12) (v := .ref kline) (C := RX12) (T := TX12) (N := 52) hx hb hts hin12 hown hK hP 0 rfl rfl 43 (by decide) (hts (.fieldLink RX12 163 "PorridgeSeaModel" "line" "[I") (List.mem_of_getElem? (i := 1) rfl)) (fun _ h9 => h9) rfl dX12_goBy_17 ?_
    refine lv_iload_n hx hb dX12_goBy_20 rfl (lv_at hl 3 rfl) ?_
    refine lv_iconst (v := nI 2) hx hb dX12_goBy_21 (by decide) ?_
    refine lv_iadd hx hb dX12_goBy_22 ?_
    refine r_ti (nI (aq + 2)) (nI_add _ _) ?_
    obtain ⟨y39, e40⟩ : ∃ z9, z9 = klineF (aq + 2) := ⟨_, rfl⟩
    refine r_iald hx hb hK hP 3 rfl (aq + 2) (lf_x_goBy_9 klineF aq y1 y37 y39 ha hl0 hl1 hl2 hl3 e2 c5 e38 e40) (by decide) y39 e40.symm dX12_goBy_23 ?_
    refine lv_istore (lv' := [(4, .int y39), (3, .int y37), (2, .int (nI 1)), (0, .ref o), (1, .int (nI aq))]) hx hb dX12_goBy_24 hl (by decide) rfl (fun ls hl => ?_)
    refine lv_iload_n hx hb dX12_goBy_26 rfl (lv_at hl 2 rfl) ?_
    refine lv_iconst (v := nI 5) hx hb dX12_goBy_27 (by decide) ?_
    refine lv_icmp_ne (tgt := 57) hx hb dX12_goBy_28 (by decide) (fun c41 => ?_) (fun c41 => absurd c41 (by decide))
    refine lv_iload_n hx hb dX12_goBy_57 rfl (lv_at hl 2 rfl) ?_
    refine lv_if_ne (tgt := 87) hx hb dX12_goBy_58 (by decide) (fun c42 => ?_) (fun c42 => absurd c42 (by decide))
    refine lv_iload_n hx hb dX12_goBy_87 rfl (lv_at hl 2 rfl) ?_
    refine lv_iconst (v := nI 2) hx hb dX12_goBy_88 (by decide) ?_
    refine lv_icmp_eq (tgt := 97) hx hb dX12_goBy_89 (by decide) (fun c43 => absurd c43 (by decide)) (fun c43 => ?_)
    refine lv_iload_n hx hb dX12_goBy_92 rfl (lv_at hl 2 rfl) ?_
    refine lv_iconst (v := nI 3) hx hb dX12_goBy_93 (by decide) ?_
    refine lv_icmp_ne (tgt := 133) hx hb dX12_goBy_94 (by decide) (fun c44 => ?_) (fun c44 => absurd c44 (by decide))
    refine lv_aload_n hx hb dX12_goBy_133 rfl (lv_at hl 3 rfl) ?_
    refine lv_iload_n hx hb dX12_goBy_134 rfl (lv_at hl 2 rfl) ?_
    refine lv_iload_n hx hb dX12_goBy_135 rfl (lv_at hl 1 rfl) ?_
    refine lv_iload hx hb dX12_goBy_136 (lv_at hl 0 rfl) ?_
    obtain ⟨n45, h46, e47⟩ := nat_of y37 6 (by decide) (lf_x_goBy_10 klineF aq y1 y37 y39 ha hl0 hl1 hl2 hl3 e2 c5 e38 e40)
    rw [e47]
    refine vp_callSi (W.runV (As := [.int (nI 1), .int (nI n45), .int y39]) (rest := []) ⟨hx, hb, hml, hown, hts⟩ (c_x_why1 l dC dI ky o kthrown ktape ktaped ksize klimit kto kfrom kkind knumber ksign kfault kplace kword ktold know kread kkept ksnaps kaside kname kreadName kkeptName kisKept konces ksnapMany khasCells kpoured kfar ksides ksideMany kwayDays khasWay klines kmet kmetMany ksunk ktrying ksunkMany ksending kfleets ktext ktexts kseed kline kwritten klineMany khasWritten knode knodes konesMany kwithin ktop knowF n45 y39 iv_ko_0 iv_ko_1 iv_ko_2 iv_ko_3 iv_ko_4 iv_ko_5 iv_ko_6 iv_ko_7 iv_ko_8 iv_ko_9 iv_ko_10 iv_ko_11 iv_ko_12 iv_ko_13 iv_ko_14 ab_now h46 (lf_x_goBy_11 klineF aq y1 y37 y39 n45 ha hl0 hl1 hl2 hl3 e2 c5 e38 e40 h46 e47)) (cwV 3 hts gX12_goBy_X12_why rfl rfl rfl (by decide +kernel) ⟨(Nat.le_of_ble_eq_true rfl), (Nat.le_of_ble_eq_true rfl)⟩) (pre_PV hK hP [0, 1] rfl (ci := 12) (q0 := 0) rfl rfl) rfl rfl hl.1 rfl (lv_room (Nat.le_of_ble_eq_true rfl)) dX12_goBy_138 ⟨(Nat.le_of_ble_eq_true rfl), (Nat.le_of_ble_eq_true rfl)⟩) (fun r48 p49 => ?_)
    refine lv_istore (lv' := [(5, .int r48), (4, .int y39), (3, .int y37), (2, .int (nI 1)), (0, .ref o), (1, .int (nI aq))]) hx hb dX12_goBy_141 hl (by decide) rfl (fun ls hl => ?_)
    refine lv_iload hx hb dX12_goBy_143 (lv_at hl 0 rfl) ?_
    refine lv_if_eq (tgt := 156) hx hb dX12_goBy_145 (by decide) (fun c50 => ?_) (fun c50 => ?_)
    · refine lv_aload_n hx hb dX12_goBy_156 rfl (lv_at hl 4 rfl) ?_
      refine lv_iload_n hx hb dX12_goBy_157 rfl (lv_at hl 3 rfl) ?_
      refine lv_iload_n hx hb dX12_goBy_158 rfl (lv_at hl 2 rfl) ?_
      refine lv_iload hx hb dX12_goBy_159 (lv_at hl 1 rfl) ?_
      rw [e47]
      refine r_call_v (wr := [(kpoured, .inl (ky 0, 36, .inl kpouredF)), (kline, .inl (ky 0, 160, .inl klineF))]) (va_runV (As := [.int (nI 1), .int (nI n45), .int y39]) (rest := []) ⟨hx, hb, hml, hown, hts⟩ (c_x_live1 l dC dI ky s.heap.size o kthrown ktape ktaped ksize klimit kto kfrom kkind knumber ksign kfault kplace kword ktold know kread kkept ksnaps kaside kname kreadName kkeptName kisKept konces ksnapMany khasCells kpoured kfar ksides ksideMany kwayDays khasWay klines kmet kmetMany ksunk ktrying ksunkMany ksending kfleets ktext ktexts kseed kline kwritten klineMany khasWritten knode knodes konesMany kwithin ktop knowF n45 y39 iv_ko_0 iv_ko_1 iv_ko_2 iv_ko_3 iv_ko_4 iv_ko_5 iv_ko_6 iv_ko_7 iv_ko_8 iv_ko_9 iv_ko_10 iv_ko_11 iv_ko_12 iv_ko_13 iv_ko_14 ab_now sb_now h46 (lf_x_goBy_12 knowF klineF aq y1 y37 y39 n45 r48 ab_now sb_now ha hl0 hl1 hl2 hl3 e2 c5 e38 e40 h46 e47 p49 c50) (lf_x_goBy_13 knowF klineF aq y1 y37 y39 n45 r48 ab_now sb_now ha hl0 hl1 hl2 hl3 e2 c5 e38 e40 h46 e47 p49 c50)) (cwV 3 hts gX12_goBy_X12_live rfl rfl rfl (by decide +kernel) ⟨(Nat.le_of_ble_eq_true rfl), (Nat.le_of_ble_eq_true rfl)⟩) (pre_UV hK hP hD [0, 1] (by decide) rfl (ci := 12) (q0 := 0) rfl rfl) rfl rfl hl.1 rfl (lv_room (Nat.le_of_ble_eq_true rfl)) dX12_goBy_161 ⟨(Nat.le_of_ble_eq_true rfl), (Nat.le_of_ble_eq_true rfl)⟩) hP hD hS hA [0, 1] [2, 3] rfl rfl (by decide) (by decide) (fun  u51 H locs p52 hP hD hS => ?_)
      obtain ⟨knowG_53, rfl⟩ : ∃ z, z = u51 := ⟨_, rfl⟩
      try dsimp only at p52
      obtain ⟨p54, p55⟩ := p52
      refine W.widen (k := 0) (n := 0) (Nat.le_of_ble_eq_true rfl) (Nat.le_of_ble_eq_true rfl) ?_
      have hP : va_P (dC, dI) vwCl [(kpoured, .inl (ky 0, 36, .inl kpouredF)), (kline, .inl (ky 0, 160, .inl klineF)), (o, .inr (12, [.int kthrown, .ref ktape, .int (nI ktaped), .int (nI ksize), .int (nI klimit), .int (nI kto), .int (nI kfrom), .int kkind, .int knumber, .int ksign, .int kfault, .int kplace, .long kword, .int ktold, .ref know, .ref kread, .ref kkept, .ref ksnaps, .ref kaside, .ref kname, .ref kreadName, .ref kkeptName, .ref kisKept, .ref konces, .int (nI ksnapMany), .int khasCells, .ref kpoured, .ref kfar, .ref ksides, .int (nI ksideMany), .int kwayDays, .int khasWay, .ref klines, .ref kmet, .int (nI kmetMany), .ref ksunk, .ref ktrying, .int (nI ksunkMany), .int ksending, .int kfleets, .ref ktext, .int (nI ktexts), .int kseed, .ref kline, .ref kwritten, .int (nI klineMany), .int khasWritten, .ref knode, .int (nI knodes), .int (nI konesMany), .int (nI kwithin), .int (nI ktop)])), (know, .inl (ky 0, 373, .inl knowG_53))] H := hP
      have hD : va_D A [(kpoured, .inl (ky 0, 36, .inl kpouredF)), (kline, .inl (ky 0, 160, .inl klineF)), (o, .inr (12, [.int kthrown, .ref ktape, .int (nI ktaped), .int (nI ksize), .int (nI klimit), .int (nI kto), .int (nI kfrom), .int kkind, .int knumber, .int ksign, .int kfault, .int kplace, .long kword, .int ktold, .ref know, .ref kread, .ref kkept, .ref ksnaps, .ref kaside, .ref kname, .ref kreadName, .ref kkeptName, .ref kisKept, .ref konces, .int (nI ksnapMany), .int khasCells, .ref kpoured, .ref kfar, .ref ksides, .int (nI ksideMany), .int kwayDays, .int khasWay, .ref klines, .ref kmet, .int (nI kmetMany), .ref ksunk, .ref ktrying, .int (nI ksunkMany), .int ksending, .int kfleets, .ref ktext, .int (nI ktexts), .int kseed, .ref kline, .ref kwritten, .int (nI klineMany), .int khasWritten, .ref knode, .int (nI knodes), .int (nI konesMany), .int (nI kwithin), .int (nI ktop)])), (know, .inl (ky 0, 373, .inl knowG_53))] := hD
      refine lv_iconst (v := nI 0) hx hb dX12_goBy_164 (by decide) ?_
      rw [hQ]
      have hP9 := hP.sub (ws' := [(o, .inr (12, [.int kthrown, .ref ktape, .int (nI ktaped), .int (nI ksize), .int (nI klimit), .int (nI kto), .int (nI kfrom), .int kkind, .int knumber, .int ksign, .int kfault, .int kplace, .long kword, .int ktold, .ref know, .ref kread, .ref kkept, .ref ksnaps, .ref kaside, .ref kname, .ref kreadName, .ref kkeptName, .ref kisKept, .ref konces, .int (nI ksnapMany), .int khasCells, .ref kpoured, .ref kfar, .ref ksides, .int (nI ksideMany), .int kwayDays, .int khasWay, .ref klines, .ref kmet, .int (nI kmetMany), .ref ksunk, .ref ktrying, .int (nI ksunkMany), .int ksending, .int kfleets, .ref ktext, .int (nI ktexts), .int kseed, .ref kline, .ref kwritten, .int (nI klineMany), .int khasWritten, .ref knode, .int (nI knodes), .int (nI konesMany), .int (nI kwithin), .int (nI ktop)])), (know, .inl (ky 0, 373, .inl knowG_53)), (kpoured, .inl (ky 0, 36, .inl kpouredF)), (kline, .inl (ky 0, 160, .inl klineF))]) [2, 3, 0, 1] rfl
      have hD9 := hD.sub (ws' := [(o, .inr (12, [.int kthrown, .ref ktape, .int (nI ktaped), .int (nI ksize), .int (nI klimit), .int (nI kto), .int (nI kfrom), .int kkind, .int knumber, .int ksign, .int kfault, .int kplace, .long kword, .int ktold, .ref know, .ref kread, .ref kkept, .ref ksnaps, .ref kaside, .ref kname, .ref kreadName, .ref kkeptName, .ref kisKept, .ref konces, .int (nI ksnapMany), .int khasCells, .ref kpoured, .ref kfar, .ref ksides, .int (nI ksideMany), .int kwayDays, .int khasWay, .ref klines, .ref kmet, .int (nI kmetMany), .ref ksunk, .ref ktrying, .int (nI ksunkMany), .int ksending, .int kfleets, .ref ktext, .int (nI ktexts), .int kseed, .ref kline, .ref kwritten, .int (nI klineMany), .int khasWritten, .ref knode, .int (nI knodes), .int (nI konesMany), .int (nI kwithin), .int (nI ktop)])), (know, .inl (ky 0, 373, .inl knowG_53)), (kpoured, .inl (ky 0, 36, .inl kpouredF)), (kline, .inl (ky 0, 160, .inl klineF))]) [2, 3, 0, 1] (by decide) rfl
      exact W.iret (v := nI 0) hx hb hr (fun t9 ht9 hW9 => ⟨⟨nI 0, (knowG_53, kpouredF), rfl, ⟨p54, p55, ab_poured⟩, by rw [ht9]; exact hP9, va_K.moved hW9.alike hK, hD9⟩, hS.F ht9⟩) hS.2.2 dX12_goBy_165
    · refine lv_bipush (v := nI 10) hx hb dX12_goBy_148 (by decide) ?_
      refine lv_iload_n hx hb dX12_goBy_150 rfl (lv_at hl 3 rfl) ?_
      refine lv_imul hx hb dX12_goBy_151 ?_
      refine r_ti (nI 10) (by decide) ?_
      refine lv_iload hx hb dX12_goBy_152 (lv_at hl 0 rfl) ?_
      refine lv_iadd hx hb dX12_goBy_154 ?_
      refine lv_topi (fun y56 e57 => ?_)
      rw [hQ]
      exact W.iret (v := y56) hx hb hr (fun t9 ht9 hW9 => ⟨⟨y56, (knowF, kpouredF), rfl, ⟨ab_now, sb_now, ab_poured⟩, by rw [ht9]; exact hP, va_K.moved hW9.alike hK, hD⟩, hS.F ht9⟩) hS.2.2 dX12_goBy_155
  · refine r_ti (nI 2) c6 ?_
    refine lv_istore_n (lv' := [(2, .int (nI 2)), (0, .ref o), (1, .int (nI aq))]) hx hb dX12_goBy_6 rfl hl (by decide) rfl (fun ls hl => ?_)
    refine lv_aload_n hx hb dX12_goBy_7 rfl (lv_at hl 1 rfl) ?_
    refine va_get (D := (dC, dI)) (ci := 12) (v := .ref kline) (C := RX12) (T := TX12) (N := 52) hx hb hts hin12 hown hK hP 0 rfl rfl 43 (by decide) (hts (.fieldLink RX12 163 "PorridgeSeaModel" "line" "[I") (List.mem_of_getElem? (i := 1) rfl)) (fun _ h9 => h9) rfl dX12_goBy_8 ?_
    refine lv_iload_n hx hb dX12_goBy_11 rfl (lv_at hl 2 rfl) ?_
    refine lv_iconst (v := nI 1) hx hb dX12_goBy_12 (by decide) ?_
    refine lv_iadd hx hb dX12_goBy_13 ?_
    refine r_ti (nI (aq + 1)) (nI_add _ _) ?_
    obtain ⟨y58, e59⟩ : ∃ z9, z9 = klineF (aq + 1) := ⟨_, rfl⟩
    refine r_iald hx hb hK hP 3 rfl (aq + 1) (lf_x_goBy_14 klineF aq y1 y58 ha hl0 hl1 hl2 hl3 e2 c6 e59) (by decide) y58 e59.symm dX12_goBy_14 ?_
    refine lv_istore_n (lv' := [(3, .int y58), (2, .int (nI 2)), (0, .ref o), (1, .int (nI aq))]) hx hb dX12_goBy_15 rfl hl (by decide) rfl (fun ls hl => ?_)
    refine lv_aload_n hx hb dX12_goBy_16 rfl (lv_at hl 2 rfl) ?_
    refine va_get (D := (dC, dI)) (ci := 12) (v := .ref kline) (C := RX12) (T := TX12) (N := 52) hx hb hts hin12 hown hK hP 0 rfl rfl 43 (by decide) (hts (.fieldLink RX12 163 "PorridgeSeaModel" "line" "[I") (List.mem_of_getElem? (i := 1) rfl)) (fun _ h9 => h9) rfl dX12_goBy_17 ?_
    refine lv_iload_n hx hb dX12_goBy_20 rfl (lv_at hl 3 rfl) ?_
    refine lv_iconst (v := nI 2) hx hb dX12_goBy_21 (by decide) ?_
    refine lv_iadd hx hb dX12_goBy_22 ?_
    refine r_ti (nI (aq + 2)) (nI_add _ _) ?_
    obtain ⟨y60, e61⟩ : ∃ z9, z9 = klineF (aq + 2) := ⟨_, rfl⟩
    refine r_iald hx hb hK hP 3 rfl (aq + 2) (lf_x_goBy_15 klineF aq y1 y58 y60 ha hl0 hl1 hl2 hl3 e2 c6 e59 e61) (by decide) y60 e61.symm dX12_goBy_23 ?_
    refine lv_istore (lv' := [(4, .int y60), (3, .int y58), (2, .int (nI 2)), (0, .ref o), (1, .int (nI aq))]) hx hb dX12_goBy_24 hl (by decide) rfl (fun ls hl => ?_)
    refine lv_iload_n hx hb dX12_goBy_26 rfl (lv_at hl 2 rfl) ?_
    refine lv_iconst (v := nI 5) hx hb dX12_goBy_27 (by decide) ?_
    refine lv_icmp_ne (tgt := 57) hx hb dX12_goBy_28 (by decide) (fun c62 => ?_) (fun c62 => absurd c62 (by decide))
    refine lv_iload_n hx hb dX12_goBy_57 rfl (lv_at hl 2 rfl) ?_
    refine lv_if_ne (tgt := 87) hx hb dX12_goBy_58 (by decide) (fun c63 => ?_) (fun c63 => absurd c63 (by decide))
    refine lv_iload_n hx hb dX12_goBy_87 rfl (lv_at hl 2 rfl) ?_
    refine lv_iconst (v := nI 2) hx hb dX12_goBy_88 (by decide) ?_
    refine lv_icmp_eq (tgt := 97) hx hb dX12_goBy_89 (by decide) (fun c64 => ?_) (fun c64 => absurd (by decide) c64)
    refine lv_aload_n hx hb dX12_goBy_97 rfl (lv_at hl 3 rfl) ?_
    refine lv_iload_n hx hb dX12_goBy_98 rfl (lv_at hl 1 rfl) ?_
    refine lv_iload hx hb dX12_goBy_99 (lv_at hl 0 rfl) ?_
    refine vp_callSi (W.runV (As := [.int y58, .int y60]) (rest := []) ⟨hx, hb, hml, hown, hts⟩ (c_x_isCell l dC dI ky o kthrown ktape ktaped ksize klimit kto kfrom kkind knumber ksign kfault kplace kword ktold know kread kkept ksnaps kaside kname kreadName kkeptName kisKept konces ksnapMany khasCells kpoured kfar ksides ksideMany kwayDays khasWay klines kmet kmetMany ksunk ktrying ksunkMany ksending kfleets ktext ktexts kseed kline kwritten klineMany khasWritten knode knodes konesMany kwithin ktop knowF y58 y60 iv_ko_0 iv_ko_1 iv_ko_2 iv_ko_3 iv_ko_4 iv_ko_5 iv_ko_6 iv_ko_7 iv_ko_8 iv_ko_9 iv_ko_10 iv_ko_11 iv_ko_12 iv_ko_13 iv_ko_14 ab_now) (cwV 2 hts gX12_goBy_X12_isCell rfl rfl rfl (by decide +kernel) ⟨(Nat.le_of_ble_eq_true rfl), (Nat.le_of_ble_eq_true rfl)⟩) (pre_PV hK hP [0, 1] rfl (ci := 12) (q0 := 0) rfl rfl) rfl rfl hl.1 rfl (lv_room (Nat.le_of_ble_eq_true rfl)) dX12_goBy_101 ⟨(Nat.le_of_ble_eq_true rfl), (Nat.le_of_ble_eq_true rfl)⟩) (fun r65 p66 => ?_)
    rcases p66 with ⟨rfl, t67, t68, t69, t70, t71, t72⟩ | ⟨rfl, t73⟩
    · refine lv_if_ne (tgt := 115) hx hb dX12_goBy_104 (by decide) (fun c74 => ?_) (fun c74 => absurd c74 (by decide))
      refine lv_bipush (v := nI 6) hx hb dX12_goBy_115 (by decide) ?_
      refine lv_iload hx hb dX12_goBy_117 (lv_at hl 0 rfl) ?_
      obtain ⟨n75, h76, e77⟩ := nat_of y60 6 (by decide) (lf_x_goBy_16 knowF klineF aq y1 y58 y60 ab_now sb_now ha hl0 hl1 hl2 hl3 e2 c6 e59 e61 t67 t68 t69 t70 t71 t72)
      rw [e77]
      refine lv_imul hx hb dX12_goBy_119 ?_
      refine r_ti (nI (6 * n75)) (pk_mul _ _) ?_
      refine lv_iload_n hx hb dX12_goBy_120 rfl (lv_at hl 1 rfl) ?_
      obtain ⟨n78, h79, e80⟩ := nat_of y58 6 (by decide) (lf_x_goBy_17 knowF klineF aq y1 y58 y60 n75 ab_now sb_now ha hl0 hl1 hl2 hl3 e2 c6 e59 e61 t67 t68 t69 t70 t71 t72 h76 e77)
      rw [e80]
      refine lv_iadd hx hb dX12_goBy_121 ?_
      refine r_ti (nI ((6 * n75) + n78)) (nI_add _ _) ?_
      refine lv_istore_n (lv' := [(3, .int (nI ((6 * n75) + n78))), (4, .int y60), (2, .int (nI 2)), (0, .ref o), (1, .int (nI aq))]) hx hb dX12_goBy_122 rfl hl (by decide) rfl (fun ls hl => ?_)
      refine lv_aload_n hx hb dX12_goBy_123 rfl (lv_at hl 3 rfl) ?_
      refine va_get (D := (dC, dI)) (ci := 12) (v := .ref kline) (C := RX12) (T := TX12) (N := 52) hx hb hts hin12 hown hK hP 0 rfl rfl 43 (by decide) (hts (.fieldLink RX12 163 "PorridgeSeaModel" "line" "[I") (List.mem_of_getElem? (i := 1) rfl)) (fun _ h9 => h9) rfl dX12_goBy_124 ?_
      refine lv_iload_n hx hb dX12_goBy_127 rfl (lv_at hl 4 rfl) ?_
      refine lv_iconst (v := nI 3) hx hb dX12_goBy_128 (by decide) ?_
      refine lv_iadd hx hb dX12_goBy_129 ?_
      refine r_ti (nI (aq + 3)) (nI_add _ _) ?_
      obtain ⟨y81, e82⟩ : ∃ z9, z9 = klineF (aq + 3) := ⟨_, rfl⟩
      refine r_iald hx hb hK hP 3 rfl (aq + 3) (lf_x_goBy_18 knowF klineF aq y1 y58 y60 n75 n78 y81 ab_now sb_now ha hl0 hl1 hl2 hl3 e2 c6 e59 e61 t67 t68 t69 t70 t71 t72 h76 e77 h79 e80 e82) (by decide) y81 e82.symm dX12_goBy_130 ?_
      refine lv_istore (lv' := [(4, .int y81), (3, .int (nI ((6 * n75) + n78))), (2, .int (nI 2)), (0, .ref o), (1, .int (nI aq))]) hx hb dX12_goBy_131 hl (by decide) rfl (fun ls hl => ?_)
      refine lv_aload_n hx hb dX12_goBy_133 rfl (lv_at hl 3 rfl) ?_
      refine lv_iload_n hx hb dX12_goBy_134 rfl (lv_at hl 2 rfl) ?_
      refine lv_iload_n hx hb dX12_goBy_135 rfl (lv_at hl 1 rfl) ?_
      refine lv_iload hx hb dX12_goBy_136 (lv_at hl 0 rfl) ?_
      refine vp_callSi (W.runV (As := [.int (nI 2), .int (nI ((6 * n75) + n78)), .int y81]) (rest := []) ⟨hx, hb, hml, hown, hts⟩ (c_x_why2 l dC dI ky o kthrown ktape ktaped ksize klimit kto kfrom kkind knumber ksign kfault kplace kword ktold know kread kkept ksnaps kaside kname kreadName kkeptName kisKept konces ksnapMany khasCells kpoured kfar ksides ksideMany kwayDays khasWay klines kmet kmetMany ksunk ktrying ksunkMany ksending kfleets ktext ktexts kseed kline kwritten klineMany khasWritten knode knodes konesMany kwithin ktop knowF (nI ((6 * n75) + n78)) y81 iv_ko_0 iv_ko_1 iv_ko_2 iv_ko_3 iv_ko_4 iv_ko_5 iv_ko_6 iv_ko_7 iv_ko_8 iv_ko_9 iv_ko_10 iv_ko_11 iv_ko_12 iv_ko_13 iv_ko_14 ab_now (lf_x_goBy_19 knowF klineF aq y1 y58 y60 n75 n78 y81 ab_now sb_now ha hl0 hl1 hl2 hl3 e2 c6 e59 e61 t67 t68 t69 t70 t71 t72 h76 e77 h79 e80 e82)) (cwV 3 hts gX12_goBy_X12_why rfl rfl rfl (by decide +kernel) ⟨(Nat.le_of_ble_eq_true rfl), (Nat.le_of_ble_eq_true rfl)⟩) (pre_PV hK hP [0, 1] rfl (ci := 12) (q0 := 0) rfl rfl) rfl rfl hl.1 rfl (lv_room (Nat.le_of_ble_eq_true rfl)) dX12_goBy_138 ⟨(Nat.le_of_ble_eq_true rfl), (Nat.le_of_ble_eq_true rfl)⟩) (fun r83 p84 => ?_)
      refine lv_istore (lv' := [(5, .int r83), (4, .int y81), (3, .int (nI ((6 * n75) + n78))), (2, .int (nI 2)), (0, .ref o), (1, .int (nI aq))]) hx hb dX12_goBy_141 hl (by decide) rfl (fun ls hl => ?_)
      refine lv_iload hx hb dX12_goBy_143 (lv_at hl 0 rfl) ?_
      refine lv_if_eq (tgt := 156) hx hb dX12_goBy_145 (by decide) (fun c85 => ?_) (fun c85 => ?_)
      · refine lv_aload_n hx hb dX12_goBy_156 rfl (lv_at hl 4 rfl) ?_
        refine lv_iload_n hx hb dX12_goBy_157 rfl (lv_at hl 3 rfl) ?_
        refine lv_iload_n hx hb dX12_goBy_158 rfl (lv_at hl 2 rfl) ?_
        refine lv_iload hx hb dX12_goBy_159 (lv_at hl 1 rfl) ?_
        refine r_call_v (wr := [(kpoured, .inl (ky 0, 36, .inl kpouredF)), (kline, .inl (ky 0, 160, .inl klineF))]) (va_runV (As := [.int (nI 2), .int (nI ((6 * n75) + n78)), .int y81]) (rest := []) ⟨hx, hb, hml, hown, hts⟩ (c_x_live2 l dC dI ky s.heap.size o kthrown ktape ktaped ksize klimit kto kfrom kkind knumber ksign kfault kplace kword ktold know kread kkept ksnaps kaside kname kreadName kkeptName kisKept konces ksnapMany khasCells kpoured kfar ksides ksideMany kwayDays khasWay klines kmet kmetMany ksunk ktrying ksunkMany ksending kfleets ktext ktexts kseed kline kwritten klineMany khasWritten knode knodes konesMany kwithin ktop knowF (nI ((6 * n75) + n78)) y81 iv_ko_0 iv_ko_1 iv_ko_2 iv_ko_3 iv_ko_4 iv_ko_5 iv_ko_6 iv_ko_7 iv_ko_8 iv_ko_9 iv_ko_10 iv_ko_11 iv_ko_12 iv_ko_13 iv_ko_14 ab_now sb_now (lf_x_goBy_20 knowF klineF aq y1 y58 y60 n75 n78 y81 ab_now sb_now ha hl0 hl1 hl2 hl3 e2 c6 e59 e61 t67 t68 t69 t70 t71 t72 h76 e77 h79 e80 e82 p84) (lf_x_goBy_21 knowF klineF aq y1 y58 y60 n75 n78 y81 ab_now sb_now ha hl0 hl1 hl2 hl3 e2 c6 e59 e61 t67 t68 t69 t70 t71 t72 h76 e77 h79 e80 e82 p84)) (cwV 3 hts gX12_goBy_X12_live rfl rfl rfl (by decide +kernel) ⟨(Nat.le_of_ble_eq_true rfl), (Nat.le_of_ble_eq_true rfl)⟩) (pre_UV hK hP hD [0, 1] (by decide) rfl (ci := 12) (q0 := 0) rfl rfl) rfl rfl hl.1 rfl (lv_room (Nat.le_of_ble_eq_true rfl)) dX12_goBy_161 ⟨(Nat.le_of_ble_eq_true rfl), (Nat.le_of_ble_eq_true rfl)⟩) hP hD hS hA [0, 1] [2, 3] rfl rfl (by decide) (by decide) (fun  u86 H locs p87 hP hD hS => ?_)
        obtain ⟨knowG_88, rfl⟩ : ∃ z, z = u86 := ⟨_, rfl⟩
        try dsimp only at p87
        obtain ⟨p89, p90⟩ := p87
        refine W.widen (k := 0) (n := 0) (Nat.le_of_ble_eq_true rfl) (Nat.le_of_ble_eq_true rfl) ?_
        have hP : va_P (dC, dI) vwCl [(kpoured, .inl (ky 0, 36, .inl kpouredF)), (kline, .inl (ky 0, 160, .inl klineF)), (o, .inr (12, [.int kthrown, .ref ktape, .int (nI ktaped), .int (nI ksize), .int (nI klimit), .int (nI kto), .int (nI kfrom), .int kkind, .int knumber, .int ksign, .int kfault, .int kplace, .long kword, .int ktold, .ref know, .ref kread, .ref kkept, .ref ksnaps, .ref kaside, .ref kname, .ref kreadName, .ref kkeptName, .ref kisKept, .ref konces, .int (nI ksnapMany), .int khasCells, .ref kpoured, .ref kfar, .ref ksides, .int (nI ksideMany), .int kwayDays, .int khasWay, .ref klines, .ref kmet, .int (nI kmetMany), .ref ksunk, .ref ktrying, .int (nI ksunkMany), .int ksending, .int kfleets, .ref ktext, .int (nI ktexts), .int kseed, .ref kline, .ref kwritten, .int (nI klineMany), .int khasWritten, .ref knode, .int (nI knodes), .int (nI konesMany), .int (nI kwithin), .int (nI ktop)])), (know, .inl (ky 0, 373, .inl knowG_88))] H := hP
        have hD : va_D A [(kpoured, .inl (ky 0, 36, .inl kpouredF)), (kline, .inl (ky 0, 160, .inl klineF)), (o, .inr (12, [.int kthrown, .ref ktape, .int (nI ktaped), .int (nI ksize), .int (nI klimit), .int (nI kto), .int (nI kfrom), .int kkind, .int knumber, .int ksign, .int kfault, .int kplace, .long kword, .int ktold, .ref know, .ref kread, .ref kkept, .ref ksnaps, .ref kaside, .ref kname, .ref kreadName, .ref kkeptName, .ref kisKept, .ref konces, .int (nI ksnapMany), .int khasCells, .ref kpoured, .ref kfar, .ref ksides, .int (nI ksideMany), .int kwayDays, .int khasWay, .ref klines, .ref kmet, .int (nI kmetMany), .ref ksunk, .ref ktrying, .int (nI ksunkMany), .int ksending, .int kfleets, .ref ktext, .int (nI ktexts), .int kseed, .ref kline, .ref kwritten, .int (nI klineMany), .int khasWritten, .ref knode, .int (nI knodes), .int (nI konesMany), .int (nI kwithin), .int (nI ktop)])), (know, .inl (ky 0, 373, .inl knowG_88))] := hD
        refine lv_iconst (v := nI 0) hx hb dX12_goBy_164 (by decide) ?_
        rw [hQ]
        have hP9 := hP.sub (ws' := [(o, .inr (12, [.int kthrown, .ref ktape, .int (nI ktaped), .int (nI ksize), .int (nI klimit), .int (nI kto), .int (nI kfrom), .int kkind, .int knumber, .int ksign, .int kfault, .int kplace, .long kword, .int ktold, .ref know, .ref kread, .ref kkept, .ref ksnaps, .ref kaside, .ref kname, .ref kreadName, .ref kkeptName, .ref kisKept, .ref konces, .int (nI ksnapMany), .int khasCells, .ref kpoured, .ref kfar, .ref ksides, .int (nI ksideMany), .int kwayDays, .int khasWay, .ref klines, .ref kmet, .int (nI kmetMany), .ref ksunk, .ref ktrying, .int (nI ksunkMany), .int ksending, .int kfleets, .ref ktext, .int (nI ktexts), .int kseed, .ref kline, .ref kwritten, .int (nI klineMany), .int khasWritten, .ref knode, .int (nI knodes), .int (nI konesMany), .int (nI kwithin), .int (nI ktop)])), (know, .inl (ky 0, 373, .inl knowG_88)), (kpoured, .inl (ky 0, 36, .inl kpouredF)), (kline, .inl (ky 0, 160, .inl klineF))]) [2, 3, 0, 1] rfl
        have hD9 := hD.sub (ws' := [(o, .inr (12, [.int kthrown, .ref ktape, .int (nI ktaped), .int (nI ksize), .int (nI klimit), .int (nI kto), .int (nI kfrom), .int kkind, .int knumber, .int ksign, .int kfault, .int kplace, .long kword, .int ktold, .ref know, .ref kread, .ref kkept, .ref ksnaps, .ref kaside, .ref kname, .ref kreadName, .ref kkeptName, .ref kisKept, .ref konces, .int (nI ksnapMany), .int khasCells, .ref kpoured, .ref kfar, .ref ksides, .int (nI ksideMany), .int kwayDays, .int khasWay, .ref klines, .ref kmet, .int (nI kmetMany), .ref ksunk, .ref ktrying, .int (nI ksunkMany), .int ksending, .int kfleets, .ref ktext, .int (nI ktexts), .int kseed, .ref kline, .ref kwritten, .int (nI klineMany), .int khasWritten, .ref knode, .int (nI knodes), .int (nI konesMany), .int (nI kwithin), .int (nI ktop)])), (know, .inl (ky 0, 373, .inl knowG_88)), (kpoured, .inl (ky 0, 36, .inl kpouredF)), (kline, .inl (ky 0, 160, .inl klineF))]) [2, 3, 0, 1] (by decide) rfl
        exact W.iret (v := nI 0) hx hb hr (fun t9 ht9 hW9 => ⟨⟨nI 0, (knowG_88, kpouredF), rfl, ⟨p89, p90, ab_poured⟩, by rw [ht9]; exact hP9, va_K.moved hW9.alike hK, hD9⟩, hS.F ht9⟩) hS.2.2 dX12_goBy_165
      · refine lv_bipush (v := nI 10) hx hb dX12_goBy_148 (by decide) ?_
        refine lv_iload_n hx hb dX12_goBy_150 rfl (lv_at hl 3 rfl) ?_
        refine lv_imul hx hb dX12_goBy_151 ?_
        refine r_ti (nI 20) (by decide) ?_
        refine lv_iload hx hb dX12_goBy_152 (lv_at hl 0 rfl) ?_
        refine lv_iadd hx hb dX12_goBy_154 ?_
        refine lv_topi (fun y91 e92 => ?_)
        rw [hQ]
        exact W.iret (v := y91) hx hb hr (fun t9 ht9 hW9 => ⟨⟨y91, (knowF, kpouredF), rfl, ⟨ab_now, sb_now, ab_poured⟩, by rw [ht9]; exact hP, va_K.moved hW9.alike hK, hD⟩, hS.F ht9⟩) hS.2.2 dX12_goBy_155
    · refine lv_if_ne (tgt := 115) hx hb dX12_goBy_104 (by decide) (fun c93 => absurd c93 (by decide)) (fun c93 => ?_)
      refine lv_bipush (v := nI 10) hx hb dX12_goBy_107 (by decide) ?_
      refine lv_iload_n hx hb dX12_goBy_109 rfl (lv_at hl 2 rfl) ?_
      refine lv_imul hx hb dX12_goBy_110 ?_
      refine r_ti (nI 20) (by decide) ?_
      refine lv_bipush (v := nI 9) hx hb dX12_goBy_111 (by decide) ?_
      refine lv_iadd hx hb dX12_goBy_113 ?_
      refine r_ti (nI 29) (by decide) ?_
      rw [hQ]
      exact W.iret (v := nI 29) hx hb hr (fun t9 ht9 hW9 => ⟨⟨nI 29, (knowF, kpouredF), rfl, ⟨ab_now, sb_now, ab_poured⟩, by rw [ht9]; exact hP, va_K.moved hW9.alike hK, hD⟩, hS.F ht9⟩) hS.2.2 dX12_goBy_114
  · refine r_ti (nI 3) c7 ?_
    refine lv_istore_n (lv' := [(2, .int (nI 3)), (0, .ref o), (1, .int (nI aq))]) hx hb dX12_goBy_6 rfl hl (by decide) rfl (fun ls hl => ?_)
    refine lv_aload_n hx hb dX12_goBy_7 rfl (lv_at hl 1 rfl) ?_
    refine va_get (D := (dC, dI)) (ci := 12) (v := .ref kline) (C := RX12) (T := TX12) (N := 52) hx hb hts hin12 hown hK hP 0 rfl rfl 43 (by decide) (hts (.fieldLink RX12 163 "PorridgeSeaModel" "line" "[I") (List.mem_of_getElem? (i := 1) rfl)) (fun _ h9 => h9) rfl dX12_goBy_8 ?_
    refine lv_iload_n hx hb dX12_goBy_11 rfl (lv_at hl 2 rfl) ?_
    refine lv_iconst (v := nI 1) hx hb dX12_goBy_12 (by decide) ?_
    refine lv_iadd hx hb dX12_goBy_13 ?_
    refine r_ti (nI (aq + 1)) (nI_add _ _) ?_
    obtain ⟨y94, e95⟩ : ∃ z9, z9 = klineF (aq + 1) := ⟨_, rfl⟩
    refine r_iald hx hb hK hP 3 rfl (aq + 1) (lf_x_goBy_22 klineF aq y1 y94 ha hl0 hl1 hl2 hl3 e2 c7 e95) (by decide) y94 e95.symm dX12_goBy_14 ?_
    refine lv_istore_n (lv' := [(3, .int y94), (2, .int (nI 3)), (0, .ref o), (1, .int (nI aq))]) hx hb dX12_goBy_15 rfl hl (by decide) rfl (fun ls hl => ?_)
    refine lv_aload_n hx hb dX12_goBy_16 rfl (lv_at hl 2 rfl) ?_
    refine va_get (D := (dC, dI)) (ci := 12) (v := .ref kline) (C := RX12) (T := TX12) (N := 52) hx hb hts hin12 hown hK hP 0 rfl rfl 43 (by decide) (hts (.fieldLink RX12 163 "PorridgeSeaModel" "line" "[I") (List.mem_of_getElem? (i := 1) rfl)) (fun _ h9 => h9) rfl dX12_goBy_17 ?_
    refine lv_iload_n hx hb dX12_goBy_20 rfl (lv_at hl 3 rfl) ?_
    refine lv_iconst (v := nI 2) hx hb dX12_goBy_21 (by decide) ?_
    refine lv_iadd hx hb dX12_goBy_22 ?_
    refine r_ti (nI (aq + 2)) (nI_add _ _) ?_
    obtain ⟨y96, e97⟩ : ∃ z9, z9 = klineF (aq + 2) := ⟨_, rfl⟩
    refine r_iald hx hb hK hP 3 rfl (aq + 2) (lf_x_goBy_23 klineF aq y1 y94 y96 ha hl0 hl1 hl2 hl3 e2 c7 e95 e97) (by decide) y96 e97.symm dX12_goBy_23 ?_
    refine lv_istore (lv' := [(4, .int y96), (3, .int y94), (2, .int (nI 3)), (0, .ref o), (1, .int (nI aq))]) hx hb dX12_goBy_24 hl (by decide) rfl (fun ls hl => ?_)
    refine lv_iload_n hx hb dX12_goBy_26 rfl (lv_at hl 2 rfl) ?_
    refine lv_iconst (v := nI 5) hx hb dX12_goBy_27 (by decide) ?_
    refine lv_icmp_ne (tgt := 57) hx hb dX12_goBy_28 (by decide) (fun c98 => ?_) (fun c98 => absurd c98 (by decide))
    refine lv_iload_n hx hb dX12_goBy_57 rfl (lv_at hl 2 rfl) ?_
    refine lv_if_ne (tgt := 87) hx hb dX12_goBy_58 (by decide) (fun c99 => ?_) (fun c99 => absurd c99 (by decide))
    refine lv_iload_n hx hb dX12_goBy_87 rfl (lv_at hl 2 rfl) ?_
    refine lv_iconst (v := nI 2) hx hb dX12_goBy_88 (by decide) ?_
    refine lv_icmp_eq (tgt := 97) hx hb dX12_goBy_89 (by decide) (fun c100 => absurd c100 (by decide)) (fun c100 => ?_)
    refine lv_iload_n hx hb dX12_goBy_92 rfl (lv_at hl 2 rfl) ?_
    refine lv_iconst (v := nI 3) hx hb dX12_goBy_93 (by decide) ?_
    refine lv_icmp_ne (tgt := 133) hx hb dX12_goBy_94 (by decide) (fun c101 => absurd c101 (by decide)) (fun c101 => ?_)
    refine lv_aload_n hx hb dX12_goBy_97 rfl (lv_at hl 3 rfl) ?_
    refine lv_iload_n hx hb dX12_goBy_98 rfl (lv_at hl 1 rfl) ?_
    refine lv_iload hx hb dX12_goBy_99 (lv_at hl 0 rfl) ?_
    refine vp_callSi (W.runV (As := [.int y94, .int y96]) (rest := []) ⟨hx, hb, hml, hown, hts⟩ (c_x_isCell l dC dI ky o kthrown ktape ktaped ksize klimit kto kfrom kkind knumber ksign kfault kplace kword ktold know kread kkept ksnaps kaside kname kreadName kkeptName kisKept konces ksnapMany khasCells kpoured kfar ksides ksideMany kwayDays khasWay klines kmet kmetMany ksunk ktrying ksunkMany ksending kfleets ktext ktexts kseed kline kwritten klineMany khasWritten knode knodes konesMany kwithin ktop knowF y94 y96 iv_ko_0 iv_ko_1 iv_ko_2 iv_ko_3 iv_ko_4 iv_ko_5 iv_ko_6 iv_ko_7 iv_ko_8 iv_ko_9 iv_ko_10 iv_ko_11 iv_ko_12 iv_ko_13 iv_ko_14 ab_now) (cwV 2 hts gX12_goBy_X12_isCell rfl rfl rfl (by decide +kernel) ⟨(Nat.le_of_ble_eq_true rfl), (Nat.le_of_ble_eq_true rfl)⟩) (pre_PV hK hP [0, 1] rfl (ci := 12) (q0 := 0) rfl rfl) rfl rfl hl.1 rfl (lv_room (Nat.le_of_ble_eq_true rfl)) dX12_goBy_101 ⟨(Nat.le_of_ble_eq_true rfl), (Nat.le_of_ble_eq_true rfl)⟩) (fun r102 p103 => ?_)
    rcases p103 with ⟨rfl, t104, t105, t106, t107, t108, t109⟩ | ⟨rfl, t110⟩
    · refine lv_if_ne (tgt := 115) hx hb dX12_goBy_104 (by decide) (fun c111 => ?_) (fun c111 => absurd c111 (by decide))
      refine lv_bipush (v := nI 6) hx hb dX12_goBy_115 (by decide) ?_
      refine lv_iload hx hb dX12_goBy_117 (lv_at hl 0 rfl) ?_
      obtain ⟨n112, h113, e114⟩ := nat_of y96 6 (by decide) (lf_x_goBy_24 knowF klineF aq y1 y94 y96 ab_now sb_now ha hl0 hl1 hl2 hl3 e2 c7 e95 e97 t104 t105 t106 t107 t108 t109)
      rw [e114]
      refine lv_imul hx hb dX12_goBy_119 ?_
      refine r_ti (nI (6 * n112)) (pk_mul _ _) ?_
      refine lv_iload_n hx hb dX12_goBy_120 rfl (lv_at hl 1 rfl) ?_
      obtain ⟨n115, h116, e117⟩ := nat_of y94 6 (by decide) (lf_x_goBy_25 knowF klineF aq y1 y94 y96 n112 ab_now sb_now ha hl0 hl1 hl2 hl3 e2 c7 e95 e97 t104 t105 t106 t107 t108 t109 h113 e114)
      rw [e117]
      refine lv_iadd hx hb dX12_goBy_121 ?_
      refine r_ti (nI ((6 * n112) + n115)) (nI_add _ _) ?_
      refine lv_istore_n (lv' := [(3, .int (nI ((6 * n112) + n115))), (4, .int y96), (2, .int (nI 3)), (0, .ref o), (1, .int (nI aq))]) hx hb dX12_goBy_122 rfl hl (by decide) rfl (fun ls hl => ?_)
      refine lv_aload_n hx hb dX12_goBy_123 rfl (lv_at hl 3 rfl) ?_
      refine va_get (D := (dC, dI)) (ci := 12) (v := .ref kline) (C := RX12) (T := TX12) (N := 52) hx hb hts hin12 hown hK hP 0 rfl rfl 43 (by decide) (hts (.fieldLink RX12 163 "PorridgeSeaModel" "line" "[I") (List.mem_of_getElem? (i := 1) rfl)) (fun _ h9 => h9) rfl dX12_goBy_124 ?_
      refine lv_iload_n hx hb dX12_goBy_127 rfl (lv_at hl 4 rfl) ?_
      refine lv_iconst (v := nI 3) hx hb dX12_goBy_128 (by decide) ?_
      refine lv_iadd hx hb dX12_goBy_129 ?_
      refine r_ti (nI (aq + 3)) (nI_add _ _) ?_
      obtain ⟨y118, e119⟩ : ∃ z9, z9 = klineF (aq + 3) := ⟨_, rfl⟩
      refine r_iald hx hb hK hP 3 rfl (aq + 3) (lf_x_goBy_26 knowF klineF aq y1 y94 y96 n112 n115 y118 ab_now sb_now ha hl0 hl1 hl2 hl3 e2 c7 e95 e97 t104 t105 t106 t107 t108 t109 h113 e114 h116 e117 e119) (by decide) y118 e119.symm dX12_goBy_130 ?_
      refine lv_istore (lv' := [(4, .int y118), (3, .int (nI ((6 * n112) + n115))), (2, .int (nI 3)), (0, .ref o), (1, .int (nI aq))]) hx hb dX12_goBy_131 hl (by decide) rfl (fun ls hl => ?_)
      refine lv_aload_n hx hb dX12_goBy_133 rfl (lv_at hl 3 rfl) ?_
      refine lv_iload_n hx hb dX12_goBy_134 rfl (lv_at hl 2 rfl) ?_
      refine lv_iload_n hx hb dX12_goBy_135 rfl (lv_at hl 1 rfl) ?_
      refine lv_iload hx hb dX12_goBy_136 (lv_at hl 0 rfl) ?_
      refine vp_callSi (W.runV (As := [.int (nI 3), .int (nI ((6 * n112) + n115)), .int y118]) (rest := []) ⟨hx, hb, hml, hown, hts⟩ (c_x_why3 l dC dI ky o kthrown ktape ktaped ksize klimit kto kfrom kkind knumber ksign kfault kplace kword ktold know kread kkept ksnaps kaside kname kreadName kkeptName kisKept konces ksnapMany khasCells kpoured kfar ksides ksideMany kwayDays khasWay klines kmet kmetMany ksunk ktrying ksunkMany ksending kfleets ktext ktexts kseed kline kwritten klineMany khasWritten knode knodes konesMany kwithin ktop knowF (nI ((6 * n112) + n115)) y118 iv_ko_0 iv_ko_1 iv_ko_2 iv_ko_3 iv_ko_4 iv_ko_5 iv_ko_6 iv_ko_7 iv_ko_8 iv_ko_9 iv_ko_10 iv_ko_11 iv_ko_12 iv_ko_13 iv_ko_14 ab_now (lf_x_goBy_27 knowF klineF aq y1 y94 y96 n112 n115 y118 ab_now sb_now ha hl0 hl1 hl2 hl3 e2 c7 e95 e97 t104 t105 t106 t107 t108 t109 h113 e114 h116 e117 e119)) (cwV 3 hts gX12_goBy_X12_why rfl rfl rfl (by decide +kernel) ⟨(Nat.le_of_ble_eq_true rfl), (Nat.le_of_ble_eq_true rfl)⟩) (pre_PV hK hP [0, 1] rfl (ci := 12) (q0 := 0) rfl rfl) rfl rfl hl.1 rfl (lv_room (Nat.le_of_ble_eq_true rfl)) dX12_goBy_138 ⟨(Nat.le_of_ble_eq_true rfl), (Nat.le_of_ble_eq_true rfl)⟩) (fun r120 p121 => ?_)
      refine lv_istore (lv' := [(5, .int r120), (4, .int y118), (3, .int (nI ((6 * n112) + n115))), (2, .int (nI 3)), (0, .ref o), (1, .int (nI aq))]) hx hb dX12_goBy_141 hl (by decide) rfl (fun ls hl => ?_)
      refine lv_iload hx hb dX12_goBy_143 (lv_at hl 0 rfl) ?_
      refine lv_if_eq (tgt := 156) hx hb dX12_goBy_145 (by decide) (fun c122 => ?_) (fun c122 => ?_)
      · refine lv_aload_n hx hb dX12_goBy_156 rfl (lv_at hl 4 rfl) ?_
        refine lv_iload_n hx hb dX12_goBy_157 rfl (lv_at hl 3 rfl) ?_
        refine lv_iload_n hx hb dX12_goBy_158 rfl (lv_at hl 2 rfl) ?_
        refine lv_iload hx hb dX12_goBy_159 (lv_at hl 1 rfl) ?_
        refine r_call_v (wr := [(kpoured, .inl (ky 0, 36, .inl kpouredF)), (kline, .inl (ky 0, 160, .inl klineF))]) (va_runV (As := [.int (nI 3), .int (nI ((6 * n112) + n115)), .int y118]) (rest := []) ⟨hx, hb, hml, hown, hts⟩ (c_x_live3 l dC dI ky s.heap.size o kthrown ktape ktaped ksize klimit kto kfrom kkind knumber ksign kfault kplace kword ktold know kread kkept ksnaps kaside kname kreadName kkeptName kisKept konces ksnapMany khasCells kpoured kfar ksides ksideMany kwayDays khasWay klines kmet kmetMany ksunk ktrying ksunkMany ksending kfleets ktext ktexts kseed kline kwritten klineMany khasWritten knode knodes konesMany kwithin ktop knowF (nI ((6 * n112) + n115)) y118 iv_ko_0 iv_ko_1 iv_ko_2 iv_ko_3 iv_ko_4 iv_ko_5 iv_ko_6 iv_ko_7 iv_ko_8 iv_ko_9 iv_ko_10 iv_ko_11 iv_ko_12 iv_ko_13 iv_ko_14 ab_now sb_now (lf_x_goBy_28 knowF klineF aq y1 y94 y96 n112 n115 y118 ab_now sb_now ha hl0 hl1 hl2 hl3 e2 c7 e95 e97 t104 t105 t106 t107 t108 t109 h113 e114 h116 e117 e119 p121) (lf_x_goBy_29 knowF klineF aq y1 y94 y96 n112 n115 y118 ab_now sb_now ha hl0 hl1 hl2 hl3 e2 c7 e95 e97 t104 t105 t106 t107 t108 t109 h113 e114 h116 e117 e119 p121)) (cwV 3 hts gX12_goBy_X12_live rfl rfl rfl (by decide +kernel) ⟨(Nat.le_of_ble_eq_true rfl), (Nat.le_of_ble_eq_true rfl)⟩) (pre_UV hK hP hD [0, 1] (by decide) rfl (ci := 12) (q0 := 0) rfl rfl) rfl rfl hl.1 rfl (lv_room (Nat.le_of_ble_eq_true rfl)) dX12_goBy_161 ⟨(Nat.le_of_ble_eq_true rfl), (Nat.le_of_ble_eq_true rfl)⟩) hP hD hS hA [0, 1] [2, 3] rfl rfl (by decide) (by decide) (fun  u123 H locs p124 hP hD hS => ?_)
        obtain ⟨knowG_125, rfl⟩ : ∃ z, z = u123 := ⟨_, rfl⟩
        try dsimp only at p124
        obtain ⟨p126, p127⟩ := p124
        refine W.widen (k := 0) (n := 0) (Nat.le_of_ble_eq_true rfl) (Nat.le_of_ble_eq_true rfl) ?_
        have hP : va_P (dC, dI) vwCl [(kpoured, .inl (ky 0, 36, .inl kpouredF)), (kline, .inl (ky 0, 160, .inl klineF)), (o, .inr (12, [.int kthrown, .ref ktape, .int (nI ktaped), .int (nI ksize), .int (nI klimit), .int (nI kto), .int (nI kfrom), .int kkind, .int knumber, .int ksign, .int kfault, .int kplace, .long kword, .int ktold, .ref know, .ref kread, .ref kkept, .ref ksnaps, .ref kaside, .ref kname, .ref kreadName, .ref kkeptName, .ref kisKept, .ref konces, .int (nI ksnapMany), .int khasCells, .ref kpoured, .ref kfar, .ref ksides, .int (nI ksideMany), .int kwayDays, .int khasWay, .ref klines, .ref kmet, .int (nI kmetMany), .ref ksunk, .ref ktrying, .int (nI ksunkMany), .int ksending, .int kfleets, .ref ktext, .int (nI ktexts), .int kseed, .ref kline, .ref kwritten, .int (nI klineMany), .int khasWritten, .ref knode, .int (nI knodes), .int (nI konesMany), .int (nI kwithin), .int (nI ktop)])), (know, .inl (ky 0, 373, .inl knowG_125))] H := hP
        have hD : va_D A [(kpoured, .inl (ky 0, 36, .inl kpouredF)), (kline, .inl (ky 0, 160, .inl klineF)), (o, .inr (12, [.int kthrown, .ref ktape, .int (nI ktaped), .int (nI ksize), .int (nI klimit), .int (nI kto), .int (nI kfrom), .int kkind, .int knumber, .int ksign, .int kfault, .int kplace, .long kword, .int ktold, .ref know, .ref kread, .ref kkept, .ref ksnaps, .ref kaside, .ref kname, .ref kreadName, .ref kkeptName, .ref kisKept, .ref konces, .int (nI ksnapMany), .int khasCells, .ref kpoured, .ref kfar, .ref ksides, .int (nI ksideMany), .int kwayDays, .int khasWay, .ref klines, .ref kmet, .int (nI kmetMany), .ref ksunk, .ref ktrying, .int (nI ksunkMany), .int ksending, .int kfleets, .ref ktext, .int (nI ktexts), .int kseed, .ref kline, .ref kwritten, .int (nI klineMany), .int khasWritten, .ref knode, .int (nI knodes), .int (nI konesMany), .int (nI kwithin), .int (nI ktop)])), (know, .inl (ky 0, 373, .inl knowG_125))] := hD
        refine lv_iconst (v := nI 0) hx hb dX12_goBy_164 (by decide) ?_
        rw [hQ]
        have hP9 := hP.sub (ws' := [(o, .inr (12, [.int kthrown, .ref ktape, .int (nI ktaped), .int (nI ksize), .int (nI klimit), .int (nI kto), .int (nI kfrom), .int kkind, .int knumber, .int ksign, .int kfault, .int kplace, .long kword, .int ktold, .ref know, .ref kread, .ref kkept, .ref ksnaps, .ref kaside, .ref kname, .ref kreadName, .ref kkeptName, .ref kisKept, .ref konces, .int (nI ksnapMany), .int khasCells, .ref kpoured, .ref kfar, .ref ksides, .int (nI ksideMany), .int kwayDays, .int khasWay, .ref klines, .ref kmet, .int (nI kmetMany), .ref ksunk, .ref ktrying, .int (nI ksunkMany), .int ksending, .int kfleets, .ref ktext, .int (nI ktexts), .int kseed, .ref kline, .ref kwritten, .int (nI klineMany), .int khasWritten, .ref knode, .int (nI knodes), .int (nI konesMany), .int (nI kwithin), .int (nI ktop)])), (know, .inl (ky 0, 373, .inl knowG_125)), (kpoured, .inl (ky 0, 36, .inl kpouredF)), (kline, .inl (ky 0, 160, .inl klineF))]) [2, 3, 0, 1] rfl
        have hD9 := hD.sub (ws' := [(o, .inr (12, [.int kthrown, .ref ktape, .int (nI ktaped), .int (nI ksize), .int (nI klimit), .int (nI kto), .int (nI kfrom), .int kkind, .int knumber, .int ksign, .int kfault, .int kplace, .long kword, .int ktold, .ref know, .ref kread, .ref kkept, .ref ksnaps, .ref kaside, .ref kname, .ref kreadName, .ref kkeptName, .ref kisKept, .ref konces, .int (nI ksnapMany), .int khasCells, .ref kpoured, .ref kfar, .ref ksides, .int (nI ksideMany), .int kwayDays, .int khasWay, .ref klines, .ref kmet, .int (nI kmetMany), .ref ksunk, .ref ktrying, .int (nI ksunkMany), .int ksending, .int kfleets, .ref ktext, .int (nI ktexts), .int kseed, .ref kline, .ref kwritten, .int (nI klineMany), .int khasWritten, .ref knode, .int (nI knodes), .int (nI konesMany), .int (nI kwithin), .int (nI ktop)])), (know, .inl (ky 0, 373, .inl knowG_125)), (kpoured, .inl (ky 0, 36, .inl kpouredF)), (kline, .inl (ky 0, 160, .inl klineF))]) [2, 3, 0, 1] (by decide) rfl
        exact W.iret (v := nI 0) hx hb hr (fun t9 ht9 hW9 => ⟨⟨nI 0, (knowG_125, kpouredF), rfl, ⟨p126, p127, ab_poured⟩, by rw [ht9]; exact hP9, va_K.moved hW9.alike hK, hD9⟩, hS.F ht9⟩) hS.2.2 dX12_goBy_165
      · refine lv_bipush (v := nI 10) hx hb dX12_goBy_148 (by decide) ?_
        refine lv_iload_n hx hb dX12_goBy_150 rfl (lv_at hl 3 rfl) ?_
        refine lv_imul hx hb dX12_goBy_151 ?_
        refine r_ti (nI 30) (by decide) ?_
        refine lv_iload hx hb dX12_goBy_152 (lv_at hl 0 rfl) ?_
        refine lv_iadd hx hb dX12_goBy_154 ?_
        refine lv_topi (fun y128 e129 => ?_)
        rw [hQ]
        exact W.iret (v := y128) hx hb hr (fun t9 ht9 hW9 => ⟨⟨y128, (knowF, kpouredF), rfl, ⟨ab_now, sb_now, ab_poured⟩, by rw [ht9]; exact hP, va_K.moved hW9.alike hK, hD⟩, hS.F ht9⟩) hS.2.2 dX12_goBy_155
    · refine lv_if_ne (tgt := 115) hx hb dX12_goBy_104 (by decide) (fun c130 => absurd c130 (by decide)) (fun c130 => ?_)
      refine lv_bipush (v := nI 10) hx hb dX12_goBy_107 (by decide) ?_
      refine lv_iload_n hx hb dX12_goBy_109 rfl (lv_at hl 2 rfl) ?_
      refine lv_imul hx hb dX12_goBy_110 ?_
      refine r_ti (nI 30) (by decide) ?_
      refine lv_bipush (v := nI 9) hx hb dX12_goBy_111 (by decide) ?_
      refine lv_iadd hx hb dX12_goBy_113 ?_
      refine r_ti (nI 39) (by decide) ?_
      rw [hQ]
      exact W.iret (v := nI 39) hx hb hr (fun t9 ht9 hW9 => ⟨⟨nI 39, (knowF, kpouredF), rfl, ⟨ab_now, sb_now, ab_poured⟩, by rw [ht9]; exact hP, va_K.moved hW9.alike hK, hD⟩, hS.F ht9⟩) hS.2.2 dX12_goBy_114
  · refine r_ti (nI 4) c8 ?_
    refine lv_istore_n (lv' := [(2, .int (nI 4)), (0, .ref o), (1, .int (nI aq))]) hx hb dX12_goBy_6 rfl hl (by decide) rfl (fun ls hl => ?_)
    refine lv_aload_n hx hb dX12_goBy_7 rfl (lv_at hl 1 rfl) ?_
    refine va_get (D := (dC, dI)) (ci := 12) (v := .ref kline) (C := RX12) (T := TX12) (N := 52) hx hb hts hin12 hown hK hP 0 rfl rfl 43 (by decide) (hts (.fieldLink RX12 163 "PorridgeSeaModel" "line" "[I") (List.mem_of_getElem? (i := 1) rfl)) (fun _ h9 => h9) rfl dX12_goBy_8 ?_
    refine lv_iload_n hx hb dX12_goBy_11 rfl (lv_at hl 2 rfl) ?_
    refine lv_iconst (v := nI 1) hx hb dX12_goBy_12 (by decide) ?_
    refine lv_iadd hx hb dX12_goBy_13 ?_
    refine r_ti (nI (aq + 1)) (nI_add _ _) ?_
    obtain ⟨y131, e132⟩ : ∃ z9, z9 = klineF (aq + 1) := ⟨_, rfl⟩
    refine r_iald hx hb hK hP 3 rfl (aq + 1) (lf_x_goBy_30 klineF aq y1 y131 ha hl0 hl1 hl2 hl3 e2 c8 e132) (by decide) y131 e132.symm dX12_goBy_14 ?_
    refine lv_istore_n (lv' := [(3, .int y131), (2, .int (nI 4)), (0, .ref o), (1, .int (nI aq))]) hx hb dX12_goBy_15 rfl hl (by decide) rfl (fun ls hl => ?_)
    refine lv_aload_n hx hb dX12_goBy_16 rfl (lv_at hl 2 rfl) ?_
    refine va_get (D := (dC, dI)) (ci := 12) (v := .ref kline) (C := RX12) (T := TX12) (N := 52) hx hb hts hin12 hown hK hP 0 rfl rfl 43 (by decide) (hts (.fieldLink RX12 163 "PorridgeSeaModel" "line" "[I") (List.mem_of_getElem? (i := 1) rfl)) (fun _ h9 => h9) rfl dX12_goBy_17 ?_
    refine lv_iload_n hx hb dX12_goBy_20 rfl (lv_at hl 3 rfl) ?_
    refine lv_iconst (v := nI 2) hx hb dX12_goBy_21 (by decide) ?_
    refine lv_iadd hx hb dX12_goBy_22 ?_
    refine r_ti (nI (aq + 2)) (nI_add _ _) ?_
    obtain ⟨y133, e134⟩ : ∃ z9, z9 = klineF (aq + 2) := ⟨_, rfl⟩
    refine r_iald hx hb hK hP 3 rfl (aq + 2) (lf_x_goBy_31 klineF aq y1 y131 y133 ha hl0 hl1 hl2 hl3 e2 c8 e132 e134) (by decide) y133 e134.symm dX12_goBy_23 ?_
    refine lv_istore (lv' := [(4, .int y133), (3, .int y131), (2, .int (nI 4)), (0, .ref o), (1, .int (nI aq))]) hx hb dX12_goBy_24 hl (by decide) rfl (fun ls hl => ?_)
    refine lv_iload_n hx hb dX12_goBy_26 rfl (lv_at hl 2 rfl) ?_
    refine lv_iconst (v := nI 5) hx hb dX12_goBy_27 (by decide) ?_
    refine lv_icmp_ne (tgt := 57) hx hb dX12_goBy_28 (by decide) (fun c135 => ?_) (fun c135 => absurd c135 (by decide))
    refine lv_iload_n hx hb dX12_goBy_57 rfl (lv_at hl 2 rfl) ?_
    refine lv_if_ne (tgt := 87) hx hb dX12_goBy_58 (by decide) (fun c136 => ?_) (fun c136 => absurd c136 (by decide))
    refine lv_iload_n hx hb dX12_goBy_87 rfl (lv_at hl 2 rfl) ?_
    refine lv_iconst (v := nI 2) hx hb dX12_goBy_88 (by decide) ?_
    refine lv_icmp_eq (tgt := 97) hx hb dX12_goBy_89 (by decide) (fun c137 => absurd c137 (by decide)) (fun c137 => ?_)
    refine lv_iload_n hx hb dX12_goBy_92 rfl (lv_at hl 2 rfl) ?_
    refine lv_iconst (v := nI 3) hx hb dX12_goBy_93 (by decide) ?_
    refine lv_icmp_ne (tgt := 133) hx hb dX12_goBy_94 (by decide) (fun c138 => ?_) (fun c138 => absurd c138 (by decide))
    refine lv_aload_n hx hb dX12_goBy_133 rfl (lv_at hl 3 rfl) ?_
    refine lv_iload_n hx hb dX12_goBy_134 rfl (lv_at hl 2 rfl) ?_
    refine lv_iload_n hx hb dX12_goBy_135 rfl (lv_at hl 1 rfl) ?_
    refine lv_iload hx hb dX12_goBy_136 (lv_at hl 0 rfl) ?_
    refine vp_callSi (W.runV (As := [.int (nI 4), .int y131, .int y133]) (rest := []) ⟨hx, hb, hml, hown, hts⟩ (c_x_why4 l dC dI ky o kthrown ktape ktaped ksize klimit kto kfrom kkind knumber ksign kfault kplace kword ktold know kread kkept ksnaps kaside kname kreadName kkeptName kisKept konces ksnapMany khasCells kpoured kfar ksides ksideMany kwayDays khasWay klines kmet kmetMany ksunk ktrying ksunkMany ksending kfleets ktext ktexts kseed kline kwritten klineMany khasWritten knode knodes konesMany kwithin ktop knowF y131 y133 iv_ko_0 iv_ko_1 iv_ko_2 iv_ko_3 iv_ko_4 iv_ko_5 iv_ko_6 iv_ko_7 iv_ko_8 iv_ko_9 iv_ko_10 iv_ko_11 iv_ko_12 iv_ko_13 iv_ko_14 ab_now) (cwV 3 hts gX12_goBy_X12_why rfl rfl rfl (by decide +kernel) ⟨(Nat.le_of_ble_eq_true rfl), (Nat.le_of_ble_eq_true rfl)⟩) (pre_PV hK hP [0, 1] rfl (ci := 12) (q0 := 0) rfl rfl) rfl rfl hl.1 rfl (lv_room (Nat.le_of_ble_eq_true rfl)) dX12_goBy_138 ⟨(Nat.le_of_ble_eq_true rfl), (Nat.le_of_ble_eq_true rfl)⟩) (fun r139 p140 => ?_)
    refine lv_istore (lv' := [(5, .int r139), (4, .int y133), (3, .int y131), (2, .int (nI 4)), (0, .ref o), (1, .int (nI aq))]) hx hb dX12_goBy_141 hl (by decide) rfl (fun ls hl => ?_)
    refine lv_iload hx hb dX12_goBy_143 (lv_at hl 0 rfl) ?_
    refine lv_if_eq (tgt := 156) hx hb dX12_goBy_145 (by decide) (fun c141 => ?_) (fun c141 => ?_)
    · refine lv_aload_n hx hb dX12_goBy_156 rfl (lv_at hl 4 rfl) ?_
      refine lv_iload_n hx hb dX12_goBy_157 rfl (lv_at hl 3 rfl) ?_
      refine lv_iload_n hx hb dX12_goBy_158 rfl (lv_at hl 2 rfl) ?_
      refine lv_iload hx hb dX12_goBy_159 (lv_at hl 1 rfl) ?_
      refine r_call_v (wr := [(kpoured, .inl (ky 0, 36, .inl kpouredF)), (kline, .inl (ky 0, 160, .inl klineF))]) (va_runV (As := [.int (nI 4), .int y131, .int y133]) (rest := []) ⟨hx, hb, hml, hown, hts⟩ (c_x_live4 l dC dI ky s.heap.size o kthrown ktape ktaped ksize klimit kto kfrom kkind knumber ksign kfault kplace kword ktold know kread kkept ksnaps kaside kname kreadName kkeptName kisKept konces ksnapMany khasCells kpoured kfar ksides ksideMany kwayDays khasWay klines kmet kmetMany ksunk ktrying ksunkMany ksending kfleets ktext ktexts kseed kline kwritten klineMany khasWritten knode knodes konesMany kwithin ktop knowF y131 y133 iv_ko_0 iv_ko_1 iv_ko_2 iv_ko_3 iv_ko_4 iv_ko_5 iv_ko_6 iv_ko_7 iv_ko_8 iv_ko_9 iv_ko_10 iv_ko_11 iv_ko_12 iv_ko_13 iv_ko_14 ab_now sb_now) (cwV 3 hts gX12_goBy_X12_live rfl rfl rfl (by decide +kernel) ⟨(Nat.le_of_ble_eq_true rfl), (Nat.le_of_ble_eq_true rfl)⟩) (pre_UV hK hP hD [0, 1] (by decide) rfl (ci := 12) (q0 := 0) rfl rfl) rfl rfl hl.1 rfl (lv_room (Nat.le_of_ble_eq_true rfl)) dX12_goBy_161 ⟨(Nat.le_of_ble_eq_true rfl), (Nat.le_of_ble_eq_true rfl)⟩) hP hD hS hA [0, 1] [2, 3] rfl rfl (by decide) (by decide) (fun  u142 H locs p143 hP hD hS => ?_)
      obtain ⟨knowG_144, rfl⟩ : ∃ z, z = u142 := ⟨_, rfl⟩
      try dsimp only at p143
      obtain ⟨p145, p146⟩ := p143
      refine W.widen (k := 0) (n := 0) (Nat.le_of_ble_eq_true rfl) (Nat.le_of_ble_eq_true rfl) ?_
      have hP : va_P (dC, dI) vwCl [(kpoured, .inl (ky 0, 36, .inl kpouredF)), (kline, .inl (ky 0, 160, .inl klineF)), (o, .inr (12, [.int kthrown, .ref ktape, .int (nI ktaped), .int (nI ksize), .int (nI klimit), .int (nI kto), .int (nI kfrom), .int kkind, .int knumber, .int ksign, .int kfault, .int kplace, .long kword, .int ktold, .ref know, .ref kread, .ref kkept, .ref ksnaps, .ref kaside, .ref kname, .ref kreadName, .ref kkeptName, .ref kisKept, .ref konces, .int (nI ksnapMany), .int khasCells, .ref kpoured, .ref kfar, .ref ksides, .int (nI ksideMany), .int kwayDays, .int khasWay, .ref klines, .ref kmet, .int (nI kmetMany), .ref ksunk, .ref ktrying, .int (nI ksunkMany), .int ksending, .int kfleets, .ref ktext, .int (nI ktexts), .int kseed, .ref kline, .ref kwritten, .int (nI klineMany), .int khasWritten, .ref knode, .int (nI knodes), .int (nI konesMany), .int (nI kwithin), .int (nI ktop)])), (know, .inl (ky 0, 373, .inl knowG_144))] H := hP
      have hD : va_D A [(kpoured, .inl (ky 0, 36, .inl kpouredF)), (kline, .inl (ky 0, 160, .inl klineF)), (o, .inr (12, [.int kthrown, .ref ktape, .int (nI ktaped), .int (nI ksize), .int (nI klimit), .int (nI kto), .int (nI kfrom), .int kkind, .int knumber, .int ksign, .int kfault, .int kplace, .long kword, .int ktold, .ref know, .ref kread, .ref kkept, .ref ksnaps, .ref kaside, .ref kname, .ref kreadName, .ref kkeptName, .ref kisKept, .ref konces, .int (nI ksnapMany), .int khasCells, .ref kpoured, .ref kfar, .ref ksides, .int (nI ksideMany), .int kwayDays, .int khasWay, .ref klines, .ref kmet, .int (nI kmetMany), .ref ksunk, .ref ktrying, .int (nI ksunkMany), .int ksending, .int kfleets, .ref ktext, .int (nI ktexts), .int kseed, .ref kline, .ref kwritten, .int (nI klineMany), .int khasWritten, .ref knode, .int (nI knodes), .int (nI konesMany), .int (nI kwithin), .int (nI ktop)])), (know, .inl (ky 0, 373, .inl knowG_144))] := hD
      refine lv_iconst (v := nI 0) hx hb dX12_goBy_164 (by decide) ?_
      rw [hQ]
      have hP9 := hP.sub (ws' := [(o, .inr (12, [.int kthrown, .ref ktape, .int (nI ktaped), .int (nI ksize), .int (nI klimit), .int (nI kto), .int (nI kfrom), .int kkind, .int knumber, .int ksign, .int kfault, .int kplace, .long kword, .int ktold, .ref know, .ref kread, .ref kkept, .ref ksnaps, .ref kaside, .ref kname, .ref kreadName, .ref kkeptName, .ref kisKept, .ref konces, .int (nI ksnapMany), .int khasCells, .ref kpoured, .ref kfar, .ref ksides, .int (nI ksideMany), .int kwayDays, .int khasWay, .ref klines, .ref kmet, .int (nI kmetMany), .ref ksunk, .ref ktrying, .int (nI ksunkMany), .int ksending, .int kfleets, .ref ktext, .int (nI ktexts), .int kseed, .ref kline, .ref kwritten, .int (nI klineMany), .int khasWritten, .ref knode, .int (nI knodes), .int (nI konesMany), .int (nI kwithin), .int (nI ktop)])), (know, .inl (ky 0, 373, .inl knowG_144)), (kpoured, .inl (ky 0, 36, .inl kpouredF)), (kline, .inl (ky 0, 160, .inl klineF))]) [2, 3, 0, 1] rfl
      have hD9 := hD.sub (ws' := [(o, .inr (12, [.int kthrown, .ref ktape, .int (nI ktaped), .int (nI ksize), .int (nI klimit), .int (nI kto), .int (nI kfrom), .int kkind, .int knumber, .int ksign, .int kfault, .int kplace, .long kword, .int ktold, .ref know, .ref kread, .ref kkept, .ref ksnaps, .ref kaside, .ref kname, .ref kreadName, .ref kkeptName, .ref kisKept, .ref konces, .int (nI ksnapMany), .int khasCells, .ref kpoured, .ref kfar, .ref ksides, .int (nI ksideMany), .int kwayDays, .int khasWay, .ref klines, .ref kmet, .int (nI kmetMany), .ref ksunk, .ref ktrying, .int (nI ksunkMany), .int ksending, .int kfleets, .ref ktext, .int (nI ktexts), .int kseed, .ref kline, .ref kwritten, .int (nI klineMany), .int khasWritten, .ref knode, .int (nI knodes), .int (nI konesMany), .int (nI kwithin), .int (nI ktop)])), (know, .inl (ky 0, 373, .inl knowG_144)), (kpoured, .inl (ky 0, 36, .inl kpouredF)), (kline, .inl (ky 0, 160, .inl klineF))]) [2, 3, 0, 1] (by decide) rfl
      exact W.iret (v := nI 0) hx hb hr (fun t9 ht9 hW9 => ⟨⟨nI 0, (knowG_144, kpouredF), rfl, ⟨p145, p146, ab_poured⟩, by rw [ht9]; exact hP9, va_K.moved hW9.alike hK, hD9⟩, hS.F ht9⟩) hS.2.2 dX12_goBy_165
    · refine lv_bipush (v := nI 10) hx hb dX12_goBy_148 (by decide) ?_
      refine lv_iload_n hx hb dX12_goBy_150 rfl (lv_at hl 3 rfl) ?_
      refine lv_imul hx hb dX12_goBy_151 ?_
      refine r_ti (nI 40) (by decide) ?_
      refine lv_iload hx hb dX12_goBy_152 (lv_at hl 0 rfl) ?_
      refine lv_iadd hx hb dX12_goBy_154 ?_
      refine lv_topi (fun y147 e148 => ?_)
      rw [hQ]
      exact W.iret (v := y147) hx hb hr (fun t9 ht9 hW9 => ⟨⟨y147, (knowF, kpouredF), rfl, ⟨ab_now, sb_now, ab_poured⟩, by rw [ht9]; exact hP, va_K.moved hW9.alike hK, hD⟩, hS.F ht9⟩) hS.2.2 dX12_goBy_155
  · refine r_ti (nI 5) c9 ?_
    refine lv_istore_n (lv' := [(2, .int (nI 5)), (0, .ref o), (1, .int (nI aq))]) hx hb dX12_goBy_6 rfl hl (by decide) rfl (fun ls hl => ?_)
    refine lv_aload_n hx hb dX12_goBy_7 rfl (lv_at hl 1 rfl) ?_
    refine va_get (D := (dC, dI)) (ci := 12) (v := .ref kline) (C := RX12) (T := TX12) (N := 52) hx hb hts hin12 hown hK hP 0 rfl rfl 43 (by decide) (hts (.fieldLink RX12 163 "PorridgeSeaModel" "line" "[I") (List.mem_of_getElem? (i := 1) rfl)) (fun _ h9 => h9) rfl dX12_goBy_8 ?_
    refine lv_iload_n hx hb dX12_goBy_11 rfl (lv_at hl 2 rfl) ?_
    refine lv_iconst (v := nI 1) hx hb dX12_goBy_12 (by decide) ?_
    refine lv_iadd hx hb dX12_goBy_13 ?_
    refine r_ti (nI (aq + 1)) (nI_add _ _) ?_
    obtain ⟨y149, e150⟩ : ∃ z9, z9 = klineF (aq + 1) := ⟨_, rfl⟩
    refine r_iald hx hb hK hP 3 rfl (aq + 1) (lf_x_goBy_32 klineF aq y1 y149 ha hl0 hl1 hl2 hl3 e2 c9 e150) (by decide) y149 e150.symm dX12_goBy_14 ?_
    refine lv_istore_n (lv' := [(3, .int y149), (2, .int (nI 5)), (0, .ref o), (1, .int (nI aq))]) hx hb dX12_goBy_15 rfl hl (by decide) rfl (fun ls hl => ?_)
    refine lv_aload_n hx hb dX12_goBy_16 rfl (lv_at hl 2 rfl) ?_
    refine va_get (D := (dC, dI)) (ci := 12) (v := .ref kline) (C := RX12) (T := TX12) (N := 52) hx hb hts hin12 hown hK hP 0 rfl rfl 43 (by decide) (hts (.fieldLink RX12 163 "PorridgeSeaModel" "line" "[I") (List.mem_of_getElem? (i := 1) rfl)) (fun _ h9 => h9) rfl dX12_goBy_17 ?_
    refine lv_iload_n hx hb dX12_goBy_20 rfl (lv_at hl 3 rfl) ?_
    refine lv_iconst (v := nI 2) hx hb dX12_goBy_21 (by decide) ?_
    refine lv_iadd hx hb dX12_goBy_22 ?_
    refine r_ti (nI (aq + 2)) (nI_add _ _) ?_
    obtain ⟨y151, e152⟩ : ∃ z9, z9 = klineF (aq + 2) := ⟨_, rfl⟩
    refine r_iald hx hb hK hP 3 rfl (aq + 2) (lf_x_goBy_33 klineF aq y1 y149 y151 ha hl0 hl1 hl2 hl3 e2 c9 e150 e152) (by decide) y151 e152.symm dX12_goBy_23 ?_
    refine lv_istore (lv' := [(4, .int y151), (3, .int y149), (2, .int (nI 5)), (0, .ref o), (1, .int (nI aq))]) hx hb dX12_goBy_24 hl (by decide) rfl (fun ls hl => ?_)
    refine lv_iload_n hx hb dX12_goBy_26 rfl (lv_at hl 2 rfl) ?_
    refine lv_iconst (v := nI 5) hx hb dX12_goBy_27 (by decide) ?_
    refine lv_icmp_ne (tgt := 57) hx hb dX12_goBy_28 (by decide) (fun c153 => absurd c153 (by decide)) (fun c153 => ?_)
    refine lv_aload_n hx hb dX12_goBy_31 rfl (lv_at hl 3 rfl) ?_
    refine va_get (D := (dC, dI)) (ci := 12) (v := .ref know) (C := RX12) (T := TX12) (N := 52) hx hb hts hin12 hown hK hP 0 rfl rfl 14 (by decide) (hts (.fieldLink RX12 98 "PorridgeSeaModel" "now" "[I") (List.mem_of_getElem? (i := 2) rfl)) (fun _ h9 => h9) rfl dX12_goBy_32 ?_
    refine lv_bipush (v := nI 67) hx hb dX12_goBy_35 (by decide) ?_
    obtain ⟨y154, e155⟩ : ∃ z9, z9 = knowF 67 := ⟨_, rfl⟩
    refine r_iald hx hb hK hP 1 rfl 67 (by decide) (by decide) y154 e155.symm dX12_goBy_37 ?_
    refine lv_iload_n hx hb dX12_goBy_38 rfl (lv_at hl 1 rfl) ?_
    refine lv_iadd hx hb dX12_goBy_39 ?_
    refine lv_topi (fun y156 e157 => ?_)
    refine lv_sipush (v := nI 400) hx hb dX12_goBy_40 (by decide) ?_
    refine lv_icmp_le (tgt := 49) hx hb dX12_goBy_43 (by decide) (fun c158 => ?_) (fun c158 => ?_)
    · refine lv_aload_n hx hb dX12_goBy_49 rfl (lv_at hl 3 rfl) ?_
      refine lv_iload_n hx hb dX12_goBy_50 rfl (lv_at hl 1 rfl) ?_
      refine r_call_i (wr := [(kpoured, .inl (ky 0, 36, .inl kpouredF)), (kline, .inl (ky 0, 160, .inl klineF))]) (va_runV (As := [.int y149]) (rest := []) ⟨hx, hb, hml, hown, hts⟩ (c_x_passDays l dC dI ky s.heap.size o kthrown ktape ktaped ksize klimit kto kfrom kkind knumber ksign kfault kplace kword ktold know kread kkept ksnaps kaside kname kreadName kkeptName kisKept konces ksnapMany khasCells kpoured kfar ksides ksideMany kwayDays khasWay klines kmet kmetMany ksunk ktrying ksunkMany ksending kfleets ktext ktexts kseed kline kwritten klineMany khasWritten knode knodes konesMany kwithin ktop knowF y149 iv_ko_0 iv_ko_1 iv_ko_2 iv_ko_3 iv_ko_4 iv_ko_5 iv_ko_6 iv_ko_7 iv_ko_8 iv_ko_9 iv_ko_10 iv_ko_11 iv_ko_12 iv_ko_13 iv_ko_14 ab_now sb_now) (cwV 1 hts gX12_goBy_X12_passDays rfl rfl rfl (by decide +kernel) ⟨(Nat.le_of_ble_eq_true rfl), (Nat.le_of_ble_eq_true rfl)⟩) (pre_UV hK hP hD [0, 1] (by decide) rfl (ci := 12) (q0 := 0) rfl rfl) rfl rfl hl.1 rfl (lv_room (Nat.le_of_ble_eq_true rfl)) dX12_goBy_51 ⟨(Nat.le_of_ble_eq_true rfl), (Nat.le_of_ble_eq_true rfl)⟩) hP hD hS hA [0, 1] [2, 3] rfl rfl (by decide) (by decide) (fun r161 u159 H locs p160 hP hD hS => ?_)
      obtain ⟨knowG_162, rfl⟩ : ∃ z, z = u159 := ⟨_, rfl⟩
      try dsimp only at p160
      obtain ⟨p163, p164⟩ := p160
      refine W.widen (k := 0) (n := 0) (Nat.le_of_ble_eq_true rfl) (Nat.le_of_ble_eq_true rfl) ?_
      have hP : va_P (dC, dI) vwCl [(kpoured, .inl (ky 0, 36, .inl kpouredF)), (kline, .inl (ky 0, 160, .inl klineF)), (o, .inr (12, [.int kthrown, .ref ktape, .int (nI ktaped), .int (nI ksize), .int (nI klimit), .int (nI kto), .int (nI kfrom), .int kkind, .int knumber, .int ksign, .int kfault, .int kplace, .long kword, .int ktold, .ref know, .ref kread, .ref kkept, .ref ksnaps, .ref kaside, .ref kname, .ref kreadName, .ref kkeptName, .ref kisKept, .ref konces, .int (nI ksnapMany), .int khasCells, .ref kpoured, .ref kfar, .ref ksides, .int (nI ksideMany), .int kwayDays, .int khasWay, .ref klines, .ref kmet, .int (nI kmetMany), .ref ksunk, .ref ktrying, .int (nI ksunkMany), .int ksending, .int kfleets, .ref ktext, .int (nI ktexts), .int kseed, .ref kline, .ref kwritten, .int (nI klineMany), .int khasWritten, .ref knode, .int (nI knodes), .int (nI konesMany), .int (nI kwithin), .int (nI ktop)])), (know, .inl (ky 0, 373, .inl knowG_162))] H := hP
      have hD : va_D A [(kpoured, .inl (ky 0, 36, .inl kpouredF)), (kline, .inl (ky 0, 160, .inl klineF)), (o, .inr (12, [.int kthrown, .ref ktape, .int (nI ktaped), .int (nI ksize), .int (nI klimit), .int (nI kto), .int (nI kfrom), .int kkind, .int knumber, .int ksign, .int kfault, .int kplace, .long kword, .int ktold, .ref know, .ref kread, .ref kkept, .ref ksnaps, .ref kaside, .ref kname, .ref kreadName, .ref kkeptName, .ref kisKept, .ref konces, .int (nI ksnapMany), .int khasCells, .ref kpoured, .ref kfar, .ref ksides, .int (nI ksideMany), .int kwayDays, .int khasWay, .ref klines, .ref kmet, .int (nI kmetMany), .ref ksunk, .ref ktrying, .int (nI ksunkMany), .int ksending, .int kfleets, .ref ktext, .int (nI ktexts), .int kseed, .ref kline, .ref kwritten, .int (nI klineMany), .int khasWritten, .ref knode, .int (nI knodes), .int (nI konesMany), .int (nI kwithin), .int (nI ktop)])), (know, .inl (ky 0, 373, .inl knowG_162))] := hD
      refine lv_pop hx hb dX12_goBy_54 rfl ?_
      refine lv_iconst (v := nI 0) hx hb dX12_goBy_55 (by decide) ?_
      rw [hQ]
      have hP9 := hP.sub (ws' := [(o, .inr (12, [.int kthrown, .ref ktape, .int (nI ktaped), .int (nI ksize), .int (nI klimit), .int (nI kto), .int (nI kfrom), .int kkind, .int knumber, .int ksign, .int kfault, .int kplace, .long kword, .int ktold, .ref know, .ref kread, .ref kkept, .ref ksnaps, .ref kaside, .ref kname, .ref kreadName, .ref kkeptName, .ref kisKept, .ref konces, .int (nI ksnapMany), .int khasCells, .ref kpoured, .ref kfar, .ref ksides, .int (nI ksideMany), .int kwayDays, .int khasWay, .ref klines, .ref kmet, .int (nI kmetMany), .ref ksunk, .ref ktrying, .int (nI ksunkMany), .int ksending, .int kfleets, .ref ktext, .int (nI ktexts), .int kseed, .ref kline, .ref kwritten, .int (nI klineMany), .int khasWritten, .ref knode, .int (nI knodes), .int (nI konesMany), .int (nI kwithin), .int (nI ktop)])), (know, .inl (ky 0, 373, .inl knowG_162)), (kpoured, .inl (ky 0, 36, .inl kpouredF)), (kline, .inl (ky 0, 160, .inl klineF))]) [2, 3, 0, 1] rfl
      have hD9 := hD.sub (ws' := [(o, .inr (12, [.int kthrown, .ref ktape, .int (nI ktaped), .int (nI ksize), .int (nI klimit), .int (nI kto), .int (nI kfrom), .int kkind, .int knumber, .int ksign, .int kfault, .int kplace, .long kword, .int ktold, .ref know, .ref kread, .ref kkept, .ref ksnaps, .ref kaside, .ref kname, .ref kreadName, .ref kkeptName, .ref kisKept, .ref konces, .int (nI ksnapMany), .int khasCells, .ref kpoured, .ref kfar, .ref ksides, .int (nI ksideMany), .int kwayDays, .int khasWay, .ref klines, .ref kmet, .int (nI kmetMany), .ref ksunk, .ref ktrying, .int (nI ksunkMany), .int ksending, .int kfleets, .ref ktext, .int (nI ktexts), .int kseed, .ref kline, .ref kwritten, .int (nI klineMany), .int khasWritten, .ref knode, .int (nI knodes), .int (nI konesMany), .int (nI kwithin), .int (nI ktop)])), (know, .inl (ky 0, 373, .inl knowG_162)), (kpoured, .inl (ky 0, 36, .inl kpouredF)), (kline, .inl (ky 0, 160, .inl klineF))]) [2, 3, 0, 1] (by decide) rfl
      exact W.iret (v := nI 0) hx hb hr (fun t9 ht9 hW9 => ⟨⟨nI 0, (knowG_162, kpouredF), rfl, ⟨p163, p164, ab_poured⟩, by rw [ht9]; exact hP9, va_K.moved hW9.alike hK, hD9⟩, hS.F ht9⟩) hS.2.2 dX12_goBy_56
    · refine lv_bipush (v := nI 51) hx hb dX12_goBy_46 (by decide) ?_
      rw [hQ]
      exact W.iret (v := nI 51) hx hb hr (fun t9 ht9 hW9 => ⟨⟨nI 51, (knowF, kpouredF), rfl, ⟨ab_now, sb_now, ab_poured⟩, by rw [ht9]; exact hP, va_K.moved hW9.alike hK, hD⟩, hS.F ht9⟩) hS.2.2 dX12_goBy_48
