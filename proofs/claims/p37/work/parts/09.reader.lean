theorem dX5_isLetter_0 : decode cX5_isLetter 0 = .ok (.iload_n 0, 1) := by decide +kernel
theorem dX5_isLetter_1 : decode cX5_isLetter 1 = .ok (.bipush 97, 2) := by decide +kernel
theorem dX5_isLetter_3 : decode cX5_isLetter 3 = .ok (.if_icmp .lt 13, 3) := by decide +kernel
theorem dX5_isLetter_16 : decode cX5_isLetter 16 = .ok (.iconst 0, 1) := by decide +kernel
theorem dX5_isLetter_17 : decode cX5_isLetter 17 = .ok (.ireturn, 1) := by decide +kernel
theorem dX5_isLetter_6 : decode cX5_isLetter 6 = .ok (.iload_n 0, 1) := by decide +kernel
theorem dX5_isLetter_7 : decode cX5_isLetter 7 = .ok (.bipush 122, 2) := by decide +kernel
theorem dX5_isLetter_9 : decode cX5_isLetter 9 = .ok (.if_icmp .gt 7, 3) := by decide +kernel
theorem dX5_isLetter_12 : decode cX5_isLetter 12 = .ok (.iconst 1, 1) := by decide +kernel
theorem dX5_isLetter_13 : decode cX5_isLetter 13 = .ok (.goto 4, 3) := by decide +kernel
theorem dX5_isDigit_0 : decode cX5_isDigit 0 = .ok (.iload_n 0, 1) := by decide +kernel
theorem dX5_isDigit_1 : decode cX5_isDigit 1 = .ok (.bipush 48, 2) := by decide +kernel
theorem dX5_isDigit_3 : decode cX5_isDigit 3 = .ok (.if_icmp .lt 13, 3) := by decide +kernel
theorem dX5_isDigit_16 : decode cX5_isDigit 16 = .ok (.iconst 0, 1) := by decide +kernel
theorem dX5_isDigit_17 : decode cX5_isDigit 17 = .ok (.ireturn, 1) := by decide +kernel
theorem dX5_isDigit_6 : decode cX5_isDigit 6 = .ok (.iload_n 0, 1) := by decide +kernel
theorem dX5_isDigit_7 : decode cX5_isDigit 7 = .ok (.bipush 57, 2) := by decide +kernel
theorem dX5_isDigit_9 : decode cX5_isDigit 9 = .ok (.if_icmp .gt 7, 3) := by decide +kernel
theorem dX5_isDigit_12 : decode cX5_isDigit 12 = .ok (.iconst 1, 1) := by decide +kernel
theorem dX5_isDigit_13 : decode cX5_isDigit 13 = .ok (.goto 4, 3) := by decide +kernel
theorem dX5_nextWord_0 : decode cX5_nextWord 0 = .ok (.aload_n 0, 1) := by decide +kernel
theorem dX5_nextWord_1 : decode cX5_nextWord 1 = .ok (.getfield 43, 3) := by decide +kernel
theorem dX5_nextWord_4 : decode cX5_nextWord 4 = .ok (.ireturn, 1) := by decide +kernel
theorem dX5_refuseAt_0 : decode cX5_refuseAt 0 = .ok (.aload_n 0, 1) := by decide +kernel
theorem dX5_refuseAt_1 : decode cX5_refuseAt 1 = .ok (.iload_n 1, 1) := by decide +kernel
theorem dX5_refuseAt_2 : decode cX5_refuseAt 2 = .ok (.putfield 31, 3) := by decide +kernel
theorem dX5_refuseAt_5 : decode cX5_refuseAt 5 = .ok (.aload_n 0, 1) := by decide +kernel
theorem dX5_refuseAt_6 : decode cX5_refuseAt 6 = .ok (.iload_n 2, 1) := by decide +kernel
theorem dX5_refuseAt_7 : decode cX5_refuseAt 7 = .ok (.putfield 34, 3) := by decide +kernel
theorem dX5_refuseAt_10 : decode cX5_refuseAt 10 = .ok (.iconst 0, 1) := by decide +kernel
theorem dX5_refuseAt_11 : decode cX5_refuseAt 11 = .ok (.ireturn, 1) := by decide +kernel
theorem dX5_refuse_0 : decode cX5_refuse 0 = .ok (.aload_n 0, 1) := by decide +kernel
theorem dX5_refuse_1 : decode cX5_refuse 1 = .ok (.iload_n 1, 1) := by decide +kernel
theorem dX5_refuse_2 : decode cX5_refuse 2 = .ok (.aload_n 0, 1) := by decide +kernel
theorem dX5_refuse_3 : decode cX5_refuse 3 = .ok (.getfield 40, 3) := by decide +kernel
theorem dX5_refuse_6 : decode cX5_refuse 6 = .ok (.invokevirtual 88, 3) := by decide +kernel
theorem dX5_refuse_9 : decode cX5_refuse 9 = .ok (.ireturn, 1) := by decide +kernel
theorem dX5_readSign_0 : decode cX5_readSign 0 = .ok (.aload_n 0, 1) := by decide +kernel
theorem dX5_readSign_1 : decode cX5_readSign 1 = .ok (.getfield 9, 3) := by decide +kernel
theorem dX5_readSign_4 : decode cX5_readSign 4 = .ok (.aload_n 0, 1) := by decide +kernel
theorem dX5_readSign_5 : decode cX5_readSign 5 = .ok (.getfield 28, 3) := by decide +kernel
theorem dX5_readSign_8 : decode cX5_readSign 8 = .ok (.baload, 1) := by decide +kernel
theorem dX5_readSign_9 : decode cX5_readSign 9 = .ok (.istore_n 1, 1) := by decide +kernel
theorem dX5_readSign_10 : decode cX5_readSign 10 = .ok (.iload_n 1, 1) := by decide +kernel
theorem dX5_readSign_11 : decode cX5_readSign 11 = .ok (.bipush 59, 2) := by decide +kernel
theorem dX5_readSign_13 : decode cX5_readSign 13 = .ok (.if_icmp .eq 33, 3) := by decide +kernel
theorem dX5_readSign_46 : decode cX5_readSign 46 = .ok (.iconst 1, 1) := by decide +kernel
theorem dX5_readSign_47 : decode cX5_readSign 47 = .ok (.goto 4, 3) := by decide +kernel
theorem dX5_readSign_16 : decode cX5_readSign 16 = .ok (.iload_n 1, 1) := by decide +kernel
theorem dX5_readSign_17 : decode cX5_readSign 17 = .ok (.bipush 60, 2) := by decide +kernel
theorem dX5_readSign_19 : decode cX5_readSign 19 = .ok (.if_icmp .eq 27, 3) := by decide +kernel
theorem dX5_readSign_22 : decode cX5_readSign 22 = .ok (.iload_n 1, 1) := by decide +kernel
theorem dX5_readSign_23 : decode cX5_readSign 23 = .ok (.bipush 61, 2) := by decide +kernel
theorem dX5_readSign_25 : decode cX5_readSign 25 = .ok (.if_icmp .eq 21, 3) := by decide +kernel
theorem dX5_readSign_28 : decode cX5_readSign 28 = .ok (.iload_n 1, 1) := by decide +kernel
theorem dX5_readSign_29 : decode cX5_readSign 29 = .ok (.bipush 62, 2) := by decide +kernel
theorem dX5_readSign_31 : decode cX5_readSign 31 = .ok (.if_icmp .eq 15, 3) := by decide +kernel
theorem dX5_readSign_34 : decode cX5_readSign 34 = .ok (.iload_n 1, 1) := by decide +kernel
theorem dX5_readSign_35 : decode cX5_readSign 35 = .ok (.bipush 40, 2) := by decide +kernel
theorem dX5_readSign_37 : decode cX5_readSign 37 = .ok (.if_icmp .eq 9, 3) := by decide +kernel
theorem dX5_readSign_40 : decode cX5_readSign 40 = .ok (.iload_n 1, 1) := by decide +kernel
theorem dX5_readSign_41 : decode cX5_readSign 41 = .ok (.bipush 41, 2) := by decide +kernel
theorem dX5_readSign_43 : decode cX5_readSign 43 = .ok (.if_icmp .ne 7, 3) := by decide +kernel
theorem dX5_readSign_50 : decode cX5_readSign 50 = .ok (.iconst 0, 1) := by decide +kernel
theorem dX5_readSign_51 : decode cX5_readSign 51 = .ok (.istore_n 2, 1) := by decide +kernel
theorem dX5_readSign_52 : decode cX5_readSign 52 = .ok (.aload_n 0, 1) := by decide +kernel
theorem dX5_readSign_53 : decode cX5_readSign 53 = .ok (.iload_n 2, 1) := by decide +kernel
theorem dX5_readSign_54 : decode cX5_readSign 54 = .ok (.ifCond .eq 7, 3) := by decide +kernel
theorem dX5_readSign_61 : decode cX5_readSign 61 = .ok (.iconst 1, 1) := by decide +kernel
theorem dX5_readSign_62 : decode cX5_readSign 62 = .ok (.putfield 46, 3) := by decide +kernel
theorem dX5_readSign_65 : decode cX5_readSign 65 = .ok (.aload_n 0, 1) := by decide +kernel
theorem dX5_readSign_66 : decode cX5_readSign 66 = .ok (.dup, 1) := by decide +kernel
theorem dX5_readSign_67 : decode cX5_readSign 67 = .ok (.getfield 28, 3) := by decide +kernel
theorem dX5_readSign_70 : decode cX5_readSign 70 = .ok (.iconst 1, 1) := by decide +kernel
theorem dX5_readSign_71 : decode cX5_readSign 71 = .ok (.iadd, 1) := by decide +kernel
theorem dX5_readSign_72 : decode cX5_readSign 72 = .ok (.putfield 28, 3) := by decide +kernel
theorem dX5_readSign_75 : decode cX5_readSign 75 = .ok (.return_, 1) := by decide +kernel
theorem dX5_readSign_57 : decode cX5_readSign 57 = .ok (.iload_n 1, 1) := by decide +kernel
theorem dX5_readSign_58 : decode cX5_readSign 58 = .ok (.goto 4, 3) := by decide +kernel
theorem dX5_readRun_0 : decode cX5_readRun 0 = .ok (.iconst 0, 1) := by decide +kernel
theorem dX5_readRun_1 : decode cX5_readRun 1 = .ok (.istore_n 1, 1) := by decide +kernel
theorem dX5_readRun_2 : decode cX5_readRun 2 = .ok (.aload_n 0, 1) := by decide +kernel
theorem dX5_readRun_3 : decode cX5_readRun 3 = .ok (.lconst 0, 1) := by decide +kernel
theorem dX5_readRun_4 : decode cX5_readRun 4 = .ok (.putfield 72, 3) := by decide +kernel
theorem dX5_readRun_7 : decode cX5_readRun 7 = .ok (.aload_n 0, 1) := by decide +kernel
theorem dX5_readRun_8 : decode cX5_readRun 8 = .ok (.iconst 0, 1) := by decide +kernel
theorem dX5_readRun_9 : decode cX5_readRun 9 = .ok (.putfield 76, 3) := by decide +kernel
theorem dX5_readRun_12 : decode cX5_readRun 12 = .ok (.aload_n 0, 1) := by decide +kernel
theorem dX5_readRun_13 : decode cX5_readRun 13 = .ok (.getfield 28, 3) := by decide +kernel
theorem dX5_readRun_16 : decode cX5_readRun 16 = .ok (.aload_n 0, 1) := by decide +kernel
theorem dX5_readRun_17 : decode cX5_readRun 17 = .ok (.getfield 21, 3) := by decide +kernel
theorem dX5_readRun_20 : decode cX5_readRun 20 = .ok (.if_icmp .ge 113, 3) := by decide +kernel
theorem dX5_readRun_23 : decode cX5_readRun 23 = .ok (.aload_n 0, 1) := by decide +kernel
theorem dX5_readRun_24 : decode cX5_readRun 24 = .ok (.getfield 9, 3) := by decide +kernel
theorem dX5_readRun_27 : decode cX5_readRun 27 = .ok (.aload_n 0, 1) := by decide +kernel
theorem dX5_readRun_28 : decode cX5_readRun 28 = .ok (.getfield 28, 3) := by decide +kernel
theorem dX5_readRun_31 : decode cX5_readRun 31 = .ok (.baload, 1) := by decide +kernel
theorem dX5_readRun_32 : decode cX5_readRun 32 = .ok (.invokestatic 49, 3) := by decide +kernel
theorem dX5_readRun_35 : decode cX5_readRun 35 = .ok (.ifCond .ne 18, 3) := by decide +kernel
theorem dX5_readRun_53 : decode cX5_readRun 53 = .ok (.aload_n 0, 1) := by decide +kernel
theorem dX5_readRun_54 : decode cX5_readRun 54 = .ok (.getfield 9, 3) := by decide +kernel
theorem dX5_readRun_57 : decode cX5_readRun 57 = .ok (.aload_n 0, 1) := by decide +kernel
theorem dX5_readRun_58 : decode cX5_readRun 58 = .ok (.getfield 28, 3) := by decide +kernel
theorem dX5_readRun_61 : decode cX5_readRun 61 = .ok (.baload, 1) := by decide +kernel
theorem dX5_readRun_62 : decode cX5_readRun 62 = .ok (.invokestatic 53, 3) := by decide +kernel
theorem dX5_readRun_65 : decode cX5_readRun 65 = .ok (.ifCond .eq 33, 3) := by decide +kernel
theorem dX5_readRun_98 : decode cX5_readRun 98 = .ok (.aload_n 0, 1) := by decide +kernel
theorem dX5_readRun_99 : decode cX5_readRun 99 = .ok (.aload_n 0, 1) := by decide +kernel
theorem dX5_readRun_100 : decode cX5_readRun 100 = .ok (.getfield 72, 3) := by decide +kernel
theorem dX5_readRun_103 : decode cX5_readRun 103 = .ok (.bipush 8, 2) := by decide +kernel
theorem dX5_readRun_105 : decode cX5_readRun 105 = .ok (.lshl, 1) := by decide +kernel
theorem dX5_readRun_106 : decode cX5_readRun 106 = .ok (.aload_n 0, 1) := by decide +kernel
theorem dX5_readRun_107 : decode cX5_readRun 107 = .ok (.getfield 9, 3) := by decide +kernel
theorem dX5_readRun_110 : decode cX5_readRun 110 = .ok (.aload_n 0, 1) := by decide +kernel
theorem dX5_readRun_111 : decode cX5_readRun 111 = .ok (.getfield 28, 3) := by decide +kernel
theorem dX5_readRun_114 : decode cX5_readRun 114 = .ok (.baload, 1) := by decide +kernel
theorem dX5_readRun_115 : decode cX5_readRun 115 = .ok (.i2l, 1) := by decide +kernel
theorem dX5_readRun_116 : decode cX5_readRun 116 = .ok (.lor, 1) := by decide +kernel
theorem dX5_readRun_117 : decode cX5_readRun 117 = .ok (.putfield 72, 3) := by decide +kernel
theorem dX5_readRun_120 : decode cX5_readRun 120 = .ok (.aload_n 0, 1) := by decide +kernel
theorem dX5_readRun_121 : decode cX5_readRun 121 = .ok (.dup, 1) := by decide +kernel
theorem dX5_readRun_122 : decode cX5_readRun 122 = .ok (.getfield 28, 3) := by decide +kernel
theorem dX5_readRun_125 : decode cX5_readRun 125 = .ok (.iconst 1, 1) := by decide +kernel
theorem dX5_readRun_126 : decode cX5_readRun 126 = .ok (.iadd, 1) := by decide +kernel
theorem dX5_readRun_127 : decode cX5_readRun 127 = .ok (.putfield 28, 3) := by decide +kernel
theorem dX5_readRun_130 : decode cX5_readRun 130 = .ok (.goto (-118), 3) := by decide +kernel
theorem dX5_readRun_68 : decode cX5_readRun 68 = .ok (.iinc 1 1, 3) := by decide +kernel
theorem dX5_readRun_71 : decode cX5_readRun 71 = .ok (.aload_n 0, 1) := by decide +kernel
theorem dX5_readRun_72 : decode cX5_readRun 72 = .ok (.bipush 10, 2) := by decide +kernel
theorem dX5_readRun_74 : decode cX5_readRun 74 = .ok (.aload_n 0, 1) := by decide +kernel
theorem dX5_readRun_75 : decode cX5_readRun 75 = .ok (.getfield 76, 3) := by decide +kernel
theorem dX5_readRun_78 : decode cX5_readRun 78 = .ok (.imul, 1) := by decide +kernel
theorem dX5_readRun_79 : decode cX5_readRun 79 = .ok (.aload_n 0, 1) := by decide +kernel
theorem dX5_readRun_80 : decode cX5_readRun 80 = .ok (.getfield 9, 3) := by decide +kernel
theorem dX5_readRun_83 : decode cX5_readRun 83 = .ok (.aload_n 0, 1) := by decide +kernel
theorem dX5_readRun_84 : decode cX5_readRun 84 = .ok (.getfield 28, 3) := by decide +kernel
theorem dX5_readRun_87 : decode cX5_readRun 87 = .ok (.baload, 1) := by decide +kernel
theorem dX5_readRun_88 : decode cX5_readRun 88 = .ok (.iadd, 1) := by decide +kernel
theorem dX5_readRun_89 : decode cX5_readRun 89 = .ok (.bipush 48, 2) := by decide +kernel
theorem dX5_readRun_91 : decode cX5_readRun 91 = .ok (.isub, 1) := by decide +kernel
theorem dX5_readRun_92 : decode cX5_readRun 92 = .ok (.putfield 76, 3) := by decide +kernel
theorem dX5_readRun_95 : decode cX5_readRun 95 = .ok (.goto 25, 3) := by decide +kernel
theorem dX5_readRun_38 : decode cX5_readRun 38 = .ok (.aload_n 0, 1) := by decide +kernel
theorem dX5_readRun_39 : decode cX5_readRun 39 = .ok (.getfield 9, 3) := by decide +kernel
theorem dX5_readRun_42 : decode cX5_readRun 42 = .ok (.aload_n 0, 1) := by decide +kernel
theorem dX5_readRun_43 : decode cX5_readRun 43 = .ok (.getfield 28, 3) := by decide +kernel
theorem dX5_readRun_46 : decode cX5_readRun 46 = .ok (.baload, 1) := by decide +kernel
theorem dX5_readRun_47 : decode cX5_readRun 47 = .ok (.invokestatic 53, 3) := by decide +kernel
theorem dX5_readRun_50 : decode cX5_readRun 50 = .ok (.ifCond .eq 83, 3) := by decide +kernel
theorem dX5_readRun_133 : decode cX5_readRun 133 = .ok (.aload_n 0, 1) := by decide +kernel
theorem dX5_readRun_134 : decode cX5_readRun 134 = .ok (.getfield 28, 3) := by decide +kernel
theorem dX5_readRun_137 : decode cX5_readRun 137 = .ok (.aload_n 0, 1) := by decide +kernel
theorem dX5_readRun_138 : decode cX5_readRun 138 = .ok (.getfield 40, 3) := by decide +kernel
theorem dX5_readRun_141 : decode cX5_readRun 141 = .ok (.isub, 1) := by decide +kernel
theorem dX5_readRun_142 : decode cX5_readRun 142 = .ok (.istore_n 2, 1) := by decide +kernel
theorem dX5_readRun_143 : decode cX5_readRun 143 = .ok (.iload_n 1, 1) := by decide +kernel
theorem dX5_readRun_144 : decode cX5_readRun 144 = .ok (.ifCond .ne 17, 3) := by decide +kernel
theorem dX5_readRun_147 : decode cX5_readRun 147 = .ok (.iload_n 2, 1) := by decide +kernel
theorem dX5_readRun_148 : decode cX5_readRun 148 = .ok (.bipush 7, 2) := by decide +kernel
theorem dX5_readRun_150 : decode cX5_readRun 150 = .ok (.if_icmp .gt 11, 3) := by decide +kernel
theorem dX5_readRun_161 : decode cX5_readRun 161 = .ok (.aload_n 0, 1) := by decide +kernel
theorem dX5_readRun_162 : decode cX5_readRun 162 = .ok (.iload_n 1, 1) := by decide +kernel
theorem dX5_readRun_163 : decode cX5_readRun 163 = .ok (.iload_n 2, 1) := by decide +kernel
theorem dX5_readRun_164 : decode cX5_readRun 164 = .ok (.if_icmp .ne 12, 3) := by decide +kernel
theorem dX5_readRun_176 : decode cX5_readRun 176 = .ok (.iconst 1, 1) := by decide +kernel
theorem dX5_readRun_177 : decode cX5_readRun 177 = .ok (.putfield 46, 3) := by decide +kernel
theorem dX5_readRun_180 : decode cX5_readRun 180 = .ok (.return_, 1) := by decide +kernel
theorem dX5_readRun_167 : decode cX5_readRun 167 = .ok (.iload_n 2, 1) := by decide +kernel
theorem dX5_readRun_168 : decode cX5_readRun 168 = .ok (.iconst 3, 1) := by decide +kernel
theorem dX5_readRun_169 : decode cX5_readRun 169 = .ok (.if_icmp .gt 7, 3) := by decide +kernel
theorem dX5_readRun_172 : decode cX5_readRun 172 = .ok (.iconst 3, 1) := by decide +kernel
theorem dX5_readRun_173 : decode cX5_readRun 173 = .ok (.goto 4, 3) := by decide +kernel
theorem dX5_readRun_153 : decode cX5_readRun 153 = .ok (.aload_n 0, 1) := by decide +kernel
theorem dX5_readRun_154 : decode cX5_readRun 154 = .ok (.iconst 2, 1) := by decide +kernel
theorem dX5_readRun_155 : decode cX5_readRun 155 = .ok (.putfield 46, 3) := by decide +kernel
theorem dX5_readRun_158 : decode cX5_readRun 158 = .ok (.goto 22, 3) := by decide +kernel
set_option maxRecDepth 100000 in
theorem ggX5_refuse_X5_refuseAt : GoodIn wsX5_refuse wsX5_refuseAt := goodIn_r _ [6, 7, 8, 9, 10, 11, 12, 13, 14, 15, 16, 17, 18, 19] rfl (by decide +kernel)
set_option maxRecDepth 100000 in
theorem ggX5_readRun_X5_isLetter : GoodIn wsX5_readRun wsX5_isLetter := goodIn_r _ [11] rfl (by decide +kernel)
set_option maxRecDepth 100000 in
theorem ggX5_readRun_X5_isDigit : GoodIn wsX5_readRun wsX5_isDigit := goodIn_r _ [14] rfl (by decide +kernel)
set_option maxRecDepth 100000 in
theorem gX5_refuse_X5_refuseAt : GoodIn wsX5_refuse (wsV RX5 88 RX5 yX5_refuseAt wsX5_refuseAt) := goodIn_app (goodIn_of _ (by decide +kernel)) ggX5_refuse_X5_refuseAt
set_option maxRecDepth 100000 in
theorem gX5_readRun_X5_isLetter : GoodIn wsX5_readRun (va_wsS RX5 49 yX5_isLetter wsX5_isLetter) := goodIn_app (goodIn_of _ (by decide +kernel)) ggX5_readRun_X5_isLetter
set_option maxRecDepth 100000 in
theorem gX5_readRun_X5_isDigit : GoodIn wsX5_readRun (va_wsS RX5 53 yX5_isDigit wsX5_isDigit) := goodIn_app (goodIn_of _ (by decide +kernel)) ggX5_readRun_X5_isDigit
set_option maxRecDepth 20000 in
theorem lf_r_isLetter_1   : (nI 0) = nI 0 ∨ (nI 0) = nI 1 := by
  try have k_0 := ia_n 0 (by first | decide | omega)
  try have k_1 := ia_n 1 (by first | decide | omega)
  try simp only [ia_lt, ia_le, ia_eq, ia_m1, ia_0, ia_1, ne_eq, true_and, and_true, false_and, and_false, or_false, false_or, or_true, true_or, not_true_eq_false, not_false_eq_true] at *
  all_goals omega
set_option maxRecDepth 20000 in
theorem lf_r_isLetter_2   : (nI 0) = nI 0 ∨ (nI 0) = nI 1 := by
  try have k_0 := ia_n 0 (by first | decide | omega)
  try have k_1 := ia_n 1 (by first | decide | omega)
  try simp only [ia_lt, ia_le, ia_eq, ia_m1, ia_0, ia_1, ne_eq, true_and, and_true, false_and, and_false, or_false, false_or, or_true, true_or, not_true_eq_false, not_false_eq_true] at *
  all_goals omega
set_option maxRecDepth 20000 in
theorem lf_r_isLetter_3   : (nI 1) = nI 0 ∨ (nI 1) = nI 1 := by
  try have k_0 := ia_n 1 (by first | decide | omega)
  try have k_1 := ia_n 0 (by first | decide | omega)
  try simp only [ia_lt, ia_le, ia_eq, ia_m1, ia_0, ia_1, ne_eq, true_and, and_true, false_and, and_false, or_false, false_or, or_true, true_or, not_true_eq_false, not_false_eq_true] at *
  all_goals omega
set_option maxHeartbeats 4000000 in
set_option maxRecDepth 100000 in
theorem c_r_isLetter (l : Launch) (dC : Nat → ClassId) (dI : Nat → Nat → Nat) (ky : Nat → ClassId) (x : Int32)  : Met l yX5_isLetter wsX5_isLetter ({ frames := 0, cells := 0, slots := 0, locals := 0 }) (PcP dC dI ky [.int x] []) (vp_Si (fun r : Int32 => r = nI 0 ∨ r = nI 1)) 0 0 (fun _ => False) := by
  refine Met.ofW (cc := cX5_isLetter) (maxL := 1) (ret := (some .boolean)) (by decide) rfl ?_
  intro p e s m args below meth c s₁ B hml hv
  obtain ⟨rfl, hP, hK⟩ := hv
  have hx := B.exec
  have hb := B.bytes
  have hr := B.returns
  have hts := atoms_spec (ws := wsX5_isLetter) B.pre
  have hown : s.vm.findClass RX5 = some m.cls := findClass_of_methodNamed B.named
  have hlocks := B.notSynchronized
  have hl := lv_entry ([.int x]) (n := 1) (Nat.le_of_ble_eq_true rfl)
  rw [lg_entry_eq]
  generalize (lg_sl ([.int x]) ++ List.replicate (1 - (lg_sl ([.int x])).length) Slot.unset).toArray = ls at hl ⊢
  have hl : lv_has ls 1 [(0, .int x)] := hl
  refine q_name (fun Q hQ => ?_)
  generalize ([.int x] : List Value).toArray = args at hts hQ ⊢
  refine lv_iload_n hx hb dX5_isLetter_0 rfl (lv_at hl 0 rfl) ?_
  refine lv_bipush (v := nI 97) hx hb dX5_isLetter_1 (by decide) ?_
  refine lv_icmp_lt (tgt := 16) hx hb dX5_isLetter_3 (by decide) (fun c1 => ?_) (fun c1 => ?_)
  · refine lv_iconst (v := nI 0) hx hb dX5_isLetter_16 (by decide) ?_
    rw [hQ]
    exact W.zret (v := nI 0) hx hb hr (by decide) (fun t9 ht9 hW9 => ⟨nI 0, rfl, (lf_r_isLetter_1), ht9⟩) (fun _ h => absurd h List.not_mem_nil) dX5_isLetter_17
  · refine lv_iload_n hx hb dX5_isLetter_6 rfl (lv_at hl 0 rfl) ?_
    refine lv_bipush (v := nI 122) hx hb dX5_isLetter_7 (by decide) ?_
    refine lv_icmp_gt (tgt := 16) hx hb dX5_isLetter_9 (by decide) (fun c2 => ?_) (fun c2 => ?_)
    · refine lv_iconst (v := nI 0) hx hb dX5_isLetter_16 (by decide) ?_
      rw [hQ]
      exact W.zret (v := nI 0) hx hb hr (by decide) (fun t9 ht9 hW9 => ⟨nI 0, rfl, (lf_r_isLetter_2), ht9⟩) (fun _ h => absurd h List.not_mem_nil) dX5_isLetter_17
    · refine lv_iconst (v := nI 1) hx hb dX5_isLetter_12 (by decide) ?_
      refine lv_goto (tgt := 17) hx hb dX5_isLetter_13 (by decide) ?_
      rw [hQ]
      exact W.zret (v := nI 1) hx hb hr (by decide) (fun t9 ht9 hW9 => ⟨nI 1, rfl, (lf_r_isLetter_3), ht9⟩) (fun _ h => absurd h List.not_mem_nil) dX5_isLetter_17
set_option maxRecDepth 20000 in
theorem lf_r_isDigit_1   : (nI 0) = nI 0 ∨ (nI 0) = nI 1 := by
  try have k_0 := ia_n 0 (by first | decide | omega)
  try have k_1 := ia_n 1 (by first | decide | omega)
  try simp only [ia_lt, ia_le, ia_eq, ia_m1, ia_0, ia_1, ne_eq, true_and, and_true, false_and, and_false, or_false, false_or, or_true, true_or, not_true_eq_false, not_false_eq_true] at *
  all_goals omega
set_option maxRecDepth 20000 in
theorem lf_r_isDigit_2   : (nI 0) = nI 0 ∨ (nI 0) = nI 1 := by
  try have k_0 := ia_n 0 (by first | decide | omega)
  try have k_1 := ia_n 1 (by first | decide | omega)
  try simp only [ia_lt, ia_le, ia_eq, ia_m1, ia_0, ia_1, ne_eq, true_and, and_true, false_and, and_false, or_false, false_or, or_true, true_or, not_true_eq_false, not_false_eq_true] at *
  all_goals omega
set_option maxRecDepth 20000 in
theorem lf_r_isDigit_3   : (nI 1) = nI 0 ∨ (nI 1) = nI 1 := by
  try have k_0 := ia_n 1 (by first | decide | omega)
  try have k_1 := ia_n 0 (by first | decide | omega)
  try simp only [ia_lt, ia_le, ia_eq, ia_m1, ia_0, ia_1, ne_eq, true_and, and_true, false_and, and_false, or_false, false_or, or_true, true_or, not_true_eq_false, not_false_eq_true] at *
  all_goals omega
set_option maxHeartbeats 4000000 in
set_option maxRecDepth 100000 in
theorem c_r_isDigit (l : Launch) (dC : Nat → ClassId) (dI : Nat → Nat → Nat) (ky : Nat → ClassId) (x : Int32)  : Met l yX5_isDigit wsX5_isDigit ({ frames := 0, cells := 0, slots := 0, locals := 0 }) (PcP dC dI ky [.int x] []) (vp_Si (fun r : Int32 => r = nI 0 ∨ r = nI 1)) 0 0 (fun _ => False) := by
  refine Met.ofW (cc := cX5_isDigit) (maxL := 1) (ret := (some .boolean)) (by decide) rfl ?_
  intro p e s m args below meth c s₁ B hml hv
  obtain ⟨rfl, hP, hK⟩ := hv
  have hx := B.exec
  have hb := B.bytes
  have hr := B.returns
  have hts := atoms_spec (ws := wsX5_isDigit) B.pre
  have hown : s.vm.findClass RX5 = some m.cls := findClass_of_methodNamed B.named
  have hlocks := B.notSynchronized
  have hl := lv_entry ([.int x]) (n := 1) (Nat.le_of_ble_eq_true rfl)
  rw [lg_entry_eq]
  generalize (lg_sl ([.int x]) ++ List.replicate (1 - (lg_sl ([.int x])).length) Slot.unset).toArray = ls at hl ⊢
  have hl : lv_has ls 1 [(0, .int x)] := hl
  refine q_name (fun Q hQ => ?_)
  generalize ([.int x] : List Value).toArray = args at hts hQ ⊢
  refine lv_iload_n hx hb dX5_isDigit_0 rfl (lv_at hl 0 rfl) ?_
  refine lv_bipush (v := nI 48) hx hb dX5_isDigit_1 (by decide) ?_
  refine lv_icmp_lt (tgt := 16) hx hb dX5_isDigit_3 (by decide) (fun c1 => ?_) (fun c1 => ?_)
  · refine lv_iconst (v := nI 0) hx hb dX5_isDigit_16 (by decide) ?_
    rw [hQ]
    exact W.zret (v := nI 0) hx hb hr (by decide) (fun t9 ht9 hW9 => ⟨nI 0, rfl, (lf_r_isDigit_1), ht9⟩) (fun _ h => absurd h List.not_mem_nil) dX5_isDigit_17
  · refine lv_iload_n hx hb dX5_isDigit_6 rfl (lv_at hl 0 rfl) ?_
    refine lv_bipush (v := nI 57) hx hb dX5_isDigit_7 (by decide) ?_
    refine lv_icmp_gt (tgt := 16) hx hb dX5_isDigit_9 (by decide) (fun c2 => ?_) (fun c2 => ?_)
    · refine lv_iconst (v := nI 0) hx hb dX5_isDigit_16 (by decide) ?_
      rw [hQ]
      exact W.zret (v := nI 0) hx hb hr (by decide) (fun t9 ht9 hW9 => ⟨nI 0, rfl, (lf_r_isDigit_2), ht9⟩) (fun _ h => absurd h List.not_mem_nil) dX5_isDigit_17
    · refine lv_iconst (v := nI 1) hx hb dX5_isDigit_12 (by decide) ?_
      refine lv_goto (tgt := 17) hx hb dX5_isDigit_13 (by decide) ?_
      rw [hQ]
      exact W.zret (v := nI 1) hx hb hr (by decide) (fun t9 ht9 hW9 => ⟨nI 1, rfl, (lf_r_isDigit_3), ht9⟩) (fun _ h => absurd h List.not_mem_nil) dX5_isDigit_17
set_option maxHeartbeats 4000000 in
set_option maxRecDepth 100000 in
theorem c_r_nextWord (l : Launch) (dC : Nat → ClassId) (dI : Nat → Nat → Nat) (ky : Nat → ClassId) (reader : Nat) (rtape : Nat) (rlength : Nat) (rmostBytes : Nat) (rplace : Nat) (rkind : Int32) (rbegin : Nat) (rword : Int32) (rnumber : Int32) (rletters : Int64) (rfaultKind : Int32) (rfaultPlace : Int32) (iv_rreader_0 : rlength ≤ 940) (iv_rreader_1 : rplace ≤ rlength) (iv_rreader_2 : rmostBytes ≤ 900) (iv_rreader_3 : rbegin ≤ 940) : Met l yX5_nextWord wsX5_nextWord ({ frames := 0, cells := 0, slots := 0, locals := 0 }) (PcP dC dI ky [.ref reader] [(reader, .inr (5, [.ref rtape, .int (nI rlength), .int (nI rmostBytes), .int (nI rplace), .int rkind, .int (nI rbegin), .int rword, .int rnumber, .long rletters, .int rfaultKind, .int rfaultPlace]))]) (vp_Si (fun r : Int32 => True)) 0 0 (fun _ => False) := by
  refine Met.ofW (cc := cX5_nextWord) (maxL := 1) (ret := (some .int)) (by decide) rfl ?_
  intro p e s m args below meth c s₁ B hml hv
  obtain ⟨rfl, hP, hK⟩ := hv
  have hx := B.exec
  have hb := B.bytes
  have hr := B.returns
  have hts := atoms_spec (ws := wsX5_nextWord) B.pre
  have hown : s.vm.findClass RX5 = some m.cls := findClass_of_methodNamed B.named
  have hlocks := B.notSynchronized
  have hin5 : ∀ w ∈ u_ws RX5 TX5 11, w ∈ wsX5_nextWord := by decide +kernel
  have hl := lv_entry ([.ref reader]) (n := 1) (Nat.le_of_ble_eq_true rfl)
  rw [lg_entry_eq]
  generalize (lg_sl ([.ref reader]) ++ List.replicate (1 - (lg_sl ([.ref reader])).length) Slot.unset).toArray = ls at hl ⊢
  have hl : lv_has ls 1 [(0, .ref reader)] := hl
  refine q_name (fun Q hQ => ?_)
  generalize ([.ref reader] : List Value).toArray = args at hts hQ ⊢
  refine lv_aload_n hx hb dX5_nextWord_0 rfl (lv_at hl 0 rfl) ?_
  refine va_get (D := (dC, dI)) (ci := 5) (v := .int rword) (C := RX5) (T := TX5) (N := 11) hx hb hts hin5 hown hK hP 0 rfl rfl 6 (by decide) (hts (.fieldLink RX5 43 "PorridgeSea$Reader" "word" "I") (List.mem_of_getElem? (i := 1) rfl)) (fun _ h9 => h9) rfl dX5_nextWord_1 ?_
  rw [hQ]
  exact W.iret (v := rword) hx hb hr (fun t9 ht9 hW9 => ⟨rword, rfl, trivial, ht9⟩) (fun _ h => absurd h List.not_mem_nil) dX5_nextWord_4
set_option maxRecDepth 20000 in
theorem lf_r_refuseAt_1   : (nI 0) = nI 0 := by
  try have k_0 := ia_n 0 (by first | decide | omega)
  try simp only [ia_lt, ia_le, ia_eq, ia_m1, ia_0, ia_1, ne_eq, true_and, and_true, false_and, and_false, or_false, false_or, or_true, true_or, not_true_eq_false, not_false_eq_true] at *
  all_goals omega
set_option maxHeartbeats 4000000 in
set_option maxRecDepth 100000 in
theorem c_r_refuseAt (l : Launch) (dC : Nat → ClassId) (dI : Nat → Nat → Nat) (ky : Nat → ClassId) (sz : Nat) (reader : Nat) (rtape : Nat) (rlength : Nat) (rmostBytes : Nat) (rplace : Nat) (rkind : Int32) (rbegin : Nat) (rword : Int32) (rnumber : Int32) (rletters : Int64) (rfaultKind : Int32) (rfaultPlace : Int32) (x : Int32) (y : Int32) (iv_rreader_0 : rlength ≤ 940) (iv_rreader_1 : rplace ≤ rlength) (iv_rreader_2 : rmostBytes ≤ 900) (iv_rreader_3 : rbegin ≤ 940) : Met l yX5_refuseAt wsX5_refuseAt ({ frames := 0, cells := 0, slots := 0, locals := 0 }) (PcU dC dI ky [.ref reader, .int x, .int y] [(reader, .inr (5, [.ref rtape, .int (nI rlength), .int (nI rmostBytes), .int (nI rplace), .int rkind, .int (nI rbegin), .int rword, .int rnumber, .long rletters, .int rfaultKind, .int rfaultPlace]))] sz) (va_Qi (fun (r : Int32) (u : Int32 × Int32) => match u with | (rfaultKindG, rfaultPlaceG) => r = nI 0) (BU dC dI ky (fun (u : Int32 × Int32) => match u with | (rfaultKindG, rfaultPlaceG) => [(reader, .inr (5, [.ref rtape, .int (nI rlength), .int (nI rmostBytes), .int (nI rplace), .int rkind, .int (nI rbegin), .int rword, .int rnumber, .long rletters, .int rfaultKindG, .int rfaultPlaceG]))]) (va_A [(reader, .inr (5, [.ref rtape, .int (nI rlength), .int (nI rmostBytes), .int (nI rplace), .int rkind, .int (nI rbegin), .int rword, .int rnumber, .long rletters, .int rfaultKind, .int rfaultPlace]))] sz)) (va_A [(reader, .inr (5, [.ref rtape, .int (nI rlength), .int (nI rmostBytes), .int (nI rplace), .int rkind, .int (nI rbegin), .int rword, .int rnumber, .long rletters, .int rfaultKind, .int rfaultPlace]))] sz)) 0 0 (va_A [(reader, .inr (5, [.ref rtape, .int (nI rlength), .int (nI rmostBytes), .int (nI rplace), .int rkind, .int (nI rbegin), .int rword, .int rnumber, .long rletters, .int rfaultKind, .int rfaultPlace]))] sz) := by
  refine Met.ofW (cc := cX5_refuseAt) (maxL := 3) (ret := (some .boolean)) (by decide) rfl ?_
  intro p e s m args below meth c s₁ B hml hv
  obtain ⟨rfl, hsz, hP, hK, hD0⟩ := hv
  have hx := B.exec
  have hb := B.bytes
  have hr := B.returns
  have hts := atoms_spec (ws := wsX5_refuseAt) B.pre
  have hown : s.vm.findClass RX5 = some m.cls := findClass_of_methodNamed B.named
  have hlocks := B.notSynchronized
  have hin5 : ∀ w ∈ u_ws RX5 TX5 11, w ∈ wsX5_refuseAt := by decide +kernel
  subst hsz
  have hD := hD0.self (sz := s.heap.size)
  generalize hAe : va_A [(reader, .inr (5, [.ref rtape, .int (nI rlength), .int (nI rmostBytes), .int (nI rplace), .int rkind, .int (nI rbegin), .int rword, .int rnumber, .long rletters, .int rfaultKind, .int rfaultPlace]))] s.heap.size = A at hD ⊢
  have hA : ∀ q : Nat, s.heap.size ≤ q → A q := fun q h => by rw [← hAe]; exact Or.inr h
  have hS : va_S A s.heap s.heap [] := va_S.rf
  have hl := lv_entry ([.ref reader, .int x, .int y]) (n := 3) (Nat.le_of_ble_eq_true rfl)
  rw [lg_entry_eq]
  generalize (lg_sl ([.ref reader, .int x, .int y]) ++ List.replicate (3 - (lg_sl ([.ref reader, .int x, .int y])).length) Slot.unset).toArray = ls at hl ⊢
  have hl : lv_has ls 3 [(0, .ref reader), (1, .int x), (2, .int y)] := hl
  refine q_name (fun Q hQ => ?_)
  generalize ([.ref reader, .int x, .int y] : List Value).toArray = args at hts hQ ⊢
  refine lv_aload_n hx hb dX5_refuseAt_0 rfl (lv_at hl 0 rfl) ?_
  refine lv_iload_n hx hb dX5_refuseAt_1 rfl (lv_at hl 1 rfl) ?_
  refine va_put (D := (dC, dI)) (ci := 5) (v := .int x) (ty := .int) (C := RX5) (T := TX5) (N := 11) hx hb hts hin5 tyX5 tyX5_ok nmX5 hown hK hP hD hS 0 rfl rfl 9 (by decide) (hts (.fieldLink RX5 31 "PorridgeSea$Reader" "faultKind" "I") (List.mem_of_getElem? (i := 1) rfl)) (fun _ h9 => h9) rfl (by decide +kernel) rfl rfl (Nat.le_of_ble_eq_true rfl) dX5_refuseAt_2 (fun H locs hP hD hS => ?_)
  have hP : va_P (dC, dI) vwCl [(reader, .inr (5, [.ref rtape, .int (nI rlength), .int (nI rmostBytes), .int (nI rplace), .int rkind, .int (nI rbegin), .int rword, .int rnumber, .long rletters, .int x, .int rfaultPlace]))] H := hP
  have hD : va_D A [(reader, .inr (5, [.ref rtape, .int (nI rlength), .int (nI rmostBytes), .int (nI rplace), .int rkind, .int (nI rbegin), .int rword, .int rnumber, .long rletters, .int x, .int rfaultPlace]))] := hD
  refine lv_aload_n hx hb dX5_refuseAt_5 rfl (lv_at hl 0 rfl) ?_
  refine lv_iload_n hx hb dX5_refuseAt_6 rfl (lv_at hl 2 rfl) ?_
  refine va_put (D := (dC, dI)) (ci := 5) (v := .int y) (ty := .int) (C := RX5) (T := TX5) (N := 11) hx hb hts hin5 tyX5 tyX5_ok nmX5 hown hK hP hD hS 0 rfl rfl 10 (by decide) (hts (.fieldLink RX5 34 "PorridgeSea$Reader" "faultPlace" "I") (List.mem_of_getElem? (i := 2) rfl)) (fun _ h9 => h9) rfl (by decide +kernel) rfl rfl (Nat.le_of_ble_eq_true rfl) dX5_refuseAt_7 (fun H locs hP hD hS => ?_)
  have hP : va_P (dC, dI) vwCl [(reader, .inr (5, [.ref rtape, .int (nI rlength), .int (nI rmostBytes), .int (nI rplace), .int rkind, .int (nI rbegin), .int rword, .int rnumber, .long rletters, .int x, .int y]))] H := hP
  have hD : va_D A [(reader, .inr (5, [.ref rtape, .int (nI rlength), .int (nI rmostBytes), .int (nI rplace), .int rkind, .int (nI rbegin), .int rword, .int rnumber, .long rletters, .int x, .int y]))] := hD
  refine lv_iconst (v := nI 0) hx hb dX5_refuseAt_10 (by decide) ?_
  rw [hQ]
  exact W.zret (v := nI 0) hx hb hr (by decide) (fun t9 ht9 hW9 => ⟨⟨nI 0, (x, y), rfl, (lf_r_refuseAt_1), by rw [ht9]; exact hP, va_K.moved hW9.alike hK, hD⟩, hS.F ht9⟩) hS.2.2 dX5_refuseAt_11
set_option maxRecDepth 20000 in
theorem lf_r_refuse_1   : (nI 0) = nI 0 := by
  try have k_0 := ia_n 0 (by first | decide | omega)
  try simp only [ia_lt, ia_le, ia_eq, ia_m1, ia_0, ia_1, ne_eq, true_and, and_true, false_and, and_false, or_false, false_or, or_true, true_or, not_true_eq_false, not_false_eq_true] at *
  all_goals omega
set_option maxHeartbeats 4000000 in
set_option maxRecDepth 100000 in
theorem c_r_refuse (l : Launch) (dC : Nat → ClassId) (dI : Nat → Nat → Nat) (ky : Nat → ClassId) (sz : Nat) (reader : Nat) (rtape : Nat) (rlength : Nat) (rmostBytes : Nat) (rplace : Nat) (rkind : Int32) (rbegin : Nat) (rword : Int32) (rnumber : Int32) (rletters : Int64) (rfaultKind : Int32) (rfaultPlace : Int32) (x : Int32) (iv_rreader_0 : rlength ≤ 940) (iv_rreader_1 : rplace ≤ rlength) (iv_rreader_2 : rmostBytes ≤ 900) (iv_rreader_3 : rbegin ≤ 940) : Met l yX5_refuse wsX5_refuse ({ frames := 1, cells := 0, slots := 0, locals := 22 }) (PcU dC dI ky [.ref reader, .int x] [(reader, .inr (5, [.ref rtape, .int (nI rlength), .int (nI rmostBytes), .int (nI rplace), .int rkind, .int (nI rbegin), .int rword, .int rnumber, .long rletters, .int rfaultKind, .int rfaultPlace]))] sz) (va_Qi (fun (r : Int32) (u : Int32 × Int32) => match u with | (rfaultKindG, rfaultPlaceG) => r = nI 0) (BU dC dI ky (fun (u : Int32 × Int32) => match u with | (rfaultKindG, rfaultPlaceG) => [(reader, .inr (5, [.ref rtape, .int (nI rlength), .int (nI rmostBytes), .int (nI rplace), .int rkind, .int (nI rbegin), .int rword, .int rnumber, .long rletters, .int rfaultKindG, .int rfaultPlaceG]))]) (va_A [(reader, .inr (5, [.ref rtape, .int (nI rlength), .int (nI rmostBytes), .int (nI rplace), .int rkind, .int (nI rbegin), .int rword, .int rnumber, .long rletters, .int rfaultKind, .int rfaultPlace]))] sz)) (va_A [(reader, .inr (5, [.ref rtape, .int (nI rlength), .int (nI rmostBytes), .int (nI rplace), .int rkind, .int (nI rbegin), .int rword, .int rnumber, .long rletters, .int rfaultKind, .int rfaultPlace]))] sz)) 0 0 (va_A [(reader, .inr (5, [.ref rtape, .int (nI rlength), .int (nI rmostBytes), .int (nI rplace), .int rkind, .int (nI rbegin), .int rword, .int rnumber, .long rletters, .int rfaultKind, .int rfaultPlace]))] sz) := by
  refine Met.ofW (cc := cX5_refuse) (maxL := 2) (ret := (some .boolean)) (by decide) rfl ?_
  intro p e s m args below meth c s₁ B hml hv
  obtain ⟨rfl, hsz, hP, hK, hD0⟩ := hv
  have hx := B.exec
  have hb := B.bytes
  have hr := B.returns
  have hts := atoms_spec (ws := wsX5_refuse) B.pre
  have hown : s.vm.findClass RX5 = some m.cls := findClass_of_methodNamed B.named
  have hlocks := B.notSynchronized
  have hin5 : ∀ w ∈ u_ws RX5 TX5 11, w ∈ wsX5_refuse := by decide +kernel
  subst hsz
  have hD := hD0.self (sz := s.heap.size)
  generalize hAe : va_A [(reader, .inr (5, [.ref rtape, .int (nI rlength), .int (nI rmostBytes), .int (nI rplace), .int rkind, .int (nI rbegin), .int rword, .int rnumber, .long rletters, .int rfaultKind, .int rfaultPlace]))] s.heap.size = A at hD ⊢
  have hA : ∀ q : Nat, s.heap.size ≤ q → A q := fun q h => by rw [← hAe]; exact Or.inr h
  have hS : va_S A s.heap s.heap [] := va_S.rf
  have hl := lv_entry ([.ref reader, .int x]) (n := 2) (Nat.le_of_ble_eq_true rfl)
  rw [lg_entry_eq]
  generalize (lg_sl ([.ref reader, .int x]) ++ List.replicate (2 - (lg_sl ([.ref reader, .int x])).length) Slot.unset).toArray = ls at hl ⊢
  have hl : lv_has ls 2 [(0, .ref reader), (1, .int x)] := hl
  refine q_name (fun Q hQ => ?_)
  generalize ([.ref reader, .int x] : List Value).toArray = args at hts hQ ⊢
  refine lv_aload_n hx hb dX5_refuse_0 rfl (lv_at hl 0 rfl) ?_
  refine lv_iload_n hx hb dX5_refuse_1 rfl (lv_at hl 1 rfl) ?_
  refine lv_aload_n hx hb dX5_refuse_2 rfl (lv_at hl 0 rfl) ?_
  refine va_get (D := (dC, dI)) (ci := 5) (v := .int (nI rbegin)) (C := RX5) (T := TX5) (N := 11) hx hb hts hin5 hown hK hP 0 rfl rfl 5 (by decide) (hts (.fieldLink RX5 40 "PorridgeSea$Reader" "begin" "I") (List.mem_of_getElem? (i := 1) rfl)) (fun _ h9 => h9) rfl dX5_refuse_3 ?_
  refine r_call_i (wr := []) (va_runV (As := [.int x, .int (nI rbegin)]) (rest := []) ⟨hx, hb, hml, hown, hts⟩ (c_r_refuseAt l dC dI ky s.heap.size reader rtape rlength rmostBytes rplace rkind rbegin rword rnumber rletters rfaultKind rfaultPlace x (nI rbegin) iv_rreader_0 iv_rreader_1 iv_rreader_2 iv_rreader_3) (cwV 2 hts gX5_refuse_X5_refuseAt rfl rfl rfl (by decide +kernel) ⟨(Nat.le_of_ble_eq_true rfl), (Nat.le_of_ble_eq_true rfl)⟩) (pre_UV hK hP hD [0] (by decide) rfl (ci := 5) (q0 := 0) rfl rfl) rfl rfl hl.1 rfl (lv_room (Nat.le_of_ble_eq_true rfl)) dX5_refuse_6 ⟨(Nat.le_of_ble_eq_true rfl), (Nat.le_of_ble_eq_true rfl)⟩) hP hD hS hA [0] [] rfl rfl (by decide) (by decide) (fun r3 u1 H locs p2 hP hD hS => ?_)
  obtain ⟨rfaultKindG_4, rfaultPlaceG_5⟩ := u1
  try dsimp only at p2
  have p6 := p2
  refine W.widen (k := 0) (n := 0) (Nat.le_of_ble_eq_true rfl) (Nat.le_of_ble_eq_true rfl) ?_
  have hP : va_P (dC, dI) vwCl [(reader, .inr (5, [.ref rtape, .int (nI rlength), .int (nI rmostBytes), .int (nI rplace), .int rkind, .int (nI rbegin), .int rword, .int rnumber, .long rletters, .int rfaultKindG_4, .int rfaultPlaceG_5]))] H := hP
  have hD : va_D A [(reader, .inr (5, [.ref rtape, .int (nI rlength), .int (nI rmostBytes), .int (nI rplace), .int rkind, .int (nI rbegin), .int rword, .int rnumber, .long rletters, .int rfaultKindG_4, .int rfaultPlaceG_5]))] := hD
  subst p6
  rw [hQ]
  exact W.zret (v := nI 0) hx hb hr (by decide) (fun t9 ht9 hW9 => ⟨⟨nI 0, (rfaultKindG_4, rfaultPlaceG_5), rfl, (lf_r_refuse_1), by rw [ht9]; exact hP, va_K.moved hW9.alike hK, hD⟩, hS.F ht9⟩) hS.2.2 dX5_refuse_9
set_option maxRecDepth 20000 in
theorem lf_r_readSign_1 (rlength : Nat) (rplace : Nat) (rtapeF : Nat → Int32) (y1 : Int32) (iv_rreader_0 : rlength ≤ 940) (iv_rreader_1 : rplace ≤ rlength) (hpl : rplace < rlength) (e2 : y1 = rtapeF rplace) : (rplace + 1) ≤ rlength := by
  have b_y1 := ia_b y1
  try simp only [ia_lt, ia_le, ia_eq, ia_m1, ia_0, ia_1, ne_eq, true_and, and_true, false_and, and_false, or_false, false_or, or_true, true_or, not_true_eq_false, not_false_eq_true] at *
  all_goals omega
set_option maxRecDepth 20000 in
theorem lf_r_readSign_2 (rlength : Nat) (rplace : Nat) (rtapeF : Nat → Int32) (y1 : Int32) (iv_rreader_0 : rlength ≤ 940) (iv_rreader_1 : rplace ≤ rlength) (hpl : rplace < rlength) (e2 : y1 = rtapeF rplace) : rplace ≤ (rplace + 1) := by
  have b_y1 := ia_b y1
  try simp only [ia_lt, ia_le, ia_eq, ia_m1, ia_0, ia_1, ne_eq, true_and, and_true, false_and, and_false, or_false, false_or, or_true, true_or, not_true_eq_false, not_false_eq_true] at *
  all_goals omega
set_option maxRecDepth 20000 in
theorem lf_r_readSign_3 (rlength : Nat) (rplace : Nat) (rtapeF : Nat → Int32) (y1 : Int32) (iv_rreader_0 : rlength ≤ 940) (iv_rreader_1 : rplace ≤ rlength) (hpl : rplace < rlength) (e2 : y1 = rtapeF rplace) : (rplace + 1) ≤ rlength := by
  have b_y1 := ia_b y1
  try simp only [ia_lt, ia_le, ia_eq, ia_m1, ia_0, ia_1, ne_eq, true_and, and_true, false_and, and_false, or_false, false_or, or_true, true_or, not_true_eq_false, not_false_eq_true] at *
  all_goals omega
set_option maxRecDepth 20000 in
theorem lf_r_readSign_4 (rlength : Nat) (rplace : Nat) (rtapeF : Nat → Int32) (y1 : Int32) (iv_rreader_0 : rlength ≤ 940) (iv_rreader_1 : rplace ≤ rlength) (hpl : rplace < rlength) (e2 : y1 = rtapeF rplace) : rplace ≤ (rplace + 1) := by
  have b_y1 := ia_b y1
  try simp only [ia_lt, ia_le, ia_eq, ia_m1, ia_0, ia_1, ne_eq, true_and, and_true, false_and, and_false, or_false, false_or, or_true, true_or, not_true_eq_false, not_false_eq_true] at *
  all_goals omega
set_option maxRecDepth 20000 in
theorem lf_r_readSign_5   : (nI 1) = nI 0 ∨ (nI 1) = nI 1 := by
  try have k_0 := ia_n 1 (by first | decide | omega)
  try have k_1 := ia_n 0 (by first | decide | omega)
  try simp only [ia_lt, ia_le, ia_eq, ia_m1, ia_0, ia_1, ne_eq, true_and, and_true, false_and, and_false, or_false, false_or, or_true, true_or, not_true_eq_false, not_false_eq_true] at *
  all_goals omega
set_option maxRecDepth 20000 in
theorem lf_r_readSign_6   : (nI 1) = nI 0 ∨ (nI 1) = nI 1 := by
  try have k_0 := ia_n 1 (by first | decide | omega)
  try have k_1 := ia_n 0 (by first | decide | omega)
  try simp only [ia_lt, ia_le, ia_eq, ia_m1, ia_0, ia_1, ne_eq, true_and, and_true, false_and, and_false, or_false, false_or, or_true, true_or, not_true_eq_false, not_false_eq_true] at *
  all_goals omega
set_option maxRecDepth 20000 in
theorem lf_r_readSign_7   : (nI 1) = nI 0 ∨ (nI 1) = nI 1 := by
  try have k_0 := ia_n 1 (by first | decide | omega)
  try have k_1 := ia_n 0 (by first | decide | omega)
  try simp only [ia_lt, ia_le, ia_eq, ia_m1, ia_0, ia_1, ne_eq, true_and, and_true, false_and, and_false, or_false, false_or, or_true, true_or, not_true_eq_false, not_false_eq_true] at *
  all_goals omega
set_option maxRecDepth 20000 in
theorem lf_r_readSign_8   : (nI 1) = nI 0 ∨ (nI 1) = nI 1 := by
  try have k_0 := ia_n 1 (by first | decide | omega)
  try have k_1 := ia_n 0 (by first | decide | omega)
  try simp only [ia_lt, ia_le, ia_eq, ia_m1, ia_0, ia_1, ne_eq, true_and, and_true, false_and, and_false, or_false, false_or, or_true, true_or, not_true_eq_false, not_false_eq_true] at *
  all_goals omega
set_option maxRecDepth 20000 in
theorem lf_r_readSign_9   : (nI 1) = nI 0 ∨ (nI 1) = nI 1 := by
  try have k_0 := ia_n 1 (by first | decide | omega)
  try have k_1 := ia_n 0 (by first | decide | omega)
  try simp only [ia_lt, ia_le, ia_eq, ia_m1, ia_0, ia_1, ne_eq, true_and, and_true, false_and, and_false, or_false, false_or, or_true, true_or, not_true_eq_false, not_false_eq_true] at *
  all_goals omega
set_option maxRecDepth 20000 in
theorem lf_r_readSign_10   : (nI 0) = nI 0 ∨ (nI 0) = nI 1 := by
  try have k_0 := ia_n 0 (by first | decide | omega)
  try have k_1 := ia_n 1 (by first | decide | omega)
  try simp only [ia_lt, ia_le, ia_eq, ia_m1, ia_0, ia_1, ne_eq, true_and, and_true, false_and, and_false, or_false, false_or, or_true, true_or, not_true_eq_false, not_false_eq_true] at *
  all_goals omega
set_option maxRecDepth 20000 in
theorem lf_r_readSign_11   : (nI 1) = nI 0 ∨ (nI 1) = nI 1 := by
  try have k_0 := ia_n 1 (by first | decide | omega)
  try have k_1 := ia_n 0 (by first | decide | omega)
  try simp only [ia_lt, ia_le, ia_eq, ia_m1, ia_0, ia_1, ne_eq, true_and, and_true, false_and, and_false, or_false, false_or, or_true, true_or, not_true_eq_false, not_false_eq_true] at *
  all_goals omega
set_option maxHeartbeats 4000000 in
set_option maxRecDepth 100000 in
theorem c_r_readSign (l : Launch) (dC : Nat → ClassId) (dI : Nat → Nat → Nat) (ky : Nat → ClassId) (sz : Nat) (reader : Nat) (rtape : Nat) (rlength : Nat) (rmostBytes : Nat) (rplace : Nat) (rkind : Int32) (rbegin : Nat) (rword : Int32) (rnumber : Int32) (rletters : Int64) (rfaultKind : Int32) (rfaultPlace : Int32) (rtapeF : Nat → Int32) (iv_rreader_0 : rlength ≤ 940) (iv_rreader_1 : rplace ≤ rlength) (iv_rreader_2 : rmostBytes ≤ 900) (iv_rreader_3 : rbegin ≤ 940) (hpl : rplace < rlength) : Met l yX5_readSign wsX5_readSign ({ frames := 0, cells := 0, slots := 0, locals := 0 }) (PcU dC dI ky [.ref reader] [(reader, .inr (5, [.ref rtape, .int (nI rlength), .int (nI rmostBytes), .int (nI rplace), .int rkind, .int (nI rbegin), .int rword, .int rnumber, .long rletters, .int rfaultKind, .int rfaultPlace])), (rtape, .inl (ky 2, 940, .inl rtapeF))] sz) (va_Qv (fun (u : Nat × Int32) => match u with | (rplaceG, rkindG) => (rplaceG ≤ rlength) ∧ (rplace ≤ rplaceG)) (BU dC dI ky (fun (u : Nat × Int32) => match u with | (rplaceG, rkindG) => [(reader, .inr (5, [.ref rtape, .int (nI rlength), .int (nI rmostBytes), .int (nI rplaceG), .int rkindG, .int (nI rbegin), .int rword, .int rnumber, .long rletters, .int rfaultKind, .int rfaultPlace])), (rtape, .inl (ky 2, 940, .inl rtapeF))]) (va_A [(reader, .inr (5, [.ref rtape, .int (nI rlength), .int (nI rmostBytes), .int (nI rplace), .int rkind, .int (nI rbegin), .int rword, .int rnumber, .long rletters, .int rfaultKind, .int rfaultPlace])), (rtape, .inl (ky 2, 940, .inl rtapeF))] sz)) (va_A [(reader, .inr (5, [.ref rtape, .int (nI rlength), .int (nI rmostBytes), .int (nI rplace), .int rkind, .int (nI rbegin), .int rword, .int rnumber, .long rletters, .int rfaultKind, .int rfaultPlace])), (rtape, .inl (ky 2, 940, .inl rtapeF))] sz)) 0 0 (va_A [(reader, .inr (5, [.ref rtape, .int (nI rlength), .int (nI rmostBytes), .int (nI rplace), .int rkind, .int (nI rbegin), .int rword, .int rnumber, .long rletters, .int rfaultKind, .int rfaultPlace])), (rtape, .inl (ky 2, 940, .inl rtapeF))] sz) := by
  refine Met.ofW (cc := cX5_readSign) (maxL := 3) (ret := none) (by decide) rfl ?_
  intro p e s m args below meth c s₁ B hml hv
  obtain ⟨rfl, hsz, hP, hK, hD0⟩ := hv
  have hx := B.exec
  have hb := B.bytes
  have hr := B.returns
  have hts := atoms_spec (ws := wsX5_readSign) B.pre
  have hown : s.vm.findClass RX5 = some m.cls := findClass_of_methodNamed B.named
  have hlocks := B.notSynchronized
  have hin5 : ∀ w ∈ u_ws RX5 TX5 11, w ∈ wsX5_readSign := by decide +kernel
  subst hsz
  have hD := hD0.self (sz := s.heap.size)
  generalize hAe : va_A [(reader, .inr (5, [.ref rtape, .int (nI rlength), .int (nI rmostBytes), .int (nI rplace), .int rkind, .int (nI rbegin), .int rword, .int rnumber, .long rletters, .int rfaultKind, .int rfaultPlace])), (rtape, .inl (ky 2, 940, .inl rtapeF))] s.heap.size = A at hD ⊢
  have hA : ∀ q : Nat, s.heap.size ≤ q → A q := fun q h => by rw [← hAe]; exact Or.inr h
  have hS : va_S A s.heap s.heap [] := va_S.rf
  have hl := lv_entry ([.ref reader]) (n := 3) (Nat.le_of_ble_eq_true rfl)
  rw [lg_entry_eq]
  generalize (lg_sl ([.ref reader]) ++ List.replicate (3 - (lg_sl ([.ref reader])).length) Slot.unset).toArray = ls at hl ⊢
  have hl : lv_has ls 3 [(0, .ref reader)] := hl
  refine q_name (fun Q hQ => ?_)
  generalize ([.ref reader] : List Value).toArray = args at hts hQ ⊢
  refine lv_aload_n hx hb dX5_readSign_0 rfl (lv_at hl 0 rfl) ?_
  refine va_get (D := (dC, dI)) (ci := 5) (v := .ref rtape) (C := RX5) (T := TX5) (N := 11) hx hb hts hin5 hown hK hP 0 rfl rfl 0 (by decide) (hts (.fieldLink RX5 9 "PorridgeSea$Reader" "tape" "[B") (List.mem_of_getElem? (i := 1) rfl)) (fun _ h9 => h9) rfl dX5_readSign_1 ?_
  refine lv_aload_n hx hb dX5_readSign_4 rfl (lv_at hl 0 rfl) ?_
  refine va_get (D := (dC, dI)) (ci := 5) (v := .int (nI rplace)) (C := RX5) (T := TX5) (N := 11) hx hb hts hin5 hown hK hP 0 rfl rfl 3 (by decide) (hts (.fieldLink RX5 28 "PorridgeSea$Reader" "place" "I") (List.mem_of_getElem? (i := 2) rfl)) (fun _ h9 => h9) rfl dX5_readSign_5 ?_
  obtain ⟨y1, e2⟩ : ∃ z9, z9 = rtapeF rplace := ⟨_, rfl⟩
  refine r_bald hx hb hK hP 1 rfl rplace (by omega) (by decide) y1 e2.symm dX5_readSign_8 ?_
  refine lv_istore_n (lv' := [(1, .int y1), (0, .ref reader)]) hx hb dX5_readSign_9 rfl hl (by decide) rfl (fun ls hl => ?_)
  refine lv_iload_n hx hb dX5_readSign_10 rfl (lv_at hl 0 rfl) ?_
  refine lv_bipush (v := nI 59) hx hb dX5_readSign_11 (by decide) ?_
  have hJ6 : ∀ (x4 : Int32), (x4 = nI 0 ∨ x4 = nI 1) → ∀ (H : Heap) (locs : List Loc) (ls : Array Slot), va_P (dC, dI) vwCl [(reader, .inr (5, [.ref rtape, .int (nI rlength), .int (nI rmostBytes), .int (nI rplace), .int rkind, .int (nI rbegin), .int rword, .int rnumber, .long rletters, .int rfaultKind, .int rfaultPlace])), (rtape, .inl (ky 2, 940, .inl rtapeF))] H → va_D A [(reader, .inr (5, [.ref rtape, .int (nI rlength), .int (nI rmostBytes), .int (nI rplace), .int rkind, .int (nI rbegin), .int rword, .int rnumber, .long rletters, .int rfaultKind, .int rfaultPlace])), (rtape, .inl (ky 2, 940, .inl rtapeF))] → va_S A s.heap H locs → lv_has ls 3 [(1, .int y1), (0, .ref reader)] → W p l e (headSpec wsX5_readSign ({ frames := 0, cells := 0, slots := 0, locals := 0 })).room s m args below meth c H locs 0 0 Q (F0 m 51 ls [.int x4]) := by
    intro x4 j5 H locs ls hP hD hS hl
    refine lv_istore_n (lv' := [(2, .int x4), (1, .int y1), (0, .ref reader)]) hx hb dX5_readSign_51 rfl hl (by decide) rfl (fun ls hl => ?_)
    refine lv_aload_n hx hb dX5_readSign_52 rfl (lv_at hl 2 rfl) ?_
    refine lv_iload_n hx hb dX5_readSign_53 rfl (lv_at hl 0 rfl) ?_
    refine lv_if_eq (tgt := 61) hx hb dX5_readSign_54 (by decide) (fun c7 => ?_) (fun c7 => ?_)
    · refine lv_iconst (v := nI 1) hx hb dX5_readSign_61 (by decide) ?_
      refine va_put (D := (dC, dI)) (ci := 5) (v := .int (nI 1)) (ty := .int) (C := RX5) (T := TX5) (N := 11) hx hb hts hin5 tyX5 tyX5_ok nmX5 hown hK hP hD hS 0 rfl rfl 4 (by decide) (hts (.fieldLink RX5 46 "PorridgeSea$Reader" "kind" "I") (List.mem_of_getElem? (i := 3) rfl)) (fun _ h9 => h9) rfl (by decide +kernel) rfl rfl (Nat.le_of_ble_eq_true rfl) dX5_readSign_62 (fun H locs hP hD hS => ?_)
      have hP : va_P (dC, dI) vwCl [(reader, .inr (5, [.ref rtape, .int (nI rlength), .int (nI rmostBytes), .int (nI rplace), .int (nI 1), .int (nI rbegin), .int rword, .int rnumber, .long rletters, .int rfaultKind, .int rfaultPlace])), (rtape, .inl (ky 2, 940, .inl rtapeF))] H := hP
      have hD : va_D A [(reader, .inr (5, [.ref rtape, .int (nI rlength), .int (nI rmostBytes), .int (nI rplace), .int (nI 1), .int (nI rbegin), .int rword, .int rnumber, .long rletters, .int rfaultKind, .int rfaultPlace])), (rtape, .inl (ky 2, 940, .inl rtapeF))] := hD
      refine lv_aload_n hx hb dX5_readSign_65 rfl (lv_at hl 2 rfl) ?_
      refine lv_dup hx hb dX5_readSign_66 rfl ?_
      refine va_get (D := (dC, dI)) (ci := 5) (v := .int (nI rplace)) (C := RX5) (T := TX5) (N := 11) hx hb hts hin5 hown hK hP 0 rfl rfl 3 (by decide) (hts (.fieldLink RX5 28 "PorridgeSea$Reader" "place" "I") (List.mem_of_getElem? (i := 2) rfl)) (fun _ h9 => h9) rfl dX5_readSign_67 ?_
      refine lv_iconst (v := nI 1) hx hb dX5_readSign_70 (by decide) ?_
      refine lv_iadd hx hb dX5_readSign_71 ?_
      refine r_ti (nI (rplace + 1)) (nI_add _ _) ?_
      refine va_put (D := (dC, dI)) (ci := 5) (v := .int (nI (rplace + 1))) (ty := .int) (C := RX5) (T := TX5) (N := 11) hx hb hts hin5 tyX5 tyX5_ok nmX5 hown hK hP hD hS 0 rfl rfl 3 (by decide) (hts (.fieldLink RX5 28 "PorridgeSea$Reader" "place" "I") (List.mem_of_getElem? (i := 2) rfl)) (fun _ h9 => h9) rfl (by decide +kernel) rfl rfl (Nat.le_of_ble_eq_true rfl) dX5_readSign_72 (fun H locs hP hD hS => ?_)
      have hP : va_P (dC, dI) vwCl [(reader, .inr (5, [.ref rtape, .int (nI rlength), .int (nI rmostBytes), .int (nI (rplace + 1)), .int (nI 1), .int (nI rbegin), .int rword, .int rnumber, .long rletters, .int rfaultKind, .int rfaultPlace])), (rtape, .inl (ky 2, 940, .inl rtapeF))] H := hP
      have hD : va_D A [(reader, .inr (5, [.ref rtape, .int (nI rlength), .int (nI rmostBytes), .int (nI (rplace + 1)), .int (nI 1), .int (nI rbegin), .int rword, .int rnumber, .long rletters, .int rfaultKind, .int rfaultPlace])), (rtape, .inl (ky 2, 940, .inl rtapeF))] := hD
      rw [hQ]
      exact W.vret hx hb hr (fun t9 ht9 hW9 => ⟨⟨((rplace + 1), nI 1), rfl, ⟨(lf_r_readSign_1 rlength rplace rtapeF y1 iv_rreader_0 iv_rreader_1 hpl e2), (lf_r_readSign_2 rlength rplace rtapeF y1 iv_rreader_0 iv_rreader_1 hpl e2)⟩, by rw [ht9]; exact hP, va_K.moved hW9.alike hK, hD⟩, hS.F ht9⟩) hS.2.2 dX5_readSign_75
    · refine lv_iload_n hx hb dX5_readSign_57 rfl (lv_at hl 1 rfl) ?_
      refine lv_goto (tgt := 62) hx hb dX5_readSign_58 (by decide) ?_
      refine va_put (D := (dC, dI)) (ci := 5) (v := .int y1) (ty := .int) (C := RX5) (T := TX5) (N := 11) hx hb hts hin5 tyX5 tyX5_ok nmX5 hown hK hP hD hS 0 rfl rfl 4 (by decide) (hts (.fieldLink RX5 46 "PorridgeSea$Reader" "kind" "I") (List.mem_of_getElem? (i := 3) rfl)) (fun _ h9 => h9) rfl (by decide +kernel) rfl rfl (Nat.le_of_ble_eq_true rfl) dX5_readSign_62 (fun H locs hP hD hS => ?_)
      have hP : va_P (dC, dI) vwCl [(reader, .inr (5, [.ref rtape, .int (nI rlength), .int (nI rmostBytes), .int (nI rplace), .int y1, .int (nI rbegin), .int rword, .int rnumber, .long rletters, .int rfaultKind, .int rfaultPlace])), (rtape, .inl (ky 2, 940, .inl rtapeF))] H := hP
      have hD : va_D A [(reader, .inr (5, [.ref rtape, .int (nI rlength), .int (nI rmostBytes), .int (nI rplace), .int y1, .int (nI rbegin), .int rword, .int rnumber, .long rletters, .int rfaultKind, .int rfaultPlace])), (rtape, .inl (ky 2, 940, .inl rtapeF))] := hD
      refine lv_aload_n hx hb dX5_readSign_65 rfl (lv_at hl 2 rfl) ?_
      refine lv_dup hx hb dX5_readSign_66 rfl ?_
      refine va_get (D := (dC, dI)) (ci := 5) (v := .int (nI rplace)) (C := RX5) (T := TX5) (N := 11) hx hb hts hin5 hown hK hP 0 rfl rfl 3 (by decide) (hts (.fieldLink RX5 28 "PorridgeSea$Reader" "place" "I") (List.mem_of_getElem? (i := 2) rfl)) (fun _ h9 => h9) rfl dX5_readSign_67 ?_
      refine lv_iconst (v := nI 1) hx hb dX5_readSign_70 (by decide) ?_
      refine lv_iadd hx hb dX5_readSign_71 ?_
      refine r_ti (nI (rplace + 1)) (nI_add _ _) ?_
      refine va_put (D := (dC, dI)) (ci := 5) (v := .int (nI (rplace + 1))) (ty := .int) (C := RX5) (T := TX5) (N := 11) hx hb hts hin5 tyX5 tyX5_ok nmX5 hown hK hP hD hS 0 rfl rfl 3 (by decide) (hts (.fieldLink RX5 28 "PorridgeSea$Reader" "place" "I") (List.mem_of_getElem? (i := 2) rfl)) (fun _ h9 => h9) rfl (by decide +kernel) rfl rfl (Nat.le_of_ble_eq_true rfl) dX5_readSign_72 (fun H locs hP hD hS => ?_)
      have hP : va_P (dC, dI) vwCl [(reader, .inr (5, [.ref rtape, .int (nI rlength), .int (nI rmostBytes), .int (nI (rplace + 1)), .int y1, .int (nI rbegin), .int rword, .int rnumber, .long rletters, .int rfaultKind, .int rfaultPlace])), (rtape, .inl (ky 2, 940, .inl rtapeF))] H := hP
      have hD : va_D A [(reader, .inr (5, [.ref rtape, .int (nI rlength), .int (nI rmostBytes), .int (nI (rplace + 1)), .int y1, .int (nI rbegin), .int rword, .int rnumber, .long rletters, .int rfaultKind, .int rfaultPlace])), (rtape, .inl (ky 2, 940, .inl rtapeF))] := hD
      rw [hQ]
      exact W.vret hx hb hr (fun t9 ht9 hW9 => ⟨⟨((rplace + 1), y1), rfl, ⟨(lf_r_readSign_3 rlength rplace rtapeF y1 iv_rreader_0 iv_rreader_1 hpl e2), (lf_r_readSign_4 rlength rplace rtapeF y1 iv_rreader_0 iv_rreader_1 hpl e2)⟩, by rw [ht9]; exact hP, va_K.moved hW9.alike hK, hD⟩, hS.F ht9⟩) hS.2.2 dX5_readSign_75
  refine lv_icmp_eq (tgt := 46) hx hb dX5_readSign_13 (by decide) (fun c3 => ?_) (fun c3 => ?_)
  · refine lv_iconst (v := nI 1) hx hb dX5_readSign_46 (by decide) ?_
    refine lv_goto (tgt := 51) hx hb dX5_readSign_47 (by decide) ?_
    exact hJ6 (nI 1) (lf_r_readSign_5) _ _ _ hP hD hS (lv_sub hl [0, 1] rfl)
  · refine lv_iload_n hx hb dX5_readSign_16 rfl (lv_at hl 0 rfl) ?_
    refine lv_bipush (v := nI 60) hx hb dX5_readSign_17 (by decide) ?_
    refine lv_icmp_eq (tgt := 46) hx hb dX5_readSign_19 (by decide) (fun c8 => ?_) (fun c8 => ?_)
    · refine lv_iconst (v := nI 1) hx hb dX5_readSign_46 (by decide) ?_
      refine lv_goto (tgt := 51) hx hb dX5_readSign_47 (by decide) ?_
      exact hJ6 (nI 1) (lf_r_readSign_6) _ _ _ hP hD hS (lv_sub hl [0, 1] rfl)
    · refine lv_iload_n hx hb dX5_readSign_22 rfl (lv_at hl 0 rfl) ?_
      refine lv_bipush (v := nI 61) hx hb dX5_readSign_23 (by decide) ?_
      refine lv_icmp_eq (tgt := 46) hx hb dX5_readSign_25 (by decide) (fun c9 => ?_) (fun c9 => ?_)
      · refine lv_iconst (v := nI 1) hx hb dX5_readSign_46 (by decide) ?_
        refine lv_goto (tgt := 51) hx hb dX5_readSign_47 (by decide) ?_
        exact hJ6 (nI 1) (lf_r_readSign_7) _ _ _ hP hD hS (lv_sub hl [0, 1] rfl)
      · refine lv_iload_n hx hb dX5_readSign_28 rfl (lv_at hl 0 rfl) ?_
        refine lv_bipush (v := nI 62) hx hb dX5_readSign_29 (by decide) ?_
        refine lv_icmp_eq (tgt := 46) hx hb dX5_readSign_31 (by decide) (fun c10 => ?_) (fun c10 => ?_)
        · refine lv_iconst (v := nI 1) hx hb dX5_readSign_46 (by decide) ?_
          refine lv_goto (tgt := 51) hx hb dX5_readSign_47 (by decide) ?_
          exact hJ6 (nI 1) (lf_r_readSign_8) _ _ _ hP hD hS (lv_sub hl [0, 1] rfl)
        · refine lv_iload_n hx hb dX5_readSign_34 rfl (lv_at hl 0 rfl) ?_
          refine lv_bipush (v := nI 40) hx hb dX5_readSign_35 (by decide) ?_
          refine lv_icmp_eq (tgt := 46) hx hb dX5_readSign_37 (by decide) (fun c11 => ?_) (fun c11 => ?_)
          · refine lv_iconst (v := nI 1) hx hb dX5_readSign_46 (by decide) ?_
            refine lv_goto (tgt := 51) hx hb dX5_readSign_47 (by decide) ?_
            exact hJ6 (nI 1) (lf_r_readSign_9) _ _ _ hP hD hS (lv_sub hl [0, 1] rfl)
          · refine lv_iload_n hx hb dX5_readSign_40 rfl (lv_at hl 0 rfl) ?_
            refine lv_bipush (v := nI 41) hx hb dX5_readSign_41 (by decide) ?_
            refine lv_icmp_ne (tgt := 50) hx hb dX5_readSign_43 (by decide) (fun c12 => ?_) (fun c12 => ?_)
            · refine lv_iconst (v := nI 0) hx hb dX5_readSign_50 (by decide) ?_
              exact hJ6 (nI 0) (lf_r_readSign_10) _ _ _ hP hD hS (lv_sub hl [0, 1] rfl)
            · refine lv_iconst (v := nI 1) hx hb dX5_readSign_46 (by decide) ?_
              refine lv_goto (tgt := 51) hx hb dX5_readSign_47 (by decide) ?_
              exact hJ6 (nI 1) (lf_r_readSign_11) _ _ _ hP hD hS (lv_sub hl [0, 1] rfl)
set_option maxRecDepth 20000 in
theorem lf_r_readRun_1 (rlength : Nat) (rplace : Nat) (rtapeF : Nat → Int32) (k17 : Nat) (n24 : Nat) (y38 : Int32) (y43 : Int32) (y50 : Int32) (iv_rreader_0 : rlength ≤ 940) (iv_rreader_1 : rplace ≤ rlength) (j20 : k17 ≤ 940) (j21 : k17 ≤ rlength) (j22 : rplace ≤ k17) (hm26 : 940 - k17 < n24 + 1) (c27 : k17 < rlength) (e39 : y38 = rtapeF k17) (e44 : y43 = rtapeF k17) (e51 : y50 = rtapeF k17) : (k17 + 1) ≤ 940 := by
  have b_y38 := ia_b y38
  have b_y43 := ia_b y43
  have b_y50 := ia_b y50
  try simp only [ia_lt, ia_le, ia_eq, ia_m1, ia_0, ia_1, ne_eq, true_and, and_true, false_and, and_false, or_false, false_or, or_true, true_or, not_true_eq_false, not_false_eq_true] at *
  all_goals omega
set_option maxRecDepth 20000 in
theorem lf_r_readRun_2 (rlength : Nat) (rplace : Nat) (rtapeF : Nat → Int32) (k17 : Nat) (n24 : Nat) (y38 : Int32) (y43 : Int32) (y50 : Int32) (iv_rreader_0 : rlength ≤ 940) (iv_rreader_1 : rplace ≤ rlength) (j20 : k17 ≤ 940) (j21 : k17 ≤ rlength) (j22 : rplace ≤ k17) (hm26 : 940 - k17 < n24 + 1) (c27 : k17 < rlength) (e39 : y38 = rtapeF k17) (e44 : y43 = rtapeF k17) (e51 : y50 = rtapeF k17) : (k17 + 1) ≤ rlength := by
  have b_y38 := ia_b y38
  have b_y43 := ia_b y43
  have b_y50 := ia_b y50
  try simp only [ia_lt, ia_le, ia_eq, ia_m1, ia_0, ia_1, ne_eq, true_and, and_true, false_and, and_false, or_false, false_or, or_true, true_or, not_true_eq_false, not_false_eq_true] at *
  all_goals omega
set_option maxRecDepth 20000 in
theorem lf_r_readRun_3 (rlength : Nat) (rplace : Nat) (rtapeF : Nat → Int32) (k17 : Nat) (n24 : Nat) (y38 : Int32) (y43 : Int32) (y50 : Int32) (iv_rreader_0 : rlength ≤ 940) (iv_rreader_1 : rplace ≤ rlength) (j20 : k17 ≤ 940) (j21 : k17 ≤ rlength) (j22 : rplace ≤ k17) (hm26 : 940 - k17 < n24 + 1) (c27 : k17 < rlength) (e39 : y38 = rtapeF k17) (e44 : y43 = rtapeF k17) (e51 : y50 = rtapeF k17) : rplace ≤ (k17 + 1) := by
  have b_y38 := ia_b y38
  have b_y43 := ia_b y43
  have b_y50 := ia_b y50
  try simp only [ia_lt, ia_le, ia_eq, ia_m1, ia_0, ia_1, ne_eq, true_and, and_true, false_and, and_false, or_false, false_or, or_true, true_or, not_true_eq_false, not_false_eq_true] at *
  all_goals omega
set_option maxRecDepth 20000 in
theorem lf_r_readRun_4 (rlength : Nat) (rplace : Nat) (rtapeF : Nat → Int32) (k17 : Nat) (n24 : Nat) (y38 : Int32) (y43 : Int32) (y50 : Int32) (iv_rreader_0 : rlength ≤ 940) (iv_rreader_1 : rplace ≤ rlength) (j20 : k17 ≤ 940) (j21 : k17 ≤ rlength) (j22 : rplace ≤ k17) (hm26 : 940 - k17 < n24 + 1) (c27 : k17 < rlength) (e39 : y38 = rtapeF k17) (e44 : y43 = rtapeF k17) (e51 : y50 = rtapeF k17) : 940 - (k17 + 1) < n24 := by
  have b_y38 := ia_b y38
  have b_y43 := ia_b y43
  have b_y50 := ia_b y50
  try simp only [ia_lt, ia_le, ia_eq, ia_m1, ia_0, ia_1, ne_eq, true_and, and_true, false_and, and_false, or_false, false_or, or_true, true_or, not_true_eq_false, not_false_eq_true] at *
  all_goals omega
set_option maxRecDepth 20000 in
theorem lf_r_readRun_5 (rlength : Nat) (rplace : Nat) (rtapeF : Nat → Int32) (k17 : Nat) (x18 : Int32) (n24 : Nat) (y38 : Int32) (y43 : Int32) (y56 : Int32) (y58 : Int32) (y60 : Int32) (y62 : Int32) (iv_rreader_0 : rlength ≤ 940) (iv_rreader_1 : rplace ≤ rlength) (j20 : k17 ≤ 940) (j21 : k17 ≤ rlength) (j22 : rplace ≤ k17) (hm26 : 940 - k17 < n24 + 1) (c27 : k17 < rlength) (e39 : y38 = rtapeF k17) (e44 : y43 = rtapeF k17) (e57 : y56 = (nI 10) * x18) (e59 : y58 = rtapeF k17) (e61 : y60 = y56 + y58) (e63 : y62 = y60 - (nI 48)) : (k17 + 1) ≤ 940 := by
  have b_x18 := ia_b x18
  have b_y38 := ia_b y38
  have b_y43 := ia_b y43
  have b_y56 := ia_b y56
  have b_y58 := ia_b y58
  have b_y60 := ia_b y60
  have b_y62 := ia_b y62
  try have k_0 := ia_n 10 (by first | decide | omega)
  try have k_1 := ia_n 48 (by first | decide | omega)
  try simp only [ia_lt, ia_le, ia_eq, ia_m1, ia_0, ia_1, ne_eq, true_and, and_true, false_and, and_false, or_false, false_or, or_true, true_or, not_true_eq_false, not_false_eq_true] at *
  all_goals omega
set_option maxRecDepth 20000 in
theorem lf_r_readRun_6 (rlength : Nat) (rplace : Nat) (rtapeF : Nat → Int32) (k17 : Nat) (x18 : Int32) (n24 : Nat) (y38 : Int32) (y43 : Int32) (y56 : Int32) (y58 : Int32) (y60 : Int32) (y62 : Int32) (iv_rreader_0 : rlength ≤ 940) (iv_rreader_1 : rplace ≤ rlength) (j20 : k17 ≤ 940) (j21 : k17 ≤ rlength) (j22 : rplace ≤ k17) (hm26 : 940 - k17 < n24 + 1) (c27 : k17 < rlength) (e39 : y38 = rtapeF k17) (e44 : y43 = rtapeF k17) (e57 : y56 = (nI 10) * x18) (e59 : y58 = rtapeF k17) (e61 : y60 = y56 + y58) (e63 : y62 = y60 - (nI 48)) : (k17 + 1) ≤ rlength := by
  have b_x18 := ia_b x18
  have b_y38 := ia_b y38
  have b_y43 := ia_b y43
  have b_y56 := ia_b y56
  have b_y58 := ia_b y58
  have b_y60 := ia_b y60
  have b_y62 := ia_b y62
  try have k_0 := ia_n 10 (by first | decide | omega)
  try have k_1 := ia_n 48 (by first | decide | omega)
  try simp only [ia_lt, ia_le, ia_eq, ia_m1, ia_0, ia_1, ne_eq, true_and, and_true, false_and, and_false, or_false, false_or, or_true, true_or, not_true_eq_false, not_false_eq_true] at *
  all_goals omega
set_option maxRecDepth 20000 in
theorem lf_r_readRun_7 (rlength : Nat) (rplace : Nat) (rtapeF : Nat → Int32) (k17 : Nat) (x18 : Int32) (n24 : Nat) (y38 : Int32) (y43 : Int32) (y56 : Int32) (y58 : Int32) (y60 : Int32) (y62 : Int32) (iv_rreader_0 : rlength ≤ 940) (iv_rreader_1 : rplace ≤ rlength) (j20 : k17 ≤ 940) (j21 : k17 ≤ rlength) (j22 : rplace ≤ k17) (hm26 : 940 - k17 < n24 + 1) (c27 : k17 < rlength) (e39 : y38 = rtapeF k17) (e44 : y43 = rtapeF k17) (e57 : y56 = (nI 10) * x18) (e59 : y58 = rtapeF k17) (e61 : y60 = y56 + y58) (e63 : y62 = y60 - (nI 48)) : rplace ≤ (k17 + 1) := by
  have b_x18 := ia_b x18
  have b_y38 := ia_b y38
  have b_y43 := ia_b y43
  have b_y56 := ia_b y56
  have b_y58 := ia_b y58
  have b_y60 := ia_b y60
  have b_y62 := ia_b y62
  try have k_0 := ia_n 10 (by first | decide | omega)
  try have k_1 := ia_n 48 (by first | decide | omega)
  try simp only [ia_lt, ia_le, ia_eq, ia_m1, ia_0, ia_1, ne_eq, true_and, and_true, false_and, and_false, or_false, false_or, or_true, true_or, not_true_eq_false, not_false_eq_true] at *
  all_goals omega
set_option maxRecDepth 20000 in
theorem lf_r_readRun_8 (rlength : Nat) (rplace : Nat) (rtapeF : Nat → Int32) (k17 : Nat) (x18 : Int32) (n24 : Nat) (y38 : Int32) (y43 : Int32) (y56 : Int32) (y58 : Int32) (y60 : Int32) (y62 : Int32) (iv_rreader_0 : rlength ≤ 940) (iv_rreader_1 : rplace ≤ rlength) (j20 : k17 ≤ 940) (j21 : k17 ≤ rlength) (j22 : rplace ≤ k17) (hm26 : 940 - k17 < n24 + 1) (c27 : k17 < rlength) (e39 : y38 = rtapeF k17) (e44 : y43 = rtapeF k17) (e57 : y56 = (nI 10) * x18) (e59 : y58 = rtapeF k17) (e61 : y60 = y56 + y58) (e63 : y62 = y60 - (nI 48)) : 940 - (k17 + 1) < n24 := by
  have b_x18 := ia_b x18
  have b_y38 := ia_b y38
  have b_y43 := ia_b y43
  have b_y56 := ia_b y56
  have b_y58 := ia_b y58
  have b_y60 := ia_b y60
  have b_y62 := ia_b y62
  try have k_0 := ia_n 10 (by first | decide | omega)
  try have k_1 := ia_n 48 (by first | decide | omega)
  try simp only [ia_lt, ia_le, ia_eq, ia_m1, ia_0, ia_1, ne_eq, true_and, and_true, false_and, and_false, or_false, false_or, or_true, true_or, not_true_eq_false, not_false_eq_true] at *
  all_goals omega
set_option maxRecDepth 20000 in
theorem lf_r_readRun_9 (rlength : Nat) (rplace : Nat) (rtapeF : Nat → Int32) (k17 : Nat) (n24 : Nat) (y38 : Int32) (y64 : Int32) (y69 : Int32) (y76 : Int32) (iv_rreader_0 : rlength ≤ 940) (iv_rreader_1 : rplace ≤ rlength) (j20 : k17 ≤ 940) (j21 : k17 ≤ rlength) (j22 : rplace ≤ k17) (hm26 : 940 - k17 < n24 + 1) (c27 : k17 < rlength) (e39 : y38 = rtapeF k17) (e65 : y64 = rtapeF k17) (e70 : y69 = rtapeF k17) (e77 : y76 = rtapeF k17) : (k17 + 1) ≤ 940 := by
  have b_y38 := ia_b y38
  have b_y64 := ia_b y64
  have b_y69 := ia_b y69
  have b_y76 := ia_b y76
  try simp only [ia_lt, ia_le, ia_eq, ia_m1, ia_0, ia_1, ne_eq, true_and, and_true, false_and, and_false, or_false, false_or, or_true, true_or, not_true_eq_false, not_false_eq_true] at *
  all_goals omega
set_option maxRecDepth 20000 in
theorem lf_r_readRun_10 (rlength : Nat) (rplace : Nat) (rtapeF : Nat → Int32) (k17 : Nat) (n24 : Nat) (y38 : Int32) (y64 : Int32) (y69 : Int32) (y76 : Int32) (iv_rreader_0 : rlength ≤ 940) (iv_rreader_1 : rplace ≤ rlength) (j20 : k17 ≤ 940) (j21 : k17 ≤ rlength) (j22 : rplace ≤ k17) (hm26 : 940 - k17 < n24 + 1) (c27 : k17 < rlength) (e39 : y38 = rtapeF k17) (e65 : y64 = rtapeF k17) (e70 : y69 = rtapeF k17) (e77 : y76 = rtapeF k17) : (k17 + 1) ≤ rlength := by
  have b_y38 := ia_b y38
  have b_y64 := ia_b y64
  have b_y69 := ia_b y69
  have b_y76 := ia_b y76
  try simp only [ia_lt, ia_le, ia_eq, ia_m1, ia_0, ia_1, ne_eq, true_and, and_true, false_and, and_false, or_false, false_or, or_true, true_or, not_true_eq_false, not_false_eq_true] at *
  all_goals omega
set_option maxRecDepth 20000 in
theorem lf_r_readRun_11 (rlength : Nat) (rplace : Nat) (rtapeF : Nat → Int32) (k17 : Nat) (n24 : Nat) (y38 : Int32) (y64 : Int32) (y69 : Int32) (y76 : Int32) (iv_rreader_0 : rlength ≤ 940) (iv_rreader_1 : rplace ≤ rlength) (j20 : k17 ≤ 940) (j21 : k17 ≤ rlength) (j22 : rplace ≤ k17) (hm26 : 940 - k17 < n24 + 1) (c27 : k17 < rlength) (e39 : y38 = rtapeF k17) (e65 : y64 = rtapeF k17) (e70 : y69 = rtapeF k17) (e77 : y76 = rtapeF k17) : rplace ≤ (k17 + 1) := by
  have b_y38 := ia_b y38
  have b_y64 := ia_b y64
  have b_y69 := ia_b y69
  have b_y76 := ia_b y76
  try simp only [ia_lt, ia_le, ia_eq, ia_m1, ia_0, ia_1, ne_eq, true_and, and_true, false_and, and_false, or_false, false_or, or_true, true_or, not_true_eq_false, not_false_eq_true] at *
  all_goals omega
set_option maxRecDepth 20000 in
theorem lf_r_readRun_12 (rlength : Nat) (rplace : Nat) (rtapeF : Nat → Int32) (k17 : Nat) (n24 : Nat) (y38 : Int32) (y64 : Int32) (y69 : Int32) (y76 : Int32) (iv_rreader_0 : rlength ≤ 940) (iv_rreader_1 : rplace ≤ rlength) (j20 : k17 ≤ 940) (j21 : k17 ≤ rlength) (j22 : rplace ≤ k17) (hm26 : 940 - k17 < n24 + 1) (c27 : k17 < rlength) (e39 : y38 = rtapeF k17) (e65 : y64 = rtapeF k17) (e70 : y69 = rtapeF k17) (e77 : y76 = rtapeF k17) : 940 - (k17 + 1) < n24 := by
  have b_y38 := ia_b y38
  have b_y64 := ia_b y64
  have b_y69 := ia_b y69
  have b_y76 := ia_b y76
  try simp only [ia_lt, ia_le, ia_eq, ia_m1, ia_0, ia_1, ne_eq, true_and, and_true, false_and, and_false, or_false, false_or, or_true, true_or, not_true_eq_false, not_false_eq_true] at *
  all_goals omega
set_option maxRecDepth 20000 in
theorem lf_r_readRun_13 (rlength : Nat) (rplace : Nat) (rtapeF : Nat → Int32) (k17 : Nat) (x18 : Int32) (n24 : Nat) (y38 : Int32) (y64 : Int32) (y69 : Int32) (y82 : Int32) (y84 : Int32) (y86 : Int32) (y88 : Int32) (iv_rreader_0 : rlength ≤ 940) (iv_rreader_1 : rplace ≤ rlength) (j20 : k17 ≤ 940) (j21 : k17 ≤ rlength) (j22 : rplace ≤ k17) (hm26 : 940 - k17 < n24 + 1) (c27 : k17 < rlength) (e39 : y38 = rtapeF k17) (e65 : y64 = rtapeF k17) (e70 : y69 = rtapeF k17) (e83 : y82 = (nI 10) * x18) (e85 : y84 = rtapeF k17) (e87 : y86 = y82 + y84) (e89 : y88 = y86 - (nI 48)) : (k17 + 1) ≤ 940 := by
  have b_x18 := ia_b x18
  have b_y38 := ia_b y38
  have b_y64 := ia_b y64
  have b_y69 := ia_b y69
  have b_y82 := ia_b y82
  have b_y84 := ia_b y84
  have b_y86 := ia_b y86
  have b_y88 := ia_b y88
  try have k_0 := ia_n 10 (by first | decide | omega)
  try have k_1 := ia_n 48 (by first | decide | omega)
  try simp only [ia_lt, ia_le, ia_eq, ia_m1, ia_0, ia_1, ne_eq, true_and, and_true, false_and, and_false, or_false, false_or, or_true, true_or, not_true_eq_false, not_false_eq_true] at *
  all_goals omega
set_option maxRecDepth 20000 in
theorem lf_r_readRun_14 (rlength : Nat) (rplace : Nat) (rtapeF : Nat → Int32) (k17 : Nat) (x18 : Int32) (n24 : Nat) (y38 : Int32) (y64 : Int32) (y69 : Int32) (y82 : Int32) (y84 : Int32) (y86 : Int32) (y88 : Int32) (iv_rreader_0 : rlength ≤ 940) (iv_rreader_1 : rplace ≤ rlength) (j20 : k17 ≤ 940) (j21 : k17 ≤ rlength) (j22 : rplace ≤ k17) (hm26 : 940 - k17 < n24 + 1) (c27 : k17 < rlength) (e39 : y38 = rtapeF k17) (e65 : y64 = rtapeF k17) (e70 : y69 = rtapeF k17) (e83 : y82 = (nI 10) * x18) (e85 : y84 = rtapeF k17) (e87 : y86 = y82 + y84) (e89 : y88 = y86 - (nI 48)) : (k17 + 1) ≤ rlength := by
  have b_x18 := ia_b x18
  have b_y38 := ia_b y38
  have b_y64 := ia_b y64
  have b_y69 := ia_b y69
  have b_y82 := ia_b y82
  have b_y84 := ia_b y84
  have b_y86 := ia_b y86
  have b_y88 := ia_b y88
  try have k_0 := ia_n 10 (by first | decide | omega)
  try have k_1 := ia_n 48 (by first | decide | omega)
  try simp only [ia_lt, ia_le, ia_eq, ia_m1, ia_0, ia_1, ne_eq, true_and, and_true, false_and, and_false, or_false, false_or, or_true, true_or, not_true_eq_false, not_false_eq_true] at *
  all_goals omega
set_option maxRecDepth 20000 in
theorem lf_r_readRun_15 (rlength : Nat) (rplace : Nat) (rtapeF : Nat → Int32) (k17 : Nat) (x18 : Int32) (n24 : Nat) (y38 : Int32) (y64 : Int32) (y69 : Int32) (y82 : Int32) (y84 : Int32) (y86 : Int32) (y88 : Int32) (iv_rreader_0 : rlength ≤ 940) (iv_rreader_1 : rplace ≤ rlength) (j20 : k17 ≤ 940) (j21 : k17 ≤ rlength) (j22 : rplace ≤ k17) (hm26 : 940 - k17 < n24 + 1) (c27 : k17 < rlength) (e39 : y38 = rtapeF k17) (e65 : y64 = rtapeF k17) (e70 : y69 = rtapeF k17) (e83 : y82 = (nI 10) * x18) (e85 : y84 = rtapeF k17) (e87 : y86 = y82 + y84) (e89 : y88 = y86 - (nI 48)) : rplace ≤ (k17 + 1) := by
  have b_x18 := ia_b x18
  have b_y38 := ia_b y38
  have b_y64 := ia_b y64
  have b_y69 := ia_b y69
  have b_y82 := ia_b y82
  have b_y84 := ia_b y84
  have b_y86 := ia_b y86
  have b_y88 := ia_b y88
  try have k_0 := ia_n 10 (by first | decide | omega)
  try have k_1 := ia_n 48 (by first | decide | omega)
  try simp only [ia_lt, ia_le, ia_eq, ia_m1, ia_0, ia_1, ne_eq, true_and, and_true, false_and, and_false, or_false, false_or, or_true, true_or, not_true_eq_false, not_false_eq_true] at *
  all_goals omega
set_option maxRecDepth 20000 in
theorem lf_r_readRun_16 (rlength : Nat) (rplace : Nat) (rtapeF : Nat → Int32) (k17 : Nat) (x18 : Int32) (n24 : Nat) (y38 : Int32) (y64 : Int32) (y69 : Int32) (y82 : Int32) (y84 : Int32) (y86 : Int32) (y88 : Int32) (iv_rreader_0 : rlength ≤ 940) (iv_rreader_1 : rplace ≤ rlength) (j20 : k17 ≤ 940) (j21 : k17 ≤ rlength) (j22 : rplace ≤ k17) (hm26 : 940 - k17 < n24 + 1) (c27 : k17 < rlength) (e39 : y38 = rtapeF k17) (e65 : y64 = rtapeF k17) (e70 : y69 = rtapeF k17) (e83 : y82 = (nI 10) * x18) (e85 : y84 = rtapeF k17) (e87 : y86 = y82 + y84) (e89 : y88 = y86 - (nI 48)) : 940 - (k17 + 1) < n24 := by
  have b_x18 := ia_b x18
  have b_y38 := ia_b y38
  have b_y64 := ia_b y64
  have b_y69 := ia_b y69
  have b_y82 := ia_b y82
  have b_y84 := ia_b y84
  have b_y86 := ia_b y86
  have b_y88 := ia_b y88
  try have k_0 := ia_n 10 (by first | decide | omega)
  try have k_1 := ia_n 48 (by first | decide | omega)
  try simp only [ia_lt, ia_le, ia_eq, ia_m1, ia_0, ia_1, ne_eq, true_and, and_true, false_and, and_false, or_false, false_or, or_true, true_or, not_true_eq_false, not_false_eq_true] at *
  all_goals omega
set_option maxRecDepth 20000 in
theorem lf_r_readRun_17 (rlength : Nat) (rplace : Nat) (iv_rreader_0 : rlength ≤ 940) (iv_rreader_1 : rplace ≤ rlength) : rplace ≤ 940 := by
  try simp only [ia_lt, ia_le, ia_eq, ia_m1, ia_0, ia_1, ne_eq, true_and, and_true, false_and, and_false, or_false, false_or, or_true, true_or, not_true_eq_false, not_false_eq_true] at *
  all_goals omega
set_option maxRecDepth 20000 in
theorem lf_r_readRun_18 (rlength : Nat) (rplace : Nat) (iv_rreader_0 : rlength ≤ 940) (iv_rreader_1 : rplace ≤ rlength) : rplace ≤ rplace := by
  try simp only [ia_lt, ia_le, ia_eq, ia_m1, ia_0, ia_1, ne_eq, true_and, and_true, false_and, and_false, or_false, false_or, or_true, true_or, not_true_eq_false, not_false_eq_true] at *
  all_goals omega
set_option maxHeartbeats 4000000 in
set_option maxRecDepth 100000 in
theorem c_r_readRun (l : Launch) (dC : Nat → ClassId) (dI : Nat → Nat → Nat) (ky : Nat → ClassId) (sz : Nat) (reader : Nat) (rtape : Nat) (rlength : Nat) (rmostBytes : Nat) (rplace : Nat) (rkind : Int32) (rbegin : Nat) (rword : Int32) (rnumber : Int32) (rletters : Int64) (rfaultKind : Int32) (rfaultPlace : Int32) (rtapeF : Nat → Int32) (iv_rreader_0 : rlength ≤ 940) (iv_rreader_1 : rplace ≤ rlength) (iv_rreader_2 : rmostBytes ≤ 900) (iv_rreader_3 : rbegin ≤ 940) : Met l yX5_readRun wsX5_readRun ({ frames := 1, cells := 0, slots := 0, locals := 20 }) (PcU dC dI ky [.ref reader] [(reader, .inr (5, [.ref rtape, .int (nI rlength), .int (nI rmostBytes), .int (nI rplace), .int rkind, .int (nI rbegin), .int rword, .int rnumber, .long rletters, .int rfaultKind, .int rfaultPlace])), (rtape, .inl (ky 2, 940, .inl rtapeF))] sz) (va_Qv (fun (u : Nat × Int32 × Int32 × Int64) => match u with | (rplaceG, rkindG, rnumberG, rlettersG) => (rplaceG ≤ rlength) ∧ (rplace ≤ rplaceG)) (BU dC dI ky (fun (u : Nat × Int32 × Int32 × Int64) => match u with | (rplaceG, rkindG, rnumberG, rlettersG) => [(reader, .inr (5, [.ref rtape, .int (nI rlength), .int (nI rmostBytes), .int (nI rplaceG), .int rkindG, .int (nI rbegin), .int rword, .int rnumberG, .long rlettersG, .int rfaultKind, .int rfaultPlace])), (rtape, .inl (ky 2, 940, .inl rtapeF))]) (va_A [(reader, .inr (5, [.ref rtape, .int (nI rlength), .int (nI rmostBytes), .int (nI rplace), .int rkind, .int (nI rbegin), .int rword, .int rnumber, .long rletters, .int rfaultKind, .int rfaultPlace])), (rtape, .inl (ky 2, 940, .inl rtapeF))] sz)) (va_A [(reader, .inr (5, [.ref rtape, .int (nI rlength), .int (nI rmostBytes), .int (nI rplace), .int rkind, .int (nI rbegin), .int rword, .int rnumber, .long rletters, .int rfaultKind, .int rfaultPlace])), (rtape, .inl (ky 2, 940, .inl rtapeF))] sz)) 0 0 (va_A [(reader, .inr (5, [.ref rtape, .int (nI rlength), .int (nI rmostBytes), .int (nI rplace), .int rkind, .int (nI rbegin), .int rword, .int rnumber, .long rletters, .int rfaultKind, .int rfaultPlace])), (rtape, .inl (ky 2, 940, .inl rtapeF))] sz) := by
  refine Met.ofW (cc := cX5_readRun) (maxL := 3) (ret := none) (by decide) rfl ?_
  intro p e s m args below meth c s₁ B hml hv
  obtain ⟨rfl, hsz, hP, hK, hD0⟩ := hv
  have hx := B.exec
  have hb := B.bytes
  have hr := B.returns
  have hts := atoms_spec (ws := wsX5_readRun) B.pre
  have hown : s.vm.findClass RX5 = some m.cls := findClass_of_methodNamed B.named
  have hlocks := B.notSynchronized
  have hin5 : ∀ w ∈ u_ws RX5 TX5 11, w ∈ wsX5_readRun := by decide +kernel
  subst hsz
  have hD := hD0.self (sz := s.heap.size)
  generalize hAe : va_A [(reader, .inr (5, [.ref rtape, .int (nI rlength), .int (nI rmostBytes), .int (nI rplace), .int rkind, .int (nI rbegin), .int rword, .int rnumber, .long rletters, .int rfaultKind, .int rfaultPlace])), (rtape, .inl (ky 2, 940, .inl rtapeF))] s.heap.size = A at hD ⊢
  have hA : ∀ q : Nat, s.heap.size ≤ q → A q := fun q h => by rw [← hAe]; exact Or.inr h
  have hS : va_S A s.heap s.heap [] := va_S.rf
  have hl := lv_entry ([.ref reader]) (n := 3) (Nat.le_of_ble_eq_true rfl)
  rw [lg_entry_eq]
  generalize (lg_sl ([.ref reader]) ++ List.replicate (3 - (lg_sl ([.ref reader])).length) Slot.unset).toArray = ls at hl ⊢
  have hl : lv_has ls 3 [(0, .ref reader)] := hl
  refine q_name (fun Q hQ => ?_)
  generalize ([.ref reader] : List Value).toArray = args at hts hQ ⊢
  refine lv_iconst (v := nI 0) hx hb dX5_readRun_0 (by decide) ?_
  refine lv_istore_n (lv' := [(1, .int (nI 0)), (0, .ref reader)]) hx hb dX5_readRun_1 rfl hl (by decide) rfl (fun ls hl => ?_)
  refine lv_aload_n hx hb dX5_readRun_2 rfl (lv_at hl 1 rfl) ?_
  refine lv_lconst (v := 0) hx hb dX5_readRun_3 (by decide) ?_
  refine va_put (D := (dC, dI)) (ci := 5) (v := .long 0) (ty := .long) (C := RX5) (T := TX5) (N := 11) hx hb hts hin5 tyX5 tyX5_ok nmX5 hown hK hP hD hS 0 rfl rfl 8 (by decide) (hts (.fieldLink RX5 72 "PorridgeSea$Reader" "letters" "J") (List.mem_of_getElem? (i := 1) rfl)) (fun _ h9 => h9) rfl (by decide +kernel) rfl rfl (Nat.le_of_ble_eq_true rfl) dX5_readRun_4 (fun H locs hP hD hS => ?_)
  have hP : va_P (dC, dI) vwCl [(reader, .inr (5, [.ref rtape, .int (nI rlength), .int (nI rmostBytes), .int (nI rplace), .int rkind, .int (nI rbegin), .int rword, .int rnumber, .long 0, .int rfaultKind, .int rfaultPlace])), (rtape, .inl (ky 2, 940, .inl rtapeF))] H := hP
  have hD : va_D A [(reader, .inr (5, [.ref rtape, .int (nI rlength), .int (nI rmostBytes), .int (nI rplace), .int rkind, .int (nI rbegin), .int rword, .int rnumber, .long 0, .int rfaultKind, .int rfaultPlace])), (rtape, .inl (ky 2, 940, .inl rtapeF))] := hD
  refine lv_aload_n hx hb dX5_readRun_7 rfl (lv_at hl 1 rfl) ?_
  refine lv_iconst (v := nI 0) hx hb dX5_readRun_8 (by decide) ?_
  refine va_put (D := (dC, dI)) (ci := 5) (v := .int (nI 0)) (ty := .int) (C := RX5) (T := TX5) (N := 11) hx hb hts hin5 tyX5 tyX5_ok nmX5 hown hK hP hD hS 0 rfl rfl 7 (by decide) (hts (.fieldLink RX5 76 "PorridgeSea$Reader" "number" "I") (List.mem_of_getElem? (i := 2) rfl)) (fun _ h9 => h9) rfl (by decide +kernel) rfl rfl (Nat.le_of_ble_eq_true rfl) dX5_readRun_9 (fun H locs hP hD hS => ?_)
  have hP : va_P (dC, dI) vwCl [(reader, .inr (5, [.ref rtape, .int (nI rlength), .int (nI rmostBytes), .int (nI rplace), .int rkind, .int (nI rbegin), .int rword, .int (nI 0), .long 0, .int rfaultKind, .int rfaultPlace])), (rtape, .inl (ky 2, 940, .inl rtapeF))] H := hP
  have hD : va_D A [(reader, .inr (5, [.ref rtape, .int (nI rlength), .int (nI rmostBytes), .int (nI rplace), .int rkind, .int (nI rbegin), .int rword, .int (nI 0), .long 0, .int rfaultKind, .int rfaultPlace])), (rtape, .inl (ky 2, 940, .inl rtapeF))] := hD
  have hL23 : ∀ (n24 : Nat) (k16 : Nat) (k17 : Nat) (x18 : Int32) (w19 : Int64), (k17 ≤ 940) → (k17 ≤ rlength) → (rplace ≤ k17) → 940 - k17 < n24 → ∀ (H : Heap) (locs : List Loc) (ls : Array Slot), va_P (dC, dI) vwCl [(reader, .inr (5, [.ref rtape, .int (nI rlength), .int (nI rmostBytes), .int (nI k17), .int rkind, .int (nI rbegin), .int rword, .int x18, .long w19, .int rfaultKind, .int rfaultPlace])), (rtape, .inl (ky 2, 940, .inl rtapeF))] H → va_D A [(reader, .inr (5, [.ref rtape, .int (nI rlength), .int (nI rmostBytes), .int (nI k17), .int rkind, .int (nI rbegin), .int rword, .int x18, .long w19, .int rfaultKind, .int rfaultPlace])), (rtape, .inl (ky 2, 940, .inl rtapeF))] → va_S A s.heap H locs → lv_has ls 3 [(1, .int (nI k16)), (0, .ref reader)] → W p l e (headSpec wsX5_readRun ({ frames := 1, cells := 0, slots := 0, locals := 20 })).room s m args below meth c H locs 0 0 Q (F0 m 12 ls []) := by
    intro n24
    induction n24 with
    | zero => intro k16 k17 x18 w19 _ _ _ h9; exact absurd h9 (Nat.not_lt_zero _)
    | succ n24 ih25 =>
      intro k16 k17 x18 w19 j20 j21 j22 hm26 H locs ls hP hD hS hl
      refine lv_aload_n hx hb dX5_readRun_12 rfl (lv_at hl 1 rfl) ?_
      refine va_get (D := (dC, dI)) (ci := 5) (v := .int (nI k17)) (C := RX5) (T := TX5) (N := 11) hx hb hts hin5 hown hK hP 0 rfl rfl 3 (by decide) (hts (.fieldLink RX5 28 "PorridgeSea$Reader" "place" "I") (List.mem_of_getElem? (i := 3) rfl)) (fun _ h9 => h9) rfl dX5_readRun_13 ?_
      refine lv_aload_n hx hb dX5_readRun_16 rfl (lv_at hl 1 rfl) ?_
      refine va_get (D := (dC, dI)) (ci := 5) (v := .int (nI rlength)) (C := RX5) (T := TX5) (N := 11) hx hb hts hin5 hown hK hP 0 rfl rfl 1 (by decide) (hts (.fieldLink RX5 21 "PorridgeSea$Reader" "length" "I") (List.mem_of_getElem? (i := 4) rfl)) (fun _ h9 => h9) rfl dX5_readRun_17 ?_
      have hJ28 : ∀ (H : Heap) (locs : List Loc) (ls : Array Slot), va_P (dC, dI) vwCl [(reader, .inr (5, [.ref rtape, .int (nI rlength), .int (nI rmostBytes), .int (nI k17), .int rkind, .int (nI rbegin), .int rword, .int x18, .long w19, .int rfaultKind, .int rfaultPlace])), (rtape, .inl (ky 2, 940, .inl rtapeF))] H → va_D A [(reader, .inr (5, [.ref rtape, .int (nI rlength), .int (nI rmostBytes), .int (nI k17), .int rkind, .int (nI rbegin), .int rword, .int x18, .long w19, .int rfaultKind, .int rfaultPlace])), (rtape, .inl (ky 2, 940, .inl rtapeF))] → va_S A s.heap H locs → lv_has ls 3 [(1, .int (nI k16)), (0, .ref reader)] → W p l e (headSpec wsX5_readRun ({ frames := 1, cells := 0, slots := 0, locals := 20 })).room s m args below meth c H locs 0 0 Q (F0 m 133 ls []) := by
        intro  H locs ls hP hD hS hl
        refine lv_aload_n hx hb dX5_readRun_133 rfl (lv_at hl 1 rfl) ?_
        refine va_get (D := (dC, dI)) (ci := 5) (v := .int (nI k17)) (C := RX5) (T := TX5) (N := 11) hx hb hts hin5 hown hK hP 0 rfl rfl 3 (by decide) (hts (.fieldLink RX5 28 "PorridgeSea$Reader" "place" "I") (List.mem_of_getElem? (i := 3) rfl)) (fun _ h9 => h9) rfl dX5_readRun_134 ?_
        refine lv_aload_n hx hb dX5_readRun_137 rfl (lv_at hl 1 rfl) ?_
        refine va_get (D := (dC, dI)) (ci := 5) (v := .int (nI rbegin)) (C := RX5) (T := TX5) (N := 11) hx hb hts hin5 hown hK hP 0 rfl rfl 5 (by decide) (hts (.fieldLink RX5 40 "PorridgeSea$Reader" "begin" "I") (List.mem_of_getElem? (i := 6) rfl)) (fun _ h9 => h9) rfl dX5_readRun_138 ?_
        refine lv_isub hx hb dX5_readRun_141 ?_
        refine lv_topi (fun y29 e30 => ?_)
        have f31 : y29.toInt = ((k17 : Nat) : Int) - ((rbegin : Nat) : Int) := by rw [e30]; exact ia_sub _ _ (by omega) (by omega)
        refine lv_istore_n (lv' := [(2, .int y29), (1, .int (nI k16)), (0, .ref reader)]) hx hb dX5_readRun_142 rfl hl (by decide) rfl (fun ls hl => ?_)
        refine lv_iload_n hx hb dX5_readRun_143 rfl (lv_at hl 1 rfl) ?_
        refine lv_if_ne (tgt := 161) hx hb dX5_readRun_144 (by decide) (fun c32 => ?_) (fun c32 => ?_)
        · refine lv_aload_n hx hb dX5_readRun_161 rfl (lv_at hl 2 rfl) ?_
          refine lv_iload_n hx hb dX5_readRun_162 rfl (lv_at hl 1 rfl) ?_
          refine lv_iload_n hx hb dX5_readRun_163 rfl (lv_at hl 0 rfl) ?_
          refine lv_icmp_ne (tgt := 176) hx hb dX5_readRun_164 (by decide) (fun c33 => ?_) (fun c33 => ?_)
          · refine lv_iconst (v := nI 1) hx hb dX5_readRun_176 (by decide) ?_
            refine va_put (D := (dC, dI)) (ci := 5) (v := .int (nI 1)) (ty := .int) (C := RX5) (T := TX5) (N := 11) hx hb hts hin5 tyX5 tyX5_ok nmX5 hown hK hP hD hS 0 rfl rfl 4 (by decide) (hts (.fieldLink RX5 46 "PorridgeSea$Reader" "kind" "I") (List.mem_of_getElem? (i := 7) rfl)) (fun _ h9 => h9) rfl (by decide +kernel) rfl rfl (Nat.le_of_ble_eq_true rfl) dX5_readRun_177 (fun H locs hP hD hS => ?_)
            have hP : va_P (dC, dI) vwCl [(reader, .inr (5, [.ref rtape, .int (nI rlength), .int (nI rmostBytes), .int (nI k17), .int (nI 1), .int (nI rbegin), .int rword, .int x18, .long w19, .int rfaultKind, .int rfaultPlace])), (rtape, .inl (ky 2, 940, .inl rtapeF))] H := hP
            have hD : va_D A [(reader, .inr (5, [.ref rtape, .int (nI rlength), .int (nI rmostBytes), .int (nI k17), .int (nI 1), .int (nI rbegin), .int rword, .int x18, .long w19, .int rfaultKind, .int rfaultPlace])), (rtape, .inl (ky 2, 940, .inl rtapeF))] := hD
            rw [hQ]
            exact W.vret hx hb hr (fun t9 ht9 hW9 => ⟨⟨(k17, nI 1, x18, w19), rfl, ⟨j21, j22⟩, by rw [ht9]; exact hP, va_K.moved hW9.alike hK, hD⟩, hS.F ht9⟩) hS.2.2 dX5_readRun_180
          · refine lv_iload_n hx hb dX5_readRun_167 rfl (lv_at hl 0 rfl) ?_
            refine lv_iconst (v := nI 3) hx hb dX5_readRun_168 (by decide) ?_
            refine lv_icmp_gt (tgt := 176) hx hb dX5_readRun_169 (by decide) (fun c34 => ?_) (fun c34 => ?_)
            · refine lv_iconst (v := nI 1) hx hb dX5_readRun_176 (by decide) ?_
              refine va_put (D := (dC, dI)) (ci := 5) (v := .int (nI 1)) (ty := .int) (C := RX5) (T := TX5) (N := 11) hx hb hts hin5 tyX5 tyX5_ok nmX5 hown hK hP hD hS 0 rfl rfl 4 (by decide) (hts (.fieldLink RX5 46 "PorridgeSea$Reader" "kind" "I") (List.mem_of_getElem? (i := 7) rfl)) (fun _ h9 => h9) rfl (by decide +kernel) rfl rfl (Nat.le_of_ble_eq_true rfl) dX5_readRun_177 (fun H locs hP hD hS => ?_)
              have hP : va_P (dC, dI) vwCl [(reader, .inr (5, [.ref rtape, .int (nI rlength), .int (nI rmostBytes), .int (nI k17), .int (nI 1), .int (nI rbegin), .int rword, .int x18, .long w19, .int rfaultKind, .int rfaultPlace])), (rtape, .inl (ky 2, 940, .inl rtapeF))] H := hP
              have hD : va_D A [(reader, .inr (5, [.ref rtape, .int (nI rlength), .int (nI rmostBytes), .int (nI k17), .int (nI 1), .int (nI rbegin), .int rword, .int x18, .long w19, .int rfaultKind, .int rfaultPlace])), (rtape, .inl (ky 2, 940, .inl rtapeF))] := hD
              rw [hQ]
              exact W.vret hx hb hr (fun t9 ht9 hW9 => ⟨⟨(k17, nI 1, x18, w19), rfl, ⟨j21, j22⟩, by rw [ht9]; exact hP, va_K.moved hW9.alike hK, hD⟩, hS.F ht9⟩) hS.2.2 dX5_readRun_180
            · refine lv_iconst (v := nI 3) hx hb dX5_readRun_172 (by decide) ?_
              refine lv_goto (tgt := 177) hx hb dX5_readRun_173 (by decide) ?_
              refine va_put (D := (dC, dI)) (ci := 5) (v := .int (nI 3)) (ty := .int) (C := RX5) (T := TX5) (N := 11) hx hb hts hin5 tyX5 tyX5_ok nmX5 hown hK hP hD hS 0 rfl rfl 4 (by decide) (hts (.fieldLink RX5 46 "PorridgeSea$Reader" "kind" "I") (List.mem_of_getElem? (i := 7) rfl)) (fun _ h9 => h9) rfl (by decide +kernel) rfl rfl (Nat.le_of_ble_eq_true rfl) dX5_readRun_177 (fun H locs hP hD hS => ?_)
              have hP : va_P (dC, dI) vwCl [(reader, .inr (5, [.ref rtape, .int (nI rlength), .int (nI rmostBytes), .int (nI k17), .int (nI 3), .int (nI rbegin), .int rword, .int x18, .long w19, .int rfaultKind, .int rfaultPlace])), (rtape, .inl (ky 2, 940, .inl rtapeF))] H := hP
              have hD : va_D A [(reader, .inr (5, [.ref rtape, .int (nI rlength), .int (nI rmostBytes), .int (nI k17), .int (nI 3), .int (nI rbegin), .int rword, .int x18, .long w19, .int rfaultKind, .int rfaultPlace])), (rtape, .inl (ky 2, 940, .inl rtapeF))] := hD
              rw [hQ]
              exact W.vret hx hb hr (fun t9 ht9 hW9 => ⟨⟨(k17, nI 3, x18, w19), rfl, ⟨j21, j22⟩, by rw [ht9]; exact hP, va_K.moved hW9.alike hK, hD⟩, hS.F ht9⟩) hS.2.2 dX5_readRun_180
        · refine lv_iload_n hx hb dX5_readRun_147 rfl (lv_at hl 0 rfl) ?_
          refine lv_bipush (v := nI 7) hx hb dX5_readRun_148 (by decide) ?_
          refine lv_icmp_gt (tgt := 161) hx hb dX5_readRun_150 (by decide) (fun c35 => ?_) (fun c35 => ?_)
          · refine lv_aload_n hx hb dX5_readRun_161 rfl (lv_at hl 2 rfl) ?_
            refine lv_iload_n hx hb dX5_readRun_162 rfl (lv_at hl 1 rfl) ?_
            refine lv_iload_n hx hb dX5_readRun_163 rfl (lv_at hl 0 rfl) ?_
            refine lv_icmp_ne (tgt := 176) hx hb dX5_readRun_164 (by decide) (fun c36 => ?_) (fun c36 => ?_)
            · refine lv_iconst (v := nI 1) hx hb dX5_readRun_176 (by decide) ?_
              refine va_put (D := (dC, dI)) (ci := 5) (v := .int (nI 1)) (ty := .int) (C := RX5) (T := TX5) (N := 11) hx hb hts hin5 tyX5 tyX5_ok nmX5 hown hK hP hD hS 0 rfl rfl 4 (by decide) (hts (.fieldLink RX5 46 "PorridgeSea$Reader" "kind" "I") (List.mem_of_getElem? (i := 7) rfl)) (fun _ h9 => h9) rfl (by decide +kernel) rfl rfl (Nat.le_of_ble_eq_true rfl) dX5_readRun_177 (fun H locs hP hD hS => ?_)
              have hP : va_P (dC, dI) vwCl [(reader, .inr (5, [.ref rtape, .int (nI rlength), .int (nI rmostBytes), .int (nI k17), .int (nI 1), .int (nI rbegin), .int rword, .int x18, .long w19, .int rfaultKind, .int rfaultPlace])), (rtape, .inl (ky 2, 940, .inl rtapeF))] H := hP
              have hD : va_D A [(reader, .inr (5, [.ref rtape, .int (nI rlength), .int (nI rmostBytes), .int (nI k17), .int (nI 1), .int (nI rbegin), .int rword, .int x18, .long w19, .int rfaultKind, .int rfaultPlace])), (rtape, .inl (ky 2, 940, .inl rtapeF))] := hD
              rw [hQ]
              exact W.vret hx hb hr (fun t9 ht9 hW9 => ⟨⟨(k17, nI 1, x18, w19), rfl, ⟨j21, j22⟩, by rw [ht9]; exact hP, va_K.moved hW9.alike hK, hD⟩, hS.F ht9⟩) hS.2.2 dX5_readRun_180
            · refine lv_iload_n hx hb dX5_readRun_167 rfl (lv_at hl 0 rfl) ?_
              refine lv_iconst (v := nI 3) hx hb dX5_readRun_168 (by decide) ?_
              refine lv_icmp_gt (tgt := 176) hx hb dX5_readRun_169 (by decide) (fun c37 => ?_) (fun c37 => ?_)
              · refine lv_iconst (v := nI 1) hx hb dX5_readRun_176 (by decide) ?_
                refine va_put (D := (dC, dI)) (ci := 5) (v := .int (nI 1)) (ty := .int) (C := RX5) (T := TX5) (N := 11) hx hb hts hin5 tyX5 tyX5_ok nmX5 hown hK hP hD hS 0 rfl rfl 4 (by decide) (hts (.fieldLink RX5 46 "PorridgeSea$Reader" "kind" "I") (List.mem_of_getElem? (i := 7) rfl)) (fun _ h9 => h9) rfl (by decide +kernel) rfl rfl (Nat.le_of_ble_eq_true rfl) dX5_readRun_177 (fun H locs hP hD hS => ?_)
                have hP : va_P (dC, dI) vwCl [(reader, .inr (5, [.ref rtape, .int (nI rlength), .int (nI rmostBytes), .int (nI k17), .int (nI 1), .int (nI rbegin), .int rword, .int x18, .long w19, .int rfaultKind, .int rfaultPlace])), (rtape, .inl (ky 2, 940, .inl rtapeF))] H := hP
                have hD : va_D A [(reader, .inr (5, [.ref rtape, .int (nI rlength), .int (nI rmostBytes), .int (nI k17), .int (nI 1), .int (nI rbegin), .int rword, .int x18, .long w19, .int rfaultKind, .int rfaultPlace])), (rtape, .inl (ky 2, 940, .inl rtapeF))] := hD
                rw [hQ]
                exact W.vret hx hb hr (fun t9 ht9 hW9 => ⟨⟨(k17, nI 1, x18, w19), rfl, ⟨j21, j22⟩, by rw [ht9]; exact hP, va_K.moved hW9.alike hK, hD⟩, hS.F ht9⟩) hS.2.2 dX5_readRun_180
              · refine lv_iconst (v := nI 3) hx hb dX5_readRun_172 (by decide) ?_
                refine lv_goto (tgt := 177) hx hb dX5_readRun_173 (by decide) ?_
                refine va_put (D := (dC, dI)) (ci := 5) (v := .int (nI 3)) (ty := .int) (C := RX5) (T := TX5) (N := 11) hx hb hts hin5 tyX5 tyX5_ok nmX5 hown hK hP hD hS 0 rfl rfl 4 (by decide) (hts (.fieldLink RX5 46 "PorridgeSea$Reader" "kind" "I") (List.mem_of_getElem? (i := 7) rfl)) (fun _ h9 => h9) rfl (by decide +kernel) rfl rfl (Nat.le_of_ble_eq_true rfl) dX5_readRun_177 (fun H locs hP hD hS => ?_)
                have hP : va_P (dC, dI) vwCl [(reader, .inr (5, [.ref rtape, .int (nI rlength), .int (nI rmostBytes), .int (nI k17), .int (nI 3), .int (nI rbegin), .int rword, .int x18, .long w19, .int rfaultKind, .int rfaultPlace])), (rtape, .inl (ky 2, 940, .inl rtapeF))] H := hP
                have hD : va_D A [(reader, .inr (5, [.ref rtape, .int (nI rlength), .int (nI rmostBytes), .int (nI k17), .int (nI 3), .int (nI rbegin), .int rword, .int x18, .long w19, .int rfaultKind, .int rfaultPlace])), (rtape, .inl (ky 2, 940, .inl rtapeF))] := hD
                rw [hQ]
                exact W.vret hx hb hr (fun t9 ht9 hW9 => ⟨⟨(k17, nI 3, x18, w19), rfl, ⟨j21, j22⟩, by rw [ht9]; exact hP, va_K.moved hW9.alike hK, hD⟩, hS.F ht9⟩) hS.2.2 dX5_readRun_180
          · refine lv_aload_n hx hb dX5_readRun_153 rfl (lv_at hl 2 rfl) ?_
            refine lv_iconst (v := nI 2) hx hb dX5_readRun_154 (by decide) ?_
            refine va_put (D := (dC, dI)) (ci := 5) (v := .int (nI 2)) (ty := .int) (C := RX5) (T := TX5) (N := 11) hx hb hts hin5 tyX5 tyX5_ok nmX5 hown hK hP hD hS 0 rfl rfl 4 (by decide) (hts (.fieldLink RX5 46 "PorridgeSea$Reader" "kind" "I") (List.mem_of_getElem? (i := 7) rfl)) (fun _ h9 => h9) rfl (by decide +kernel) rfl rfl (Nat.le_of_ble_eq_true rfl) dX5_readRun_155 (fun H locs hP hD hS => ?_)
            have hP : va_P (dC, dI) vwCl [(reader, .inr (5, [.ref rtape, .int (nI rlength), .int (nI rmostBytes), .int (nI k17), .int (nI 2), .int (nI rbegin), .int rword, .int x18, .long w19, .int rfaultKind, .int rfaultPlace])), (rtape, .inl (ky 2, 940, .inl rtapeF))] H := hP
            have hD : va_D A [(reader, .inr (5, [.ref rtape, .int (nI rlength), .int (nI rmostBytes), .int (nI k17), .int (nI 2), .int (nI rbegin), .int rword, .int x18, .long w19, .int rfaultKind, .int rfaultPlace])), (rtape, .inl (ky 2, 940, .inl rtapeF))] := hD
            refine lv_goto (tgt := 180) hx hb dX5_readRun_158 (by decide) ?_
            rw [hQ]
            exact W.vret hx hb hr (fun t9 ht9 hW9 => ⟨⟨(k17, nI 2, x18, w19), rfl, ⟨j21, j22⟩, by rw [ht9]; exact hP, va_K.moved hW9.alike hK, hD⟩, hS.F ht9⟩) hS.2.2 dX5_readRun_180
      refine n_icmp_ge (x := k17) (y := rlength) (tgt := 133) hx hb (by omega) (by omega) dX5_readRun_20 (by decide) (fun c27 => ?_) (fun c27 => ?_)
      · exact hJ28   _ _ _ hP hD hS (lv_sub hl [0, 1] rfl)
      · refine lv_aload_n hx hb dX5_readRun_23 rfl (lv_at hl 1 rfl) ?_
        refine va_get (D := (dC, dI)) (ci := 5) (v := .ref rtape) (C := RX5) (T := TX5) (N := 11) hx hb hts hin5 hown hK hP 0 rfl rfl 0 (by decide) (hts (.fieldLink RX5 9 "PorridgeSea$Reader" "tape" "[B") (List.mem_of_getElem? (i := 5) rfl)) (fun _ h9 => h9) rfl dX5_readRun_24 ?_
        refine lv_aload_n hx hb dX5_readRun_27 rfl (lv_at hl 1 rfl) ?_
        refine va_get (D := (dC, dI)) (ci := 5) (v := .int (nI k17)) (C := RX5) (T := TX5) (N := 11) hx hb hts hin5 hown hK hP 0 rfl rfl 3 (by decide) (hts (.fieldLink RX5 28 "PorridgeSea$Reader" "place" "I") (List.mem_of_getElem? (i := 3) rfl)) (fun _ h9 => h9) rfl dX5_readRun_28 ?_
        obtain ⟨y38, e39⟩ : ∃ z9, z9 = rtapeF k17 := ⟨_, rfl⟩
        refine r_bald hx hb hK hP 1 rfl k17 (by omega) (by decide) y38 e39.symm dX5_readRun_31 ?_
        refine vp_callSi (W.runS (As := [.int y38]) (rest := []) ⟨hx, hb, hml, hown, hts⟩ (c_r_isLetter l dC dI ky y38) (va_cwS 1 hts gX5_readRun_X5_isLetter rfl rfl rfl (by decide +kernel) ⟨(Nat.le_of_ble_eq_true rfl), (Nat.le_of_ble_eq_true rfl)⟩) (pre_PS hK hP [] rfl) rfl rfl hl.1 rfl (lv_room (Nat.le_of_ble_eq_true rfl)) dX5_readRun_32 ⟨(Nat.le_of_ble_eq_true rfl), (Nat.le_of_ble_eq_true rfl)⟩) (fun r40 p41 => ?_)
        refine lv_if_ne (tgt := 53) hx hb dX5_readRun_35 (by decide) (fun c42 => ?_) (fun c42 => ?_)
        · refine lv_aload_n hx hb dX5_readRun_53 rfl (lv_at hl 1 rfl) ?_
          refine va_get (D := (dC, dI)) (ci := 5) (v := .ref rtape) (C := RX5) (T := TX5) (N := 11) hx hb hts hin5 hown hK hP 0 rfl rfl 0 (by decide) (hts (.fieldLink RX5 9 "PorridgeSea$Reader" "tape" "[B") (List.mem_of_getElem? (i := 5) rfl)) (fun _ h9 => h9) rfl dX5_readRun_54 ?_
          refine lv_aload_n hx hb dX5_readRun_57 rfl (lv_at hl 1 rfl) ?_
          refine va_get (D := (dC, dI)) (ci := 5) (v := .int (nI k17)) (C := RX5) (T := TX5) (N := 11) hx hb hts hin5 hown hK hP 0 rfl rfl 3 (by decide) (hts (.fieldLink RX5 28 "PorridgeSea$Reader" "place" "I") (List.mem_of_getElem? (i := 3) rfl)) (fun _ h9 => h9) rfl dX5_readRun_58 ?_
          obtain ⟨y43, e44⟩ : ∃ z9, z9 = rtapeF k17 := ⟨_, rfl⟩
          refine r_bald hx hb hK hP 1 rfl k17 (by omega) (by decide) y43 e44.symm dX5_readRun_61 ?_
          refine vp_callSi (W.runS (As := [.int y43]) (rest := []) ⟨hx, hb, hml, hown, hts⟩ (c_r_isDigit l dC dI ky y43) (va_cwS 1 hts gX5_readRun_X5_isDigit rfl rfl rfl (by decide +kernel) ⟨(Nat.le_of_ble_eq_true rfl), (Nat.le_of_ble_eq_true rfl)⟩) (pre_PS hK hP [] rfl) rfl rfl hl.1 rfl (lv_room (Nat.le_of_ble_eq_true rfl)) dX5_readRun_62 ⟨(Nat.le_of_ble_eq_true rfl), (Nat.le_of_ble_eq_true rfl)⟩) (fun r45 p46 => ?_)
          refine lv_if_eq (tgt := 98) hx hb dX5_readRun_65 (by decide) (fun c47 => ?_) (fun c47 => ?_)
          · refine lv_aload_n hx hb dX5_readRun_98 rfl (lv_at hl 1 rfl) ?_
            refine lv_aload_n hx hb dX5_readRun_99 rfl (lv_at hl 1 rfl) ?_
            refine va_get (D := (dC, dI)) (ci := 5) (v := .long w19) (C := RX5) (T := TX5) (N := 11) hx hb hts hin5 hown hK hP 0 rfl rfl 8 (by decide) (hts (.fieldLink RX5 72 "PorridgeSea$Reader" "letters" "J") (List.mem_of_getElem? (i := 1) rfl)) (fun _ h9 => h9) rfl dX5_readRun_100 ?_
            refine lv_bipush (v := nI 8) hx hb dX5_readRun_103 (by decide) ?_
            obtain ⟨w48, e49⟩ : ∃ z9 : Int64, z9 = w19 <<< ((nI 8).toInt64 &&& 63) := ⟨_, rfl⟩
            refine lv_lshl (v := w48) hx hb dX5_readRun_105 e49.symm ?_
            refine lv_aload_n hx hb dX5_readRun_106 rfl (lv_at hl 1 rfl) ?_
            refine va_get (D := (dC, dI)) (ci := 5) (v := .ref rtape) (C := RX5) (T := TX5) (N := 11) hx hb hts hin5 hown hK hP 0 rfl rfl 0 (by decide) (hts (.fieldLink RX5 9 "PorridgeSea$Reader" "tape" "[B") (List.mem_of_getElem? (i := 5) rfl)) (fun _ h9 => h9) rfl dX5_readRun_107 ?_
            refine lv_aload_n hx hb dX5_readRun_110 rfl (lv_at hl 1 rfl) ?_
            refine va_get (D := (dC, dI)) (ci := 5) (v := .int (nI k17)) (C := RX5) (T := TX5) (N := 11) hx hb hts hin5 hown hK hP 0 rfl rfl 3 (by decide) (hts (.fieldLink RX5 28 "PorridgeSea$Reader" "place" "I") (List.mem_of_getElem? (i := 3) rfl)) (fun _ h9 => h9) rfl dX5_readRun_111 ?_
            obtain ⟨y50, e51⟩ : ∃ z9, z9 = rtapeF k17 := ⟨_, rfl⟩
            refine r_bald hx hb hK hP 1 rfl k17 (by omega) (by decide) y50 e51.symm dX5_readRun_114 ?_
            obtain ⟨w52, e53⟩ : ∃ z9 : Int64, z9 = (y50).toInt64 := ⟨_, rfl⟩
            refine lv_i2l (v := w52) hx hb dX5_readRun_115 e53.symm ?_
            refine lv_lor hx hb dX5_readRun_116 ?_
            refine lv_topl (fun w54 e55 => ?_)
            refine va_put (D := (dC, dI)) (ci := 5) (v := .long w54) (ty := .long) (C := RX5) (T := TX5) (N := 11) hx hb hts hin5 tyX5 tyX5_ok nmX5 hown hK hP hD hS 0 rfl rfl 8 (by decide) (hts (.fieldLink RX5 72 "PorridgeSea$Reader" "letters" "J") (List.mem_of_getElem? (i := 1) rfl)) (fun _ h9 => h9) rfl (by decide +kernel) rfl rfl (Nat.le_of_ble_eq_true rfl) dX5_readRun_117 (fun H locs hP hD hS => ?_)
            have hP : va_P (dC, dI) vwCl [(reader, .inr (5, [.ref rtape, .int (nI rlength), .int (nI rmostBytes), .int (nI k17), .int rkind, .int (nI rbegin), .int rword, .int x18, .long w54, .int rfaultKind, .int rfaultPlace])), (rtape, .inl (ky 2, 940, .inl rtapeF))] H := hP
            have hD : va_D A [(reader, .inr (5, [.ref rtape, .int (nI rlength), .int (nI rmostBytes), .int (nI k17), .int rkind, .int (nI rbegin), .int rword, .int x18, .long w54, .int rfaultKind, .int rfaultPlace])), (rtape, .inl (ky 2, 940, .inl rtapeF))] := hD
            refine lv_aload_n hx hb dX5_readRun_120 rfl (lv_at hl 1 rfl) ?_
            refine lv_dup hx hb dX5_readRun_121 rfl ?_
            refine va_get (D := (dC, dI)) (ci := 5) (v := .int (nI k17)) (C := RX5) (T := TX5) (N := 11) hx hb hts hin5 hown hK hP 0 rfl rfl 3 (by decide) (hts (.fieldLink RX5 28 "PorridgeSea$Reader" "place" "I") (List.mem_of_getElem? (i := 3) rfl)) (fun _ h9 => h9) rfl dX5_readRun_122 ?_
            refine lv_iconst (v := nI 1) hx hb dX5_readRun_125 (by decide) ?_
            refine lv_iadd hx hb dX5_readRun_126 ?_
            refine r_ti (nI (k17 + 1)) (nI_add _ _) ?_
            refine va_put (D := (dC, dI)) (ci := 5) (v := .int (nI (k17 + 1))) (ty := .int) (C := RX5) (T := TX5) (N := 11) hx hb hts hin5 tyX5 tyX5_ok nmX5 hown hK hP hD hS 0 rfl rfl 3 (by decide) (hts (.fieldLink RX5 28 "PorridgeSea$Reader" "place" "I") (List.mem_of_getElem? (i := 3) rfl)) (fun _ h9 => h9) rfl (by decide +kernel) rfl rfl (Nat.le_of_ble_eq_true rfl) dX5_readRun_127 (fun H locs hP hD hS => ?_)
            have hP : va_P (dC, dI) vwCl [(reader, .inr (5, [.ref rtape, .int (nI rlength), .int (nI rmostBytes), .int (nI (k17 + 1)), .int rkind, .int (nI rbegin), .int rword, .int x18, .long w54, .int rfaultKind, .int rfaultPlace])), (rtape, .inl (ky 2, 940, .inl rtapeF))] H := hP
            have hD : va_D A [(reader, .inr (5, [.ref rtape, .int (nI rlength), .int (nI rmostBytes), .int (nI (k17 + 1)), .int rkind, .int (nI rbegin), .int rword, .int x18, .long w54, .int rfaultKind, .int rfaultPlace])), (rtape, .inl (ky 2, 940, .inl rtapeF))] := hD
            refine lv_goto (tgt := 12) hx hb dX5_readRun_130 (by decide) ?_
            exact ih25 k16 (k17 + 1) x18 w54 (lf_r_readRun_1 rlength rplace rtapeF k17 n24 y38 y43 y50 iv_rreader_0 iv_rreader_1 j20 j21 j22 hm26 c27 e39 e44 e51) (lf_r_readRun_2 rlength rplace rtapeF k17 n24 y38 y43 y50 iv_rreader_0 iv_rreader_1 j20 j21 j22 hm26 c27 e39 e44 e51) (lf_r_readRun_3 rlength rplace rtapeF k17 n24 y38 y43 y50 iv_rreader_0 iv_rreader_1 j20 j21 j22 hm26 c27 e39 e44 e51) (lf_r_readRun_4 rlength rplace rtapeF k17 n24 y38 y43 y50 iv_rreader_0 iv_rreader_1 j20 j21 j22 hm26 c27 e39 e44 e51) _ _ _ hP hD hS (lv_sub hl [0, 1] rfl)
          · refine lv_iinc (v := nI (k16 + 1)) (lv' := [(1, .int (nI (k16 + 1))), (0, .ref reader)]) hx hb dX5_readRun_68 hl (k := 0) rfl (show nI k16 + nI 1 = nI (k16 + 1) from nI_add _ _) (by decide) rfl (fun ls hl => ?_)
            refine lv_aload_n hx hb dX5_readRun_71 rfl (lv_at hl 1 rfl) ?_
            refine lv_bipush (v := nI 10) hx hb dX5_readRun_72 (by decide) ?_
            refine lv_aload_n hx hb dX5_readRun_74 rfl (lv_at hl 1 rfl) ?_
            refine va_get (D := (dC, dI)) (ci := 5) (v := .int x18) (C := RX5) (T := TX5) (N := 11) hx hb hts hin5 hown hK hP 0 rfl rfl 7 (by decide) (hts (.fieldLink RX5 76 "PorridgeSea$Reader" "number" "I") (List.mem_of_getElem? (i := 2) rfl)) (fun _ h9 => h9) rfl dX5_readRun_75 ?_
            refine lv_imul hx hb dX5_readRun_78 ?_
            refine lv_topi (fun y56 e57 => ?_)
            refine lv_aload_n hx hb dX5_readRun_79 rfl (lv_at hl 1 rfl) ?_
            refine va_get (D := (dC, dI)) (ci := 5) (v := .ref rtape) (C := RX5) (T := TX5) (N := 11) hx hb hts hin5 hown hK hP 0 rfl rfl 0 (by decide) (hts (.fieldLink RX5 9 "PorridgeSea$Reader" "tape" "[B") (List.mem_of_getElem? (i := 5) rfl)) (fun _ h9 => h9) rfl dX5_readRun_80 ?_
            refine lv_aload_n hx hb dX5_readRun_83 rfl (lv_at hl 1 rfl) ?_
            refine va_get (D := (dC, dI)) (ci := 5) (v := .int (nI k17)) (C := RX5) (T := TX5) (N := 11) hx hb hts hin5 hown hK hP 0 rfl rfl 3 (by decide) (hts (.fieldLink RX5 28 "PorridgeSea$Reader" "place" "I") (List.mem_of_getElem? (i := 3) rfl)) (fun _ h9 => h9) rfl dX5_readRun_84 ?_
            obtain ⟨y58, e59⟩ : ∃ z9, z9 = rtapeF k17 := ⟨_, rfl⟩
            refine r_bald hx hb hK hP 1 rfl k17 (by omega) (by decide) y58 e59.symm dX5_readRun_87 ?_
            refine lv_iadd hx hb dX5_readRun_88 ?_
            refine lv_topi (fun y60 e61 => ?_)
            refine lv_bipush (v := nI 48) hx hb dX5_readRun_89 (by decide) ?_
            refine lv_isub hx hb dX5_readRun_91 ?_
            refine lv_topi (fun y62 e63 => ?_)
            refine va_put (D := (dC, dI)) (ci := 5) (v := .int y62) (ty := .int) (C := RX5) (T := TX5) (N := 11) hx hb hts hin5 tyX5 tyX5_ok nmX5 hown hK hP hD hS 0 rfl rfl 7 (by decide) (hts (.fieldLink RX5 76 "PorridgeSea$Reader" "number" "I") (List.mem_of_getElem? (i := 2) rfl)) (fun _ h9 => h9) rfl (by decide +kernel) rfl rfl (Nat.le_of_ble_eq_true rfl) dX5_readRun_92 (fun H locs hP hD hS => ?_)
            have hP : va_P (dC, dI) vwCl [(reader, .inr (5, [.ref rtape, .int (nI rlength), .int (nI rmostBytes), .int (nI k17), .int rkind, .int (nI rbegin), .int rword, .int y62, .long w19, .int rfaultKind, .int rfaultPlace])), (rtape, .inl (ky 2, 940, .inl rtapeF))] H := hP
            have hD : va_D A [(reader, .inr (5, [.ref rtape, .int (nI rlength), .int (nI rmostBytes), .int (nI k17), .int rkind, .int (nI rbegin), .int rword, .int y62, .long w19, .int rfaultKind, .int rfaultPlace])), (rtape, .inl (ky 2, 940, .inl rtapeF))] := hD
            refine lv_goto (tgt := 120) hx hb dX5_readRun_95 (by decide) ?_
            refine lv_aload_n hx hb dX5_readRun_120 rfl (lv_at hl 1 rfl) ?_
            refine lv_dup hx hb dX5_readRun_121 rfl ?_
            refine va_get (D := (dC, dI)) (ci := 5) (v := .int (nI k17)) (C := RX5) (T := TX5) (N := 11) hx hb hts hin5 hown hK hP 0 rfl rfl 3 (by decide) (hts (.fieldLink RX5 28 "PorridgeSea$Reader" "place" "I") (List.mem_of_getElem? (i := 3) rfl)) (fun _ h9 => h9) rfl dX5_readRun_122 ?_
            refine lv_iconst (v := nI 1) hx hb dX5_readRun_125 (by decide) ?_
            refine lv_iadd hx hb dX5_readRun_126 ?_
            refine r_ti (nI (k17 + 1)) (nI_add _ _) ?_
            refine va_put (D := (dC, dI)) (ci := 5) (v := .int (nI (k17 + 1))) (ty := .int) (C := RX5) (T := TX5) (N := 11) hx hb hts hin5 tyX5 tyX5_ok nmX5 hown hK hP hD hS 0 rfl rfl 3 (by decide) (hts (.fieldLink RX5 28 "PorridgeSea$Reader" "place" "I") (List.mem_of_getElem? (i := 3) rfl)) (fun _ h9 => h9) rfl (by decide +kernel) rfl rfl (Nat.le_of_ble_eq_true rfl) dX5_readRun_127 (fun H locs hP hD hS => ?_)
            have hP : va_P (dC, dI) vwCl [(reader, .inr (5, [.ref rtape, .int (nI rlength), .int (nI rmostBytes), .int (nI (k17 + 1)), .int rkind, .int (nI rbegin), .int rword, .int y62, .long w19, .int rfaultKind, .int rfaultPlace])), (rtape, .inl (ky 2, 940, .inl rtapeF))] H := hP
            have hD : va_D A [(reader, .inr (5, [.ref rtape, .int (nI rlength), .int (nI rmostBytes), .int (nI (k17 + 1)), .int rkind, .int (nI rbegin), .int rword, .int y62, .long w19, .int rfaultKind, .int rfaultPlace])), (rtape, .inl (ky 2, 940, .inl rtapeF))] := hD
            refine lv_goto (tgt := 12) hx hb dX5_readRun_130 (by decide) ?_
            exact ih25 (k16 + 1) (k17 + 1) y62 w19 (lf_r_readRun_5 rlength rplace rtapeF k17 x18 n24 y38 y43 y56 y58 y60 y62 iv_rreader_0 iv_rreader_1 j20 j21 j22 hm26 c27 e39 e44 e57 e59 e61 e63) (lf_r_readRun_6 rlength rplace rtapeF k17 x18 n24 y38 y43 y56 y58 y60 y62 iv_rreader_0 iv_rreader_1 j20 j21 j22 hm26 c27 e39 e44 e57 e59 e61 e63) (lf_r_readRun_7 rlength rplace rtapeF k17 x18 n24 y38 y43 y56 y58 y60 y62 iv_rreader_0 iv_rreader_1 j20 j21 j22 hm26 c27 e39 e44 e57 e59 e61 e63) (lf_r_readRun_8 rlength rplace rtapeF k17 x18 n24 y38 y43 y56 y58 y60 y62 iv_rreader_0 iv_rreader_1 j20 j21 j22 hm26 c27 e39 e44 e57 e59 e61 e63) _ _ _ hP hD hS (lv_sub hl [0, 1] rfl)
        · refine lv_aload_n hx hb dX5_readRun_38 rfl (lv_at hl 1 rfl) ?_
          refine va_get (D := (dC, dI)) (ci := 5) (v := .ref rtape) (C := RX5) (T := TX5) (N := 11) hx hb hts hin5 hown hK hP 0 rfl rfl 0 (by decide) (hts (.fieldLink RX5 9 "PorridgeSea$Reader" "tape" "[B") (List.mem_of_getElem? (i := 5) rfl)) (fun _ h9 => h9) rfl dX5_readRun_39 ?_
          refine lv_aload_n hx hb dX5_readRun_42 rfl (lv_at hl 1 rfl) ?_
          refine va_get (D := (dC, dI)) (ci := 5) (v := .int (nI k17)) (C := RX5) (T := TX5) (N := 11) hx hb hts hin5 hown hK hP 0 rfl rfl 3 (by decide) (hts (.fieldLink RX5 28 "PorridgeSea$Reader" "place" "I") (List.mem_of_getElem? (i := 3) rfl)) (fun _ h9 => h9) rfl dX5_readRun_43 ?_
          obtain ⟨y64, e65⟩ : ∃ z9, z9 = rtapeF k17 := ⟨_, rfl⟩
          refine r_bald hx hb hK hP 1 rfl k17 (by omega) (by decide) y64 e65.symm dX5_readRun_46 ?_
          refine vp_callSi (W.runS (As := [.int y64]) (rest := []) ⟨hx, hb, hml, hown, hts⟩ (c_r_isDigit l dC dI ky y64) (va_cwS 1 hts gX5_readRun_X5_isDigit rfl rfl rfl (by decide +kernel) ⟨(Nat.le_of_ble_eq_true rfl), (Nat.le_of_ble_eq_true rfl)⟩) (pre_PS hK hP [] rfl) rfl rfl hl.1 rfl (lv_room (Nat.le_of_ble_eq_true rfl)) dX5_readRun_47 ⟨(Nat.le_of_ble_eq_true rfl), (Nat.le_of_ble_eq_true rfl)⟩) (fun r66 p67 => ?_)
          refine lv_if_eq (tgt := 133) hx hb dX5_readRun_50 (by decide) (fun c68 => ?_) (fun c68 => ?_)
          · exact hJ28   _ _ _ hP hD hS (lv_sub hl [0, 1] rfl)
          · refine lv_aload_n hx hb dX5_readRun_53 rfl (lv_at hl 1 rfl) ?_
            refine va_get (D := (dC, dI)) (ci := 5) (v := .ref rtape) (C := RX5) (T := TX5) (N := 11) hx hb hts hin5 hown hK hP 0 rfl rfl 0 (by decide) (hts (.fieldLink RX5 9 "PorridgeSea$Reader" "tape" "[B") (List.mem_of_getElem? (i := 5) rfl)) (fun _ h9 => h9) rfl dX5_readRun_54 ?_
            refine lv_aload_n hx hb dX5_readRun_57 rfl (lv_at hl 1 rfl) ?_
            refine va_get (D := (dC, dI)) (ci := 5) (v := .int (nI k17)) (C := RX5) (T := TX5) (N := 11) hx hb hts hin5 hown hK hP 0 rfl rfl 3 (by decide) (hts (.fieldLink RX5 28 "PorridgeSea$Reader" "place" "I") (List.mem_of_getElem? (i := 3) rfl)) (fun _ h9 => h9) rfl dX5_readRun_58 ?_
            obtain ⟨y69, e70⟩ : ∃ z9, z9 = rtapeF k17 := ⟨_, rfl⟩
            refine r_bald hx hb hK hP 1 rfl k17 (by omega) (by decide) y69 e70.symm dX5_readRun_61 ?_
            refine vp_callSi (W.runS (As := [.int y69]) (rest := []) ⟨hx, hb, hml, hown, hts⟩ (c_r_isDigit l dC dI ky y69) (va_cwS 1 hts gX5_readRun_X5_isDigit rfl rfl rfl (by decide +kernel) ⟨(Nat.le_of_ble_eq_true rfl), (Nat.le_of_ble_eq_true rfl)⟩) (pre_PS hK hP [] rfl) rfl rfl hl.1 rfl (lv_room (Nat.le_of_ble_eq_true rfl)) dX5_readRun_62 ⟨(Nat.le_of_ble_eq_true rfl), (Nat.le_of_ble_eq_true rfl)⟩) (fun r71 p72 => ?_)
            refine lv_if_eq (tgt := 98) hx hb dX5_readRun_65 (by decide) (fun c73 => ?_) (fun c73 => ?_)
            · refine lv_aload_n hx hb dX5_readRun_98 rfl (lv_at hl 1 rfl) ?_
              refine lv_aload_n hx hb dX5_readRun_99 rfl (lv_at hl 1 rfl) ?_
              refine va_get (D := (dC, dI)) (ci := 5) (v := .long w19) (C := RX5) (T := TX5) (N := 11) hx hb hts hin5 hown hK hP 0 rfl rfl 8 (by decide) (hts (.fieldLink RX5 72 "PorridgeSea$Reader" "letters" "J") (List.mem_of_getElem? (i := 1) rfl)) (fun _ h9 => h9) rfl dX5_readRun_100 ?_
              refine lv_bipush (v := nI 8) hx hb dX5_readRun_103 (by decide) ?_
              obtain ⟨w74, e75⟩ : ∃ z9 : Int64, z9 = w19 <<< ((nI 8).toInt64 &&& 63) := ⟨_, rfl⟩
              refine lv_lshl (v := w74) hx hb dX5_readRun_105 e75.symm ?_
              refine lv_aload_n hx hb dX5_readRun_106 rfl (lv_at hl 1 rfl) ?_
              refine va_get (D := (dC, dI)) (ci := 5) (v := .ref rtape) (C := RX5) (T := TX5) (N := 11) hx hb hts hin5 hown hK hP 0 rfl rfl 0 (by decide) (hts (.fieldLink RX5 9 "PorridgeSea$Reader" "tape" "[B") (List.mem_of_getElem? (i := 5) rfl)) (fun _ h9 => h9) rfl dX5_readRun_107 ?_
              refine lv_aload_n hx hb dX5_readRun_110 rfl (lv_at hl 1 rfl) ?_
              refine va_get (D := (dC, dI)) (ci := 5) (v := .int (nI k17)) (C := RX5) (T := TX5) (N := 11) hx hb hts hin5 hown hK hP 0 rfl rfl 3 (by decide) (hts (.fieldLink RX5 28 "PorridgeSea$Reader" "place" "I") (List.mem_of_getElem? (i := 3) rfl)) (fun _ h9 => h9) rfl dX5_readRun_111 ?_
              obtain ⟨y76, e77⟩ : ∃ z9, z9 = rtapeF k17 := ⟨_, rfl⟩
              refine r_bald hx hb hK hP 1 rfl k17 (by omega) (by decide) y76 e77.symm dX5_readRun_114 ?_
              obtain ⟨w78, e79⟩ : ∃ z9 : Int64, z9 = (y76).toInt64 := ⟨_, rfl⟩
              refine lv_i2l (v := w78) hx hb dX5_readRun_115 e79.symm ?_
              refine lv_lor hx hb dX5_readRun_116 ?_
              refine lv_topl (fun w80 e81 => ?_)
              refine va_put (D := (dC, dI)) (ci := 5) (v := .long w80) (ty := .long) (C := RX5) (T := TX5) (N := 11) hx hb hts hin5 tyX5 tyX5_ok nmX5 hown hK hP hD hS 0 rfl rfl 8 (by decide) (hts (.fieldLink RX5 72 "PorridgeSea$Reader" "letters" "J") (List.mem_of_getElem? (i := 1) rfl)) (fun _ h9 => h9) rfl (by decide +kernel) rfl rfl (Nat.le_of_ble_eq_true rfl) dX5_readRun_117 (fun H locs hP hD hS => ?_)
              have hP : va_P (dC, dI) vwCl [(reader, .inr (5, [.ref rtape, .int (nI rlength), .int (nI rmostBytes), .int (nI k17), .int rkind, .int (nI rbegin), .int rword, .int x18, .long w80, .int rfaultKind, .int rfaultPlace])), (rtape, .inl (ky 2, 940, .inl rtapeF))] H := hP
              have hD : va_D A [(reader, .inr (5, [.ref rtape, .int (nI rlength), .int (nI rmostBytes), .int (nI k17), .int rkind, .int (nI rbegin), .int rword, .int x18, .long w80, .int rfaultKind, .int rfaultPlace])), (rtape, .inl (ky 2, 940, .inl rtapeF))] := hD
              refine lv_aload_n hx hb dX5_readRun_120 rfl (lv_at hl 1 rfl) ?_
              refine lv_dup hx hb dX5_readRun_121 rfl ?_
              refine va_get (D := (dC, dI)) (ci := 5) (v := .int (nI k17)) (C := RX5) (T := TX5) (N := 11) hx hb hts hin5 hown hK hP 0 rfl rfl 3 (by decide) (hts (.fieldLink RX5 28 "PorridgeSea$Reader" "place" "I") (List.mem_of_getElem? (i := 3) rfl)) (fun _ h9 => h9) rfl dX5_readRun_122 ?_
              refine lv_iconst (v := nI 1) hx hb dX5_readRun_125 (by decide) ?_
              refine lv_iadd hx hb dX5_readRun_126 ?_
              refine r_ti (nI (k17 + 1)) (nI_add _ _) ?_
              refine va_put (D := (dC, dI)) (ci := 5) (v := .int (nI (k17 + 1))) (ty := .int) (C := RX5) (T := TX5) (N := 11) hx hb hts hin5 tyX5 tyX5_ok nmX5 hown hK hP hD hS 0 rfl rfl 3 (by decide) (hts (.fieldLink RX5 28 "PorridgeSea$Reader" "place" "I") (List.mem_of_getElem? (i := 3) rfl)) (fun _ h9 => h9) rfl (by decide +kernel) rfl rfl (Nat.le_of_ble_eq_true rfl) dX5_readRun_127 (fun H locs hP hD hS => ?_)
              have hP : va_P (dC, dI) vwCl [(reader, .inr (5, [.ref rtape, .int (nI rlength), .int (nI rmostBytes), .int (nI (k17 + 1)), .int rkind, .int (nI rbegin), .int rword, .int x18, .long w80, .int rfaultKind, .int rfaultPlace])), (rtape, .inl (ky 2, 940, .inl rtapeF))] H := hP
              have hD : va_D A [(reader, .inr (5, [.ref rtape, .int (nI rlength), .int (nI rmostBytes), .int (nI (k17 + 1)), .int rkind, .int (nI rbegin), .int rword, .int x18, .long w80, .int rfaultKind, .int rfaultPlace])), (rtape, .inl (ky 2, 940, .inl rtapeF))] := hD
              refine lv_goto (tgt := 12) hx hb dX5_readRun_130 (by decide) ?_
              exact ih25 k16 (k17 + 1) x18 w80 (lf_r_readRun_9 rlength rplace rtapeF k17 n24 y38 y64 y69 y76 iv_rreader_0 iv_rreader_1 j20 j21 j22 hm26 c27 e39 e65 e70 e77) (lf_r_readRun_10 rlength rplace rtapeF k17 n24 y38 y64 y69 y76 iv_rreader_0 iv_rreader_1 j20 j21 j22 hm26 c27 e39 e65 e70 e77) (lf_r_readRun_11 rlength rplace rtapeF k17 n24 y38 y64 y69 y76 iv_rreader_0 iv_rreader_1 j20 j21 j22 hm26 c27 e39 e65 e70 e77) (lf_r_readRun_12 rlength rplace rtapeF k17 n24 y38 y64 y69 y76 iv_rreader_0 iv_rreader_1 j20 j21 j22 hm26 c27 e39 e65 e70 e77) _ _ _ hP hD hS (lv_sub hl [0, 1] rfl)
            · refine lv_iinc (v := nI (k16 + 1)) (lv' := [(1, .int (nI (k16 + 1))), (0, .ref reader)]) hx hb dX5_readRun_68 hl (k := 0) rfl (show nI k16 + nI 1 = nI (k16 + 1) from nI_add _ _) (by decide) rfl (fun ls hl => ?_)
              refine lv_aload_n hx hb dX5_readRun_71 rfl (lv_at hl 1 rfl) ?_
              refine lv_bipush (v := nI 10) hx hb dX5_readRun_72 (by decide) ?_
              refine lv_aload_n hx hb dX5_readRun_74 rfl (lv_at hl 1 rfl) ?_
              refine va_get (D := (dC, dI)) (ci := 5) (v := .int x18) (C := RX5) (T := TX5) (N := 11) hx hb hts hin5 hown hK hP 0 rfl rfl 7 (by decide) (hts (.fieldLink RX5 76 "PorridgeSea$Reader" "number" "I") (List.mem_of_getElem? (i := 2) rfl)) (fun _ h9 => h9) rfl dX5_readRun_75 ?_
              refine lv_imul hx hb dX5_readRun_78 ?_
              refine lv_topi (fun y82 e83 => ?_)
              refine lv_aload_n hx hb dX5_readRun_79 rfl (lv_at hl 1 rfl) ?_
              refine va_get (D := (dC, dI)) (ci := 5) (v := .ref rtape) (C := RX5) (T := TX5) (N := 11) hx hb hts hin5 hown hK hP 0 rfl rfl 0 (by decide) (hts (.fieldLink RX5 9 "PorridgeSea$Reader" "tape" "[B") (List.mem_of_getElem? (i := 5) rfl)) (fun _ h9 => h9) rfl dX5_readRun_80 ?_
              refine lv_aload_n hx hb dX5_readRun_83 rfl (lv_at hl 1 rfl) ?_
              refine va_get (D := (dC, dI)) (ci := 5) (v := .int (nI k17)) (C := RX5) (T := TX5) (N := 11) hx hb hts hin5 hown hK hP 0 rfl rfl 3 (by decide) (hts (.fieldLink RX5 28 "PorridgeSea$Reader" "place" "I") (List.mem_of_getElem? (i := 3) rfl)) (fun _ h9 => h9) rfl dX5_readRun_84 ?_
              obtain ⟨y84, e85⟩ : ∃ z9, z9 = rtapeF k17 := ⟨_, rfl⟩
              refine r_bald hx hb hK hP 1 rfl k17 (by omega) (by decide) y84 e85.symm dX5_readRun_87 ?_
              refine lv_iadd hx hb dX5_readRun_88 ?_
              refine lv_topi (fun y86 e87 => ?_)
              refine lv_bipush (v := nI 48) hx hb dX5_readRun_89 (by decide) ?_
              refine lv_isub hx hb dX5_readRun_91 ?_
              refine lv_topi (fun y88 e89 => ?_)
              refine va_put (D := (dC, dI)) (ci := 5) (v := .int y88) (ty := .int) (C := RX5) (T := TX5) (N := 11) hx hb hts hin5 tyX5 tyX5_ok nmX5 hown hK hP hD hS 0 rfl rfl 7 (by decide) (hts (.fieldLink RX5 76 "PorridgeSea$Reader" "number" "I") (List.mem_of_getElem? (i := 2) rfl)) (fun _ h9 => h9) rfl (by decide +kernel) rfl rfl (Nat.le_of_ble_eq_true rfl) dX5_readRun_92 (fun H locs hP hD hS => ?_)
              have hP : va_P (dC, dI) vwCl [(reader, .inr (5, [.ref rtape, .int (nI rlength), .int (nI rmostBytes), .int (nI k17), .int rkind, .int (nI rbegin), .int rword, .int y88, .long w19, .int rfaultKind, .int rfaultPlace])), (rtape, .inl (ky 2, 940, .inl rtapeF))] H := hP
              have hD : va_D A [(reader, .inr (5, [.ref rtape, .int (nI rlength), .int (nI rmostBytes), .int (nI k17), .int rkind, .int (nI rbegin), .int rword, .int y88, .long w19, .int rfaultKind, .int rfaultPlace])), (rtape, .inl (ky 2, 940, .inl rtapeF))] := hD
              refine lv_goto (tgt := 120) hx hb dX5_readRun_95 (by decide) ?_
              refine lv_aload_n hx hb dX5_readRun_120 rfl (lv_at hl 1 rfl) ?_
              refine lv_dup hx hb dX5_readRun_121 rfl ?_
              refine va_get (D := (dC, dI)) (ci := 5) (v := .int (nI k17)) (C := RX5) (T := TX5) (N := 11) hx hb hts hin5 hown hK hP 0 rfl rfl 3 (by decide) (hts (.fieldLink RX5 28 "PorridgeSea$Reader" "place" "I") (List.mem_of_getElem? (i := 3) rfl)) (fun _ h9 => h9) rfl dX5_readRun_122 ?_
              refine lv_iconst (v := nI 1) hx hb dX5_readRun_125 (by decide) ?_
              refine lv_iadd hx hb dX5_readRun_126 ?_
              refine r_ti (nI (k17 + 1)) (nI_add _ _) ?_
              refine va_put (D := (dC, dI)) (ci := 5) (v := .int (nI (k17 + 1))) (ty := .int) (C := RX5) (T := TX5) (N := 11) hx hb hts hin5 tyX5 tyX5_ok nmX5 hown hK hP hD hS 0 rfl rfl 3 (by decide) (hts (.fieldLink RX5 28 "PorridgeSea$Reader" "place" "I") (List.mem_of_getElem? (i := 3) rfl)) (fun _ h9 => h9) rfl (by decide +kernel) rfl rfl (Nat.le_of_ble_eq_true rfl) dX5_readRun_127 (fun H locs hP hD hS => ?_)
              have hP : va_P (dC, dI) vwCl [(reader, .inr (5, [.ref rtape, .int (nI rlength), .int (nI rmostBytes), .int (nI (k17 + 1)), .int rkind, .int (nI rbegin), .int rword, .int y88, .long w19, .int rfaultKind, .int rfaultPlace])), (rtape, .inl (ky 2, 940, .inl rtapeF))] H := hP
              have hD : va_D A [(reader, .inr (5, [.ref rtape, .int (nI rlength), .int (nI rmostBytes), .int (nI (k17 + 1)), .int rkind, .int (nI rbegin), .int rword, .int y88, .long w19, .int rfaultKind, .int rfaultPlace])), (rtape, .inl (ky 2, 940, .inl rtapeF))] := hD
              refine lv_goto (tgt := 12) hx hb dX5_readRun_130 (by decide) ?_
              exact ih25 (k16 + 1) (k17 + 1) y88 w19 (lf_r_readRun_13 rlength rplace rtapeF k17 x18 n24 y38 y64 y69 y82 y84 y86 y88 iv_rreader_0 iv_rreader_1 j20 j21 j22 hm26 c27 e39 e65 e70 e83 e85 e87 e89) (lf_r_readRun_14 rlength rplace rtapeF k17 x18 n24 y38 y64 y69 y82 y84 y86 y88 iv_rreader_0 iv_rreader_1 j20 j21 j22 hm26 c27 e39 e65 e70 e83 e85 e87 e89) (lf_r_readRun_15 rlength rplace rtapeF k17 x18 n24 y38 y64 y69 y82 y84 y86 y88 iv_rreader_0 iv_rreader_1 j20 j21 j22 hm26 c27 e39 e65 e70 e83 e85 e87 e89) (lf_r_readRun_16 rlength rplace rtapeF k17 x18 n24 y38 y64 y69 y82 y84 y86 y88 iv_rreader_0 iv_rreader_1 j20 j21 j22 hm26 c27 e39 e65 e70 e83 e85 e87 e89) _ _ _ hP hD hS (lv_sub hl [0, 1] rfl)
  exact hL23 ((940 - rplace) + 1) 0 rplace (nI 0) 0 (lf_r_readRun_17 rlength rplace iv_rreader_0 iv_rreader_1) iv_rreader_1 (lf_r_readRun_18 rlength rplace iv_rreader_0 iv_rreader_1) (Nat.lt_succ_self _) _ _ _ hP hD hS (lv_sub hl [0, 1] rfl)
