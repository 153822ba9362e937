theorem dX5_isLetter_0 : decode cX5_isLetter 0 = .ok (.iload_n 0, 1) := by decide +kernel
theorem dX5_isLetter_1 : decode cX5_isLetter 1 = .ok (.bipush 97, 2) := by decide +kernel
theorem dX5_isLetter_3 : decode cX5_isLetter 3 = .ok (.if_icmp .lt 13, 3) := by decide +kernel
theorem dX5_isLetter_16 : decode cX5_isLetter 16 = .ok (.iconst 0, 1) := by decide +kernel
theorem dX5_isLetter_17 : decode cX5_isLetter 17 = .ok (.ireturn, 1) := by decide +kernel
theorem dX5_isLetter_6 : decode cX5_isLetter 6 = .ok (.iload_n 0, 1) := by decide +kernel
theorem dX5_isLetter_7 : decode cX5_isLetter 7 = .ok (.bipush 122, 2) := by decide +kernel
theorem dX5_isLetter_9 : decode cX5_isLetter 9 = .ok (.if_icmp .gt 7, 3) := by decide +kernel
theorem dX5_isLetter_12 : decode cX5_isLetter 12 = .ok (.iconst 1, 1) := by decide +kernel
theorem dX5_isLetter_13 : decode cX5_isLetter 13 = .ok (.goto 4, 3) := by decide +kernel
theorem dX5_isDigit_0 : decode cX5_isDigit 0 = .ok (.iload_n 0, 1) := by decide +kernel
theorem dX5_isDigit_1 : decode cX5_isDigit 1 = .ok (.bipush 48, 2) := by decide +kernel
theorem dX5_isDigit_3 : decode cX5_isDigit 3 = .ok (.if_icmp .lt 13, 3) := by decide +kernel
theorem dX5_isDigit_16 : decode cX5_isDigit 16 = .ok (.iconst 0, 1) := by decide +kernel
theorem dX5_isDigit_17 : decode cX5_isDigit 17 = .ok (.ireturn, 1) := by decide +kernel
theorem dX5_isDigit_6 : decode cX5_isDigit 6 = .ok (.iload_n 0, 1) := by decide +kernel
theorem dX5_isDigit_7 : decode cX5_isDigit 7 = .ok (.bipush 57, 2) := by decide +kernel
theorem dX5_isDigit_9 : decode cX5_isDigit 9 = .ok (.if_icmp .gt 7, 3) := by decide +kernel
theorem dX5_isDigit_12 : decode cX5_isDigit 12 = .ok (.iconst 1, 1) := by decide +kernel
theorem dX5_isDigit_13 : decode cX5_isDigit 13 = .ok (.goto 4, 3) := by decide +kernel
theorem dX5_nextWord_0 : decode cX5_nextWord 0 = .ok (.aload_n 0, 1) := by decide +kernel
theorem dX5_nextWord_1 : decode cX5_nextWord 1 = .ok (.getfield 43, 3) := by decide +kernel
theorem dX5_nextWord_4 : decode cX5_nextWord 4 = .ok (.ireturn, 1) := by decide +kernel
theorem dX5_refuseAt_0 : decode cX5_refuseAt 0 = .ok (.aload_n 0, 1) := by decide +kernel
theorem dX5_refuseAt_1 : decode cX5_refuseAt 1 = .ok (.iload_n 1, 1) := by decide +kernel
theorem dX5_refuseAt_2 : decode cX5_refuseAt 2 = .ok (.putfield 31, 3) := by decide +kernel
theorem dX5_refuseAt_5 : decode cX5_refuseAt 5 = .ok (.aload_n 0, 1) := by decide +kernel
theorem dX5_refuseAt_6 : decode cX5_refuseAt 6 = .ok (.iload_n 2, 1) := by decide +kernel
theorem dX5_refuseAt_7 : decode cX5_refuseAt 7 = .ok (.putfield 34, 3) := by decide +kernel
theorem dX5_refuseAt_10 : decode cX5_refuseAt 10 = .ok (.iconst 0, 1) := by decide +kernel
theorem dX5_refuseAt_11 : decode cX5_refuseAt 11 = .ok (.ireturn, 1) := by decide +kernel
theorem dX5_refuse_0 : decode cX5_refuse 0 = .ok (.aload_n 0, 1) := by decide +kernel
theorem dX5_refuse_1 : decode cX5_refuse 1 = .ok (.iload_n 1, 1) := by decide +kernel
theorem dX5_refuse_2 : decode cX5_refuse 2 = .ok (.aload_n 0, 1) := by decide +kernel
theorem dX5_refuse_3 : decode cX5_refuse 3 = .ok (.getfield 40, 3) := by decide +kernel
theorem dX5_refuse_6 : decode cX5_refuse 6 = .ok (.invokevirtual 88, 3) := by decide +kernel
theorem dX5_refuse_9 : decode cX5_refuse 9 = .ok (.ireturn, 1) := by decide +kernel
theorem dX5_readSign_0 : decode cX5_readSign 0 = .ok (.aload_n 0, 1) := by decide +kernel
theorem dX5_readSign_1 : decode cX5_readSign 1 = .ok (.getfield 9, 3) := by decide +kernel
theorem dX5_readSign_4 : decode cX5_readSign 4 = .ok (.aload_n 0, 1) := by decide +kernel
theorem dX5_readSign_5 : decode cX5_readSign 5 = .ok (.getfield 28, 3) := by decide +kernel
theorem dX5_readSign_8 : decode cX5_readSign 8 = .ok (.baload, 1) := by decide +kernel
theorem dX5_readSign_9 : decode cX5_readSign 9 = .ok (.istore_n 1, 1) := by decide +kernel
theorem dX5_readSign_10 : decode cX5_readSign 10 = .ok (.iload_n 1, 1) := by decide +kernel
theorem dX5_readSign_11 : decode cX5_readSign 11 = .ok (.bipush 59, 2) := by decide +kernel
theorem dX5_readSign_13 : decode cX5_readSign 13 = .ok (.if_icmp .eq 33, 3) := by decide +kernel
theorem dX5_readSign_46 : decode cX5_readSign 46 = .ok (.iconst 1, 1) := by decide +kernel
theorem dX5_readSign_47 : decode cX5_readSign 47 = .ok (.goto 4, 3) := by decide +kernel
theorem dX5_readSign_16 : decode cX5_readSign 16 = .ok (.iload_n 1, 1) := by decide +kernel
theorem dX5_readSign_17 : decode cX5_readSign 17 = .ok (.bipush 60, 2) := by decide +kernel
theorem dX5_readSign_19 : decode cX5_readSign 19 = .ok (.if_icmp .eq 27, 3) := by decide +kernel
theorem dX5_readSign_22 : decode cX5_readSign 22 = .ok (.iload_n 1, 1) := by decide +kernel
theorem dX5_readSign_23 : decode cX5_readSign 23 = .ok (.bipush 61, 2) := by decide +kernel
theorem dX5_readSign_25 : decode cX5_readSign 25 = .ok (.if_icmp .eq 21, 3) := by decide +kernel
theorem dX5_readSign_28 : decode cX5_readSign 28 = .ok (.iload_n 1, 1) := by decide +kernel
theorem dX5_readSign_29 : decode cX5_readSign 29 = .ok (.bipush 62, 2) := by decide +kernel
theorem dX5_readSign_31 : decode cX5_readSign 31 = .ok (.if_icmp .eq 15, 3) := by decide +kernel
theorem dX5_readSign_34 : decode cX5_readSign 34 = .ok (.iload_n 1, 1) := by decide +kernel
theorem dX5_readSign_35 : decode cX5_readSign 35 = .ok (.bipush 40, 2) := by decide +kernel
theorem dX5_readSign_37 : decode cX5_readSign 37 = .ok (.if_icmp .eq 9, 3) := by decide +kernel
theorem dX5_readSign_40 : decode cX5_readSign 40 = .ok (.iload_n 1, 1) := by decide +kernel
theorem dX5_readSign_41 : decode cX5_readSign 41 = .ok (.bipush 41, 2) := by decide +kernel
theorem dX5_readSign_43 : decode cX5_readSign 43 = .ok (.if_icmp .ne 7, 3) := by decide +kernel
theorem dX5_readSign_50 : decode cX5_readSign 50 = .ok (.iconst 0, 1) := by decide +kernel
theorem dX5_readSign_51 : decode cX5_readSign 51 = .ok (.istore_n 2, 1) := by decide +kernel
theorem dX5_readSign_52 : decode cX5_readSign 52 = .ok (.aload_n 0, 1) := by decide +kernel
theorem dX5_readSign_53 : decode cX5_readSign 53 = .ok (.iload_n 2, 1) := by decide +kernel
theorem dX5_readSign_54 : decode cX5_readSign 54 = .ok (.ifCond .eq 7, 3) := by decide +kernel
theorem dX5_readSign_61 : decode cX5_readSign 61 = .ok (.iconst 1, 1) := by decide +kernel
theorem dX5_readSign_62 : decode cX5_readSign 62 = .ok (.putfield 46, 3) := by decide +kernel
theorem dX5_readSign_65 : decode cX5_readSign 65 = .ok (.aload_n 0, 1) := by decide +kernel
theorem dX5_readSign_66 : decode cX5_readSign 66 = .ok (.dup, 1) := by decide +kernel
theorem dX5_readSign_67 : decode cX5_readSign 67 = .ok (.getfield 28, 3) := by decide +kernel
theorem dX5_readSign_70 : decode cX5_readSign 70 = .ok (.iconst 1, 1) := by decide +kernel
theorem dX5_readSign_71 : decode cX5_readSign 71 = .ok (.iadd, 1) := by decide +kernel
theorem dX5_readSign_72 : decode cX5_readSign 72 = .ok (.putfield 28, 3) := by decide +kernel
theorem dX5_readSign_75 : decode cX5_readSign 75 = .ok (.return_, 1) := by decide +kernel
theorem dX5_readSign_57 : decode cX5_readSign 57 = .ok (.iload_n 1, 1) := by decide +kernel
theorem dX5_readSign_58 : decode cX5_readSign 58 = .ok (.goto 4, 3) := by decide +kernel
theorem dX5_readRun_0 : decode cX5_readRun 0 = .ok (.iconst 0, 1) := by decide +kernel
theorem dX5_readRun_1 : decode cX5_readRun 1 = .ok (.istore_n 1, 1) := by decide +kernel
theorem dX5_readRun_2 : decode cX5_readRun 2 = .ok (.aload_n 0, 1) := by decide +kernel
theorem dX5_readRun_3 : decode cX5_readRun 3 = .ok (.lconst 0, 1) := by decide +kernel
theorem dX5_readRun_4 : decode cX5_readRun 4 = .ok (.putfield 72, 3) := by decide +kernel
theorem dX5_readRun_7 : decode cX5_readRun 7 = .ok (.aload_n 0, 1) := by decide +kernel
theorem dX5_readRun_8 : decode cX5_readRun 8 = .ok (.iconst 0, 1) := by decide +kernel
theorem dX5_readRun_9 : decode cX5_readRun 9 = .ok (.putfield 76, 3) := by decide +kernel
theorem dX5_readRun_12 : decode cX5_readRun 12 = .ok (.aload_n 0, 1) := by decide +kernel
theorem dX5_readRun_13 : decode cX5_readRun 13 = .ok (.getfield 28, 3) := by decide +kernel
theorem dX5_readRun_16 : decode cX5_readRun 16 = .ok (.aload_n 0, 1) := by decide +kernel
theorem dX5_readRun_17 : decode cX5_readRun 17 = .ok (.getfield 21, 3) := by decide +kernel
theorem dX5_readRun_20 : decode cX5_readRun 20 = .ok (.if_icmp .ge 113, 3) := by decide +kernel
theorem dX5_readRun_23 : decode cX5_readRun 23 = .ok (.aload_n 0, 1) := by decide +kernel
theorem dX5_readRun_24 : decode cX5_readRun 24 = .ok (.getfield 9, 3) := by decide +kernel
theorem dX5_readRun_27 : decode cX5_readRun 27 = .ok (.aload_n 0, 1) := by decide +kernel
theorem dX5_readRun_28 : decode cX5_readRun 28 = .ok (.getfield 28, 3) := by decide +kernel
theorem dX5_readRun_31 : decode cX5_readRun 31 = .ok (.baload, 1) := by decide +kernel
theorem dX5_readRun_32 : decode cX5_readRun 32 = .ok (.invokestatic 49, 3) := by decide +kernel
theorem dX5_readRun_35 : decode cX5_readRun 35 = .ok (.ifCond .ne 18, 3) := by decide +kernel
theorem dX5_readRun_53 : decode cX5_readRun 53 = .ok (.aload_n 0, 1) := by decide +kernel
theorem dX5_readRun_54 : decode cX5_readRun 54 = .ok (.getfield 9, 3) := by decide +kernel
theorem dX5_readRun_57 : decode cX5_readRun 57 = .ok (.aload_n 0, 1) := by decide +kernel
theorem dX5_readRun_58 : decode cX5_readRun 58 = .ok (.getfield 28, 3) := by decide +kernel
theorem dX5_readRun_61 : decode cX5_readRun 61 = .ok (.baload, 1) := by decide +kernel
theorem dX5_readRun_62 : decode cX5_readRun 62 = .ok (.invokestatic 53, 3) := by decide +kernel
theorem dX5_readRun_65 : decode cX5_readRun 65 = .ok (.ifCond .eq 33, 3) := by decide +kernel
theorem dX5_readRun_98 : decode cX5_readRun 98 = .ok (.aload_n 0, 1) := by decide +kernel
theorem dX5_readRun_99 : decode cX5_readRun 99 = .ok (.aload_n 0, 1) := by decide +kernel
theorem dX5_readRun_100 : decode cX5_readRun 100 = .ok (.getfield 72, 3) := by decide +kernel
theorem dX5_readRun_103 : decode cX5_readRun 103 = .ok (.bipush 8, 2) := by decide +kernel
theorem dX5_readRun_105 : decode cX5_readRun 105 = .ok (.lshl, 1) := by decide +kernel
theorem dX5_readRun_106 : decode cX5_readRun 106 = .ok (.aload_n 0, 1) := by decide +kernel
theorem dX5_readRun_107 : decode cX5_readRun 107 = .ok (.getfield 9, 3) := by decide +kernel
theorem dX5_readRun_110 : decode cX5_readRun 110 = .ok (.aload_n 0, 1) := by decide +kernel
theorem dX5_readRun_111 : decode cX5_readRun 111 = .ok (.getfield 28, 3) := by decide +kernel
theorem dX5_readRun_114 : decode cX5_readRun 114 = .ok (.baload, 1) := by decide +kernel
theorem dX5_readRun_115 : decode cX5_readRun 115 = .ok (.i2l, 1) := by decide +kernel
theorem dX5_readRun_116 : decode cX5_readRun 116 = .ok (.lor, 1) := by decide +kernel
theorem dX5_readRun_117 : decode cX5_readRun 117 = .ok (.putfield 72, 3) := by decide +kernel
theorem dX5_readRun_120 : decode cX5_readRun 120 = .ok (.aload_n 0, 1) := by decide +kernel
theorem dX5_readRun_121 : decode cX5_readRun 121 = .ok (.dup, 1) := by decide +kernel
theorem dX5_readRun_122 : decode cX5_readRun 122 = .ok (.getfield 28, 3) := by decide +kernel
theorem dX5_readRun_125 : decode cX5_readRun 125 = .ok (.iconst 1, 1) := by decide +kernel
theorem dX5_readRun_126 : decode cX5_readRun 126 = .ok (.iadd, 1) := by decide +kernel
theorem dX5_readRun_127 : decode cX5_readRun 127 = .ok (.putfield 28, 3) := by decide +kernel
theorem dX5_readRun_130 : decode cX5_readRun 130 = .ok (.goto (-118), 3) := by decide +kernel
theorem dX5_readRun_68 : decode cX5_readRun 68 = .ok (.iinc 1 1, 3) := by decide +kernel
theorem dX5_readRun_71 : decode cX5_readRun 71 = .ok (.aload_n 0, 1) := by decide +kernel
theorem dX5_readRun_72 : decode cX5_readRun 72 = .ok (.bipush 10, 2) := by decide +kernel
theorem dX5_readRun_74 : decode cX5_readRun 74 = .ok (.aload_n 0, 1) := by decide +kernel
theorem dX5_readRun_75 : decode cX5_readRun 75 = .ok (.getfield 76, 3) := by decide +kernel
theorem dX5_readRun_78 : decode cX5_readRun 78 = .ok (.imul, 1) := by decide +kernel
theorem dX5_readRun_79 : decode cX5_readRun 79 = .ok (.aload_n 0, 1) := by decide +kernel
theorem dX5_readRun_80 : decode cX5_readRun 80 = .ok (.getfield 9, 3) := by decide +kernel
theorem dX5_readRun_83 : decode cX5_readRun 83 = .ok (.aload_n 0, 1) := by decide +kernel
theorem dX5_readRun_84 : decode cX5_readRun 84 = .ok (.getfield 28, 3) := by decide +kernel
theorem dX5_readRun_87 : decode cX5_readRun 87 = .ok (.baload, 1) := by decide +kernel
theorem dX5_readRun_88 : decode cX5_readRun 88 = .ok (.iadd, 1) := by decide +kernel
theorem dX5_readRun_89 : decode cX5_readRun 89 = .ok (.bipush 48, 2) := by decide +kernel
theorem dX5_readRun_91 : decode cX5_readRun 91 = .ok (.isub, 1) := by decide +kernel
theorem dX5_readRun_92 : decode cX5_readRun 92 = .ok (.putfield 76, 3) := by decide +kernel
theorem dX5_readRun_95 : decode cX5_readRun 95 = .ok (.goto 25, 3) := by decide +kernel
theorem dX5_readRun_38 : decode cX5_readRun 38 = .ok (.aload_n 0, 1) := by decide +kernel
theorem dX5_readRun_39 : decode cX5_readRun 39 = .ok (.getfield 9, 3) := by decide +kernel
theorem dX5_readRun_42 : decode cX5_readRun 42 = .ok (.aload_n 0, 1) := by decide +kernel
theorem dX5_readRun_43 : decode cX5_readRun 43 = .ok (.getfield 28, 3) := by decide +kernel
theorem dX5_readRun_46 : decode cX5_readRun 46 = .ok (.baload, 1) := by decide +kernel
theorem dX5_readRun_47 : decode cX5_readRun 47 = .ok (.invokestatic 53, 3) := by decide +kernel
theorem dX5_readRun_50 : decode cX5_readRun 50 = .ok (.ifCond .eq 83, 3) := by decide +kernel
theorem dX5_readRun_133 : decode cX5_readRun 133 = .ok (.aload_n 0, 1) := by decide +kernel
theorem dX5_readRun_134 : decode cX5_readRun 134 = .ok (.getfield 28, 3) := by decide +kernel
theorem dX5_readRun_137 : decode cX5_readRun 137 = .ok (.aload_n 0, 1) := by decide +kernel
theorem dX5_readRun_138 : decode cX5_readRun 138 = .ok (.getfield 40, 3) := by decide +kernel
theorem dX5_readRun_141 : decode cX5_readRun 141 = .ok (.isub, 1) := by decide +kernel
theorem dX5_readRun_142 : decode cX5_readRun 142 = .ok (.istore_n 2, 1) := by decide +kernel
theorem dX5_readRun_143 : decode cX5_readRun 143 = .ok (.iload_n 1, 1) := by decide +kernel
theorem dX5_readRun_144 : decode cX5_readRun 144 = .ok (.ifCond .ne 17, 3) := by decide +kernel
theorem dX5_readRun_147 : decode cX5_readRun 147 = .ok (.iload_n 2, 1) := by decide +kernel
theorem dX5_readRun_148 : decode cX5_readRun 148 = .ok (.bipush 7, 2) := by decide +kernel
theorem dX5_readRun_150 : decode cX5_readRun 150 = .ok (.if_icmp .gt 11, 3) := by decide +kernel
theorem dX5_readRun_161 : decode cX5_readRun 161 = .ok (.aload_n 0, 1) := by decide +kernel
theorem dX5_readRun_162 : decode cX5_readRun 162 = .ok (.iload_n 1, 1) := by decide +kernel
theorem dX5_readRun_163 : decode cX5_readRun 163 = .ok (.iload_n 2, 1) := by decide +kernel
theorem dX5_readRun_164 : decode cX5_readRun 164 = .ok (.if_icmp .ne 12, 3) := by decide +kernel
theorem dX5_readRun_176 : decode cX5_readRun 176 = .ok (.iconst 1, 1) := by decide +kernel
theorem dX5_readRun_177 : decode cX5_readRun 177 = .ok (.putfield 46, 3) := by decide +kernel
theorem dX5_readRun_180 : decode cX5_readRun 180 = .ok (.return_, 1) := by decide +kernel
theorem dX5_readRun_167 : decode cX5_readRun 167 = .ok (.iload_n 2, 1) := by decide +kernel
theorem dX5_readRun_168 : decode cX5_readRun 168 = .ok (.iconst 3, 1) := by decide +kernel
theorem dX5_readRun_169 : decode cX5_readRun 169 = .ok (.if_icmp .gt 7, 3) := by decide +kernel
theorem dX5_readRun_172 : decode cX5_readRun 172 = .ok (.iconst 3, 1) := by decide +kernel
theorem dX5_readRun_173 : decode cX5_readRun 173 = .ok (.goto 4, 3) := by decide +kernel
theorem dX5_readRun_153 : decode cX5_readRun 153 = .ok (.aload_n 0, 1) := by decide +kernel
theorem dX5_readRun_154 : decode cX5_readRun 154 = .ok (.iconst 2, 1) := by decide +kernel
theorem dX5_readRun_155 : decode cX5_readRun 155 = .ok (.putfield 46, 3) := by decide +kernel
theorem dX5_readRun_158 : decode cX5_readRun 158 = .ok (.goto 22, 3) := by decide +kernel
set_option maxRecDepth 100000 in
theorem ggX5_refuse_X5_refuseAt : GoodIn wsX5_refuse wsX5_refuseAt := goodIn_r _ [6, 7, 8, 9, 10, 11, 12, 13, 14, 15, 16, 17, 18, 19] rfl (by decide +kernel)
set_option maxRecDepth 100000 in
theorem ggX5_readRun_X5_isLetter : GoodIn wsX5_readRun wsX5_isLetter := goodIn_r _ [11] rfl (by decide +kernel)
set_option maxRecDepth 100000 in
theorem ggX5_readRun_X5_isDigit : GoodIn wsX5_readRun wsX5_isDigit := goodIn_r _ [14] rfl (by decide +kernel)
set_option maxRecDepth 100000 in
theorem gX5_refuse_X5_refuseAt : GoodIn wsX5_refuse (wsV RX5 88 RX5 yX5_refuseAt wsX5_refuseAt) := goodIn_app (goodIn_of _ (by decide +kernel)) ggX5_refuse_X5_refuseAt
set_option maxRecDepth 100000 in
theorem gX5_readRun_X5_isLetter : GoodIn wsX5_readRun (va_wsS RX5 49 yX5_isLetter wsX5_isLetter) := goodIn_app (goodIn_of _ (by decide +kernel)) ggX5_readRun_X5_isLetter
set_option maxRecDepth 100000 in
theorem gX5_readRun_X5_isDigit : GoodIn wsX5_readRun (va_wsS RX5 53 yX5_isDigit wsX5_isDigit) := goodIn_app (goodIn_of _ (by decide +kernel)) ggX5_readRun_X5_isDigit
