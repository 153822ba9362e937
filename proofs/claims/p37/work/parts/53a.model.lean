theorem dX12_readSaid_0 : decode cX12_readSaid 0 = .ok (.aload_n 0, 1) := by decide +kernel
theorem dX12_readSaid_1 : decode cX12_readSaid 1 = .ok (.bipush 40, 2) := by decide +kernel
theorem dX12_readSaid_3 : decode cX12_readSaid 3 = .ok (.invokevirtual 86, 3) := by decide +kernel
theorem dX12_readSaid_6 : decode cX12_readSaid 6 = .ok (.istore_n 1, 1) := by decide +kernel
theorem dX12_readSaid_7 : decode cX12_readSaid 7 = .ok (.bipush 22, 2) := by decide +kernel
theorem dX12_readSaid_9 : decode cX12_readSaid 9 = .ok (.istore_n 2, 1) := by decide +kernel
theorem dX12_readSaid_10 : decode cX12_readSaid 10 = .ok (.iload_n 2, 1) := by decide +kernel
theorem dX12_readSaid_11 : decode cX12_readSaid 11 = .ok (.bipush 30, 2) := by decide +kernel
theorem dX12_readSaid_13 : decode cX12_readSaid 13 = .ok (.if_icmp .gt 17, 3) := by decide +kernel
theorem dX12_readSaid_16 : decode cX12_readSaid 16 = .ok (.aload_n 0, 1) := by decide +kernel
theorem dX12_readSaid_17 : decode cX12_readSaid 17 = .ok (.iload_n 2, 1) := by decide +kernel
theorem dX12_readSaid_18 : decode cX12_readSaid 18 = .ok (.invokevirtual 213, 3) := by decide +kernel
theorem dX12_readSaid_21 : decode cX12_readSaid 21 = .ok (.ifCond .ne 9, 3) := by decide +kernel
theorem dX12_readSaid_30 : decode cX12_readSaid 30 = .ok (.iload_n 1, 1) := by decide +kernel
theorem dX12_readSaid_31 : decode cX12_readSaid 31 = .ok (.ifCond .ne 15, 3) := by decide +kernel
theorem dX12_readSaid_46 : decode cX12_readSaid 46 = .ok (.aload_n 0, 1) := by decide +kernel
theorem dX12_readSaid_47 : decode cX12_readSaid 47 = .ok (.getfield 442, 3) := by decide +kernel
theorem dX12_readSaid_50 : decode cX12_readSaid 50 = .ok (.bipush 20, 2) := by decide +kernel
theorem dX12_readSaid_52 : decode cX12_readSaid 52 = .ok (.if_icmp .eq 12, 3) := by decide +kernel
theorem dX12_readSaid_64 : decode cX12_readSaid 64 = .ok (.aload_n 0, 1) := by decide +kernel
theorem dX12_readSaid_65 : decode cX12_readSaid 65 = .ok (.iconst 4, 1) := by decide +kernel
theorem dX12_readSaid_66 : decode cX12_readSaid 66 = .ok (.invokevirtual 72, 3) := by decide +kernel
theorem dX12_readSaid_69 : decode cX12_readSaid 69 = .ok (.ireturn, 1) := by decide +kernel
theorem dX12_readSaid_55 : decode cX12_readSaid 55 = .ok (.aload_n 0, 1) := by decide +kernel
theorem dX12_readSaid_56 : decode cX12_readSaid 56 = .ok (.getfield 445, 3) := by decide +kernel
theorem dX12_readSaid_59 : decode cX12_readSaid 59 = .ok (.bipush 8, 2) := by decide +kernel
theorem dX12_readSaid_61 : decode cX12_readSaid 61 = .ok (.if_icmp .ne 9, 3) := by decide +kernel
theorem dX12_readSaid_34 : decode cX12_readSaid 34 = .ok (.iload_n 2, 1) := by decide +kernel
theorem dX12_readSaid_35 : decode cX12_readSaid 35 = .ok (.bipush 30, 2) := by decide +kernel
theorem dX12_readSaid_37 : decode cX12_readSaid 37 = .ok (.if_icmp .le 9, 3) := by decide +kernel
theorem dX12_readSaid_24 : decode cX12_readSaid 24 = .ok (.iinc 2 1, 3) := by decide +kernel
theorem dX12_readSaid_27 : decode cX12_readSaid 27 = .ok (.goto (-17), 3) := by decide +kernel
theorem dX12_readSaid_40 : decode cX12_readSaid 40 = .ok (.aload_n 0, 1) := by decide +kernel
theorem dX12_readSaid_41 : decode cX12_readSaid 41 = .ok (.iconst 1, 1) := by decide +kernel
theorem dX12_readSaid_42 : decode cX12_readSaid 42 = .ok (.invokevirtual 72, 3) := by decide +kernel
theorem dX12_readSaid_45 : decode cX12_readSaid 45 = .ok (.ireturn, 1) := by decide +kernel
theorem dX12_readNot_0 : decode cX12_readNot 0 = .ok (.aload_n 0, 1) := by decide +kernel
theorem dX12_readNot_1 : decode cX12_readNot 1 = .ok (.invokevirtual 439, 3) := by decide +kernel
theorem dX12_readNot_4 : decode cX12_readNot 4 = .ok (.ifCond .ne 5, 3) := by decide +kernel
theorem dX12_readNot_7 : decode cX12_readNot 7 = .ok (.iconst 0, 1) := by decide +kernel
theorem dX12_readNot_8 : decode cX12_readNot 8 = .ok (.ireturn, 1) := by decide +kernel
theorem dX12_readAnd_0 : decode cX12_readAnd 0 = .ok (.aload_n 0, 1) := by decide +kernel
theorem dX12_readAnd_1 : decode cX12_readAnd 1 = .ok (.invokevirtual 439, 3) := by decide +kernel
theorem dX12_readAnd_4 : decode cX12_readAnd 4 = .ok (.ifCond .ne 5, 3) := by decide +kernel
theorem dX12_readAnd_7 : decode cX12_readAnd 7 = .ok (.iconst 0, 1) := by decide +kernel
theorem dX12_readAnd_8 : decode cX12_readAnd 8 = .ok (.ireturn, 1) := by decide +kernel
theorem dX12_readOr_0 : decode cX12_readOr 0 = .ok (.aload_n 0, 1) := by decide +kernel
theorem dX12_readOr_1 : decode cX12_readOr 1 = .ok (.invokevirtual 429, 3) := by decide +kernel
theorem dX12_readOr_4 : decode cX12_readOr 4 = .ok (.ifCond .ne 5, 3) := by decide +kernel
theorem dX12_readOr_7 : decode cX12_readOr 7 = .ok (.iconst 0, 1) := by decide +kernel
theorem dX12_readOr_8 : decode cX12_readOr 8 = .ok (.ireturn, 1) := by decide +kernel
theorem dX12_readBracket_0 : decode cX12_readBracket 0 = .ok (.aload_n 0, 1) := by decide +kernel
theorem dX12_readBracket_1 : decode cX12_readBracket 1 = .ok (.invokevirtual 460, 3) := by decide +kernel
theorem dX12_readBracket_4 : decode cX12_readBracket 4 = .ok (.ifCond .ne 5, 3) := by decide +kernel
theorem dX12_readBracket_7 : decode cX12_readBracket 7 = .ok (.iconst 0, 1) := by decide +kernel
theorem dX12_readBracket_8 : decode cX12_readBracket 8 = .ok (.ireturn, 1) := by decide +kernel
theorem dX12_readSaid_70 : decode cX12_readSaid 70 = .ok (.aload_n 0, 1) := by decide +kernel
theorem dX12_readSaid_71 : decode cX12_readSaid 71 = .ok (.dup, 1) := by decide +kernel
theorem dX12_readSaid_72 : decode cX12_readSaid 72 = .ok (.getfield 442, 3) := by decide +kernel
theorem dX12_readSaid_75 : decode cX12_readSaid 75 = .ok (.iconst 1, 1) := by decide +kernel
theorem dX12_readSaid_76 : decode cX12_readSaid 76 = .ok (.iadd, 1) := by decide +kernel
theorem dX12_readSaid_77 : decode cX12_readSaid 77 = .ok (.putfield 442, 3) := by decide +kernel
theorem dX12_readSaid_80 : decode cX12_readSaid 80 = .ok (.aload_n 0, 1) := by decide +kernel
theorem dX12_readSaid_81 : decode cX12_readSaid 81 = .ok (.dup, 1) := by decide +kernel
theorem dX12_readSaid_82 : decode cX12_readSaid 82 = .ok (.getfield 445, 3) := by decide +kernel
theorem dX12_readSaid_85 : decode cX12_readSaid 85 = .ok (.iconst 1, 1) := by decide +kernel
theorem dX12_readSaid_86 : decode cX12_readSaid 86 = .ok (.iadd, 1) := by decide +kernel
theorem dX12_readSaid_87 : decode cX12_readSaid 87 = .ok (.putfield 445, 3) := by decide +kernel
theorem dX12_readSaid_90 : decode cX12_readSaid 90 = .ok (.aload_n 0, 1) := by decide +kernel
theorem dX12_readSaid_91 : decode cX12_readSaid 91 = .ok (.invokevirtual 82, 3) := by decide +kernel
theorem dX12_readSaid_94 : decode cX12_readSaid 94 = .ok (.iconst 1, 1) := by decide +kernel
theorem dX12_readSaid_95 : decode cX12_readSaid 95 = .ok (.istore_n 3, 1) := by decide +kernel
theorem dX12_readSaid_96 : decode cX12_readSaid 96 = .ok (.iload_n 1, 1) := by decide +kernel
theorem dX12_readSaid_97 : decode cX12_readSaid 97 = .ok (.ifCond .eq 11, 3) := by decide +kernel
theorem dX12_readSaid_100 : decode cX12_readSaid 100 = .ok (.aload_n 0, 1) := by decide +kernel
theorem dX12_readSaid_101 : decode cX12_readSaid 101 = .ok (.invokevirtual 448, 3) := by decide +kernel
theorem dX12_readSaid_104 : decode cX12_readSaid 104 = .ok (.istore_n 3, 1) := by decide +kernel
theorem dX12_readSaid_105 : decode cX12_readSaid 105 = .ok (.goto 61, 3) := by decide +kernel
theorem dX12_readSaid_166 : decode cX12_readSaid 166 = .ok (.aload_n 0, 1) := by decide +kernel
theorem dX12_readSaid_167 : decode cX12_readSaid 167 = .ok (.dup, 1) := by decide +kernel
theorem dX12_readSaid_168 : decode cX12_readSaid 168 = .ok (.getfield 445, 3) := by decide +kernel
theorem dX12_readSaid_171 : decode cX12_readSaid 171 = .ok (.iconst 1, 1) := by decide +kernel
theorem dX12_readSaid_172 : decode cX12_readSaid 172 = .ok (.isub, 1) := by decide +kernel
theorem dX12_readSaid_173 : decode cX12_readSaid 173 = .ok (.putfield 445, 3) := by decide +kernel
theorem dX12_readSaid_176 : decode cX12_readSaid 176 = .ok (.iload_n 3, 1) := by decide +kernel
theorem dX12_readSaid_177 : decode cX12_readSaid 177 = .ok (.ireturn, 1) := by decide +kernel
theorem dX12_readSaid_108 : decode cX12_readSaid 108 = .ok (.iload_n 2, 1) := by decide +kernel
theorem dX12_readSaid_109 : decode cX12_readSaid 109 = .ok (.bipush 22, 2) := by decide +kernel
theorem dX12_readSaid_111 : decode cX12_readSaid 111 = .ok (.if_icmp .ne 11, 3) := by decide +kernel
theorem dX12_readSaid_114 : decode cX12_readSaid 114 = .ok (.aload_n 0, 1) := by decide +kernel
theorem dX12_readSaid_115 : decode cX12_readSaid 115 = .ok (.invokevirtual 451, 3) := by decide +kernel
theorem dX12_readSaid_118 : decode cX12_readSaid 118 = .ok (.istore_n 3, 1) := by decide +kernel
theorem dX12_readSaid_119 : decode cX12_readSaid 119 = .ok (.goto 47, 3) := by decide +kernel
theorem dX12_readSaid_122 : decode cX12_readSaid 122 = .ok (.iload_n 2, 1) := by decide +kernel
theorem dX12_readSaid_123 : decode cX12_readSaid 123 = .ok (.bipush 26, 2) := by decide +kernel
theorem dX12_readSaid_125 : decode cX12_readSaid 125 = .ok (.if_icmp .ge 21, 3) := by decide +kernel
theorem dX12_readSaid_146 : decode cX12_readSaid 146 = .ok (.iload_n 2, 1) := by decide +kernel
theorem dX12_readSaid_147 : decode cX12_readSaid 147 = .ok (.bipush 27, 2) := by decide +kernel
theorem dX12_readSaid_149 : decode cX12_readSaid 149 = .ok (.if_icmp .ge 11, 3) := by decide +kernel
theorem dX12_readSaid_160 : decode cX12_readSaid 160 = .ok (.aload_n 0, 1) := by decide +kernel
theorem dX12_readSaid_161 : decode cX12_readSaid 161 = .ok (.iload_n 2, 1) := by decide +kernel
theorem dX12_readSaid_162 : decode cX12_readSaid 162 = .ok (.invokevirtual 457, 3) := by decide +kernel
theorem dX12_readSaid_165 : decode cX12_readSaid 165 = .ok (.istore_n 3, 1) := by decide +kernel
theorem dX12_readSaid_152 : decode cX12_readSaid 152 = .ok (.aload_n 0, 1) := by decide +kernel
theorem dX12_readSaid_153 : decode cX12_readSaid 153 = .ok (.iload_n 2, 1) := by decide +kernel
theorem dX12_readSaid_154 : decode cX12_readSaid 154 = .ok (.invokevirtual 454, 3) := by decide +kernel
theorem dX12_readSaid_157 : decode cX12_readSaid 157 = .ok (.goto 8, 3) := by decide +kernel
theorem dX12_readSaid_128 : decode cX12_readSaid 128 = .ok (.aload_n 0, 1) := by decide +kernel
theorem dX12_readSaid_129 : decode cX12_readSaid 129 = .ok (.aload_n 0, 1) := by decide +kernel
theorem dX12_readSaid_130 : decode cX12_readSaid 130 = .ok (.bipush 50, 2) := by decide +kernel
theorem dX12_readSaid_132 : decode cX12_readSaid 132 = .ok (.iload_n 2, 1) := by decide +kernel
theorem dX12_readSaid_133 : decode cX12_readSaid 133 = .ok (.iadd, 1) := by decide +kernel
theorem dX12_readSaid_134 : decode cX12_readSaid 134 = .ok (.iconst 0, 1) := by decide +kernel
theorem dX12_readSaid_135 : decode cX12_readSaid 135 = .ok (.iconst 0, 1) := by decide +kernel
theorem dX12_readSaid_136 : decode cX12_readSaid 136 = .ok (.iconst 0, 1) := by decide +kernel
theorem dX12_readSaid_137 : decode cX12_readSaid 137 = .ok (.invokevirtual 435, 3) := by decide +kernel
theorem dX12_readSaid_140 : decode cX12_readSaid 140 = .ok (.putfield 432, 3) := by decide +kernel
theorem dX12_readSaid_143 : decode cX12_readSaid 143 = .ok (.goto 23, 3) := by decide +kernel
theorem dX12_readNot_9 : decode cX12_readNot 9 = .ok (.aload_n 0, 1) := by decide +kernel
theorem dX12_readNot_10 : decode cX12_readNot 10 = .ok (.aload_n 0, 1) := by decide +kernel
theorem dX12_readNot_11 : decode cX12_readNot 11 = .ok (.iconst 1, 1) := by decide +kernel
theorem dX12_readNot_12 : decode cX12_readNot 12 = .ok (.aload_n 0, 1) := by decide +kernel
theorem dX12_readNot_13 : decode cX12_readNot 13 = .ok (.getfield 432, 3) := by decide +kernel
theorem dX12_readNot_16 : decode cX12_readNot 16 = .ok (.iconst 0, 1) := by decide +kernel
theorem dX12_readNot_17 : decode cX12_readNot 17 = .ok (.iconst 0, 1) := by decide +kernel
theorem dX12_readNot_18 : decode cX12_readNot 18 = .ok (.invokevirtual 435, 3) := by decide +kernel
theorem dX12_readNot_21 : decode cX12_readNot 21 = .ok (.putfield 432, 3) := by decide +kernel
theorem dX12_readNot_24 : decode cX12_readNot 24 = .ok (.iconst 1, 1) := by decide +kernel
theorem dX12_readNot_25 : decode cX12_readNot 25 = .ok (.ireturn, 1) := by decide +kernel
theorem dX12_readAnd_9 : decode cX12_readAnd 9 = .ok (.aload_n 0, 1) := by decide +kernel
theorem dX12_readAnd_10 : decode cX12_readAnd 10 = .ok (.getfield 432, 3) := by decide +kernel
theorem dX12_readAnd_13 : decode cX12_readAnd 13 = .ok (.istore_n 1, 1) := by decide +kernel
theorem dX12_readAnd_14 : decode cX12_readAnd 14 = .ok (.aload_n 0, 1) := by decide +kernel
theorem dX12_readAnd_15 : decode cX12_readAnd 15 = .ok (.bipush 21, 2) := by decide +kernel
theorem dX12_readAnd_17 : decode cX12_readAnd 17 = .ok (.invokevirtual 213, 3) := by decide +kernel
theorem dX12_readAnd_20 : decode cX12_readAnd 20 = .ok (.ifCond .eq 31, 3) := by decide +kernel
theorem dX12_readAnd_51 : decode cX12_readAnd 51 = .ok (.aload_n 0, 1) := by decide +kernel
theorem dX12_readAnd_52 : decode cX12_readAnd 52 = .ok (.iload_n 1, 1) := by decide +kernel
theorem dX12_readAnd_53 : decode cX12_readAnd 53 = .ok (.putfield 432, 3) := by decide +kernel
theorem dX12_readAnd_56 : decode cX12_readAnd 56 = .ok (.iconst 1, 1) := by decide +kernel
theorem dX12_readAnd_57 : decode cX12_readAnd 57 = .ok (.ireturn, 1) := by decide +kernel
theorem dX12_readAnd_23 : decode cX12_readAnd 23 = .ok (.aload_n 0, 1) := by decide +kernel
theorem dX12_readAnd_24 : decode cX12_readAnd 24 = .ok (.invokevirtual 82, 3) := by decide +kernel
theorem dX12_readAnd_27 : decode cX12_readAnd 27 = .ok (.aload_n 0, 1) := by decide +kernel
theorem dX12_readAnd_28 : decode cX12_readAnd 28 = .ok (.invokevirtual 439, 3) := by decide +kernel
theorem dX12_readAnd_31 : decode cX12_readAnd 31 = .ok (.ifCond .ne 5, 3) := by decide +kernel
theorem dX12_readAnd_36 : decode cX12_readAnd 36 = .ok (.aload_n 0, 1) := by decide +kernel
theorem dX12_readAnd_37 : decode cX12_readAnd 37 = .ok (.iconst 2, 1) := by decide +kernel
theorem dX12_readAnd_38 : decode cX12_readAnd 38 = .ok (.iload_n 1, 1) := by decide +kernel
theorem dX12_readAnd_39 : decode cX12_readAnd 39 = .ok (.aload_n 0, 1) := by decide +kernel
theorem dX12_readAnd_40 : decode cX12_readAnd 40 = .ok (.getfield 432, 3) := by decide +kernel
theorem dX12_readAnd_43 : decode cX12_readAnd 43 = .ok (.iconst 0, 1) := by decide +kernel
theorem dX12_readAnd_44 : decode cX12_readAnd 44 = .ok (.invokevirtual 435, 3) := by decide +kernel
theorem dX12_readAnd_47 : decode cX12_readAnd 47 = .ok (.istore_n 1, 1) := by decide +kernel
theorem dX12_readAnd_48 : decode cX12_readAnd 48 = .ok (.goto (-34), 3) := by decide +kernel
theorem dX12_readAnd_34 : decode cX12_readAnd 34 = .ok (.iconst 0, 1) := by decide +kernel
theorem dX12_readAnd_35 : decode cX12_readAnd 35 = .ok (.ireturn, 1) := by decide +kernel
theorem dX12_readOr_9 : decode cX12_readOr 9 = .ok (.aload_n 0, 1) := by decide +kernel
theorem dX12_readOr_10 : decode cX12_readOr 10 = .ok (.getfield 432, 3) := by decide +kernel
theorem dX12_readOr_13 : decode cX12_readOr 13 = .ok (.istore_n 1, 1) := by decide +kernel
theorem dX12_readOr_14 : decode cX12_readOr 14 = .ok (.aload_n 0, 1) := by decide +kernel
theorem dX12_readOr_15 : decode cX12_readOr 15 = .ok (.bipush 20, 2) := by decide +kernel
theorem dX12_readOr_17 : decode cX12_readOr 17 = .ok (.invokevirtual 213, 3) := by decide +kernel
theorem dX12_readOr_20 : decode cX12_readOr 20 = .ok (.ifCond .eq 31, 3) := by decide +kernel
theorem dX12_readOr_51 : decode cX12_readOr 51 = .ok (.aload_n 0, 1) := by decide +kernel
theorem dX12_readOr_52 : decode cX12_readOr 52 = .ok (.iload_n 1, 1) := by decide +kernel
theorem dX12_readOr_53 : decode cX12_readOr 53 = .ok (.putfield 432, 3) := by decide +kernel
theorem dX12_readOr_56 : decode cX12_readOr 56 = .ok (.iconst 1, 1) := by decide +kernel
theorem dX12_readOr_57 : decode cX12_readOr 57 = .ok (.ireturn, 1) := by decide +kernel
theorem dX12_readOr_23 : decode cX12_readOr 23 = .ok (.aload_n 0, 1) := by decide +kernel
theorem dX12_readOr_24 : decode cX12_readOr 24 = .ok (.invokevirtual 82, 3) := by decide +kernel
theorem dX12_readOr_27 : decode cX12_readOr 27 = .ok (.aload_n 0, 1) := by decide +kernel
theorem dX12_readOr_28 : decode cX12_readOr 28 = .ok (.invokevirtual 429, 3) := by decide +kernel
theorem dX12_readOr_31 : decode cX12_readOr 31 = .ok (.ifCond .ne 5, 3) := by decide +kernel
theorem dX12_readOr_36 : decode cX12_readOr 36 = .ok (.aload_n 0, 1) := by decide +kernel
theorem dX12_readOr_37 : decode cX12_readOr 37 = .ok (.iconst 3, 1) := by decide +kernel
theorem dX12_readOr_38 : decode cX12_readOr 38 = .ok (.iload_n 1, 1) := by decide +kernel
theorem dX12_readOr_39 : decode cX12_readOr 39 = .ok (.aload_n 0, 1) := by decide +kernel
theorem dX12_readOr_40 : decode cX12_readOr 40 = .ok (.getfield 432, 3) := by decide +kernel
theorem dX12_readOr_43 : decode cX12_readOr 43 = .ok (.iconst 0, 1) := by decide +kernel
theorem dX12_readOr_44 : decode cX12_readOr 44 = .ok (.invokevirtual 435, 3) := by decide +kernel
theorem dX12_readOr_47 : decode cX12_readOr 47 = .ok (.istore_n 1, 1) := by decide +kernel
theorem dX12_readOr_48 : decode cX12_readOr 48 = .ok (.goto (-34), 3) := by decide +kernel
theorem dX12_readOr_34 : decode cX12_readOr 34 = .ok (.iconst 0, 1) := by decide +kernel
theorem dX12_readOr_35 : decode cX12_readOr 35 = .ok (.ireturn, 1) := by decide +kernel
theorem dX12_readBracket_9 : decode cX12_readBracket 9 = .ok (.aload_n 0, 1) := by decide +kernel
theorem dX12_readBracket_10 : decode cX12_readBracket 10 = .ok (.bipush 41, 2) := by decide +kernel
theorem dX12_readBracket_12 : decode cX12_readBracket 12 = .ok (.invokevirtual 86, 3) := by decide +kernel
theorem dX12_readBracket_15 : decode cX12_readBracket 15 = .ok (.ifCond .ne 9, 3) := by decide +kernel
theorem dX12_readBracket_24 : decode cX12_readBracket 24 = .ok (.aload_n 0, 1) := by decide +kernel
theorem dX12_readBracket_25 : decode cX12_readBracket 25 = .ok (.invokevirtual 82, 3) := by decide +kernel
theorem dX12_readBracket_28 : decode cX12_readBracket 28 = .ok (.iconst 1, 1) := by decide +kernel
theorem dX12_readBracket_29 : decode cX12_readBracket 29 = .ok (.ireturn, 1) := by decide +kernel
theorem dX12_readBracket_18 : decode cX12_readBracket 18 = .ok (.aload_n 0, 1) := by decide +kernel
theorem dX12_readBracket_19 : decode cX12_readBracket 19 = .ok (.iconst 1, 1) := by decide +kernel
theorem dX12_readBracket_20 : decode cX12_readBracket 20 = .ok (.invokevirtual 72, 3) := by decide +kernel
theorem dX12_readBracket_23 : decode cX12_readBracket 23 = .ok (.ireturn, 1) := by decide +kernel
set_option maxRecDepth 100000 in
theorem ggX12_readSaid_X12_isSign : GoodIn wsX12_readSaid wsX12_isSign := goodIn_r _ [8, 9, 10, 104, 105, 106, 107, 108, 109, 110, 111, 112, 113, 114, 115, 116, 117, 118, 119, 120, 121, 122, 123, 124, 125, 126, 127, 128, 129, 130, 131, 132, 133, 134, 135, 136, 137, 138, 139, 140, 141, 142, 143, 144, 145, 146, 147, 148, 149, 150, 151, 152, 153, 154, 155] rfl (by decide +kernel)
set_option maxRecDepth 100000 in
theorem ggX12_readSaid_X12_isWord : GoodIn wsX12_readSaid wsX12_isWord := goodIn_r _ [14, 9, 15, 16, 17, 7, 18, 19, 20, 21, 22, 23, 104, 105, 106, 107, 108, 109, 110, 111, 112, 113, 114, 115, 116, 117, 118, 119, 120, 121, 122, 123, 124, 125, 126, 127, 128, 129, 130, 131, 132, 133, 134, 135, 136, 137, 138, 139, 140, 141, 142, 143, 144, 145, 146, 147, 148, 149, 150, 151, 152, 153, 154, 155] rfl (by decide +kernel)
set_option maxRecDepth 100000 in
theorem ggX12_readSaid_X12_bad : GoodIn wsX12_readSaid wsX12_bad := goodIn_r _ [27, 9, 28, 29, 30, 104, 105, 106, 107, 108, 109, 110, 111, 112, 113, 114, 115, 116, 117, 118, 119, 120, 121, 122, 123, 124, 125, 126, 127, 128, 129, 130, 131, 132, 133, 134, 135, 136, 137, 138, 139, 140, 141, 142, 143, 144, 145, 146, 147, 148, 149, 150, 151, 152, 153, 154, 155] rfl (by decide +kernel)
set_option maxRecDepth 100000 in
theorem ggX12_readNot_X12_readSaid : GoodIn wsX12_readNot wsX12_readSaid := goodIn_r _ [66, 67, 68, 1, 52, 53, 54, 5, 55, 17, 36, 13, 14, 15, 16, 18, 19, 20, 21, 22, 23, 24, 25, 26, 56, 57, 58, 59, 60, 34, 61, 27, 28, 29, 30, 31, 32, 33, 35, 37, 38, 39, 40, 41, 42, 43, 44, 45, 46, 47, 69, 70, 71, 72, 73, 74, 6, 7, 8, 9, 10, 11, 75, 76, 77, 78, 79, 80, 81, 82, 83, 84, 85, 86, 87, 88, 89, 90, 91, 92, 93, 94, 95, 96, 97, 98, 99, 100, 101, 102, 103, 12, 2, 3, 4, 48, 49, 50, 51, 0, 62, 63, 64, 65, 104, 105, 106, 107, 108, 109, 110, 111, 112, 113, 114, 115, 116, 117, 118, 119, 120, 121, 122, 123, 124, 125, 126, 127, 128, 129, 130, 131, 132, 133, 134, 135, 136, 137, 138, 139, 140, 141, 142, 143, 144, 145, 146, 147, 148, 149, 150, 151, 152, 153, 154, 155] rfl (by decide +kernel)
set_option maxRecDepth 100000 in
theorem ggX12_readAnd_X12_readSaid : GoodIn wsX12_readAnd wsX12_readSaid := goodIn_r _ [66, 67, 68, 1, 51, 52, 53, 5, 54, 10, 29, 6, 7, 8, 9, 11, 12, 13, 14, 15, 16, 17, 18, 19, 55, 56, 57, 58, 59, 27, 60, 20, 21, 22, 23, 24, 25, 26, 28, 30, 31, 32, 33, 34, 35, 36, 37, 38, 39, 40, 69, 70, 71, 72, 73, 74, 41, 42, 43, 44, 45, 46, 75, 76, 77, 78, 79, 80, 81, 82, 83, 84, 85, 86, 87, 88, 89, 90, 91, 92, 93, 94, 95, 96, 97, 98, 99, 100, 101, 102, 103, 0, 2, 3, 4, 47, 48, 49, 50, 61, 62, 63, 64, 65, 104, 105, 106, 107, 108, 109, 110, 111, 112, 113, 114, 115, 116, 117, 118, 119, 120, 121, 122, 123, 124, 125, 126, 127, 128, 129, 130, 131, 132, 133, 134, 135, 136, 137, 138, 139, 140, 141, 142, 143, 144, 145, 146, 147, 148, 149, 150, 151, 152, 153, 154, 155] rfl (by decide +kernel)
set_option maxRecDepth 100000 in
theorem ggX12_readOr_X12_readAnd : GoodIn wsX12_readOr wsX12_readAnd := goodIn_r _ [47, 1, 48, 49, 50, 5, 6, 7, 8, 9, 10, 11, 12, 13, 14, 15, 16, 17, 18, 19, 20, 21, 22, 23, 24, 25, 26, 27, 28, 29, 30, 31, 32, 33, 34, 35, 36, 37, 38, 39, 40, 41, 42, 43, 44, 45, 46, 51, 52, 53, 54, 55, 56, 57, 58, 59, 60, 61, 62, 63, 64, 65, 0, 2, 3, 4, 66, 67, 68, 69, 70, 71, 72, 73, 74, 75, 76, 77, 78, 79, 80, 81, 82, 83, 84, 85, 86, 87, 88, 89, 90, 91, 92, 93, 94, 95, 96, 97, 98, 99, 100, 101, 102, 103, 104, 105, 106, 107, 108, 109, 110, 111, 112, 113, 114, 115, 116, 117, 118, 119, 120, 121, 122, 123, 124, 125, 126, 127, 128, 129, 130, 131, 132, 133, 134, 135, 136, 137, 138, 139, 140, 141, 142, 143, 144, 145, 146, 147, 148, 149, 150, 151, 152, 153, 154, 155] rfl (by decide +kernel)
set_option maxRecDepth 100000 in
theorem ggX12_readBracket_X12_readOr : GoodIn wsX12_readBracket wsX12_readOr := goodIn_r _ [62, 41, 63, 64, 65, 4, 45, 46, 47, 48, 9, 26, 49, 50, 51, 52, 53, 54, 28, 29, 18, 19, 20, 21, 22, 23, 24, 16, 25, 10, 27, 30, 31, 32, 33, 34, 35, 36, 37, 38, 39, 55, 56, 57, 58, 59, 60, 40, 42, 43, 44, 0, 1, 2, 3, 5, 6, 7, 8, 11, 12, 13, 14, 15, 17, 61, 66, 67, 68, 69, 70, 71, 72, 73, 74, 75, 76, 77, 78, 79, 80, 81, 82, 83, 84, 85, 86, 87, 88, 89, 90, 91, 92, 93, 94, 95, 96, 97, 98, 99, 100, 101, 102, 103, 104, 105, 106, 107, 108, 109, 110, 111, 112, 113, 114, 115, 116, 117, 118, 119, 120, 121, 122, 123, 124, 125, 126, 127, 128, 129, 130, 131, 132, 133, 134, 135, 136, 137, 138, 139, 140, 141, 142, 143, 144, 145, 146, 147, 148, 149, 150, 151, 152, 153, 154, 155] rfl (by decide +kernel)
set_option maxRecDepth 100000 in
theorem ggX12_readSaid_X12_go : GoodIn wsX12_readSaid wsX12_go := goodIn_r _ [34, 35, 36, 37, 29, 38, 9, 10, 15, 39, 22, 23, 40, 41, 7, 42, 43, 44, 45, 46, 47, 48, 49, 104, 105, 106, 107, 108, 109, 110, 111, 112, 113, 114, 115, 116, 117, 118, 119, 120, 121, 122, 123, 124, 125, 126, 127, 128, 129, 130, 131, 132, 133, 134, 135, 136, 137, 138, 139, 140, 141, 142, 143, 144, 145, 146, 147, 148, 149, 150, 151, 152, 153, 154, 155] rfl (by decide +kernel)
set_option maxRecDepth 100000 in
theorem ggX12_readSaid_X12_readBracket : GoodIn wsX12_readSaid wsX12_readBracket := goodIn_r _ [95, 96, 97, 98, 7, 4, 5, 6, 8, 9, 10, 24, 25, 26, 27, 28, 29, 30, 31, 32, 33, 34, 35, 36, 37, 38, 15, 39, 22, 23, 40, 41, 42, 43, 44, 45, 46, 47, 48, 49, 91, 3, 92, 93, 94, 11, 12, 13, 14, 16, 17, 18, 19, 20, 21, 56, 57, 58, 59, 60, 61, 99, 100, 101, 102, 103, 0, 1, 2, 50, 51, 52, 53, 54, 55, 62, 63, 64, 65, 66, 67, 68, 69, 70, 71, 72, 73, 74, 75, 76, 77, 78, 79, 80, 81, 82, 83, 84, 85, 86, 87, 88, 89, 90, 104, 105, 106, 107, 108, 109, 110, 111, 112, 113, 114, 115, 116, 117, 118, 119, 120, 121, 122, 123, 124, 125, 126, 127, 128, 129, 130, 131, 132, 133, 134, 135, 136, 137, 138, 139, 140, 141, 142, 143, 144, 145, 146, 147, 148, 149, 150, 151, 152, 153, 154, 155] rfl (by decide +kernel)
set_option maxRecDepth 100000 in
theorem ggX12_readSaid_X12_readNot : GoodIn wsX12_readSaid wsX12_readNot := goodIn_r _ [99, 3, 92, 93, 94, 7, 56, 57, 58, 59, 60, 61, 91, 11, 12, 13, 14, 9, 15, 16, 17, 18, 19, 20, 21, 22, 23, 31, 32, 33, 34, 35, 36, 37, 29, 38, 10, 39, 40, 41, 42, 43, 44, 45, 46, 47, 48, 49, 95, 96, 97, 98, 4, 5, 6, 8, 24, 25, 26, 27, 28, 30, 100, 101, 102, 103, 0, 1, 2, 50, 51, 52, 53, 54, 55, 62, 63, 64, 65, 66, 67, 68, 69, 70, 71, 72, 73, 74, 75, 76, 77, 78, 79, 80, 81, 82, 83, 84, 85, 86, 87, 88, 89, 90, 104, 105, 106, 107, 108, 109, 110, 111, 112, 113, 114, 115, 116, 117, 118, 119, 120, 121, 122, 123, 124, 125, 126, 127, 128, 129, 130, 131, 132, 133, 134, 135, 136, 137, 138, 139, 140, 141, 142, 143, 144, 145, 146, 147, 148, 149, 150, 151, 152, 153, 154, 155] rfl (by decide +kernel)
set_option maxRecDepth 100000 in
theorem ggX12_readSaid_X12_readCompare : GoodIn wsX12_readSaid wsX12_readCompare := goodIn_r _ [83, 10, 66, 3, 4, 5, 6, 7, 8, 9, 24, 25, 26, 27, 28, 29, 30, 31, 32, 33, 34, 35, 36, 37, 38, 15, 39, 22, 23, 40, 41, 42, 43, 44, 45, 46, 47, 48, 49, 84, 85, 86, 87, 88, 89, 90, 56, 57, 58, 59, 60, 61, 104, 105, 106, 107, 108, 109, 110, 111, 112, 113, 114, 115, 116, 117, 118, 119, 120, 121, 122, 123, 124, 125, 126, 127, 128, 129, 130, 131, 132, 133, 134, 135, 136, 137, 138, 139, 140, 141, 142, 143, 144, 145, 146, 147, 148, 149, 150, 151, 152, 153, 154, 155] rfl (by decide +kernel)
set_option maxRecDepth 100000 in
theorem ggX12_readSaid_X12_readOf : GoodIn wsX12_readSaid wsX12_readOf := goodIn_r _ [65, 66, 3, 67, 68, 69, 7, 70, 71, 72, 15, 73, 74, 75, 76, 9, 16, 17, 18, 19, 20, 21, 22, 23, 24, 25, 26, 27, 28, 29, 30, 77, 78, 79, 31, 32, 33, 34, 35, 36, 37, 38, 10, 39, 40, 41, 42, 43, 44, 45, 46, 47, 48, 49, 56, 57, 58, 59, 60, 61, 104, 105, 106, 107, 108, 109, 110, 111, 112, 113, 114, 115, 116, 117, 118, 119, 120, 121, 122, 123, 124, 125, 126, 127, 128, 129, 130, 131, 132, 133, 134, 135, 136, 137, 138, 139, 140, 141, 142, 143, 144, 145, 146, 147, 148, 149, 150, 151, 152, 153, 154, 155] rfl (by decide +kernel)
set_option maxRecDepth 100000 in
theorem ggX12_readSaid_X12_saysOne : GoodIn wsX12_readSaid wsX12_saysOne := goodIn_r _ [59, 60, 61, 104, 105, 106, 107, 108, 109, 110, 111, 112, 113, 114, 115, 116, 117, 118, 119, 120, 121, 122, 123, 124, 125, 126, 127, 128, 129, 130, 131, 132, 133, 134, 135, 136, 137, 138, 139, 140, 141, 142, 143, 144, 145, 146, 147, 148, 149, 150, 151, 152, 153, 154, 155] rfl (by decide +kernel)
set_option maxRecDepth 100000 in
theorem ggX12_readNot_X12_saysOne : GoodIn wsX12_readNot wsX12_saysOne := goodIn_r _ [9, 10, 11, 104, 105, 106, 107, 108, 109, 110, 111, 112, 113, 114, 115, 116, 117, 118, 119, 120, 121, 122, 123, 124, 125, 126, 127, 128, 129, 130, 131, 132, 133, 134, 135, 136, 137, 138, 139, 140, 141, 142, 143, 144, 145, 146, 147, 148, 149, 150, 151, 152, 153, 154, 155] rfl (by decide +kernel)
set_option maxRecDepth 100000 in
theorem ggX12_readAnd_X12_isWord : GoodIn wsX12_readAnd wsX12_isWord := goodIn_r _ [9, 10, 11, 12, 13, 5, 14, 15, 16, 17, 18, 19, 104, 105, 106, 107, 108, 109, 110, 111, 112, 113, 114, 115, 116, 117, 118, 119, 120, 121, 122, 123, 124, 125, 126, 127, 128, 129, 130, 131, 132, 133, 134, 135, 136, 137, 138, 139, 140, 141, 142, 143, 144, 145, 146, 147, 148, 149, 150, 151, 152, 153, 154, 155] rfl (by decide +kernel)
set_option maxRecDepth 100000 in
theorem ggX12_readAnd_X12_go : GoodIn wsX12_readAnd wsX12_go := goodIn_r _ [23, 24, 25, 26, 27, 28, 10, 29, 11, 30, 18, 19, 31, 32, 5, 33, 34, 35, 36, 37, 38, 39, 40, 104, 105, 106, 107, 108, 109, 110, 111, 112, 113, 114, 115, 116, 117, 118, 119, 120, 121, 122, 123, 124, 125, 126, 127, 128, 129, 130, 131, 132, 133, 134, 135, 136, 137, 138, 139, 140, 141, 142, 143, 144, 145, 146, 147, 148, 149, 150, 151, 152, 153, 154, 155] rfl (by decide +kernel)
set_option maxRecDepth 100000 in
theorem ggX12_readAnd_X12_saysOne : GoodIn wsX12_readAnd wsX12_saysOne := goodIn_r _ [44, 45, 46, 104, 105, 106, 107, 108, 109, 110, 111, 112, 113, 114, 115, 116, 117, 118, 119, 120, 121, 122, 123, 124, 125, 126, 127, 128, 129, 130, 131, 132, 133, 134, 135, 136, 137, 138, 139, 140, 141, 142, 143, 144, 145, 146, 147, 148, 149, 150, 151, 152, 153, 154, 155] rfl (by decide +kernel)
set_option maxRecDepth 100000 in
theorem ggX12_readOr_X12_isWord : GoodIn wsX12_readOr wsX12_isWord := goodIn_r _ [9, 10, 11, 12, 13, 5, 14, 15, 16, 17, 18, 19, 104, 105, 106, 107, 108, 109, 110, 111, 112, 113, 114, 115, 116, 117, 118, 119, 120, 121, 122, 123, 124, 125, 126, 127, 128, 129, 130, 131, 132, 133, 134, 135, 136, 137, 138, 139, 140, 141, 142, 143, 144, 145, 146, 147, 148, 149, 150, 151, 152, 153, 154, 155] rfl (by decide +kernel)
set_option maxRecDepth 100000 in
theorem ggX12_readOr_X12_go : GoodIn wsX12_readOr wsX12_go := goodIn_r _ [23, 24, 25, 26, 27, 28, 10, 29, 11, 30, 18, 19, 31, 32, 5, 33, 34, 35, 36, 37, 38, 39, 40, 104, 105, 106, 107, 108, 109, 110, 111, 112, 113, 114, 115, 116, 117, 118, 119, 120, 121, 122, 123, 124, 125, 126, 127, 128, 129, 130, 131, 132, 133, 134, 135, 136, 137, 138, 139, 140, 141, 142, 143, 144, 145, 146, 147, 148, 149, 150, 151, 152, 153, 154, 155] rfl (by decide +kernel)
set_option maxRecDepth 100000 in
theorem ggX12_readOr_X12_saysOne : GoodIn wsX12_readOr wsX12_saysOne := goodIn_r _ [44, 45, 46, 104, 105, 106, 107, 108, 109, 110, 111, 112, 113, 114, 115, 116, 117, 118, 119, 120, 121, 122, 123, 124, 125, 126, 127, 128, 129, 130, 131, 132, 133, 134, 135, 136, 137, 138, 139, 140, 141, 142, 143, 144, 145, 146, 147, 148, 149, 150, 151, 152, 153, 154, 155] rfl (by decide +kernel)
set_option maxRecDepth 100000 in
theorem ggX12_readBracket_X12_isSign : GoodIn wsX12_readBracket wsX12_isSign := goodIn_r _ [8, 9, 10, 104, 105, 106, 107, 108, 109, 110, 111, 112, 113, 114, 115, 116, 117, 118, 119, 120, 121, 122, 123, 124, 125, 126, 127, 128, 129, 130, 131, 132, 133, 134, 135, 136, 137, 138, 139, 140, 141, 142, 143, 144, 145, 146, 147, 148, 149, 150, 151, 152, 153, 154, 155] rfl (by decide +kernel)
set_option maxRecDepth 100000 in
theorem ggX12_readBracket_X12_go : GoodIn wsX12_readBracket wsX12_go := goodIn_r _ [21, 22, 23, 24, 16, 25, 9, 10, 26, 27, 28, 29, 30, 31, 4, 32, 33, 34, 35, 36, 37, 38, 39, 104, 105, 106, 107, 108, 109, 110, 111, 112, 113, 114, 115, 116, 117, 118, 119, 120, 121, 122, 123, 124, 125, 126, 127, 128, 129, 130, 131, 132, 133, 134, 135, 136, 137, 138, 139, 140, 141, 142, 143, 144, 145, 146, 147, 148, 149, 150, 151, 152, 153, 154, 155] rfl (by decide +kernel)
set_option maxRecDepth 100000 in
theorem ggX12_readBracket_X12_bad : GoodIn wsX12_readBracket wsX12_bad := goodIn_r _ [14, 9, 15, 16, 17, 104, 105, 106, 107, 108, 109, 110, 111, 112, 113, 114, 115, 116, 117, 118, 119, 120, 121, 122, 123, 124, 125, 126, 127, 128, 129, 130, 131, 132, 133, 134, 135, 136, 137, 138, 139, 140, 141, 142, 143, 144, 145, 146, 147, 148, 149, 150, 151, 152, 153, 154, 155] rfl (by decide +kernel)
set_option maxRecDepth 100000 in
theorem gX12_readSaid_X12_isSign : GoodIn wsX12_readSaid (wsV RX12 86 RX12 yX12_isSign wsX12_isSign) := goodIn_app (goodIn_of _ (by decide +kernel)) ggX12_readSaid_X12_isSign
set_option maxRecDepth 100000 in
theorem gX12_readSaid_X12_isWord : GoodIn wsX12_readSaid (wsV RX12 213 RX12 yX12_isWord wsX12_isWord) := goodIn_app (goodIn_of _ (by decide +kernel)) ggX12_readSaid_X12_isWord
set_option maxRecDepth 100000 in
theorem gX12_readSaid_X12_bad : GoodIn wsX12_readSaid (wsV RX12 72 RX12 yX12_bad wsX12_bad) := goodIn_app (goodIn_of _ (by decide +kernel)) ggX12_readSaid_X12_bad
set_option maxRecDepth 100000 in
theorem gX12_readNot_X12_readSaid : GoodIn wsX12_readNot (wsV RX12 439 RX12 yX12_readSaid wsX12_readSaid) := goodIn_app (goodIn_of _ (by decide +kernel)) ggX12_readNot_X12_readSaid
set_option maxRecDepth 100000 in
theorem gX12_readAnd_X12_readSaid : GoodIn wsX12_readAnd (wsV RX12 439 RX12 yX12_readSaid wsX12_readSaid) := goodIn_app (goodIn_of _ (by decide +kernel)) ggX12_readAnd_X12_readSaid
set_option maxRecDepth 100000 in
theorem gX12_readOr_X12_readAnd : GoodIn wsX12_readOr (wsV RX12 429 RX12 yX12_readAnd wsX12_readAnd) := goodIn_app (goodIn_of _ (by decide +kernel)) ggX12_readOr_X12_readAnd
set_option maxRecDepth 100000 in
theorem gX12_readBracket_X12_readOr : GoodIn wsX12_readBracket (wsV RX12 460 RX12 yX12_readOr wsX12_readOr) := goodIn_app (goodIn_of _ (by decide +kernel)) ggX12_readBracket_X12_readOr
set_option maxRecDepth 100000 in
theorem gX12_readSaid_X12_go : GoodIn wsX12_readSaid (wsV RX12 82 RX12 yX12_go wsX12_go) := goodIn_app (goodIn_of _ (by decide +kernel)) ggX12_readSaid_X12_go
set_option maxRecDepth 100000 in
theorem gX12_readSaid_X12_readBracket : GoodIn wsX12_readSaid (wsV RX12 448 RX12 yX12_readBracket wsX12_readBracket) := goodIn_app (goodIn_of _ (by decide +kernel)) ggX12_readSaid_X12_readBracket
set_option maxRecDepth 100000 in
theorem gX12_readSaid_X12_readNot : GoodIn wsX12_readSaid (wsV RX12 451 RX12 yX12_readNot wsX12_readNot) := goodIn_app (goodIn_of _ (by decide +kernel)) ggX12_readSaid_X12_readNot
set_option maxRecDepth 100000 in
theorem gX12_readSaid_X12_readCompare : GoodIn wsX12_readSaid (wsV RX12 457 RX12 yX12_readCompare wsX12_readCompare) := goodIn_app (goodIn_of _ (by decide +kernel)) ggX12_readSaid_X12_readCompare
set_option maxRecDepth 100000 in
theorem gX12_readSaid_X12_readOf : GoodIn wsX12_readSaid (wsV RX12 454 RX12 yX12_readOf wsX12_readOf) := goodIn_app (goodIn_of _ (by decide +kernel)) ggX12_readSaid_X12_readOf
set_option maxRecDepth 100000 in
theorem gX12_readSaid_X12_saysOne : GoodIn wsX12_readSaid (wsV RX12 435 RX12 yX12_saysOne wsX12_saysOne) := goodIn_app (goodIn_of _ (by decide +kernel)) ggX12_readSaid_X12_saysOne
set_option maxRecDepth 100000 in
theorem gX12_readNot_X12_saysOne : GoodIn wsX12_readNot (wsV RX12 435 RX12 yX12_saysOne wsX12_saysOne) := goodIn_app (goodIn_of _ (by decide +kernel)) ggX12_readNot_X12_saysOne
set_option maxRecDepth 100000 in
theorem gX12_readAnd_X12_isWord : GoodIn wsX12_readAnd (wsV RX12 213 RX12 yX12_isWord wsX12_isWord) := goodIn_app (goodIn_of _ (by decide +kernel)) ggX12_readAnd_X12_isWord
set_option maxRecDepth 100000 in
theorem gX12_readAnd_X12_go : GoodIn wsX12_readAnd (wsV RX12 82 RX12 yX12_go wsX12_go) := goodIn_app (goodIn_of _ (by decide +kernel)) ggX12_readAnd_X12_go
set_option maxRecDepth 100000 in
theorem gX12_readAnd_X12_saysOne : GoodIn wsX12_readAnd (wsV RX12 435 RX12 yX12_saysOne wsX12_saysOne) := goodIn_app (goodIn_of _ (by decide +kernel)) ggX12_readAnd_X12_saysOne
set_option maxRecDepth 100000 in
theorem gX12_readOr_X12_isWord : GoodIn wsX12_readOr (wsV RX12 213 RX12 yX12_isWord wsX12_isWord) := goodIn_app (goodIn_of _ (by decide +kernel)) ggX12_readOr_X12_isWord
set_option maxRecDepth 100000 in
theorem gX12_readOr_X12_go : GoodIn wsX12_readOr (wsV RX12 82 RX12 yX12_go wsX12_go) := goodIn_app (goodIn_of _ (by decide +kernel)) ggX12_readOr_X12_go
set_option maxRecDepth 100000 in
theorem gX12_readOr_X12_saysOne : GoodIn wsX12_readOr (wsV RX12 435 RX12 yX12_saysOne wsX12_saysOne) := goodIn_app (goodIn_of _ (by decide +kernel)) ggX12_readOr_X12_saysOne
set_option maxRecDepth 100000 in
theorem gX12_readBracket_X12_isSign : GoodIn wsX12_readBracket (wsV RX12 86 RX12 yX12_isSign wsX12_isSign) := goodIn_app (goodIn_of _ (by decide +kernel)) ggX12_readBracket_X12_isSign
set_option maxRecDepth 100000 in
theorem gX12_readBracket_X12_go : GoodIn wsX12_readBracket (wsV RX12 82 RX12 yX12_go wsX12_go) := goodIn_app (goodIn_of _ (by decide +kernel)) ggX12_readBracket_X12_go
set_option maxRecDepth 100000 in
theorem gX12_readBracket_X12_bad : GoodIn wsX12_readBracket (wsV RX12 72 RX12 yX12_bad wsX12_bad) := goodIn_app (goodIn_of _ (by decide +kernel)) ggX12_readBracket_X12_bad
