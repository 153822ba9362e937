theorem dX12_why_0 : decode cX12_why 0 = .ok (.iload_n 1, 1) := by decide +kernel
theorem dX12_why_1 : decode cX12_why 1 = .ok (.tableswitch 152 0 3 #[31, 44, 114, 134], 31) := by decide +kernel
theorem dX12_why_32 : decode cX12_why 32 = .ok (.aload_n 0, 1) := by decide +kernel
theorem dX12_why_33 : decode cX12_why 33 = .ok (.invokevirtual 240, 3) := by decide +kernel
theorem dX12_why_36 : decode cX12_why 36 = .ok (.ifCond .eq 7, 3) := by decide +kernel
theorem dX12_why_43 : decode cX12_why 43 = .ok (.iconst 0, 1) := by decide +kernel
theorem dX12_why_44 : decode cX12_why 44 = .ok (.ireturn, 1) := by decide +kernel
theorem dX12_why_39 : decode cX12_why 39 = .ok (.iconst 1, 1) := by decide +kernel
theorem dX12_why_40 : decode cX12_why 40 = .ok (.goto 4, 3) := by decide +kernel
theorem dX12_why_45 : decode cX12_why 45 = .ok (.aload_n 0, 1) := by decide +kernel
theorem dX12_why_46 : decode cX12_why 46 = .ok (.iload_n 2, 1) := by decide +kernel
theorem dX12_why_47 : decode cX12_why 47 = .ok (.invokevirtual 246, 3) := by decide +kernel
theorem dX12_why_50 : decode cX12_why 50 = .ok (.ifCond .eq 7, 3) := by decide +kernel
theorem dX12_why_53 : decode cX12_why 53 = .ok (.iconst 1, 1) := by decide +kernel
theorem dX12_why_54 : decode cX12_why 54 = .ok (.goto 60, 3) := by decide +kernel
theorem dX12_why_114 : decode cX12_why 114 = .ok (.ireturn, 1) := by decide +kernel
theorem dX12_why_57 : decode cX12_why 57 = .ok (.aload_n 0, 1) := by decide +kernel
theorem dX12_why_58 : decode cX12_why 58 = .ok (.aload_n 0, 1) := by decide +kernel
theorem dX12_why_59 : decode cX12_why 59 = .ok (.getfield 98, 3) := by decide +kernel
theorem dX12_why_62 : decode cX12_why 62 = .ok (.bipush 113, 2) := by decide +kernel
theorem dX12_why_64 : decode cX12_why 64 = .ok (.iload_n 2, 1) := by decide +kernel
theorem dX12_why_65 : decode cX12_why 65 = .ok (.iadd, 1) := by decide +kernel
theorem dX12_why_66 : decode cX12_why 66 = .ok (.iaload, 1) := by decide +kernel
theorem dX12_why_67 : decode cX12_why 67 = .ok (.iload_n 3, 1) := by decide +kernel
theorem dX12_why_68 : decode cX12_why 68 = .ok (.invokevirtual 272, 3) := by decide +kernel
theorem dX12_why_71 : decode cX12_why 71 = .ok (.iconst (-1), 1) := by decide +kernel
theorem dX12_why_72 : decode cX12_why 72 = .ok (.if_icmp .ne 7, 3) := by decide +kernel
theorem dX12_why_75 : decode cX12_why 75 = .ok (.iconst 2, 1) := by decide +kernel
theorem dX12_why_76 : decode cX12_why 76 = .ok (.goto 38, 3) := by decide +kernel
theorem dX12_why_79 : decode cX12_why 79 = .ok (.aload_n 0, 1) := by decide +kernel
theorem dX12_why_80 : decode cX12_why 80 = .ok (.aload_n 0, 1) := by decide +kernel
theorem dX12_why_81 : decode cX12_why 81 = .ok (.aload_n 0, 1) := by decide +kernel
theorem dX12_why_82 : decode cX12_why 82 = .ok (.getfield 98, 3) := by decide +kernel
theorem dX12_why_85 : decode cX12_why 85 = .ok (.bipush 113, 2) := by decide +kernel
theorem dX12_why_87 : decode cX12_why 87 = .ok (.iload_n 2, 1) := by decide +kernel
theorem dX12_why_88 : decode cX12_why 88 = .ok (.iadd, 1) := by decide +kernel
theorem dX12_why_89 : decode cX12_why 89 = .ok (.iaload, 1) := by decide +kernel
theorem dX12_why_90 : decode cX12_why 90 = .ok (.iload_n 3, 1) := by decide +kernel
theorem dX12_why_91 : decode cX12_why 91 = .ok (.invokevirtual 272, 3) := by decide +kernel
theorem dX12_why_94 : decode cX12_why 94 = .ok (.invokevirtual 276, 3) := by decide +kernel
theorem dX12_why_97 : decode cX12_why 97 = .ok (.aload_n 0, 1) := by decide +kernel
theorem dX12_why_98 : decode cX12_why 98 = .ok (.getfield 98, 3) := by decide +kernel
theorem dX12_why_101 : decode cX12_why 101 = .ok (.bipush 119, 2) := by decide +kernel
theorem dX12_why_103 : decode cX12_why 103 = .ok (.iload_n 2, 1) := by decide +kernel
theorem dX12_why_104 : decode cX12_why 104 = .ok (.iadd, 1) := by decide +kernel
theorem dX12_why_105 : decode cX12_why 105 = .ok (.iaload, 1) := by decide +kernel
theorem dX12_why_106 : decode cX12_why 106 = .ok (.if_icmp .le 7, 3) := by decide +kernel
theorem dX12_why_113 : decode cX12_why 113 = .ok (.iconst 0, 1) := by decide +kernel
theorem dX12_why_109 : decode cX12_why 109 = .ok (.iconst 3, 1) := by decide +kernel
theorem dX12_why_110 : decode cX12_why 110 = .ok (.goto 4, 3) := by decide +kernel
theorem dX12_why_115 : decode cX12_why 115 = .ok (.aload_n 0, 1) := by decide +kernel
theorem dX12_why_116 : decode cX12_why 116 = .ok (.getfield 98, 3) := by decide +kernel
theorem dX12_why_119 : decode cX12_why 119 = .ok (.bipush 71, 2) := by decide +kernel
theorem dX12_why_121 : decode cX12_why 121 = .ok (.iload_n 2, 1) := by decide +kernel
theorem dX12_why_122 : decode cX12_why 122 = .ok (.iadd, 1) := by decide +kernel
theorem dX12_why_123 : decode cX12_why 123 = .ok (.iaload, 1) := by decide +kernel
theorem dX12_why_124 : decode cX12_why 124 = .ok (.bipush 9, 2) := by decide +kernel
theorem dX12_why_126 : decode cX12_why 126 = .ok (.if_icmp .ne 7, 3) := by decide +kernel
theorem dX12_why_133 : decode cX12_why 133 = .ok (.iconst 0, 1) := by decide +kernel
theorem dX12_why_134 : decode cX12_why 134 = .ok (.ireturn, 1) := by decide +kernel
theorem dX12_why_129 : decode cX12_why 129 = .ok (.iconst 1, 1) := by decide +kernel
theorem dX12_why_130 : decode cX12_why 130 = .ok (.goto 4, 3) := by decide +kernel
theorem dX12_why_135 : decode cX12_why 135 = .ok (.aload_n 0, 1) := by decide +kernel
theorem dX12_why_136 : decode cX12_why 136 = .ok (.getfield 98, 3) := by decide +kernel
theorem dX12_why_139 : decode cX12_why 139 = .ok (.bipush 71, 2) := by decide +kernel
theorem dX12_why_141 : decode cX12_why 141 = .ok (.iload_n 2, 1) := by decide +kernel
theorem dX12_why_142 : decode cX12_why 142 = .ok (.iadd, 1) := by decide +kernel
theorem dX12_why_143 : decode cX12_why 143 = .ok (.iaload, 1) := by decide +kernel
theorem dX12_why_144 : decode cX12_why 144 = .ok (.ifCond .ne 7, 3) := by decide +kernel
theorem dX12_why_151 : decode cX12_why 151 = .ok (.iconst 0, 1) := by decide +kernel
theorem dX12_why_152 : decode cX12_why 152 = .ok (.ireturn, 1) := by decide +kernel
theorem dX12_why_147 : decode cX12_why 147 = .ok (.iconst 1, 1) := by decide +kernel
theorem dX12_why_148 : decode cX12_why 148 = .ok (.goto 4, 3) := by decide +kernel
theorem dX12_why_153 : decode cX12_why 153 = .ok (.aload_n 0, 1) := by decide +kernel
theorem dX12_why_154 : decode cX12_why 154 = .ok (.getfield 98, 3) := by decide +kernel
theorem dX12_why_157 : decode cX12_why 157 = .ok (.bipush 68, 2) := by decide +kernel
theorem dX12_why_159 : decode cX12_why 159 = .ok (.iaload, 1) := by decide +kernel
theorem dX12_why_160 : decode cX12_why 160 = .ok (.bipush 30, 2) := by decide +kernel
theorem dX12_why_162 : decode cX12_why 162 = .ok (.if_icmp .ne 7, 3) := by decide +kernel
theorem dX12_why_169 : decode cX12_why 169 = .ok (.iconst 0, 1) := by decide +kernel
theorem dX12_why_170 : decode cX12_why 170 = .ok (.ireturn, 1) := by decide +kernel
theorem dX12_why_165 : decode cX12_why 165 = .ok (.iconst 1, 1) := by decide +kernel
theorem dX12_why_166 : decode cX12_why 166 = .ok (.goto 4, 3) := by decide +kernel
theorem dX12_live_0 : decode cX12_live 0 = .ok (.iload_n 1, 1) := by decide +kernel
theorem dX12_live_1 : decode cX12_live 1 = .ok (.tableswitch 149 0 3 #[31, 37, 97, 123], 31) := by decide +kernel
theorem dX12_live_32 : decode cX12_live 32 = .ok (.aload_n 0, 1) := by decide +kernel
theorem dX12_live_33 : decode cX12_live 33 = .ok (.iload_n 2, 1) := by decide +kernel
theorem dX12_live_34 : decode cX12_live 34 = .ok (.invokevirtual 285, 3) := by decide +kernel
theorem dX12_live_37 : decode cX12_live 37 = .ok (.return_, 1) := by decide +kernel
theorem dX12_live_38 : decode cX12_live 38 = .ok (.aload_n 0, 1) := by decide +kernel
theorem dX12_live_39 : decode cX12_live 39 = .ok (.getfield 98, 3) := by decide +kernel
theorem dX12_live_42 : decode cX12_live 42 = .ok (.bipush 113, 2) := by decide +kernel
theorem dX12_live_44 : decode cX12_live 44 = .ok (.iload_n 2, 1) := by decide +kernel
theorem dX12_live_45 : decode cX12_live 45 = .ok (.iadd, 1) := by decide +kernel
theorem dX12_live_46 : decode cX12_live 46 = .ok (.aload_n 0, 1) := by decide +kernel
theorem dX12_live_47 : decode cX12_live 47 = .ok (.aload_n 0, 1) := by decide +kernel
theorem dX12_live_48 : decode cX12_live 48 = .ok (.getfield 98, 3) := by decide +kernel
theorem dX12_live_51 : decode cX12_live 51 = .ok (.bipush 113, 2) := by decide +kernel
theorem dX12_live_53 : decode cX12_live 53 = .ok (.iload_n 2, 1) := by decide +kernel
theorem dX12_live_54 : decode cX12_live 54 = .ok (.iadd, 1) := by decide +kernel
theorem dX12_live_55 : decode cX12_live 55 = .ok (.iaload, 1) := by decide +kernel
theorem dX12_live_56 : decode cX12_live 56 = .ok (.iload_n 3, 1) := by decide +kernel
theorem dX12_live_57 : decode cX12_live 57 = .ok (.invokevirtual 272, 3) := by decide +kernel
theorem dX12_live_60 : decode cX12_live 60 = .ok (.iastore, 1) := by decide +kernel
theorem dX12_live_61 : decode cX12_live 61 = .ok (.aload_n 0, 1) := by decide +kernel
theorem dX12_live_62 : decode cX12_live 62 = .ok (.getfield 98, 3) := by decide +kernel
theorem dX12_live_65 : decode cX12_live 65 = .ok (.bipush 119, 2) := by decide +kernel
theorem dX12_live_67 : decode cX12_live 67 = .ok (.iload_n 2, 1) := by decide +kernel
theorem dX12_live_68 : decode cX12_live 68 = .ok (.iadd, 1) := by decide +kernel
theorem dX12_live_69 : decode cX12_live 69 = .ok (.dup2, 1) := by decide +kernel
theorem dX12_live_70 : decode cX12_live 70 = .ok (.iaload, 1) := by decide +kernel
theorem dX12_live_71 : decode cX12_live 71 = .ok (.aload_n 0, 1) := by decide +kernel
theorem dX12_live_72 : decode cX12_live 72 = .ok (.aload_n 0, 1) := by decide +kernel
theorem dX12_live_73 : decode cX12_live 73 = .ok (.getfield 98, 3) := by decide +kernel
theorem dX12_live_76 : decode cX12_live 76 = .ok (.bipush 113, 2) := by decide +kernel
theorem dX12_live_78 : decode cX12_live 78 = .ok (.iload_n 2, 1) := by decide +kernel
theorem dX12_live_79 : decode cX12_live 79 = .ok (.iadd, 1) := by decide +kernel
theorem dX12_live_80 : decode cX12_live 80 = .ok (.iaload, 1) := by decide +kernel
theorem dX12_live_81 : decode cX12_live 81 = .ok (.invokevirtual 276, 3) := by decide +kernel
theorem dX12_live_84 : decode cX12_live 84 = .ok (.isub, 1) := by decide +kernel
theorem dX12_live_85 : decode cX12_live 85 = .ok (.iastore, 1) := by decide +kernel
theorem dX12_live_86 : decode cX12_live 86 = .ok (.aload_n 0, 1) := by decide +kernel
theorem dX12_live_87 : decode cX12_live 87 = .ok (.getfield 98, 3) := by decide +kernel
theorem dX12_live_90 : decode cX12_live 90 = .ok (.bipush 70, 2) := by decide +kernel
theorem dX12_live_92 : decode cX12_live 92 = .ok (.dup2, 1) := by decide +kernel
theorem dX12_live_93 : decode cX12_live 93 = .ok (.iaload, 1) := by decide +kernel
theorem dX12_live_94 : decode cX12_live 94 = .ok (.iconst 1, 1) := by decide +kernel
theorem dX12_live_95 : decode cX12_live 95 = .ok (.iadd, 1) := by decide +kernel
theorem dX12_live_96 : decode cX12_live 96 = .ok (.iastore, 1) := by decide +kernel
theorem dX12_live_97 : decode cX12_live 97 = .ok (.return_, 1) := by decide +kernel
theorem dX12_live_98 : decode cX12_live 98 = .ok (.aload_n 0, 1) := by decide +kernel
theorem dX12_live_99 : decode cX12_live 99 = .ok (.getfield 98, 3) := by decide +kernel
theorem dX12_live_102 : decode cX12_live 102 = .ok (.bipush 71, 2) := by decide +kernel
theorem dX12_live_104 : decode cX12_live 104 = .ok (.iload_n 2, 1) := by decide +kernel
theorem dX12_live_105 : decode cX12_live 105 = .ok (.iadd, 1) := by decide +kernel
theorem dX12_live_106 : decode cX12_live 106 = .ok (.bipush 9, 2) := by decide +kernel
theorem dX12_live_108 : decode cX12_live 108 = .ok (.aload_n 0, 1) := by decide +kernel
theorem dX12_live_109 : decode cX12_live 109 = .ok (.getfield 98, 3) := by decide +kernel
theorem dX12_live_112 : decode cX12_live 112 = .ok (.bipush 71, 2) := by decide +kernel
theorem dX12_live_114 : decode cX12_live 114 = .ok (.iload_n 2, 1) := by decide +kernel
theorem dX12_live_115 : decode cX12_live 115 = .ok (.iadd, 1) := by decide +kernel
theorem dX12_live_116 : decode cX12_live 116 = .ok (.iaload, 1) := by decide +kernel
theorem dX12_live_117 : decode cX12_live 117 = .ok (.iload_n 3, 1) := by decide +kernel
theorem dX12_live_118 : decode cX12_live 118 = .ok (.iadd, 1) := by decide +kernel
theorem dX12_live_119 : decode cX12_live 119 = .ok (.invokestatic 288, 3) := by decide +kernel
theorem dX12_live_122 : decode cX12_live 122 = .ok (.iastore, 1) := by decide +kernel
theorem dX12_live_123 : decode cX12_live 123 = .ok (.return_, 1) := by decide +kernel
theorem dX12_live_124 : decode cX12_live 124 = .ok (.aload_n 0, 1) := by decide +kernel
theorem dX12_live_125 : decode cX12_live 125 = .ok (.getfield 98, 3) := by decide +kernel
theorem dX12_live_128 : decode cX12_live 128 = .ok (.bipush 71, 2) := by decide +kernel
theorem dX12_live_130 : decode cX12_live 130 = .ok (.iload_n 2, 1) := by decide +kernel
theorem dX12_live_131 : decode cX12_live 131 = .ok (.iadd, 1) := by decide +kernel
theorem dX12_live_132 : decode cX12_live 132 = .ok (.dup2, 1) := by decide +kernel
theorem dX12_live_133 : decode cX12_live 133 = .ok (.iaload, 1) := by decide +kernel
theorem dX12_live_134 : decode cX12_live 134 = .ok (.iload_n 3, 1) := by decide +kernel
theorem dX12_live_135 : decode cX12_live 135 = .ok (.aload_n 0, 1) := by decide +kernel
theorem dX12_live_136 : decode cX12_live 136 = .ok (.getfield 98, 3) := by decide +kernel
theorem dX12_live_139 : decode cX12_live 139 = .ok (.bipush 71, 2) := by decide +kernel
theorem dX12_live_141 : decode cX12_live 141 = .ok (.iload_n 2, 1) := by decide +kernel
theorem dX12_live_142 : decode cX12_live 142 = .ok (.iadd, 1) := by decide +kernel
theorem dX12_live_143 : decode cX12_live 143 = .ok (.iaload, 1) := by decide +kernel
theorem dX12_live_144 : decode cX12_live 144 = .ok (.invokestatic 288, 3) := by decide +kernel
theorem dX12_live_147 : decode cX12_live 147 = .ok (.isub, 1) := by decide +kernel
theorem dX12_live_148 : decode cX12_live 148 = .ok (.iastore, 1) := by decide +kernel
theorem dX12_live_149 : decode cX12_live 149 = .ok (.return_, 1) := by decide +kernel
theorem dX12_live_150 : decode cX12_live 150 = .ok (.aload_n 0, 1) := by decide +kernel
theorem dX12_live_151 : decode cX12_live 151 = .ok (.getfield 98, 3) := by decide +kernel
theorem dX12_live_154 : decode cX12_live 154 = .ok (.bipush 68, 2) := by decide +kernel
theorem dX12_live_156 : decode cX12_live 156 = .ok (.bipush 30, 2) := by decide +kernel
theorem dX12_live_158 : decode cX12_live 158 = .ok (.aload_n 0, 1) := by decide +kernel
theorem dX12_live_159 : decode cX12_live 159 = .ok (.getfield 98, 3) := by decide +kernel
theorem dX12_live_162 : decode cX12_live 162 = .ok (.bipush 68, 2) := by decide +kernel
theorem dX12_live_164 : decode cX12_live 164 = .ok (.iaload, 1) := by decide +kernel
theorem dX12_live_165 : decode cX12_live 165 = .ok (.iload_n 2, 1) := by decide +kernel
theorem dX12_live_166 : decode cX12_live 166 = .ok (.iadd, 1) := by decide +kernel
theorem dX12_live_167 : decode cX12_live 167 = .ok (.invokestatic 288, 3) := by decide +kernel
theorem dX12_live_170 : decode cX12_live 170 = .ok (.iastore, 1) := by decide +kernel
theorem dX12_live_171 : decode cX12_live 171 = .ok (.return_, 1) := by decide +kernel
theorem dX12_act_0 : decode cX12_act 0 = .ok (.iload 4, 2) := by decide +kernel
theorem dX12_act_2 : decode cX12_act 2 = .ok (.ifCond .ne 5, 3) := by decide +kernel
theorem dX12_act_5 : decode cX12_act 5 = .ok (.iconst (-1), 1) := by decide +kernel
theorem dX12_act_6 : decode cX12_act 6 = .ok (.ireturn, 1) := by decide +kernel
theorem dX12_act_7 : decode cX12_act 7 = .ok (.aload_n 0, 1) := by decide +kernel
theorem dX12_act_8 : decode cX12_act 8 = .ok (.iload_n 1, 1) := by decide +kernel
theorem dX12_act_9 : decode cX12_act 9 = .ok (.iload_n 2, 1) := by decide +kernel
theorem dX12_act_10 : decode cX12_act 10 = .ok (.iload_n 3, 1) := by decide +kernel
theorem dX12_act_11 : decode cX12_act 11 = .ok (.invokevirtual 291, 3) := by decide +kernel
theorem dX12_act_14 : decode cX12_act 14 = .ok (.istore 5, 2) := by decide +kernel
theorem dX12_act_16 : decode cX12_act 16 = .ok (.iload 5, 2) := by decide +kernel
theorem dX12_act_18 : decode cX12_act 18 = .ok (.ifCond .eq 6, 3) := by decide +kernel
theorem dX12_act_24 : decode cX12_act 24 = .ok (.aload_n 0, 1) := by decide +kernel
theorem dX12_act_25 : decode cX12_act 25 = .ok (.invokevirtual 295, 3) := by decide +kernel
theorem dX12_act_28 : decode cX12_act 28 = .ok (.aload_n 0, 1) := by decide +kernel
theorem dX12_act_29 : decode cX12_act 29 = .ok (.iload_n 1, 1) := by decide +kernel
theorem dX12_act_30 : decode cX12_act 30 = .ok (.iload_n 2, 1) := by decide +kernel
theorem dX12_act_31 : decode cX12_act 31 = .ok (.iload_n 3, 1) := by decide +kernel
theorem dX12_act_32 : decode cX12_act 32 = .ok (.invokevirtual 298, 3) := by decide +kernel
theorem dX12_act_35 : decode cX12_act 35 = .ok (.iconst 0, 1) := by decide +kernel
theorem dX12_act_36 : decode cX12_act 36 = .ok (.ireturn, 1) := by decide +kernel
theorem dX12_act_21 : decode cX12_act 21 = .ok (.iload 5, 2) := by decide +kernel
theorem dX12_act_23 : decode cX12_act 23 = .ok (.ireturn, 1) := by decide +kernel
set_option maxRecDepth 100000 in
theorem ggX12_why_X12_hasSkin : GoodIn wsX12_why wsX12_hasSkin := goodIn_r _ [6, 1, 26, 27, 28, 29, 30, 31, 32, 33, 34, 35, 36, 37, 38, 39, 40, 41, 42, 43, 44, 45, 46, 47, 48, 49, 50, 51, 52, 53, 54, 55, 56, 57, 58, 59, 60, 61, 62, 63, 64, 65, 66, 67, 68, 69, 70, 71, 72, 73, 74, 75, 76, 77] rfl (by decide +kernel)
set_option maxRecDepth 100000 in
theorem ggX12_why_X12_isEaten : GoodIn wsX12_why wsX12_isEaten := goodIn_r _ [10, 1, 26, 27, 28, 29, 30, 31, 32, 33, 34, 35, 36, 37, 38, 39, 40, 41, 42, 43, 44, 45, 46, 47, 48, 49, 50, 51, 52, 53, 54, 55, 56, 57, 58, 59, 60, 61, 62, 63, 64, 65, 66, 67, 68, 69, 70, 71, 72, 73, 74, 75, 76, 77] rfl (by decide +kernel)
set_option maxRecDepth 100000 in
theorem ggX12_why_X12_beside : GoodIn wsX12_why wsX12_beside := goodIn_r _ [14, 15, 16, 17, 5, 18, 1, 19, 20, 21, 26, 27, 28, 29, 30, 31, 32, 33, 34, 35, 36, 37, 38, 39, 40, 41, 42, 43, 44, 45, 46, 47, 48, 49, 50, 51, 52, 53, 54, 55, 56, 57, 58, 59, 60, 61, 62, 63, 64, 65, 66, 67, 68, 69, 70, 71, 72, 73, 74, 75, 76, 77] rfl (by decide +kernel)
set_option maxRecDepth 100000 in
theorem ggX12_why_X12_costOf : GoodIn wsX12_why wsX12_costOf := goodIn_r _ [25, 1, 2, 3, 4, 5, 6, 26, 27, 28, 29, 30, 31, 32, 33, 34, 35, 36, 37, 38, 39, 40, 41, 42, 43, 44, 45, 46, 47, 48, 49, 50, 51, 52, 53, 54, 55, 56, 57, 58, 59, 60, 61, 62, 63, 64, 65, 66, 67, 68, 69, 70, 71, 72, 73, 74, 75, 76, 77] rfl (by decide +kernel)
set_option maxRecDepth 100000 in
theorem ggX12_live_X12_doStir : GoodIn wsX12_live wsX12_doStir := goodIn_r _ [6, 7, 1, 8, 9, 10, 5, 11, 12, 13, 14, 15, 16, 17, 18, 19, 42, 43, 44, 45, 46, 47, 48, 49, 50, 51, 52, 53, 54, 55, 56, 57, 58, 59, 60, 61, 62, 63, 64, 65, 66, 67, 68, 69, 70, 71, 72, 73, 74, 75, 76, 77, 78, 79, 80, 81, 82, 83, 84, 85, 86, 87, 88, 89, 90, 91, 92, 93] rfl (by decide +kernel)
set_option maxRecDepth 100000 in
theorem ggX12_live_X12_beside : GoodIn wsX12_live wsX12_beside := goodIn_r _ [23, 24, 25, 26, 5, 27, 1, 28, 29, 30, 42, 43, 44, 45, 46, 47, 48, 49, 50, 51, 52, 53, 54, 55, 56, 57, 58, 59, 60, 61, 62, 63, 64, 65, 66, 67, 68, 69, 70, 71, 72, 73, 74, 75, 76, 77, 78, 79, 80, 81, 82, 83, 84, 85, 86, 87, 88, 89, 90, 91, 92, 93] rfl (by decide +kernel)
set_option maxRecDepth 100000 in
theorem ggX12_live_X12_costOf : GoodIn wsX12_live wsX12_costOf := goodIn_r _ [34, 1, 35, 36, 37, 5, 38, 42, 43, 44, 45, 46, 47, 48, 49, 50, 51, 52, 53, 54, 55, 56, 57, 58, 59, 60, 61, 62, 63, 64, 65, 66, 67, 68, 69, 70, 71, 72, 73, 74, 75, 76, 77, 78, 79, 80, 81, 82, 83, 84, 85, 86, 87, 88, 89, 90, 91, 92, 93] rfl (by decide +kernel)
set_option maxRecDepth 100000 in
theorem ggX12_live_X12_least : GoodIn wsX12_live wsX12_least := goodIn_r _ [41] rfl (by decide +kernel)
set_option maxRecDepth 100000 in
theorem ggX12_act_X12_why : GoodIn wsX12_act wsX12_why := goodIn_r _ [5, 6, 7, 8, 9, 4, 10, 11, 12, 13, 14, 15, 16, 17, 18, 19, 20, 21, 22, 23, 24, 25, 26, 27, 28, 29, 56, 57, 58, 59, 60, 61, 62, 63, 64, 65, 66, 67, 68, 69, 70, 71, 72, 73, 74, 75, 76, 77, 78, 79, 80, 81, 82, 83, 84, 85, 86, 87, 88, 89, 90, 91, 92, 93, 94, 95, 96, 97, 98, 99, 100, 101, 102, 103, 104, 105, 106, 107] rfl (by decide +kernel)
set_option maxRecDepth 100000 in
theorem ggX12_act_X12_snap : GoodIn wsX12_act wsX12_snap := goodIn_r _ [33, 34, 35, 6, 56, 57, 58, 59, 60, 61, 62, 63, 64, 65, 66, 67, 68, 69, 70, 71, 72, 73, 74, 75, 76, 77, 78, 79, 80, 81, 82, 83, 84, 85, 86, 87, 88, 89, 90, 91, 92, 93, 94, 95, 96, 97, 98, 99, 100, 101, 102, 103, 104, 105, 106, 107] rfl (by decide +kernel)
set_option maxRecDepth 100000 in
theorem ggX12_act_X12_live : GoodIn wsX12_act wsX12_live := goodIn_r _ [39, 6, 40, 41, 42, 4, 43, 44, 45, 46, 47, 48, 49, 50, 51, 52, 11, 12, 13, 14, 15, 16, 17, 18, 19, 20, 21, 22, 23, 24, 25, 26, 27, 28, 29, 7, 8, 9, 10, 53, 54, 55, 56, 57, 58, 59, 60, 61, 62, 63, 64, 65, 66, 67, 68, 69, 70, 71, 72, 73, 74, 75, 76, 77, 78, 79, 80, 81, 82, 83, 84, 85, 86, 87, 88, 89, 90, 91, 92, 93, 94, 95, 96, 97, 98, 99, 100, 101, 102, 103, 104, 105, 106, 107] rfl (by decide +kernel)
set_option maxRecDepth 100000 in
theorem gX12_why_X12_hasSkin : GoodIn wsX12_why (wsV RX12 240 RX12 yX12_hasSkin wsX12_hasSkin) := goodIn_app (goodIn_of _ (by decide +kernel)) ggX12_why_X12_hasSkin
set_option maxRecDepth 100000 in
theorem gX12_why_X12_isEaten : GoodIn wsX12_why (wsV RX12 246 RX12 yX12_isEaten wsX12_isEaten) := goodIn_app (goodIn_of _ (by decide +kernel)) ggX12_why_X12_isEaten
set_option maxRecDepth 100000 in
theorem gX12_why_X12_beside : GoodIn wsX12_why (wsV RX12 272 RX12 yX12_beside wsX12_beside) := goodIn_app (goodIn_of _ (by decide +kernel)) ggX12_why_X12_beside
set_option maxRecDepth 100000 in
theorem gX12_why_X12_costOf : GoodIn wsX12_why (wsV RX12 276 RX12 yX12_costOf wsX12_costOf) := goodIn_app (goodIn_of _ (by decide +kernel)) ggX12_why_X12_costOf
set_option maxRecDepth 100000 in
theorem gX12_live_X12_doStir : GoodIn wsX12_live (wsV RX12 285 RX12 yX12_doStir wsX12_doStir) := goodIn_app (goodIn_of _ (by decide +kernel)) ggX12_live_X12_doStir
set_option maxRecDepth 100000 in
theorem gX12_live_X12_beside : GoodIn wsX12_live (wsV RX12 272 RX12 yX12_beside wsX12_beside) := goodIn_app (goodIn_of _ (by decide +kernel)) ggX12_live_X12_beside
set_option maxRecDepth 100000 in
theorem gX12_live_X12_costOf : GoodIn wsX12_live (wsV RX12 276 RX12 yX12_costOf wsX12_costOf) := goodIn_app (goodIn_of _ (by decide +kernel)) ggX12_live_X12_costOf
set_option maxRecDepth 100000 in
theorem gX12_live_X12_least : GoodIn wsX12_live (va_wsS RX12 288 yX12_least wsX12_least) := goodIn_app (goodIn_of _ (by decide +kernel)) ggX12_live_X12_least
set_option maxRecDepth 100000 in
theorem gX12_act_X12_why : GoodIn wsX12_act (wsV RX12 291 RX12 yX12_why wsX12_why) := goodIn_app (goodIn_of _ (by decide +kernel)) ggX12_act_X12_why
set_option maxRecDepth 100000 in
theorem gX12_act_X12_snap : GoodIn wsX12_act (wsV RX12 295 RX12 yX12_snap wsX12_snap) := goodIn_app (goodIn_of _ (by decide +kernel)) ggX12_act_X12_snap
set_option maxRecDepth 100000 in
theorem gX12_act_X12_live : GoodIn wsX12_act (wsV RX12 298 RX12 yX12_live wsX12_live) := goodIn_app (goodIn_of _ (by decide +kernel)) ggX12_act_X12_live
set_option maxHeartbeats 4000000 in
set_option maxRecDepth 100000 in
theorem c_x_why0 (l : Launch) (dC : Nat → ClassId) (dI : Nat → Nat → Nat) (ky : Nat → ClassId) (o : Nat) (kthrown : Int32) (ktape : Nat) (ktaped : Nat) (ksize : Nat) (klimit : Nat) (kto : Nat) (kfrom : Nat) (kkind : Int32) (knumber : Int32) (ksign : Int32) (kfault : Int32) (kplace : Int32) (kword : Int64) (ktold : Int32) (know : Nat) (kread : Nat) (kkept : Nat) (ksnaps : Nat) (kaside : Nat) (kname : Nat) (kreadName : Nat) (kkeptName : Nat) (kisKept : Nat) (konces : Nat) (ksnapMany : Nat) (khasCells : Int32) (kpoured : Nat) (kfar : Nat) (ksides : Nat) (ksideMany : Nat) (kwayDays : Int32) (khasWay : Int32) (klines : Nat) (kmet : Nat) (kmetMany : Nat) (ksunk : Nat) (ktrying : Nat) (ksunkMany : Nat) (ksending : Int32) (kfleets : Int32) (ktext : Nat) (ktexts : Nat) (kseed : Int32) (kline : Nat) (kwritten : Nat) (klineMany : Nat) (khasWritten : Int32) (knode : Nat) (knodes : Nat) (konesMany : Nat) (kwithin : Nat) (ktop : Nat) (knowF : Nat → Int32) (x : Int32) (y : Int32) (iv_ko_0 : ktaped ≤ 940) (iv_ko_1 : ksize ≤ 940) (iv_ko_2 : klimit ≤ 900) (iv_ko_3 : kto ≤ ksize) (iv_ko_4 : kfrom ≤ 940) (iv_ko_5 : ksnapMany ≤ 8) (iv_ko_6 : ksideMany ≤ 36) (iv_ko_7 : kmetMany ≤ 3) (iv_ko_8 : ksunkMany ≤ 36) (iv_ko_9 : ktexts ≤ 64) (iv_ko_10 : klineMany ≤ 40) (iv_ko_11 : knodes ≤ 60) (iv_ko_12 : konesMany ≤ 20) (iv_ko_13 : kwithin ≤ 8) (iv_ko_14 : ktop ≤ 59) (ab_now : NB knowF) : Met l yX12_why wsX12_why ({ frames := 1, cells := 0, slots := 0, locals := 20 }) (PcP dC dI ky [.ref o, .int (nI 0), .int x, .int y] [(o, .inr (12, [.int kthrown, .ref ktape, .int (nI ktaped), .int (nI ksize), .int (nI klimit), .int (nI kto), .int (nI kfrom), .int kkind, .int knumber, .int ksign, .int kfault, .int kplace, .long kword, .int ktold, .ref know, .ref kread, .ref kkept, .ref ksnaps, .ref kaside, .ref kname, .ref kreadName, .ref kkeptName, .ref kisKept, .ref konces, .int (nI ksnapMany), .int khasCells, .ref kpoured, .ref kfar, .ref ksides, .int (nI ksideMany), .int kwayDays, .int khasWay, .ref klines, .ref kmet, .int (nI kmetMany), .ref ksunk, .ref ktrying, .int (nI ksunkMany), .int ksending, .int kfleets, .ref ktext, .int (nI ktexts), .int kseed, .ref kline, .ref kwritten, .int (nI klineMany), .int khasWritten, .ref knode, .int (nI knodes), .int (nI konesMany), .int (nI kwithin), .int (nI ktop)])), (know, .inl (ky 0, 373, .inl knowF))]) (vp_Si (fun r : Int32 => True)) 0 0 (fun _ => False) := by
  refine Met.ofW (cc := cX12_why) (maxL := 4) (ret := (some .int)) (by decide) rfl ?_
  intro p e s m args below meth c s₁ B hml hv
  obtain ⟨rfl, hP, hK⟩ := hv
  have hx := B.exec
  have hb := B.bytes
  have hr := B.returns
  have hts := atoms_spec (ws := wsX12_why) B.pre
  have hown : s.vm.findClass RX12 = some m.cls := findClass_of_methodNamed B.named
  have hlocks := B.notSynchronized
  have hl := lv_entry ([.ref o, .int (nI 0), .int x, .int y]) (n := 4) (Nat.le_of_ble_eq_true rfl)
  rw [lg_entry_eq]
  generalize (lg_sl ([.ref o, .int (nI 0), .int x, .int y]) ++ List.replicate (4 - (lg_sl ([.ref o, .int (nI 0), .int x, .int y])).length) Slot.unset).toArray = ls at hl ⊢
  have hl : lv_has ls 4 [(0, .ref o), (1, .int (nI 0)), (2, .int x), (3, .int y)] := hl
  refine q_name (fun Q hQ => ?_)
  generalize ([.ref o, .int (nI 0), .int x, .int y] : List Value).toArray = args at hts hQ ⊢
  refine lv_iload_n hx hb dX12_why_0 rfl (lv_at hl 1 rfl) ?_
  refine lv_tableIn (off := 31) (tgt := 32) hx hb dX12_why_1 (by decide) (by decide) rfl (by decide) ?_
  refine lv_aload_n hx hb dX12_why_32 rfl (lv_at hl 0 rfl) ?_
  refine vp_callSi (W.runV (As := []) (rest := []) ⟨hx, hb, hml, hown, hts⟩ (c_x_hasSkin l dC dI ky o kthrown ktape ktaped ksize klimit kto kfrom kkind knumber ksign kfault kplace kword ktold know kread kkept ksnaps kaside kname kreadName kkeptName kisKept konces ksnapMany khasCells kpoured kfar ksides ksideMany kwayDays khasWay klines kmet kmetMany ksunk ktrying ksunkMany ksending kfleets ktext ktexts kseed kline kwritten klineMany khasWritten knode knodes konesMany kwithin ktop knowF iv_ko_0 iv_ko_1 iv_ko_2 iv_ko_3 iv_ko_4 iv_ko_5 iv_ko_6 iv_ko_7 iv_ko_8 iv_ko_9 iv_ko_10 iv_ko_11 iv_ko_12 iv_ko_13 iv_ko_14 ab_now) (cwV 0 hts gX12_why_X12_hasSkin rfl rfl rfl (by decide +kernel) ⟨(Nat.le_of_ble_eq_true rfl), (Nat.le_of_ble_eq_true rfl)⟩) (pre_PV hK hP [0, 1] rfl (ci := 12) (q0 := 0) rfl rfl) rfl rfl hl.1 rfl (lv_room (Nat.le_of_ble_eq_true rfl)) dX12_why_33 ⟨(Nat.le_of_ble_eq_true rfl), (Nat.le_of_ble_eq_true rfl)⟩) (fun r1 p2 => ?_)
  refine lv_if_eq (tgt := 43) hx hb dX12_why_36 (by decide) (fun c3 => ?_) (fun c3 => ?_)
  · refine lv_iconst (v := nI 0) hx hb dX12_why_43 (by decide) ?_
    rw [hQ]
    exact W.iret (v := nI 0) hx hb hr (fun t9 ht9 hW9 => ⟨nI 0, rfl, trivial, ht9⟩) (fun _ h => absurd h List.not_mem_nil) dX12_why_44
  · refine lv_iconst (v := nI 1) hx hb dX12_why_39 (by decide) ?_
    refine lv_goto (tgt := 44) hx hb dX12_why_40 (by decide) ?_
    rw [hQ]
    exact W.iret (v := nI 1) hx hb hr (fun t9 ht9 hW9 => ⟨nI 1, rfl, trivial, ht9⟩) (fun _ h => absurd h List.not_mem_nil) dX12_why_44
set_option maxRecDepth 20000 in
theorem lf_x_why1_1 (knowF : Nat → Int32) (bq : Nat) (y : Int32) (ab_now : NB knowF) (hb6 : bq < 6) (hsd : 0 ≤ y.toInt ∧ y.toInt ≤ 3) (t3 : knowF (125 + bq) = nI 3) : ¬ (nI 1) = nI 0 ∨ BSok (knowF (113 + bq)).toInt y.toInt (knowF 0).toInt (knowF 1).toInt := by
  first
    | exact Or.inl (by decide)
    | (refine Or.inr ?_; subst_vars; assumption)
set_option maxRecDepth 20000 in
theorem lf_x_why1_2 (knowF : Nat → Int32) (bq : Nat) (y7 : Int32) (ab_now : NB knowF) (hb6 : bq < 6) (t4 : ¬ knowF (125 + bq) = nI 3) (e8 : y7 = knowF (113 + bq)) : (113 + bq) < 373 := by
  have b_y7 := ia_b y7
  try have k_0 := ia_n 3 (by first | decide | omega)
  try simp only [ia_lt, ia_le, ia_eq, ia_m1, ia_0, ia_1, ne_eq, true_and, and_true, false_and, and_false, or_false, false_or, or_true, true_or, not_true_eq_false, not_false_eq_true] at *
  all_goals omega
set_option maxRecDepth 20000 in
theorem lf_x_why1_3 (knowF : Nat → Int32) (bq : Nat) (y7 : Int32) (ab_now : NB knowF) (hb6 : bq < 6) (t4 : ¬ knowF (125 + bq) = nI 3) (e8 : y7 = knowF (113 + bq)) : 107 ≤ (113 + bq) := by
  have b_y7 := ia_b y7
  try have k_0 := ia_n 3 (by first | decide | omega)
  try simp only [ia_lt, ia_le, ia_eq, ia_m1, ia_0, ia_1, ne_eq, true_and, and_true, false_and, and_false, or_false, false_or, or_true, true_or, not_true_eq_false, not_false_eq_true] at *
  all_goals omega
set_option maxRecDepth 20000 in
theorem lf_x_why1_4 (knowF : Nat → Int32) (bq : Nat) (y7 : Int32) (ab_now : NB knowF) (hb6 : bq < 6) (t4 : ¬ knowF (125 + bq) = nI 3) (e8 : y7 = knowF (113 + bq)) : (113 + bq) < 119 := by
  have b_y7 := ia_b y7
  try have k_0 := ia_n 3 (by first | decide | omega)
  try simp only [ia_lt, ia_le, ia_eq, ia_m1, ia_0, ia_1, ne_eq, true_and, and_true, false_and, and_false, or_false, false_or, or_true, true_or, not_true_eq_false, not_false_eq_true] at *
  all_goals omega
set_option maxRecDepth 20000 in
theorem lf_x_why1_5 (knowF : Nat → Int32) (bq : Nat) (y7 : Int32) (ab_now : NB knowF) (hb6 : bq < 6) (t4 : ¬ knowF (125 + bq) = nI 3) (e8 : y7 = knowF (113 + bq)) (b9 : 0 ≤ y7.toInt) (b10 : y7.toInt ≤ 35) : 0 ≤ y7.toInt ∧ y7.toInt ≤ 35 := by
  have b_y7 := ia_b y7
  try have k_0 := ia_n 3 (by first | decide | omega)
  try simp only [ia_lt, ia_le, ia_eq, ia_m1, ia_0, ia_1, ne_eq, true_and, and_true, false_and, and_false, or_false, false_or, or_true, true_or, not_true_eq_false, not_false_eq_true] at *
  all_goals omega
set_option maxRecDepth 20000 in
theorem lf_x_why1_6 (knowF : Nat → Int32) (bq : Nat) (y : Int32) (y7 : Int32) (ab_now : NB knowF) (hb6 : bq < 6) (hsd : 0 ≤ y.toInt ∧ y.toInt ≤ 3) (t4 : ¬ knowF (125 + bq) = nI 3) (e8 : y7 = knowF (113 + bq)) (b9 : 0 ≤ y7.toInt) (b10 : y7.toInt ≤ 35) (t17 : ¬ BSok y7.toInt y.toInt (knowF 0).toInt (knowF 1).toInt) : ¬ (nI 2) = nI 0 ∨ BSok (knowF (113 + bq)).toInt y.toInt (knowF 0).toInt (knowF 1).toInt := by
  first
    | exact Or.inl (by decide)
    | (refine Or.inr ?_; subst_vars; assumption)
set_option maxRecDepth 20000 in
theorem lf_x_why1_7 (knowF : Nat → Int32) (bq : Nat) (y : Int32) (y7 : Int32) (y20 : Int32) (ab_now : NB knowF) (hb6 : bq < 6) (hsd : 0 ≤ y.toInt ∧ y.toInt ≤ 3) (t4 : ¬ knowF (125 + bq) = nI 3) (e8 : y7 = knowF (113 + bq)) (b9 : 0 ≤ y7.toInt) (b10 : y7.toInt ≤ 35) (h16 : BSok y7.toInt y.toInt (knowF 0).toInt (knowF 1).toInt) (e21 : y20 = knowF (113 + bq)) : (113 + bq) < 373 := by
  have b_y := ia_b y
  have b_y7 := ia_b y7
  have b_y20 := ia_b y20
  try have k_0 := ia_n 3 (by first | decide | omega)
  try unfold BSok at *
  try simp only [ia_lt, ia_le, ia_eq, ia_m1, ia_0, ia_1, ne_eq, true_and, and_true, false_and, and_false, or_false, false_or, or_true, true_or, not_true_eq_false, not_false_eq_true] at *
  all_goals omega
set_option maxRecDepth 20000 in
theorem lf_x_why1_8 (knowF : Nat → Int32) (bq : Nat) (y : Int32) (y7 : Int32) (y20 : Int32) (ab_now : NB knowF) (hb6 : bq < 6) (hsd : 0 ≤ y.toInt ∧ y.toInt ≤ 3) (t4 : ¬ knowF (125 + bq) = nI 3) (e8 : y7 = knowF (113 + bq)) (b9 : 0 ≤ y7.toInt) (b10 : y7.toInt ≤ 35) (h16 : BSok y7.toInt y.toInt (knowF 0).toInt (knowF 1).toInt) (e21 : y20 = knowF (113 + bq)) : 107 ≤ (113 + bq) := by
  have b_y := ia_b y
  have b_y7 := ia_b y7
  have b_y20 := ia_b y20
  try have k_0 := ia_n 3 (by first | decide | omega)
  try unfold BSok at *
  try simp only [ia_lt, ia_le, ia_eq, ia_m1, ia_0, ia_1, ne_eq, true_and, and_true, false_and, and_false, or_false, false_or, or_true, true_or, not_true_eq_false, not_false_eq_true] at *
  all_goals omega
set_option maxRecDepth 20000 in
theorem lf_x_why1_9 (knowF : Nat → Int32) (bq : Nat) (y : Int32) (y7 : Int32) (y20 : Int32) (ab_now : NB knowF) (hb6 : bq < 6) (hsd : 0 ≤ y.toInt ∧ y.toInt ≤ 3) (t4 : ¬ knowF (125 + bq) = nI 3) (e8 : y7 = knowF (113 + bq)) (b9 : 0 ≤ y7.toInt) (b10 : y7.toInt ≤ 35) (h16 : BSok y7.toInt y.toInt (knowF 0).toInt (knowF 1).toInt) (e21 : y20 = knowF (113 + bq)) : (113 + bq) < 119 := by
  have b_y := ia_b y
  have b_y7 := ia_b y7
  have b_y20 := ia_b y20
  try have k_0 := ia_n 3 (by first | decide | omega)
  try unfold BSok at *
  try simp only [ia_lt, ia_le, ia_eq, ia_m1, ia_0, ia_1, ne_eq, true_and, and_true, false_and, and_false, or_false, false_or, or_true, true_or, not_true_eq_false, not_false_eq_true] at *
  all_goals omega
set_option maxRecDepth 20000 in
theorem lf_x_why1_10 (knowF : Nat → Int32) (bq : Nat) (y : Int32) (y7 : Int32) (y20 : Int32) (ab_now : NB knowF) (hb6 : bq < 6) (hsd : 0 ≤ y.toInt ∧ y.toInt ≤ 3) (t4 : ¬ knowF (125 + bq) = nI 3) (e8 : y7 = knowF (113 + bq)) (b9 : 0 ≤ y7.toInt) (b10 : y7.toInt ≤ 35) (h16 : BSok y7.toInt y.toInt (knowF 0).toInt (knowF 1).toInt) (e21 : y20 = knowF (113 + bq)) (b22 : 0 ≤ y20.toInt) (b23 : y20.toInt ≤ 35) : 0 ≤ y20.toInt ∧ y20.toInt ≤ 35 := by
  have b_y := ia_b y
  have b_y7 := ia_b y7
  have b_y20 := ia_b y20
  try have k_0 := ia_n 3 (by first | decide | omega)
  try unfold BSok at *
  try simp only [ia_lt, ia_le, ia_eq, ia_m1, ia_0, ia_1, ne_eq, true_and, and_true, false_and, and_false, or_false, false_or, or_true, true_or, not_true_eq_false, not_false_eq_true] at *
  all_goals omega
set_option maxRecDepth 20000 in
theorem lf_x_why1_11 (o : Nat) (kthrown : Int32) (ktape : Nat) (ktaped : Nat) (ksize : Nat) (klimit : Nat) (kto : Nat) (kfrom : Nat) (kkind : Int32) (knumber : Int32) (ksign : Int32) (kfault : Int32) (kplace : Int32) (kword : Int64) (ktold : Int32) (know : Nat) (kread : Nat) (kkept : Nat) (ksnaps : Nat) (kaside : Nat) (kname : Nat) (kreadName : Nat) (kkeptName : Nat) (kisKept : Nat) (konces : Nat) (ksnapMany : Nat) (khasCells : Int32) (kpoured : Nat) (kfar : Nat) (ksides : Nat) (ksideMany : Nat) (kwayDays : Int32) (khasWay : Int32) (klines : Nat) (kmet : Nat) (kmetMany : Nat) (ksunk : Nat) (ktrying : Nat) (ksunkMany : Nat) (ksending : Int32) (kfleets : Int32) (ktext : Nat) (ktexts : Nat) (kseed : Int32) (kline : Nat) (kwritten : Nat) (klineMany : Nat) (khasWritten : Int32) (knode : Nat) (knodes : Nat) (konesMany : Nat) (kwithin : Nat) (ktop : Nat) (knowF : Nat → Int32) (bq : Nat) (y : Int32) (y7 : Int32) (k13 : Nat) (y20 : Int32) (iv_ko_0 : ktaped ≤ 940) (iv_ko_1 : ksize ≤ 940) (iv_ko_2 : klimit ≤ 900) (iv_ko_3 : kto ≤ ksize) (iv_ko_4 : kfrom ≤ 940) (iv_ko_5 : ksnapMany ≤ 8) (iv_ko_6 : ksideMany ≤ 36) (iv_ko_7 : kmetMany ≤ 3) (iv_ko_8 : ksunkMany ≤ 36) (iv_ko_9 : ktexts ≤ 64) (iv_ko_10 : klineMany ≤ 40) (iv_ko_11 : knodes ≤ 60) (iv_ko_12 : konesMany ≤ 20) (iv_ko_13 : kwithin ≤ 8) (iv_ko_14 : ktop ≤ 59) (ab_now : NB knowF) (hb6 : bq < 6) (hsd : 0 ≤ y.toInt ∧ y.toInt ≤ 3) (t4 : ¬ knowF (125 + bq) = nI 3) (e8 : y7 = knowF (113 + bq)) (b9 : 0 ≤ y7.toInt) (b10 : y7.toInt ≤ 35) (h15 : k13 < 36) (h16 : BSok y7.toInt y.toInt (knowF 0).toInt (knowF 1).toInt) (c19 : nI k13 ≠ (-1 : Int32)) (e21 : y20 = knowF (113 + bq)) (b22 : 0 ≤ y20.toInt) (b23 : y20.toInt ≤ 35) (t30 : ¬ BSok y20.toInt y.toInt (knowF 0).toInt (knowF 1).toInt) : 0 ≤ (-1 : Int32).toInt ∧ (-1 : Int32).toInt ≤ 35 := by
  exfalso
  subst_vars
  contradiction
set_option maxRecDepth 20000 in
theorem lf_x_why1_12 (knowF : Nat → Int32) (bq : Nat) (y : Int32) (y7 : Int32) (y20 : Int32) (y37 : Int32) (ab_now : NB knowF) (hb6 : bq < 6) (hsd : 0 ≤ y.toInt ∧ y.toInt ≤ 3) (t4 : ¬ knowF (125 + bq) = nI 3) (e8 : y7 = knowF (113 + bq)) (b9 : 0 ≤ y7.toInt) (b10 : y7.toInt ≤ 35) (h16 : BSok y7.toInt y.toInt (knowF 0).toInt (knowF 1).toInt) (e21 : y20 = knowF (113 + bq)) (b22 : 0 ≤ y20.toInt) (b23 : y20.toInt ≤ 35) (t30 : ¬ BSok y20.toInt y.toInt (knowF 0).toInt (knowF 1).toInt) (e38 : y37 = knowF (119 + bq)) : (119 + bq) < 373 := by
  have b_y := ia_b y
  have b_y7 := ia_b y7
  have b_y20 := ia_b y20
  have b_y37 := ia_b y37
  try have k_0 := ia_n 3 (by first | decide | omega)
  try unfold BSok at *
  try simp only [ia_lt, ia_le, ia_eq, ia_m1, ia_0, ia_1, ne_eq, true_and, and_true, false_and, and_false, or_false, false_or, or_true, true_or, not_true_eq_false, not_false_eq_true] at *
  all_goals omega
set_option maxRecDepth 20000 in
theorem lf_x_why1_13 (knowF : Nat → Int32) (bq : Nat) (y : Int32) (y7 : Int32) (y20 : Int32) (k33 : Nat) (y37 : Int32) (ab_now : NB knowF) (hb6 : bq < 6) (hsd : 0 ≤ y.toInt ∧ y.toInt ≤ 3) (t4 : ¬ knowF (125 + bq) = nI 3) (e8 : y7 = knowF (113 + bq)) (b9 : 0 ≤ y7.toInt) (b10 : y7.toInt ≤ 35) (h16 : BSok y7.toInt y.toInt (knowF 0).toInt (knowF 1).toInt) (e21 : y20 = knowF (113 + bq)) (b22 : 0 ≤ y20.toInt) (b23 : y20.toInt ≤ 35) (t30 : ¬ BSok y20.toInt y.toInt (knowF 0).toInt (knowF 1).toInt) (h35 : 1 ≤ k33) (h36 : k33 ≤ 4) (e38 : y37 = knowF (119 + bq)) (c39 : nI k33 ≤ y37) : ¬ (nI 0) = nI 0 ∨ BSok (knowF (113 + bq)).toInt y.toInt (knowF 0).toInt (knowF 1).toInt := by
  first
    | exact Or.inl (by decide)
    | (refine Or.inr ?_; subst_vars; assumption)
set_option maxRecDepth 20000 in
theorem lf_x_why1_14 (knowF : Nat → Int32) (bq : Nat) (y : Int32) (y7 : Int32) (y20 : Int32) (k33 : Nat) (y37 : Int32) (ab_now : NB knowF) (hb6 : bq < 6) (hsd : 0 ≤ y.toInt ∧ y.toInt ≤ 3) (t4 : ¬ knowF (125 + bq) = nI 3) (e8 : y7 = knowF (113 + bq)) (b9 : 0 ≤ y7.toInt) (b10 : y7.toInt ≤ 35) (h16 : BSok y7.toInt y.toInt (knowF 0).toInt (knowF 1).toInt) (e21 : y20 = knowF (113 + bq)) (b22 : 0 ≤ y20.toInt) (b23 : y20.toInt ≤ 35) (t30 : ¬ BSok y20.toInt y.toInt (knowF 0).toInt (knowF 1).toInt) (h35 : 1 ≤ k33) (h36 : k33 ≤ 4) (e38 : y37 = knowF (119 + bq)) (c39 : ¬ nI k33 ≤ y37) : ¬ (nI 3) = nI 0 ∨ BSok (knowF (113 + bq)).toInt y.toInt (knowF 0).toInt (knowF 1).toInt := by
  first
    | exact Or.inl (by decide)
    | (refine Or.inr ?_; subst_vars; assumption)
set_option maxRecDepth 20000 in
theorem lf_x_why1_15 (k26 : Nat) (h28 : k26 < 36) : 0 ≤ (nI k26).toInt ∧ (nI k26).toInt ≤ 35 := by
  try have k_0 := ia_n k26 (by first | decide | omega)
  try simp only [ia_lt, ia_le, ia_eq, ia_m1, ia_0, ia_1, ne_eq, true_and, and_true, false_and, and_false, or_false, false_or, or_true, true_or, not_true_eq_false, not_false_eq_true] at *
  all_goals omega
set_option maxRecDepth 20000 in
theorem lf_x_why1_16 (knowF : Nat → Int32) (bq : Nat) (y : Int32) (y7 : Int32) (y20 : Int32) (y46 : Int32) (ab_now : NB knowF) (hb6 : bq < 6) (hsd : 0 ≤ y.toInt ∧ y.toInt ≤ 3) (t4 : ¬ knowF (125 + bq) = nI 3) (e8 : y7 = knowF (113 + bq)) (b9 : 0 ≤ y7.toInt) (b10 : y7.toInt ≤ 35) (h16 : BSok y7.toInt y.toInt (knowF 0).toInt (knowF 1).toInt) (e21 : y20 = knowF (113 + bq)) (b22 : 0 ≤ y20.toInt) (b23 : y20.toInt ≤ 35) (h29 : BSok y20.toInt y.toInt (knowF 0).toInt (knowF 1).toInt) (e47 : y46 = knowF (119 + bq)) : (119 + bq) < 373 := by
  have b_y := ia_b y
  have b_y7 := ia_b y7
  have b_y20 := ia_b y20
  have b_y46 := ia_b y46
  try have k_0 := ia_n 3 (by first | decide | omega)
  try unfold BSok at *
  try simp only [ia_lt, ia_le, ia_eq, ia_m1, ia_0, ia_1, ne_eq, true_and, and_true, false_and, and_false, or_false, false_or, or_true, true_or, not_true_eq_false, not_false_eq_true] at *
  all_goals omega
set_option maxRecDepth 20000 in
theorem lf_x_why1_17 (knowF : Nat → Int32) (bq : Nat) (y : Int32) (y7 : Int32) (y20 : Int32) (k42 : Nat) (y46 : Int32) (ab_now : NB knowF) (hb6 : bq < 6) (hsd : 0 ≤ y.toInt ∧ y.toInt ≤ 3) (t4 : ¬ knowF (125 + bq) = nI 3) (e8 : y7 = knowF (113 + bq)) (b9 : 0 ≤ y7.toInt) (b10 : y7.toInt ≤ 35) (h16 : BSok y7.toInt y.toInt (knowF 0).toInt (knowF 1).toInt) (e21 : y20 = knowF (113 + bq)) (b22 : 0 ≤ y20.toInt) (b23 : y20.toInt ≤ 35) (h29 : BSok y20.toInt y.toInt (knowF 0).toInt (knowF 1).toInt) (h44 : 1 ≤ k42) (h45 : k42 ≤ 4) (e47 : y46 = knowF (119 + bq)) (c48 : nI k42 ≤ y46) : ¬ (nI 0) = nI 0 ∨ BSok (knowF (113 + bq)).toInt y.toInt (knowF 0).toInt (knowF 1).toInt := by
  first
    | exact Or.inl (by decide)
    | (refine Or.inr ?_; subst_vars; assumption)
set_option maxRecDepth 20000 in
theorem lf_x_why1_18 (knowF : Nat → Int32) (bq : Nat) (y : Int32) (y7 : Int32) (y20 : Int32) (k42 : Nat) (y46 : Int32) (ab_now : NB knowF) (hb6 : bq < 6) (hsd : 0 ≤ y.toInt ∧ y.toInt ≤ 3) (t4 : ¬ knowF (125 + bq) = nI 3) (e8 : y7 = knowF (113 + bq)) (b9 : 0 ≤ y7.toInt) (b10 : y7.toInt ≤ 35) (h16 : BSok y7.toInt y.toInt (knowF 0).toInt (knowF 1).toInt) (e21 : y20 = knowF (113 + bq)) (b22 : 0 ≤ y20.toInt) (b23 : y20.toInt ≤ 35) (h29 : BSok y20.toInt y.toInt (knowF 0).toInt (knowF 1).toInt) (h44 : 1 ≤ k42) (h45 : k42 ≤ 4) (e47 : y46 = knowF (119 + bq)) (c48 : ¬ nI k42 ≤ y46) : ¬ (nI 3) = nI 0 ∨ BSok (knowF (113 + bq)).toInt y.toInt (knowF 0).toInt (knowF 1).toInt := by
  first
    | exact Or.inl (by decide)
    | (refine Or.inr ?_; subst_vars; assumption)
set_option maxRecDepth 20000 in
theorem lf_x_why1_19 (knowF : Nat → Int32) (bq : Nat) (y : Int32) (y7 : Int32) (ab_now : NB knowF) (hb6 : bq < 6) (hsd : 0 ≤ y.toInt ∧ y.toInt ≤ 3) (t4 : ¬ knowF (125 + bq) = nI 3) (e8 : y7 = knowF (113 + bq)) (b9 : 0 ≤ y7.toInt) (b10 : y7.toInt ≤ 35) (h16 : BSok y7.toInt y.toInt (knowF 0).toInt (knowF 1).toInt) : ¬ (nI 2) = nI 0 ∨ BSok (knowF (113 + bq)).toInt y.toInt (knowF 0).toInt (knowF 1).toInt := by
  first
    | exact Or.inl (by decide)
    | (refine Or.inr ?_; subst_vars; assumption)
set_option maxHeartbeats 4000000 in
set_option maxRecDepth 100000 in
theorem c_x_why1 (l : Launch) (dC : Nat → ClassId) (dI : Nat → Nat → Nat) (ky : Nat → ClassId) (o : Nat) (kthrown : Int32) (ktape : Nat) (ktaped : Nat) (ksize : Nat) (klimit : Nat) (kto : Nat) (kfrom : Nat) (kkind : Int32) (knumber : Int32) (ksign : Int32) (kfault : Int32) (kplace : Int32) (kword : Int64) (ktold : Int32) (know : Nat) (kread : Nat) (kkept : Nat) (ksnaps : Nat) (kaside : Nat) (kname : Nat) (kreadName : Nat) (kkeptName : Nat) (kisKept : Nat) (konces : Nat) (ksnapMany : Nat) (khasCells : Int32) (kpoured : Nat) (kfar : Nat) (ksides : Nat) (ksideMany : Nat) (kwayDays : Int32) (khasWay : Int32) (klines : Nat) (kmet : Nat) (kmetMany : Nat) (ksunk : Nat) (ktrying : Nat) (ksunkMany : Nat) (ksending : Int32) (kfleets : Int32) (ktext : Nat) (ktexts : Nat) (kseed : Int32) (kline : Nat) (kwritten : Nat) (klineMany : Nat) (khasWritten : Int32) (knode : Nat) (knodes : Nat) (konesMany : Nat) (kwithin : Nat) (ktop : Nat) (knowF : Nat → Int32) (bq : Nat) (y : Int32) (iv_ko_0 : ktaped ≤ 940) (iv_ko_1 : ksize ≤ 940) (iv_ko_2 : klimit ≤ 900) (iv_ko_3 : kto ≤ ksize) (iv_ko_4 : kfrom ≤ 940) (iv_ko_5 : ksnapMany ≤ 8) (iv_ko_6 : ksideMany ≤ 36) (iv_ko_7 : kmetMany ≤ 3) (iv_ko_8 : ksunkMany ≤ 36) (iv_ko_9 : ktexts ≤ 64) (iv_ko_10 : klineMany ≤ 40) (iv_ko_11 : knodes ≤ 60) (iv_ko_12 : konesMany ≤ 20) (iv_ko_13 : kwithin ≤ 8) (iv_ko_14 : ktop ≤ 59) (ab_now : NB knowF) (hb6 : bq < 6) (hsd : 0 ≤ y.toInt ∧ y.toInt ≤ 3) : Met l yX12_why wsX12_why ({ frames := 3, cells := 0, slots := 0, locals := 68 }) (PcP dC dI ky [.ref o, .int (nI 1), .int (nI bq), .int y] [(o, .inr (12, [.int kthrown, .ref ktape, .int (nI ktaped), .int (nI ksize), .int (nI klimit), .int (nI kto), .int (nI kfrom), .int kkind, .int knumber, .int ksign, .int kfault, .int kplace, .long kword, .int ktold, .ref know, .ref kread, .ref kkept, .ref ksnaps, .ref kaside, .ref kname, .ref kreadName, .ref kkeptName, .ref kisKept, .ref konces, .int (nI ksnapMany), .int khasCells, .ref kpoured, .ref kfar, .ref ksides, .int (nI ksideMany), .int kwayDays, .int khasWay, .ref klines, .ref kmet, .int (nI kmetMany), .ref ksunk, .ref ktrying, .int (nI ksunkMany), .int ksending, .int kfleets, .ref ktext, .int (nI ktexts), .int kseed, .ref kline, .ref kwritten, .int (nI klineMany), .int khasWritten, .ref knode, .int (nI knodes), .int (nI konesMany), .int (nI kwithin), .int (nI ktop)])), (know, .inl (ky 0, 373, .inl knowF))]) (vp_Si (fun r : Int32 => ¬ r = nI 0 ∨ BSok (knowF (113 + bq)).toInt y.toInt (knowF 0).toInt (knowF 1).toInt)) 0 0 (fun _ => False) := by
  refine Met.ofW (cc := cX12_why) (maxL := 4) (ret := (some .int)) (by decide) rfl ?_
  intro p e s m args below meth c s₁ B hml hv
  obtain ⟨rfl, hP, hK⟩ := hv
  have hx := B.exec
  have hb := B.bytes
  have hr := B.returns
  have hts := atoms_spec (ws := wsX12_why) B.pre
  have hown : s.vm.findClass RX12 = some m.cls := findClass_of_methodNamed B.named
  have hlocks := B.notSynchronized
  have hin12 : ∀ w ∈ u_ws RX12 TX12 52, w ∈ wsX12_why := by decide +kernel
  have hl := lv_entry ([.ref o, .int (nI 1), .int (nI bq), .int y]) (n := 4) (Nat.le_of_ble_eq_true rfl)
  rw [lg_entry_eq]
  generalize (lg_sl ([.ref o, .int (nI 1), .int (nI bq), .int y]) ++ List.replicate (4 - (lg_sl ([.ref o, .int (nI 1), .int (nI bq), .int y])).length) Slot.unset).toArray = ls at hl ⊢
  have hl : lv_has ls 4 [(0, .ref o), (1, .int (nI 1)), (2, .int (nI bq)), (3, .int y)] := hl
  refine q_name (fun Q hQ => ?_)
  generalize ([.ref o, .int (nI 1), .int (nI bq), .int y] : List Value).toArray = args at hts hQ ⊢
  refine lv_iload_n hx hb dX12_why_0 rfl (lv_at hl 1 rfl) ?_
  refine lv_tableIn (off := 44) (tgt := 45) hx hb dX12_why_1 (by decide) (by decide) rfl (by decide) ?_
  refine lv_aload_n hx hb dX12_why_45 rfl (lv_at hl 0 rfl) ?_
  refine lv_iload_n hx hb dX12_why_46 rfl (lv_at hl 2 rfl) ?_
  refine vp_callSi (W.runV (As := [.int (nI bq)]) (rest := []) ⟨hx, hb, hml, hown, hts⟩ (c_x_isEatenN l dC dI ky o kthrown ktape ktaped ksize klimit kto kfrom kkind knumber ksign kfault kplace kword ktold know kread kkept ksnaps kaside kname kreadName kkeptName kisKept konces ksnapMany khasCells kpoured kfar ksides ksideMany kwayDays khasWay klines kmet kmetMany ksunk ktrying ksunkMany ksending kfleets ktext ktexts kseed kline kwritten klineMany khasWritten knode knodes konesMany kwithin ktop knowF bq iv_ko_0 iv_ko_1 iv_ko_2 iv_ko_3 iv_ko_4 iv_ko_5 iv_ko_6 iv_ko_7 iv_ko_8 iv_ko_9 iv_ko_10 iv_ko_11 iv_ko_12 iv_ko_13 iv_ko_14 ab_now hb6) (cwV 1 hts gX12_why_X12_isEaten rfl rfl rfl (by decide +kernel) ⟨(Nat.le_of_ble_eq_true rfl), (Nat.le_of_ble_eq_true rfl)⟩) (pre_PV hK hP [0, 1] rfl (ci := 12) (q0 := 0) rfl rfl) rfl rfl hl.1 rfl (lv_room (Nat.le_of_ble_eq_true rfl)) dX12_why_47 ⟨(Nat.le_of_ble_eq_true rfl), (Nat.le_of_ble_eq_true rfl)⟩) (fun r1 p2 => ?_)
  rcases p2 with ⟨rfl, t3⟩ | ⟨rfl, t4⟩
  · refine lv_if_eq (tgt := 57) hx hb dX12_why_50 (by decide) (fun c5 => absurd c5 (by decide)) (fun c5 => ?_)
    refine lv_iconst (v := nI 1) hx hb dX12_why_53 (by decide) ?_
    refine lv_goto (tgt := 114) hx hb dX12_why_54 (by decide) ?_
    rw [hQ]
    exact W.iret (v := nI 1) hx hb hr (fun t9 ht9 hW9 => ⟨nI 1, rfl, (lf_x_why1_1 knowF bq y ab_now hb6 hsd t3), ht9⟩) (fun _ h => absurd h List.not_mem_nil) dX12_why_114
  · refine lv_if_eq (tgt := 57) hx hb dX12_why_50 (by decide) (fun c6 => ?_) (fun c6 => absurd (by decide) c6)
    refine lv_aload_n hx hb dX12_why_57 rfl (lv_at hl 0 rfl) ?_
    refine lv_aload_n hx hb dX12_why_58 rfl (lv_at hl 0 rfl) ?_
    refine va_get (D := (dC, dI)) (ci := 12) (v := .ref know) (C := RX12) (T := TX12) (N := 52) hx hb hts hin12 hown hK hP 0 rfl rfl 14 (by decide) (hts (.fieldLink RX12 98 "PorridgeSeaModel" "now" "[I") (List.mem_of_getElem? (i := 1) rfl)) (fun _ h9 => h9) rfl dX12_why_59 ?_
    refine lv_bipush (v := nI 113) hx hb dX12_why_62 (by decide) ?_
    refine lv_iload_n hx hb dX12_why_64 rfl (lv_at hl 2 rfl) ?_
    refine lv_iadd hx hb dX12_why_65 ?_
    refine r_ti (nI (113 + bq)) (nI_add _ _) ?_
    obtain ⟨y7, e8⟩ : ∃ z9, z9 = knowF (113 + bq) := ⟨_, rfl⟩
    refine r_iald hx hb hK hP 1 rfl (113 + bq) (lf_x_why1_2 knowF bq y7 ab_now hb6 t4 e8) (by decide) y7 e8.symm dX12_why_66 ?_
    obtain ⟨b9, b10⟩ : (0 : Int) ≤ y7.toInt ∧ y7.toInt ≤ 35 := by rw [e8]; exact ld_NB_107 ab_now (113 + bq) (lf_x_why1_3 knowF bq y7 ab_now hb6 t4 e8) (lf_x_why1_4 knowF bq y7 ab_now hb6 t4 e8)
    refine lv_iload_n hx hb dX12_why_67 rfl (lv_at hl 3 rfl) ?_
    refine vp_callSi (W.runV (As := [.int y7, .int y]) (rest := []) ⟨hx, hb, hml, hown, hts⟩ (c_x_beside l dC dI ky o kthrown ktape ktaped ksize klimit kto kfrom kkind knumber ksign kfault kplace kword ktold know kread kkept ksnaps kaside kname kreadName kkeptName kisKept konces ksnapMany khasCells kpoured kfar ksides ksideMany kwayDays khasWay klines kmet kmetMany ksunk ktrying ksunkMany ksending kfleets ktext ktexts kseed kline kwritten klineMany khasWritten knode knodes konesMany kwithin ktop knowF y7 y iv_ko_0 iv_ko_1 iv_ko_2 iv_ko_3 iv_ko_4 iv_ko_5 iv_ko_6 iv_ko_7 iv_ko_8 iv_ko_9 iv_ko_10 iv_ko_11 iv_ko_12 iv_ko_13 iv_ko_14 ab_now (lf_x_why1_5 knowF bq y7 ab_now hb6 t4 e8 b9 b10) hsd) (cwV 2 hts gX12_why_X12_beside rfl rfl rfl (by decide +kernel) ⟨(Nat.le_of_ble_eq_true rfl), (Nat.le_of_ble_eq_true rfl)⟩) (pre_PV hK hP [0, 1] rfl (ci := 12) (q0 := 0) rfl rfl) rfl rfl hl.1 rfl (lv_room (Nat.le_of_ble_eq_true rfl)) dX12_why_68 ⟨(Nat.le_of_ble_eq_true rfl), (Nat.le_of_ble_eq_true rfl)⟩) (fun r11 p12 => ?_)
    rcases p12 with ⟨rfl, t17⟩ | ⟨k13, ⟨h15, h16⟩, rfl⟩
    · refine lv_iconst (v := (-1 : Int32)) hx hb dX12_why_71 (by decide) ?_
      refine lv_icmp_ne (tgt := 79) hx hb dX12_why_72 (by decide) (fun c18 => absurd c18 (by decide)) (fun c18 => ?_)
      refine lv_iconst (v := nI 2) hx hb dX12_why_75 (by decide) ?_
      refine lv_goto (tgt := 114) hx hb dX12_why_76 (by decide) ?_
      rw [hQ]
      exact W.iret (v := nI 2) hx hb hr (fun t9 ht9 hW9 => ⟨nI 2, rfl, (lf_x_why1_6 knowF bq y y7 ab_now hb6 hsd t4 e8 b9 b10 t17), ht9⟩) (fun _ h => absurd h List.not_mem_nil) dX12_why_114
    · refine lv_iconst (v := (-1 : Int32)) hx hb dX12_why_71 (by decide) ?_
      refine lv_icmp_ne (tgt := 79) hx hb dX12_why_72 (by decide) (fun c19 => ?_) (fun c19 => ?_)
      · refine lv_aload_n hx hb dX12_why_79 rfl (lv_at hl 0 rfl) ?_
        refine lv_aload_n hx hb dX12_why_80 rfl (lv_at hl 0 rfl) ?_
        refine lv_aload_n hx hb dX12_why_81 rfl (lv_at hl 0 rfl) ?_
        refine va_get (D := (dC, dI)) (ci := 12) (v := .ref know) (C := RX12) (T := TX12) (N := 52) hx hb hts hin12 hown hK hP 0 rfl rfl 14 (by decide) (hts (.fieldLink RX12 98 "PorridgeSeaModel" "now" "[I") (List.mem_of_getElem? (i := 1) rfl)) (fun _ h9 => h9) rfl dX12_why_82 ?_
        refine lv_bipush (v := nI 113) hx hb dX12_why_85 (by decide) ?_
        refine lv_iload_n hx hb dX12_why_87 rfl (lv_at hl 2 rfl) ?_
        refine lv_iadd hx hb dX12_why_88 ?_
        refine r_ti (nI (113 + bq)) (nI_add _ _) ?_
        obtain ⟨y20, e21⟩ : ∃ z9, z9 = knowF (113 + bq) := ⟨_, rfl⟩
        refine r_iald hx hb hK hP 1 rfl (113 + bq) (lf_x_why1_7 knowF bq y y7 y20 ab_now hb6 hsd t4 e8 b9 b10 h16 e21) (by decide) y20 e21.symm dX12_why_89 ?_
        obtain ⟨b22, b23⟩ : (0 : Int) ≤ y20.toInt ∧ y20.toInt ≤ 35 := by rw [e21]; exact ld_NB_107 ab_now (113 + bq) (lf_x_why1_8 knowF bq y y7 y20 ab_now hb6 hsd t4 e8 b9 b10 h16 e21) (lf_x_why1_9 knowF bq y y7 y20 ab_now hb6 hsd t4 e8 b9 b10 h16 e21)
        refine lv_iload_n hx hb dX12_why_90 rfl (lv_at hl 3 rfl) ?_
        refine vp_callSi (W.runV (As := [.int y20, .int y]) (rest := [.ref o]) ⟨hx, hb, hml, hown, hts⟩ (c_x_beside l dC dI ky o kthrown ktape ktaped ksize klimit kto kfrom kkind knumber ksign kfault kplace kword ktold know kread kkept ksnaps kaside kname kreadName kkeptName kisKept konces ksnapMany khasCells kpoured kfar ksides ksideMany kwayDays khasWay klines kmet kmetMany ksunk ktrying ksunkMany ksending kfleets ktext ktexts kseed kline kwritten klineMany khasWritten knode knodes konesMany kwithin ktop knowF y20 y iv_ko_0 iv_ko_1 iv_ko_2 iv_ko_3 iv_ko_4 iv_ko_5 iv_ko_6 iv_ko_7 iv_ko_8 iv_ko_9 iv_ko_10 iv_ko_11 iv_ko_12 iv_ko_13 iv_ko_14 ab_now (lf_x_why1_10 knowF bq y y7 y20 ab_now hb6 hsd t4 e8 b9 b10 h16 e21 b22 b23) hsd) (cwV 2 hts gX12_why_X12_beside rfl rfl rfl (by decide +kernel) ⟨(Nat.le_of_ble_eq_true rfl), (Nat.le_of_ble_eq_true rfl)⟩) (pre_PV hK hP [0, 1] rfl (ci := 12) (q0 := 0) rfl rfl) rfl rfl hl.1 rfl (lv_room (Nat.le_of_ble_eq_true rfl)) dX12_why_91 ⟨(Nat.le_of_ble_eq_true rfl), (Nat.le_of_ble_eq_true rfl)⟩) (fun r24 p25 => ?_)
        rcases p25 with ⟨rfl, t30⟩ | ⟨k26, ⟨h28, h29⟩, rfl⟩
        · refine vp_callSi (W.runV (As := [.int (-1 : Int32)]) (rest := []) ⟨hx, hb, hml, hown, hts⟩ (c_x_costOf l dC dI ky o kthrown ktape ktaped ksize klimit kto kfrom kkind knumber ksign kfault kplace kword ktold know kread kkept ksnaps kaside kname kreadName kkeptName kisKept konces ksnapMany khasCells kpoured kfar ksides ksideMany kwayDays khasWay klines kmet kmetMany ksunk ktrying ksunkMany ksending kfleets ktext ktexts kseed kline kwritten klineMany khasWritten knode knodes konesMany kwithin ktop knowF (-1 : Int32) iv_ko_0 iv_ko_1 iv_ko_2 iv_ko_3 iv_ko_4 iv_ko_5 iv_ko_6 iv_ko_7 iv_ko_8 iv_ko_9 iv_ko_10 iv_ko_11 iv_ko_12 iv_ko_13 iv_ko_14 ab_now (lf_x_why1_11 o kthrown ktape ktaped ksize klimit kto kfrom kkind knumber ksign kfault kplace kword ktold know kread kkept ksnaps kaside kname kreadName kkeptName kisKept konces ksnapMany khasCells kpoured kfar ksides ksideMany kwayDays khasWay klines kmet kmetMany ksunk ktrying ksunkMany ksending kfleets ktext ktexts kseed kline kwritten klineMany khasWritten knode knodes konesMany kwithin ktop knowF bq y y7 k13 y20 iv_ko_0 iv_ko_1 iv_ko_2 iv_ko_3 iv_ko_4 iv_ko_5 iv_ko_6 iv_ko_7 iv_ko_8 iv_ko_9 iv_ko_10 iv_ko_11 iv_ko_12 iv_ko_13 iv_ko_14 ab_now hb6 hsd t4 e8 b9 b10 h15 h16 c19 e21 b22 b23 t30)) (cwV 1 hts gX12_why_X12_costOf rfl rfl rfl (by decide +kernel) ⟨(Nat.le_of_ble_eq_true rfl), (Nat.le_of_ble_eq_true rfl)⟩) (pre_PV hK hP [0, 1] rfl (ci := 12) (q0 := 0) rfl rfl) rfl rfl hl.1 rfl (lv_room (Nat.le_of_ble_eq_true rfl)) dX12_why_94 ⟨(Nat.le_of_ble_eq_true rfl), (Nat.le_of_ble_eq_true rfl)⟩) (fun r31 p32 => ?_)
          obtain ⟨k33, ⟨h35, h36⟩, rfl⟩ := p32
          refine lv_aload_n hx hb dX12_why_97 rfl (lv_at hl 0 rfl) ?_
          refine va_get (D := (dC, dI)) (ci := 12) (v := .ref know) (C := RX12) (T := TX12) (N := 52) hx hb hts hin12 hown hK hP 0 rfl rfl 14 (by decide) (hts (.fieldLink RX12 98 "PorridgeSeaModel" "now" "[I") (List.mem_of_getElem? (i := 1) rfl)) (fun _ h9 => h9) rfl dX12_why_98 ?_
          refine lv_bipush (v := nI 119) hx hb dX12_why_101 (by decide) ?_
          refine lv_iload_n hx hb dX12_why_103 rfl (lv_at hl 2 rfl) ?_
          refine lv_iadd hx hb dX12_why_104 ?_
          refine r_ti (nI (119 + bq)) (nI_add _ _) ?_
          obtain ⟨y37, e38⟩ : ∃ z9, z9 = knowF (119 + bq) := ⟨_, rfl⟩
          refine r_iald hx hb hK hP 1 rfl (119 + bq) (lf_x_why1_12 knowF bq y y7 y20 y37 ab_now hb6 hsd t4 e8 b9 b10 h16 e21 b22 b23 t30 e38) (by decide) y37 e38.symm dX12_why_105 ?_
          refine lv_icmp_le (tgt := 113) hx hb dX12_why_106 (by decide) (fun c39 => ?_) (fun c39 => ?_)
          · refine lv_iconst (v := nI 0) hx hb dX12_why_113 (by decide) ?_
            rw [hQ]
            exact W.iret (v := nI 0) hx hb hr (fun t9 ht9 hW9 => ⟨nI 0, rfl, (lf_x_why1_13 knowF bq y y7 y20 k33 y37 ab_now hb6 hsd t4 e8 b9 b10 h16 e21 b22 b23 t30 h35 h36 e38 c39), ht9⟩) (fun _ h => absurd h List.not_mem_nil) dX12_why_114
          · refine lv_iconst (v := nI 3) hx hb dX12_why_109 (by decide) ?_
            refine lv_goto (tgt := 114) hx hb dX12_why_110 (by decide) ?_
            rw [hQ]
            exact W.iret (v := nI 3) hx hb hr (fun t9 ht9 hW9 => ⟨nI 3, rfl, (lf_x_why1_14 knowF bq y y7 y20 k33 y37 ab_now hb6 hsd t4 e8 b9 b10 h16 e21 b22 b23 t30 h35 h36 e38 c39), ht9⟩) (fun _ h => absurd h List.not_mem_nil) dX12_why_114
        · refine vp_callSi (W.runV (As := [.int (nI k26)]) (rest := []) ⟨hx, hb, hml, hown, hts⟩ (c_x_costOf l dC dI ky o kthrown ktape ktaped ksize klimit kto kfrom kkind knumber ksign kfault kplace kword ktold know kread kkept ksnaps kaside kname kreadName kkeptName kisKept konces ksnapMany khasCells kpoured kfar ksides ksideMany kwayDays khasWay klines kmet kmetMany ksunk ktrying ksunkMany ksending kfleets ktext ktexts kseed kline kwritten klineMany khasWritten knode knodes konesMany kwithin ktop knowF (nI k26) iv_ko_0 iv_ko_1 iv_ko_2 iv_ko_3 iv_ko_4 iv_ko_5 iv_ko_6 iv_ko_7 iv_ko_8 iv_ko_9 iv_ko_10 iv_ko_11 iv_ko_12 iv_ko_13 iv_ko_14 ab_now (lf_x_why1_15 k26 h28)) (cwV 1 hts gX12_why_X12_costOf rfl rfl rfl (by decide +kernel) ⟨(Nat.le_of_ble_eq_true rfl), (Nat.le_of_ble_eq_true rfl)⟩) (pre_PV hK hP [0, 1] rfl (ci := 12) (q0 := 0) rfl rfl) rfl rfl hl.1 rfl (lv_room (Nat.le_of_ble_eq_true rfl)) dX12_why_94 ⟨(Nat.le_of_ble_eq_true rfl), (Nat.le_of_ble_eq_true rfl)⟩) (fun r40 p41 => ?_)
          obtain ⟨k42, ⟨h44, h45⟩, rfl⟩ := p41
          refine lv_aload_n hx hb dX12_why_97 rfl (lv_at hl 0 rfl) ?_
          refine va_get (D := (dC, dI)) (ci := 12) (v := .ref know) (C := RX12) (T := TX12) (N := 52) hx hb hts hin12 hown hK hP 0 rfl rfl 14 (by decide) (hts (.fieldLink RX12 98 "PorridgeSeaModel" "now" "[I") (List.mem_of_getElem? (i := 1) rfl)) (fun _ h9 => h9) rfl dX12_why_98 ?_
          refine lv_bipush (v := nI 119) hx hb dX12_why_101 (by decide) ?_
          refine lv_iload_n hx hb dX12_why_103 rfl (lv_at hl 2 rfl) ?_
          refine lv_iadd hx hb dX12_why_104 ?_
          refine r_ti (nI (119 + bq)) (nI_add _ _) ?_
          obtain ⟨y46, e47⟩ : ∃ z9, z9 = knowF (119 + bq) := ⟨_, rfl⟩
          refine r_iald hx hb hK hP 1 rfl (119 + bq) (lf_x_why1_16 knowF bq y y7 y20 y46 ab_now hb6 hsd t4 e8 b9 b10 h16 e21 b22 b23 h29 e47) (by decide) y46 e47.symm dX12_why_105 ?_
          refine lv_icmp_le (tgt := 113) hx hb dX12_why_106 (by decide) (fun c48 => ?_) (fun c48 => ?_)
          · refine lv_iconst (v := nI 0) hx hb dX12_why_113 (by decide) ?_
            rw [hQ]
            exact W.iret (v := nI 0) hx hb hr (fun t9 ht9 hW9 => ⟨nI 0, rfl, (lf_x_why1_17 knowF bq y y7 y20 k42 y46 ab_now hb6 hsd t4 e8 b9 b10 h16 e21 b22 b23 h29 h44 h45 e47 c48), ht9⟩) (fun _ h => absurd h List.not_mem_nil) dX12_why_114
          · refine lv_iconst (v := nI 3) hx hb dX12_why_109 (by decide) ?_
            refine lv_goto (tgt := 114) hx hb dX12_why_110 (by decide) ?_
            rw [hQ]
            exact W.iret (v := nI 3) hx hb hr (fun t9 ht9 hW9 => ⟨nI 3, rfl, (lf_x_why1_18 knowF bq y y7 y20 k42 y46 ab_now hb6 hsd t4 e8 b9 b10 h16 e21 b22 b23 h29 h44 h45 e47 c48), ht9⟩) (fun _ h => absurd h List.not_mem_nil) dX12_why_114
      · refine lv_iconst (v := nI 2) hx hb dX12_why_75 (by decide) ?_
        refine lv_goto (tgt := 114) hx hb dX12_why_76 (by decide) ?_
        rw [hQ]
        exact W.iret (v := nI 2) hx hb hr (fun t9 ht9 hW9 => ⟨nI 2, rfl, (lf_x_why1_19 knowF bq y y7 ab_now hb6 hsd t4 e8 b9 b10 h16), ht9⟩) (fun _ h => absurd h List.not_mem_nil) dX12_why_114
set_option maxRecDepth 20000 in
theorem lf_x_why2_1 (x : Int32) (hc_x : 0 ≤ x.toInt ∧ x.toInt ≤ 35) : 0 ≤ x.toInt ∧ x.toInt < ((36 : Nat) : Int) := by
  have b_x := ia_b x
  try simp only [ia_lt, ia_le, ia_eq, ia_m1, ia_0, ia_1, ne_eq, true_and, and_true, false_and, and_false, or_false, false_or, or_true, true_or, not_true_eq_false, not_false_eq_true] at *
  all_goals omega
set_option maxRecDepth 20000 in
theorem lf_x_why2_2 (knowF : Nat → Int32) (x : Int32) (n1 : Nat) (y4 : Int32) (ab_now : NB knowF) (hc_x : 0 ≤ x.toInt ∧ x.toInt ≤ 35) (h2 : n1 < 36) (e3 : x = nI n1) (e5 : y4 = knowF (71 + n1)) : (71 + n1) < 373 := by
  have b_x := ia_b x
  have b_y4 := ia_b y4
  try have k_0 := ia_n n1 (by first | decide | omega)
  try simp only [ia_lt, ia_le, ia_eq, ia_m1, ia_0, ia_1, ne_eq, true_and, and_true, false_and, and_false, or_false, false_or, or_true, true_or, not_true_eq_false, not_false_eq_true] at *
  all_goals omega
set_option maxRecDepth 20000 in
theorem lf_x_why2_3 (knowF : Nat → Int32) (x : Int32) (n1 : Nat) (y4 : Int32) (ab_now : NB knowF) (hc_x : 0 ≤ x.toInt ∧ x.toInt ≤ 35) (h2 : n1 < 36) (e3 : x = nI n1) (e5 : y4 = knowF (71 + n1)) : 71 ≤ (71 + n1) := by
  have b_x := ia_b x
  have b_y4 := ia_b y4
  try have k_0 := ia_n n1 (by first | decide | omega)
  try simp only [ia_lt, ia_le, ia_eq, ia_m1, ia_0, ia_1, ne_eq, true_and, and_true, false_and, and_false, or_false, false_or, or_true, true_or, not_true_eq_false, not_false_eq_true] at *
  all_goals omega
set_option maxRecDepth 20000 in
theorem lf_x_why2_4 (knowF : Nat → Int32) (x : Int32) (n1 : Nat) (y4 : Int32) (ab_now : NB knowF) (hc_x : 0 ≤ x.toInt ∧ x.toInt ≤ 35) (h2 : n1 < 36) (e3 : x = nI n1) (e5 : y4 = knowF (71 + n1)) : (71 + n1) < 107 := by
  have b_x := ia_b x
  have b_y4 := ia_b y4
  try have k_0 := ia_n n1 (by first | decide | omega)
  try simp only [ia_lt, ia_le, ia_eq, ia_m1, ia_0, ia_1, ne_eq, true_and, and_true, false_and, and_false, or_false, false_or, or_true, true_or, not_true_eq_false, not_false_eq_true] at *
  all_goals omega
set_option maxHeartbeats 4000000 in
set_option maxRecDepth 100000 in
theorem c_x_why2 (l : Launch) (dC : Nat → ClassId) (dI : Nat → Nat → Nat) (ky : Nat → ClassId) (o : Nat) (kthrown : Int32) (ktape : Nat) (ktaped : Nat) (ksize : Nat) (klimit : Nat) (kto : Nat) (kfrom : Nat) (kkind : Int32) (knumber : Int32) (ksign : Int32) (kfault : Int32) (kplace : Int32) (kword : Int64) (ktold : Int32) (know : Nat) (kread : Nat) (kkept : Nat) (ksnaps : Nat) (kaside : Nat) (kname : Nat) (kreadName : Nat) (kkeptName : Nat) (kisKept : Nat) (konces : Nat) (ksnapMany : Nat) (khasCells : Int32) (kpoured : Nat) (kfar : Nat) (ksides : Nat) (ksideMany : Nat) (kwayDays : Int32) (khasWay : Int32) (klines : Nat) (kmet : Nat) (kmetMany : Nat) (ksunk : Nat) (ktrying : Nat) (ksunkMany : Nat) (ksending : Int32) (kfleets : Int32) (ktext : Nat) (ktexts : Nat) (kseed : Int32) (kline : Nat) (kwritten : Nat) (klineMany : Nat) (khasWritten : Int32) (knode : Nat) (knodes : Nat) (konesMany : Nat) (kwithin : Nat) (ktop : Nat) (knowF : Nat → Int32) (x : Int32) (y : Int32) (iv_ko_0 : ktaped ≤ 940) (iv_ko_1 : ksize ≤ 940) (iv_ko_2 : klimit ≤ 900) (iv_ko_3 : kto ≤ ksize) (iv_ko_4 : kfrom ≤ 940) (iv_ko_5 : ksnapMany ≤ 8) (iv_ko_6 : ksideMany ≤ 36) (iv_ko_7 : kmetMany ≤ 3) (iv_ko_8 : ksunkMany ≤ 36) (iv_ko_9 : ktexts ≤ 64) (iv_ko_10 : klineMany ≤ 40) (iv_ko_11 : knodes ≤ 60) (iv_ko_12 : konesMany ≤ 20) (iv_ko_13 : kwithin ≤ 8) (iv_ko_14 : ktop ≤ 59) (ab_now : NB knowF) (hc_x : 0 ≤ x.toInt ∧ x.toInt ≤ 35) : Met l yX12_why wsX12_why ({ frames := 0, cells := 0, slots := 0, locals := 0 }) (PcP dC dI ky [.ref o, .int (nI 2), .int x, .int y] [(o, .inr (12, [.int kthrown, .ref ktape, .int (nI ktaped), .int (nI ksize), .int (nI klimit), .int (nI kto), .int (nI kfrom), .int kkind, .int knumber, .int ksign, .int kfault, .int kplace, .long kword, .int ktold, .ref know, .ref kread, .ref kkept, .ref ksnaps, .ref kaside, .ref kname, .ref kreadName, .ref kkeptName, .ref kisKept, .ref konces, .int (nI ksnapMany), .int khasCells, .ref kpoured, .ref kfar, .ref ksides, .int (nI ksideMany), .int kwayDays, .int khasWay, .ref klines, .ref kmet, .int (nI kmetMany), .ref ksunk, .ref ktrying, .int (nI ksunkMany), .int ksending, .int kfleets, .ref ktext, .int (nI ktexts), .int kseed, .ref kline, .ref kwritten, .int (nI klineMany), .int khasWritten, .ref knode, .int (nI knodes), .int (nI konesMany), .int (nI kwithin), .int (nI ktop)])), (know, .inl (ky 0, 373, .inl knowF))]) (vp_Si (fun r : Int32 => True)) 0 0 (fun _ => False) := by
  refine Met.ofW (cc := cX12_why) (maxL := 4) (ret := (some .int)) (by decide) rfl ?_
  intro p e s m args below meth c s₁ B hml hv
  obtain ⟨rfl, hP, hK⟩ := hv
  have hx := B.exec
  have hb := B.bytes
  have hr := B.returns
  have hts := atoms_spec (ws := wsX12_why) B.pre
  have hown : s.vm.findClass RX12 = some m.cls := findClass_of_methodNamed B.named
  have hlocks := B.notSynchronized
  have hin12 : ∀ w ∈ u_ws RX12 TX12 52, w ∈ wsX12_why := by decide +kernel
  have hl := lv_entry ([.ref o, .int (nI 2), .int x, .int y]) (n := 4) (Nat.le_of_ble_eq_true rfl)
  rw [lg_entry_eq]
  generalize (lg_sl ([.ref o, .int (nI 2), .int x, .int y]) ++ List.replicate (4 - (lg_sl ([.ref o, .int (nI 2), .int x, .int y])).length) Slot.unset).toArray = ls at hl ⊢
  have hl : lv_has ls 4 [(0, .ref o), (1, .int (nI 2)), (2, .int x), (3, .int y)] := hl
  refine q_name (fun Q hQ => ?_)
  generalize ([.ref o, .int (nI 2), .int x, .int y] : List Value).toArray = args at hts hQ ⊢
  refine lv_iload_n hx hb dX12_why_0 rfl (lv_at hl 1 rfl) ?_
  refine lv_tableIn (off := 114) (tgt := 115) hx hb dX12_why_1 (by decide) (by decide) rfl (by decide) ?_
  refine lv_aload_n hx hb dX12_why_115 rfl (lv_at hl 0 rfl) ?_
  refine va_get (D := (dC, dI)) (ci := 12) (v := .ref know) (C := RX12) (T := TX12) (N := 52) hx hb hts hin12 hown hK hP 0 rfl rfl 14 (by decide) (hts (.fieldLink RX12 98 "PorridgeSeaModel" "now" "[I") (List.mem_of_getElem? (i := 1) rfl)) (fun _ h9 => h9) rfl dX12_why_116 ?_
  refine lv_bipush (v := nI 71) hx hb dX12_why_119 (by decide) ?_
  refine lv_iload_n hx hb dX12_why_121 rfl (lv_at hl 2 rfl) ?_
  obtain ⟨n1, h2, e3⟩ := nat_of x 36 (by decide) (lf_x_why2_1 x hc_x)
  rw [e3]
  refine lv_iadd hx hb dX12_why_122 ?_
  refine r_ti (nI (71 + n1)) (nI_add _ _) ?_
  obtain ⟨y4, e5⟩ : ∃ z9, z9 = knowF (71 + n1) := ⟨_, rfl⟩
  refine r_iald hx hb hK hP 1 rfl (71 + n1) (lf_x_why2_2 knowF x n1 y4 ab_now hc_x h2 e3 e5) (by decide) y4 e5.symm dX12_why_123 ?_
  obtain ⟨b6, b7⟩ : (0 : Int) ≤ y4.toInt ∧ y4.toInt ≤ 9 := by rw [e5]; exact ld_NB_71 ab_now (71 + n1) (lf_x_why2_3 knowF x n1 y4 ab_now hc_x h2 e3 e5) (lf_x_why2_4 knowF x n1 y4 ab_now hc_x h2 e3 e5)
  refine lv_bipush (v := nI 9) hx hb dX12_why_124 (by decide) ?_
  refine lv_icmp_ne (tgt := 133) hx hb dX12_why_126 (by decide) (fun c8 => ?_) (fun c8 => ?_)
  · refine lv_iconst (v := nI 0) hx hb dX12_why_133 (by decide) ?_
    rw [hQ]
    exact W.iret (v := nI 0) hx hb hr (fun t9 ht9 hW9 => ⟨nI 0, rfl, trivial, ht9⟩) (fun _ h => absurd h List.not_mem_nil) dX12_why_134
  · refine lv_iconst (v := nI 1) hx hb dX12_why_129 (by decide) ?_
    refine lv_goto (tgt := 134) hx hb dX12_why_130 (by decide) ?_
    rw [hQ]
    exact W.iret (v := nI 1) hx hb hr (fun t9 ht9 hW9 => ⟨nI 1, rfl, trivial, ht9⟩) (fun _ h => absurd h List.not_mem_nil) dX12_why_134
set_option maxRecDepth 20000 in
theorem lf_x_why3_1 (x : Int32) (hc_x : 0 ≤ x.toInt ∧ x.toInt ≤ 35) : 0 ≤ x.toInt ∧ x.toInt < ((36 : Nat) : Int) := by
  have b_x := ia_b x
  try simp only [ia_lt, ia_le, ia_eq, ia_m1, ia_0, ia_1, ne_eq, true_and, and_true, false_and, and_false, or_false, false_or, or_true, true_or, not_true_eq_false, not_false_eq_true] at *
  all_goals omega
set_option maxRecDepth 20000 in
theorem lf_x_why3_2 (knowF : Nat → Int32) (x : Int32) (n1 : Nat) (y4 : Int32) (ab_now : NB knowF) (hc_x : 0 ≤ x.toInt ∧ x.toInt ≤ 35) (h2 : n1 < 36) (e3 : x = nI n1) (e5 : y4 = knowF (71 + n1)) : (71 + n1) < 373 := by
  have b_x := ia_b x
  have b_y4 := ia_b y4
  try have k_0 := ia_n n1 (by first | decide | omega)
  try simp only [ia_lt, ia_le, ia_eq, ia_m1, ia_0, ia_1, ne_eq, true_and, and_true, false_and, and_false, or_false, false_or, or_true, true_or, not_true_eq_false, not_false_eq_true] at *
  all_goals omega
set_option maxRecDepth 20000 in
theorem lf_x_why3_3 (knowF : Nat → Int32) (x : Int32) (n1 : Nat) (y4 : Int32) (ab_now : NB knowF) (hc_x : 0 ≤ x.toInt ∧ x.toInt ≤ 35) (h2 : n1 < 36) (e3 : x = nI n1) (e5 : y4 = knowF (71 + n1)) : 71 ≤ (71 + n1) := by
  have b_x := ia_b x
  have b_y4 := ia_b y4
  try have k_0 := ia_n n1 (by first | decide | omega)
  try simp only [ia_lt, ia_le, ia_eq, ia_m1, ia_0, ia_1, ne_eq, true_and, and_true, false_and, and_false, or_false, false_or, or_true, true_or, not_true_eq_false, not_false_eq_true] at *
  all_goals omega
set_option maxRecDepth 20000 in
theorem lf_x_why3_4 (knowF : Nat → Int32) (x : Int32) (n1 : Nat) (y4 : Int32) (ab_now : NB knowF) (hc_x : 0 ≤ x.toInt ∧ x.toInt ≤ 35) (h2 : n1 < 36) (e3 : x = nI n1) (e5 : y4 = knowF (71 + n1)) : (71 + n1) < 107 := by
  have b_x := ia_b x
  have b_y4 := ia_b y4
  try have k_0 := ia_n n1 (by first | decide | omega)
  try simp only [ia_lt, ia_le, ia_eq, ia_m1, ia_0, ia_1, ne_eq, true_and, and_true, false_and, and_false, or_false, false_or, or_true, true_or, not_true_eq_false, not_false_eq_true] at *
  all_goals omega
set_option maxHeartbeats 4000000 in
set_option maxRecDepth 100000 in
theorem c_x_why3 (l : Launch) (dC : Nat → ClassId) (dI : Nat → Nat → Nat) (ky : Nat → ClassId) (o : Nat) (kthrown : Int32) (ktape : Nat) (ktaped : Nat) (ksize : Nat) (klimit : Nat) (kto : Nat) (kfrom : Nat) (kkind : Int32) (knumber : Int32) (ksign : Int32) (kfault : Int32) (kplace : Int32) (kword : Int64) (ktold : Int32) (know : Nat) (kread : Nat) (kkept : Nat) (ksnaps : Nat) (kaside : Nat) (kname : Nat) (kreadName : Nat) (kkeptName : Nat) (kisKept : Nat) (konces : Nat) (ksnapMany : Nat) (khasCells : Int32) (kpoured : Nat) (kfar : Nat) (ksides : Nat) (ksideMany : Nat) (kwayDays : Int32) (khasWay : Int32) (klines : Nat) (kmet : Nat) (kmetMany : Nat) (ksunk : Nat) (ktrying : Nat) (ksunkMany : Nat) (ksending : Int32) (kfleets : Int32) (ktext : Nat) (ktexts : Nat) (kseed : Int32) (kline : Nat) (kwritten : Nat) (klineMany : Nat) (khasWritten : Int32) (knode : Nat) (knodes : Nat) (konesMany : Nat) (kwithin : Nat) (ktop : Nat) (knowF : Nat → Int32) (x : Int32) (y : Int32) (iv_ko_0 : ktaped ≤ 940) (iv_ko_1 : ksize ≤ 940) (iv_ko_2 : klimit ≤ 900) (iv_ko_3 : kto ≤ ksize) (iv_ko_4 : kfrom ≤ 940) (iv_ko_5 : ksnapMany ≤ 8) (iv_ko_6 : ksideMany ≤ 36) (iv_ko_7 : kmetMany ≤ 3) (iv_ko_8 : ksunkMany ≤ 36) (iv_ko_9 : ktexts ≤ 64) (iv_ko_10 : klineMany ≤ 40) (iv_ko_11 : knodes ≤ 60) (iv_ko_12 : konesMany ≤ 20) (iv_ko_13 : kwithin ≤ 8) (iv_ko_14 : ktop ≤ 59) (ab_now : NB knowF) (hc_x : 0 ≤ x.toInt ∧ x.toInt ≤ 35) : Met l yX12_why wsX12_why ({ frames := 0, cells := 0, slots := 0, locals := 0 }) (PcP dC dI ky [.ref o, .int (nI 3), .int x, .int y] [(o, .inr (12, [.int kthrown, .ref ktape, .int (nI ktaped), .int (nI ksize), .int (nI klimit), .int (nI kto), .int (nI kfrom), .int kkind, .int knumber, .int ksign, .int kfault, .int kplace, .long kword, .int ktold, .ref know, .ref kread, .ref kkept, .ref ksnaps, .ref kaside, .ref kname, .ref kreadName, .ref kkeptName, .ref kisKept, .ref konces, .int (nI ksnapMany), .int khasCells, .ref kpoured, .ref kfar, .ref ksides, .int (nI ksideMany), .int kwayDays, .int khasWay, .ref klines, .ref kmet, .int (nI kmetMany), .ref ksunk, .ref ktrying, .int (nI ksunkMany), .int ksending, .int kfleets, .ref ktext, .int (nI ktexts), .int kseed, .ref kline, .ref kwritten, .int (nI klineMany), .int khasWritten, .ref knode, .int (nI knodes), .int (nI konesMany), .int (nI kwithin), .int (nI ktop)])), (know, .inl (ky 0, 373, .inl knowF))]) (vp_Si (fun r : Int32 => True)) 0 0 (fun _ => False) := by
  refine Met.ofW (cc := cX12_why) (maxL := 4) (ret := (some .int)) (by decide) rfl ?_
  intro p e s m args below meth c s₁ B hml hv
  obtain ⟨rfl, hP, hK⟩ := hv
  have hx := B.exec
  have hb := B.bytes
  have hr := B.returns
  have hts := atoms_spec (ws := wsX12_why) B.pre
  have hown : s.vm.findClass RX12 = some m.cls := findClass_of_methodNamed B.named
  have hlocks := B.notSynchronized
  have hin12 : ∀ w ∈ u_ws RX12 TX12 52, w ∈ wsX12_why := by decide +kernel
  have hl := lv_entry ([.ref o, .int (nI 3), .int x, .int y]) (n := 4) (Nat.le_of_ble_eq_true rfl)
  rw [lg_entry_eq]
  generalize (lg_sl ([.ref o, .int (nI 3), .int x, .int y]) ++ List.replicate (4 - (lg_sl ([.ref o, .int (nI 3), .int x, .int y])).length) Slot.unset).toArray = ls at hl ⊢
  have hl : lv_has ls 4 [(0, .ref o), (1, .int (nI 3)), (2, .int x), (3, .int y)] := hl
  refine q_name (fun Q hQ => ?_)
  generalize ([.ref o, .int (nI 3), .int x, .int y] : List Value).toArray = args at hts hQ ⊢
  refine lv_iload_n hx hb dX12_why_0 rfl (lv_at hl 1 rfl) ?_
  refine lv_tableIn (off := 134) (tgt := 135) hx hb dX12_why_1 (by decide) (by decide) rfl (by decide) ?_
  refine lv_aload_n hx hb dX12_why_135 rfl (lv_at hl 0 rfl) ?_
  refine va_get (D := (dC, dI)) (ci := 12) (v := .ref know) (C := RX12) (T := TX12) (N := 52) hx hb hts hin12 hown hK hP 0 rfl rfl 14 (by decide) (hts (.fieldLink RX12 98 "PorridgeSeaModel" "now" "[I") (List.mem_of_getElem? (i := 1) rfl)) (fun _ h9 => h9) rfl dX12_why_136 ?_
  refine lv_bipush (v := nI 71) hx hb dX12_why_139 (by decide) ?_
  refine lv_iload_n hx hb dX12_why_141 rfl (lv_at hl 2 rfl) ?_
  obtain ⟨n1, h2, e3⟩ := nat_of x 36 (by decide) (lf_x_why3_1 x hc_x)
  rw [e3]
  refine lv_iadd hx hb dX12_why_142 ?_
  refine r_ti (nI (71 + n1)) (nI_add _ _) ?_
  obtain ⟨y4, e5⟩ : ∃ z9, z9 = knowF (71 + n1) := ⟨_, rfl⟩
  refine r_iald hx hb hK hP 1 rfl (71 + n1) (lf_x_why3_2 knowF x n1 y4 ab_now hc_x h2 e3 e5) (by decide) y4 e5.symm dX12_why_143 ?_
  obtain ⟨b6, b7⟩ : (0 : Int) ≤ y4.toInt ∧ y4.toInt ≤ 9 := by rw [e5]; exact ld_NB_71 ab_now (71 + n1) (lf_x_why3_3 knowF x n1 y4 ab_now hc_x h2 e3 e5) (lf_x_why3_4 knowF x n1 y4 ab_now hc_x h2 e3 e5)
  refine lv_if_ne (tgt := 151) hx hb dX12_why_144 (by decide) (fun c8 => ?_) (fun c8 => ?_)
  · refine lv_iconst (v := nI 0) hx hb dX12_why_151 (by decide) ?_
    rw [hQ]
    exact W.iret (v := nI 0) hx hb hr (fun t9 ht9 hW9 => ⟨nI 0, rfl, trivial, ht9⟩) (fun _ h => absurd h List.not_mem_nil) dX12_why_152
  · refine lv_iconst (v := nI 1) hx hb dX12_why_147 (by decide) ?_
    refine lv_goto (tgt := 152) hx hb dX12_why_148 (by decide) ?_
    rw [hQ]
    exact W.iret (v := nI 1) hx hb hr (fun t9 ht9 hW9 => ⟨nI 1, rfl, trivial, ht9⟩) (fun _ h => absurd h List.not_mem_nil) dX12_why_152
set_option maxHeartbeats 4000000 in
set_option maxRecDepth 100000 in
theorem c_x_why4 (l : Launch) (dC : Nat → ClassId) (dI : Nat → Nat → Nat) (ky : Nat → ClassId) (o : Nat) (kthrown : Int32) (ktape : Nat) (ktaped : Nat) (ksize : Nat) (klimit : Nat) (kto : Nat) (kfrom : Nat) (kkind : Int32) (knumber : Int32) (ksign : Int32) (kfault : Int32) (kplace : Int32) (kword : Int64) (ktold : Int32) (know : Nat) (kread : Nat) (kkept : Nat) (ksnaps : Nat) (kaside : Nat) (kname : Nat) (kreadName : Nat) (kkeptName : Nat) (kisKept : Nat) (konces : Nat) (ksnapMany : Nat) (khasCells : Int32) (kpoured : Nat) (kfar : Nat) (ksides : Nat) (ksideMany : Nat) (kwayDays : Int32) (khasWay : Int32) (klines : Nat) (kmet : Nat) (kmetMany : Nat) (ksunk : Nat) (ktrying : Nat) (ksunkMany : Nat) (ksending : Int32) (kfleets : Int32) (ktext : Nat) (ktexts : Nat) (kseed : Int32) (kline : Nat) (kwritten : Nat) (klineMany : Nat) (khasWritten : Int32) (knode : Nat) (knodes : Nat) (konesMany : Nat) (kwithin : Nat) (ktop : Nat) (knowF : Nat → Int32) (x : Int32) (y : Int32) (iv_ko_0 : ktaped ≤ 940) (iv_ko_1 : ksize ≤ 940) (iv_ko_2 : klimit ≤ 900) (iv_ko_3 : kto ≤ ksize) (iv_ko_4 : kfrom ≤ 940) (iv_ko_5 : ksnapMany ≤ 8) (iv_ko_6 : ksideMany ≤ 36) (iv_ko_7 : kmetMany ≤ 3) (iv_ko_8 : ksunkMany ≤ 36) (iv_ko_9 : ktexts ≤ 64) (iv_ko_10 : klineMany ≤ 40) (iv_ko_11 : knodes ≤ 60) (iv_ko_12 : konesMany ≤ 20) (iv_ko_13 : kwithin ≤ 8) (iv_ko_14 : ktop ≤ 59) (ab_now : NB knowF) : Met l yX12_why wsX12_why ({ frames := 0, cells := 0, slots := 0, locals := 0 }) (PcP dC dI ky [.ref o, .int (nI 4), .int x, .int y] [(o, .inr (12, [.int kthrown, .ref ktape, .int (nI ktaped), .int (nI ksize), .int (nI klimit), .int (nI kto), .int (nI kfrom), .int kkind, .int knumber, .int ksign, .int kfault, .int kplace, .long kword, .int ktold, .ref know, .ref kread, .ref kkept, .ref ksnaps, .ref kaside, .ref kname, .ref kreadName, .ref kkeptName, .ref kisKept, .ref konces, .int (nI ksnapMany), .int khasCells, .ref kpoured, .ref kfar, .ref ksides, .int (nI ksideMany), .int kwayDays, .int khasWay, .ref klines, .ref kmet, .int (nI kmetMany), .ref ksunk, .ref ktrying, .int (nI ksunkMany), .int ksending, .int kfleets, .ref ktext, .int (nI ktexts), .int kseed, .ref kline, .ref kwritten, .int (nI klineMany), .int khasWritten, .ref knode, .int (nI knodes), .int (nI konesMany), .int (nI kwithin), .int (nI ktop)])), (know, .inl (ky 0, 373, .inl knowF))]) (vp_Si (fun r : Int32 => True)) 0 0 (fun _ => False) := by
  refine Met.ofW (cc := cX12_why) (maxL := 4) (ret := (some .int)) (by decide) rfl ?_
  intro p e s m args below meth c s₁ B hml hv
  obtain ⟨rfl, hP, hK⟩ := hv
  have hx := B.exec
  have hb := B.bytes
  have hr := B.returns
  have hts := atoms_spec (ws := wsX12_why) B.pre
  have hown : s.vm.findClass RX12 = some m.cls := findClass_of_methodNamed B.named
  have hlocks := B.notSynchronized
  have hin12 : ∀ w ∈ u_ws RX12 TX12 52, w ∈ wsX12_why := by decide +kernel
  have hl := lv_entry ([.ref o, .int (nI 4), .int x, .int y]) (n := 4) (Nat.le_of_ble_eq_true rfl)
  rw [lg_entry_eq]
  generalize (lg_sl ([.ref o, .int (nI 4), .int x, .int y]) ++ List.replicate (4 - (lg_sl ([.ref o, .int (nI 4), .int x, .int y])).length) Slot.unset).toArray = ls at hl ⊢
  have hl : lv_has ls 4 [(0, .ref o), (1, .int (nI 4)), (2, .int x), (3, .int y)] := hl
  refine q_name (fun Q hQ => ?_)
  generalize ([.ref o, .int (nI 4), .int x, .int y] : List Value).toArray = args at hts hQ ⊢
  refine lv_iload_n hx hb dX12_why_0 rfl (lv_at hl 1 rfl) ?_
  refine lv_tableOut (tgt := 153) hx hb dX12_why_1 (by decide) (by decide) ?_
  refine lv_aload_n hx hb dX12_why_153 rfl (lv_at hl 0 rfl) ?_
  refine va_get (D := (dC, dI)) (ci := 12) (v := .ref know) (C := RX12) (T := TX12) (N := 52) hx hb hts hin12 hown hK hP 0 rfl rfl 14 (by decide) (hts (.fieldLink RX12 98 "PorridgeSeaModel" "now" "[I") (List.mem_of_getElem? (i := 1) rfl)) (fun _ h9 => h9) rfl dX12_why_154 ?_
  refine lv_bipush (v := nI 68) hx hb dX12_why_157 (by decide) ?_
  obtain ⟨y1, e2⟩ : ∃ z9, z9 = knowF 68 := ⟨_, rfl⟩
  refine r_iald hx hb hK hP 1 rfl 68 (by decide) (by decide) y1 e2.symm dX12_why_159 ?_
  refine lv_bipush (v := nI 30) hx hb dX12_why_160 (by decide) ?_
  refine lv_icmp_ne (tgt := 169) hx hb dX12_why_162 (by decide) (fun c3 => ?_) (fun c3 => ?_)
  · refine lv_iconst (v := nI 0) hx hb dX12_why_169 (by decide) ?_
    rw [hQ]
    exact W.iret (v := nI 0) hx hb hr (fun t9 ht9 hW9 => ⟨nI 0, rfl, trivial, ht9⟩) (fun _ h => absurd h List.not_mem_nil) dX12_why_170
  · refine lv_iconst (v := nI 1) hx hb dX12_why_165 (by decide) ?_
    refine lv_goto (tgt := 170) hx hb dX12_why_166 (by decide) ?_
    rw [hQ]
    exact W.iret (v := nI 1) hx hb hr (fun t9 ht9 hW9 => ⟨nI 1, rfl, trivial, ht9⟩) (fun _ h => absurd h List.not_mem_nil) dX12_why_170
set_option maxRecDepth 20000 in
theorem lf_x_actNo_1   : (-1 : Int32) = (-1 : Int32) := by
  try simp only [ia_lt, ia_le, ia_eq, ia_m1, ia_0, ia_1, ne_eq, true_and, and_true, false_and, and_false, or_false, false_or, or_true, true_or, not_true_eq_false, not_false_eq_true] at *
  all_goals omega
set_option maxHeartbeats 4000000 in
set_option maxRecDepth 100000 in
theorem c_x_actNo (l : Launch) (dC : Nat → ClassId) (dI : Nat → Nat → Nat) (ky : Nat → ClassId) (o : Nat) (kthrown : Int32) (ktape : Nat) (ktaped : Nat) (ksize : Nat) (klimit : Nat) (kto : Nat) (kfrom : Nat) (kkind : Int32) (knumber : Int32) (ksign : Int32) (kfault : Int32) (kplace : Int32) (kword : Int64) (ktold : Int32) (know : Nat) (kread : Nat) (kkept : Nat) (ksnaps : Nat) (kaside : Nat) (kname : Nat) (kreadName : Nat) (kkeptName : Nat) (kisKept : Nat) (konces : Nat) (ksnapMany : Nat) (khasCells : Int32) (kpoured : Nat) (kfar : Nat) (ksides : Nat) (ksideMany : Nat) (kwayDays : Int32) (khasWay : Int32) (klines : Nat) (kmet : Nat) (kmetMany : Nat) (ksunk : Nat) (ktrying : Nat) (ksunkMany : Nat) (ksending : Int32) (kfleets : Int32) (ktext : Nat) (ktexts : Nat) (kseed : Int32) (kline : Nat) (kwritten : Nat) (klineMany : Nat) (khasWritten : Int32) (knode : Nat) (knodes : Nat) (konesMany : Nat) (kwithin : Nat) (ktop : Nat) (u : Int32) (x : Int32) (y : Int32) (iv_ko_0 : ktaped ≤ 940) (iv_ko_1 : ksize ≤ 940) (iv_ko_2 : klimit ≤ 900) (iv_ko_3 : kto ≤ ksize) (iv_ko_4 : kfrom ≤ 940) (iv_ko_5 : ksnapMany ≤ 8) (iv_ko_6 : ksideMany ≤ 36) (iv_ko_7 : kmetMany ≤ 3) (iv_ko_8 : ksunkMany ≤ 36) (iv_ko_9 : ktexts ≤ 64) (iv_ko_10 : klineMany ≤ 40) (iv_ko_11 : knodes ≤ 60) (iv_ko_12 : konesMany ≤ 20) (iv_ko_13 : kwithin ≤ 8) (iv_ko_14 : ktop ≤ 59) : Met l yX12_act wsX12_act ({ frames := 0, cells := 0, slots := 0, locals := 0 }) (PcP dC dI ky [.ref o, .int u, .int x, .int y, .int (nI 0)] [(o, .inr (12, [.int kthrown, .ref ktape, .int (nI ktaped), .int (nI ksize), .int (nI klimit), .int (nI kto), .int (nI kfrom), .int kkind, .int knumber, .int ksign, .int kfault, .int kplace, .long kword, .int ktold, .ref know, .ref kread, .ref kkept, .ref ksnaps, .ref kaside, .ref kname, .ref kreadName, .ref kkeptName, .ref kisKept, .ref konces, .int (nI ksnapMany), .int khasCells, .ref kpoured, .ref kfar, .ref ksides, .int (nI ksideMany), .int kwayDays, .int khasWay, .ref klines, .ref kmet, .int (nI kmetMany), .ref ksunk, .ref ktrying, .int (nI ksunkMany), .int ksending, .int kfleets, .ref ktext, .int (nI ktexts), .int kseed, .ref kline, .ref kwritten, .int (nI klineMany), .int khasWritten, .ref knode, .int (nI knodes), .int (nI konesMany), .int (nI kwithin), .int (nI ktop)]))]) (vp_Si (fun r : Int32 => r = (-1 : Int32))) 0 0 (fun _ => False) := by
  refine Met.ofW (cc := cX12_act) (maxL := 6) (ret := (some .int)) (by decide) rfl ?_
  intro p e s m args below meth c s₁ B hml hv
  obtain ⟨rfl, hP, hK⟩ := hv
  have hx := B.exec
  have hb := B.bytes
  have hr := B.returns
  have hts := atoms_spec (ws := wsX12_act) B.pre
  have hown : s.vm.findClass RX12 = some m.cls := findClass_of_methodNamed B.named
  have hlocks := B.notSynchronized
  have hl := lv_entry ([.ref o, .int u, .int x, .int y, .int (nI 0)]) (n := 6) (Nat.le_of_ble_eq_true rfl)
  rw [lg_entry_eq]
  generalize (lg_sl ([.ref o, .int u, .int x, .int y, .int (nI 0)]) ++ List.replicate (6 - (lg_sl ([.ref o, .int u, .int x, .int y, .int (nI 0)])).length) Slot.unset).toArray = ls at hl ⊢
  have hl : lv_has ls 6 [(0, .ref o), (1, .int u), (2, .int x), (3, .int y), (4, .int (nI 0))] := hl
  refine q_name (fun Q hQ => ?_)
  generalize ([.ref o, .int u, .int x, .int y, .int (nI 0)] : List Value).toArray = args at hts hQ ⊢
  refine lv_iload hx hb dX12_act_0 (lv_at hl 4 rfl) ?_
  refine lv_if_ne (tgt := 7) hx hb dX12_act_2 (by decide) (fun c1 => absurd c1 (by decide)) (fun c1 => ?_)
  refine lv_iconst (v := (-1 : Int32)) hx hb dX12_act_5 (by decide) ?_
  rw [hQ]
  exact W.iret (v := (-1 : Int32)) hx hb hr (fun t9 ht9 hW9 => ⟨(-1 : Int32), rfl, (lf_x_actNo_1), ht9⟩) (fun _ h => absurd h List.not_mem_nil) dX12_act_6
