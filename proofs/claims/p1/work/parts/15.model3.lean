theorem dX12_now_0 : decode cX12_now 0 = .ok (.aload_n 0, 1) := by decide +kernel
theorem dX12_now_1 : decode cX12_now 1 = .ok (.iconst 0, 1) := by decide +kernel
theorem dX12_now_2 : decode cX12_now 2 = .ok (.putfield 1, 3) := by decide +kernel
theorem dX12_now_5 : decode cX12_now 5 = .ok (.iconst 0, 1) := by decide +kernel
theorem dX12_now_6 : decode cX12_now 6 = .ok (.istore_n 2, 1) := by decide +kernel
theorem dX12_now_7 : decode cX12_now 7 = .ok (.iload_n 1, 1) := by decide +kernel
theorem dX12_now_8 : decode cX12_now 8 = .ok (.tableswitch 160 0 7 #[48, 56, 64, 77, 82, 116, 144, 152], 48) := by decide +kernel
theorem dX12_now_168 : decode cX12_now 168 = .ok (.iconst (-1), 1) := by decide +kernel
theorem dX12_now_169 : decode cX12_now 169 = .ok (.ireturn, 1) := by decide +kernel
theorem dX12_now_56 : decode cX12_now 56 = .ok (.aload_n 0, 1) := by decide +kernel
theorem dX12_now_57 : decode cX12_now 57 = .ok (.getfield 98, 3) := by decide +kernel
theorem dX12_now_60 : decode cX12_now 60 = .ok (.bipush 67, 2) := by decide +kernel
theorem dX12_now_62 : decode cX12_now 62 = .ok (.iaload, 1) := by decide +kernel
theorem dX12_now_63 : decode cX12_now 63 = .ok (.ireturn, 1) := by decide +kernel
theorem dX12_now_64 : decode cX12_now 64 = .ok (.aload_n 0, 1) := by decide +kernel
theorem dX12_now_65 : decode cX12_now 65 = .ok (.getfield 98, 3) := by decide +kernel
theorem dX12_now_68 : decode cX12_now 68 = .ok (.bipush 68, 2) := by decide +kernel
theorem dX12_now_70 : decode cX12_now 70 = .ok (.iaload, 1) := by decide +kernel
theorem dX12_now_71 : decode cX12_now 71 = .ok (.ireturn, 1) := by decide +kernel
theorem dX12_now_72 : decode cX12_now 72 = .ok (.aload_n 0, 1) := by decide +kernel
theorem dX12_now_73 : decode cX12_now 73 = .ok (.invokevirtual 240, 3) := by decide +kernel
theorem dX12_now_76 : decode cX12_now 76 = .ok (.ifCond .eq 7, 3) := by decide +kernel
theorem dX12_now_83 : decode cX12_now 83 = .ok (.iconst 0, 1) := by decide +kernel
theorem dX12_now_84 : decode cX12_now 84 = .ok (.ireturn, 1) := by decide +kernel
theorem dX12_now_85 : decode cX12_now 85 = .ok (.aload_n 0, 1) := by decide +kernel
theorem dX12_now_86 : decode cX12_now 86 = .ok (.invokevirtual 269, 3) := by decide +kernel
theorem dX12_now_89 : decode cX12_now 89 = .ok (.ireturn, 1) := by decide +kernel
theorem dX12_now_90 : decode cX12_now 90 = .ok (.iconst 0, 1) := by decide +kernel
theorem dX12_now_91 : decode cX12_now 91 = .ok (.istore_n 3, 1) := by decide +kernel
theorem dX12_now_92 : decode cX12_now 92 = .ok (.iload_n 3, 1) := by decide +kernel
theorem dX12_now_93 : decode cX12_now 93 = .ok (.aload_n 0, 1) := by decide +kernel
theorem dX12_now_94 : decode cX12_now 94 = .ok (.getfield 98, 3) := by decide +kernel
theorem dX12_now_97 : decode cX12_now 97 = .ok (.iconst 3, 1) := by decide +kernel
theorem dX12_now_98 : decode cX12_now 98 = .ok (.iaload, 1) := by decide +kernel
theorem dX12_now_99 : decode cX12_now 99 = .ok (.if_icmp .ge 23, 3) := by decide +kernel
theorem dX12_now_122 : decode cX12_now 122 = .ok (.iload_n 2, 1) := by decide +kernel
theorem dX12_now_123 : decode cX12_now 123 = .ok (.ireturn, 1) := by decide +kernel
theorem dX12_now_124 : decode cX12_now 124 = .ok (.iconst 0, 1) := by decide +kernel
theorem dX12_now_125 : decode cX12_now 125 = .ok (.istore_n 3, 1) := by decide +kernel
theorem dX12_now_126 : decode cX12_now 126 = .ok (.iload_n 3, 1) := by decide +kernel
theorem dX12_now_127 : decode cX12_now 127 = .ok (.bipush 36, 2) := by decide +kernel
theorem dX12_now_129 : decode cX12_now 129 = .ok (.if_icmp .ge 21, 3) := by decide +kernel
theorem dX12_now_132 : decode cX12_now 132 = .ok (.iload_n 2, 1) := by decide +kernel
theorem dX12_now_133 : decode cX12_now 133 = .ok (.aload_n 0, 1) := by decide +kernel
theorem dX12_now_134 : decode cX12_now 134 = .ok (.getfield 98, 3) := by decide +kernel
theorem dX12_now_137 : decode cX12_now 137 = .ok (.bipush 71, 2) := by decide +kernel
theorem dX12_now_139 : decode cX12_now 139 = .ok (.iload_n 3, 1) := by decide +kernel
theorem dX12_now_140 : decode cX12_now 140 = .ok (.iadd, 1) := by decide +kernel
theorem dX12_now_141 : decode cX12_now 141 = .ok (.iaload, 1) := by decide +kernel
theorem dX12_now_142 : decode cX12_now 142 = .ok (.iadd, 1) := by decide +kernel
theorem dX12_now_143 : decode cX12_now 143 = .ok (.istore_n 2, 1) := by decide +kernel
theorem dX12_now_144 : decode cX12_now 144 = .ok (.iinc 3 1, 3) := by decide +kernel
theorem dX12_now_147 : decode cX12_now 147 = .ok (.goto (-21), 3) := by decide +kernel
theorem dX12_now_150 : decode cX12_now 150 = .ok (.iload_n 2, 1) := by decide +kernel
theorem dX12_now_151 : decode cX12_now 151 = .ok (.ireturn, 1) := by decide +kernel
theorem dX12_now_152 : decode cX12_now 152 = .ok (.aload_n 0, 1) := by decide +kernel
theorem dX12_now_153 : decode cX12_now 153 = .ok (.getfield 98, 3) := by decide +kernel
theorem dX12_now_156 : decode cX12_now 156 = .ok (.bipush 69, 2) := by decide +kernel
theorem dX12_now_158 : decode cX12_now 158 = .ok (.iaload, 1) := by decide +kernel
theorem dX12_now_159 : decode cX12_now 159 = .ok (.ireturn, 1) := by decide +kernel
theorem dX12_now_160 : decode cX12_now 160 = .ok (.aload_n 0, 1) := by decide +kernel
theorem dX12_now_161 : decode cX12_now 161 = .ok (.getfield 98, 3) := by decide +kernel
theorem dX12_now_164 : decode cX12_now 164 = .ok (.bipush 70, 2) := by decide +kernel
theorem dX12_now_166 : decode cX12_now 166 = .ok (.iaload, 1) := by decide +kernel
theorem dX12_now_167 : decode cX12_now 167 = .ok (.ireturn, 1) := by decide +kernel
theorem dX12_count_0 : decode cX12_count 0 = .ok (.aload_n 0, 1) := by decide +kernel
theorem dX12_count_1 : decode cX12_count 1 = .ok (.iconst 0, 1) := by decide +kernel
theorem dX12_count_2 : decode cX12_count 2 = .ok (.putfield 1, 3) := by decide +kernel
theorem dX12_count_5 : decode cX12_count 5 = .ok (.iload_n 1, 1) := by decide +kernel
theorem dX12_count_6 : decode cX12_count 6 = .ok (.tableswitch 90 0 6 #[42, 49, 56, 63, 70, 77, 85], 42) := by decide +kernel
theorem dX12_count_96 : decode cX12_count 96 = .ok (.iconst (-1), 1) := by decide +kernel
theorem dX12_count_97 : decode cX12_count 97 = .ok (.ireturn, 1) := by decide +kernel
theorem dX12_count_48 : decode cX12_count 48 = .ok (.aload_n 0, 1) := by decide +kernel
theorem dX12_count_49 : decode cX12_count 49 = .ok (.getfield 98, 3) := by decide +kernel
theorem dX12_count_52 : decode cX12_count 52 = .ok (.iconst 0, 1) := by decide +kernel
theorem dX12_count_53 : decode cX12_count 53 = .ok (.iaload, 1) := by decide +kernel
theorem dX12_count_54 : decode cX12_count 54 = .ok (.ireturn, 1) := by decide +kernel
theorem dX12_count_55 : decode cX12_count 55 = .ok (.aload_n 0, 1) := by decide +kernel
theorem dX12_count_56 : decode cX12_count 56 = .ok (.getfield 98, 3) := by decide +kernel
theorem dX12_count_59 : decode cX12_count 59 = .ok (.iconst 1, 1) := by decide +kernel
theorem dX12_count_60 : decode cX12_count 60 = .ok (.iaload, 1) := by decide +kernel
theorem dX12_count_61 : decode cX12_count 61 = .ok (.ireturn, 1) := by decide +kernel
theorem dX12_count_62 : decode cX12_count 62 = .ok (.aload_n 0, 1) := by decide +kernel
theorem dX12_count_63 : decode cX12_count 63 = .ok (.getfield 98, 3) := by decide +kernel
theorem dX12_count_66 : decode cX12_count 66 = .ok (.iconst 2, 1) := by decide +kernel
theorem dX12_count_67 : decode cX12_count 67 = .ok (.iaload, 1) := by decide +kernel
theorem dX12_count_68 : decode cX12_count 68 = .ok (.ireturn, 1) := by decide +kernel
theorem dX12_count_69 : decode cX12_count 69 = .ok (.aload_n 0, 1) := by decide +kernel
theorem dX12_count_70 : decode cX12_count 70 = .ok (.getfield 98, 3) := by decide +kernel
theorem dX12_count_73 : decode cX12_count 73 = .ok (.iconst 3, 1) := by decide +kernel
theorem dX12_count_74 : decode cX12_count 74 = .ok (.iaload, 1) := by decide +kernel
theorem dX12_count_75 : decode cX12_count 75 = .ok (.ireturn, 1) := by decide +kernel
theorem dX12_count_76 : decode cX12_count 76 = .ok (.aload_n 0, 1) := by decide +kernel
theorem dX12_count_77 : decode cX12_count 77 = .ok (.getfield 98, 3) := by decide +kernel
theorem dX12_count_80 : decode cX12_count 80 = .ok (.iconst 5, 1) := by decide +kernel
theorem dX12_count_81 : decode cX12_count 81 = .ok (.iaload, 1) := by decide +kernel
theorem dX12_count_82 : decode cX12_count 82 = .ok (.ireturn, 1) := by decide +kernel
theorem dX12_count_83 : decode cX12_count 83 = .ok (.aload_n 0, 1) := by decide +kernel
theorem dX12_count_84 : decode cX12_count 84 = .ok (.getfield 98, 3) := by decide +kernel
theorem dX12_count_87 : decode cX12_count 87 = .ok (.bipush 6, 2) := by decide +kernel
theorem dX12_count_89 : decode cX12_count 89 = .ok (.iaload, 1) := by decide +kernel
theorem dX12_count_90 : decode cX12_count 90 = .ok (.ireturn, 1) := by decide +kernel
theorem dX12_count_91 : decode cX12_count 91 = .ok (.aload_n 0, 1) := by decide +kernel
theorem dX12_count_92 : decode cX12_count 92 = .ok (.getfield 11, 3) := by decide +kernel
theorem dX12_count_95 : decode cX12_count 95 = .ok (.ireturn, 1) := by decide +kernel
theorem dX12_snap_0 : decode cX12_snap 0 = .ok (.aload_n 0, 1) := by decide +kernel
theorem dX12_snap_1 : decode cX12_snap 1 = .ok (.getfield 237, 3) := by decide +kernel
theorem dX12_snap_4 : decode cX12_snap 4 = .ok (.bipush 8, 2) := by decide +kernel
theorem dX12_snap_6 : decode cX12_snap 6 = .ok (.if_icmp .ne 43, 3) := by decide +kernel
theorem dX12_snap_49 : decode cX12_snap 49 = .ok (.iconst 0, 1) := by decide +kernel
theorem dX12_snap_50 : decode cX12_snap 50 = .ok (.istore_n 1, 1) := by decide +kernel
theorem dX12_snap_51 : decode cX12_snap 51 = .ok (.iload_n 1, 1) := by decide +kernel
theorem dX12_snap_52 : decode cX12_snap 52 = .ok (.bipush 64, 2) := by decide +kernel
theorem dX12_snap_54 : decode cX12_snap 54 = .ok (.if_icmp .ge 32, 3) := by decide +kernel
theorem dX12_snap_57 : decode cX12_snap 57 = .ok (.aload_n 0, 1) := by decide +kernel
theorem dX12_snap_58 : decode cX12_snap 58 = .ok (.getfield 107, 3) := by decide +kernel
theorem dX12_snap_61 : decode cX12_snap 61 = .ok (.bipush 64, 2) := by decide +kernel
theorem dX12_snap_63 : decode cX12_snap 63 = .ok (.aload_n 0, 1) := by decide +kernel
theorem dX12_snap_64 : decode cX12_snap 64 = .ok (.getfield 237, 3) := by decide +kernel
theorem dX12_snap_67 : decode cX12_snap 67 = .ok (.imul, 1) := by decide +kernel
theorem dX12_snap_68 : decode cX12_snap 68 = .ok (.iload_n 1, 1) := by decide +kernel
theorem dX12_snap_69 : decode cX12_snap 69 = .ok (.iadd, 1) := by decide +kernel
theorem dX12_snap_70 : decode cX12_snap 70 = .ok (.aload_n 0, 1) := by decide +kernel
theorem dX12_snap_71 : decode cX12_snap 71 = .ok (.getfield 98, 3) := by decide +kernel
theorem dX12_snap_74 : decode cX12_snap 74 = .ok (.bipush 67, 2) := by decide +kernel
theorem dX12_snap_76 : decode cX12_snap 76 = .ok (.iload_n 1, 1) := by decide +kernel
theorem dX12_snap_77 : decode cX12_snap 77 = .ok (.iadd, 1) := by decide +kernel
theorem dX12_snap_78 : decode cX12_snap 78 = .ok (.iaload, 1) := by decide +kernel
theorem dX12_snap_79 : decode cX12_snap 79 = .ok (.iastore, 1) := by decide +kernel
theorem dX12_snap_80 : decode cX12_snap 80 = .ok (.iinc 1 1, 3) := by decide +kernel
theorem dX12_snap_83 : decode cX12_snap 83 = .ok (.goto (-32), 3) := by decide +kernel
theorem dX12_snap_86 : decode cX12_snap 86 = .ok (.aload_n 0, 1) := by decide +kernel
theorem dX12_snap_87 : decode cX12_snap 87 = .ok (.dup, 1) := by decide +kernel
theorem dX12_snap_88 : decode cX12_snap 88 = .ok (.getfield 237, 3) := by decide +kernel
theorem dX12_snap_91 : decode cX12_snap 91 = .ok (.iconst 1, 1) := by decide +kernel
theorem dX12_snap_92 : decode cX12_snap 92 = .ok (.iadd, 1) := by decide +kernel
theorem dX12_snap_93 : decode cX12_snap 93 = .ok (.putfield 237, 3) := by decide +kernel
theorem dX12_snap_96 : decode cX12_snap 96 = .ok (.return_, 1) := by decide +kernel
theorem dX12_doStir_0 : decode cX12_doStir 0 = .ok (.iconst 0, 1) := by decide +kernel
theorem dX12_doStir_1 : decode cX12_doStir 1 = .ok (.istore_n 2, 1) := by decide +kernel
theorem dX12_doStir_2 : decode cX12_doStir 2 = .ok (.iload_n 2, 1) := by decide +kernel
theorem dX12_doStir_3 : decode cX12_doStir 3 = .ok (.bipush 36, 2) := by decide +kernel
theorem dX12_doStir_5 : decode cX12_doStir 5 = .ok (.if_icmp .ge 16, 3) := by decide +kernel
theorem dX12_doStir_8 : decode cX12_doStir 8 = .ok (.aload_n 0, 1) := by decide +kernel
theorem dX12_doStir_9 : decode cX12_doStir 9 = .ok (.getfield 130, 3) := by decide +kernel
theorem dX12_doStir_12 : decode cX12_doStir 12 = .ok (.iload_n 2, 1) := by decide +kernel
theorem dX12_doStir_13 : decode cX12_doStir 13 = .ok (.iconst 0, 1) := by decide +kernel
theorem dX12_doStir_14 : decode cX12_doStir 14 = .ok (.iastore, 1) := by decide +kernel
theorem dX12_doStir_15 : decode cX12_doStir 15 = .ok (.iinc 2 1, 3) := by decide +kernel
theorem dX12_doStir_18 : decode cX12_doStir 18 = .ok (.goto (-16), 3) := by decide +kernel
theorem dX12_doStir_21 : decode cX12_doStir 21 = .ok (.iconst 0, 1) := by decide +kernel
theorem dX12_doStir_22 : decode cX12_doStir 22 = .ok (.istore_n 2, 1) := by decide +kernel
theorem dX12_doStir_23 : decode cX12_doStir 23 = .ok (.iload_n 2, 1) := by decide +kernel
theorem dX12_doStir_24 : decode cX12_doStir 24 = .ok (.bipush 36, 2) := by decide +kernel
theorem dX12_doStir_26 : decode cX12_doStir 26 = .ok (.if_icmp .ge 37, 3) := by decide +kernel
theorem dX12_doStir_29 : decode cX12_doStir 29 = .ok (.aload_n 0, 1) := by decide +kernel
theorem dX12_doStir_30 : decode cX12_doStir 30 = .ok (.iload_n 2, 1) := by decide +kernel
theorem dX12_doStir_31 : decode cX12_doStir 31 = .ok (.invokevirtual 279, 3) := by decide +kernel
theorem dX12_doStir_34 : decode cX12_doStir 34 = .ok (.ifCond .eq 23, 3) := by decide +kernel
theorem dX12_doStir_57 : decode cX12_doStir 57 = .ok (.iinc 2 1, 3) := by decide +kernel
theorem dX12_doStir_60 : decode cX12_doStir 60 = .ok (.goto (-37), 3) := by decide +kernel
theorem dX12_doStir_37 : decode cX12_doStir 37 = .ok (.aload_n 0, 1) := by decide +kernel
theorem dX12_doStir_38 : decode cX12_doStir 38 = .ok (.getfield 130, 3) := by decide +kernel
theorem dX12_doStir_41 : decode cX12_doStir 41 = .ok (.aload_n 0, 1) := by decide +kernel
theorem dX12_doStir_42 : decode cX12_doStir 42 = .ok (.iload_n 2, 1) := by decide +kernel
theorem dX12_doStir_43 : decode cX12_doStir 43 = .ok (.iload_n 1, 1) := by decide +kernel
theorem dX12_doStir_44 : decode cX12_doStir 44 = .ok (.invokevirtual 282, 3) := by decide +kernel
theorem dX12_doStir_47 : decode cX12_doStir 47 = .ok (.aload_n 0, 1) := by decide +kernel
theorem dX12_doStir_48 : decode cX12_doStir 48 = .ok (.getfield 98, 3) := by decide +kernel
theorem dX12_doStir_51 : decode cX12_doStir 51 = .ok (.bipush 71, 2) := by decide +kernel
theorem dX12_doStir_53 : decode cX12_doStir 53 = .ok (.iload_n 2, 1) := by decide +kernel
theorem dX12_doStir_54 : decode cX12_doStir 54 = .ok (.iadd, 1) := by decide +kernel
theorem dX12_doStir_55 : decode cX12_doStir 55 = .ok (.iaload, 1) := by decide +kernel
theorem dX12_doStir_56 : decode cX12_doStir 56 = .ok (.iastore, 1) := by decide +kernel
theorem dX12_doStir_63 : decode cX12_doStir 63 = .ok (.iconst 0, 1) := by decide +kernel
theorem dX12_doStir_64 : decode cX12_doStir 64 = .ok (.istore_n 2, 1) := by decide +kernel
theorem dX12_doStir_65 : decode cX12_doStir 65 = .ok (.iload_n 2, 1) := by decide +kernel
theorem dX12_doStir_66 : decode cX12_doStir 66 = .ok (.bipush 36, 2) := by decide +kernel
theorem dX12_doStir_68 : decode cX12_doStir 68 = .ok (.if_icmp .ge 24, 3) := by decide +kernel
theorem dX12_doStir_71 : decode cX12_doStir 71 = .ok (.aload_n 0, 1) := by decide +kernel
theorem dX12_doStir_72 : decode cX12_doStir 72 = .ok (.getfield 98, 3) := by decide +kernel
theorem dX12_doStir_75 : decode cX12_doStir 75 = .ok (.bipush 71, 2) := by decide +kernel
theorem dX12_doStir_77 : decode cX12_doStir 77 = .ok (.iload_n 2, 1) := by decide +kernel
theorem dX12_doStir_78 : decode cX12_doStir 78 = .ok (.iadd, 1) := by decide +kernel
theorem dX12_doStir_79 : decode cX12_doStir 79 = .ok (.aload_n 0, 1) := by decide +kernel
theorem dX12_doStir_80 : decode cX12_doStir 80 = .ok (.getfield 130, 3) := by decide +kernel
theorem dX12_doStir_83 : decode cX12_doStir 83 = .ok (.iload_n 2, 1) := by decide +kernel
theorem dX12_doStir_84 : decode cX12_doStir 84 = .ok (.iaload, 1) := by decide +kernel
theorem dX12_doStir_85 : decode cX12_doStir 85 = .ok (.iastore, 1) := by decide +kernel
theorem dX12_doStir_86 : decode cX12_doStir 86 = .ok (.iinc 2 1, 3) := by decide +kernel
theorem dX12_doStir_89 : decode cX12_doStir 89 = .ok (.goto (-24), 3) := by decide +kernel
theorem dX12_doStir_92 : decode cX12_doStir 92 = .ok (.iconst 0, 1) := by decide +kernel
theorem dX12_doStir_93 : decode cX12_doStir 93 = .ok (.istore_n 2, 1) := by decide +kernel
theorem dX12_doStir_94 : decode cX12_doStir 94 = .ok (.iload_n 2, 1) := by decide +kernel
theorem dX12_doStir_95 : decode cX12_doStir 95 = .ok (.aload_n 0, 1) := by decide +kernel
theorem dX12_doStir_96 : decode cX12_doStir 96 = .ok (.getfield 98, 3) := by decide +kernel
theorem dX12_doStir_99 : decode cX12_doStir 99 = .ok (.iconst 2, 1) := by decide +kernel
theorem dX12_doStir_100 : decode cX12_doStir 100 = .ok (.iaload, 1) := by decide +kernel
theorem dX12_doStir_101 : decode cX12_doStir 101 = .ok (.if_icmp .ge 32, 3) := by decide +kernel
theorem dX12_doStir_133 : decode cX12_doStir 133 = .ok (.iconst 0, 1) := by decide +kernel
theorem dX12_doStir_134 : decode cX12_doStir 134 = .ok (.istore_n 2, 1) := by decide +kernel
theorem dX12_doStir_135 : decode cX12_doStir 135 = .ok (.iload_n 2, 1) := by decide +kernel
theorem dX12_doStir_136 : decode cX12_doStir 136 = .ok (.aload_n 0, 1) := by decide +kernel
theorem dX12_doStir_137 : decode cX12_doStir 137 = .ok (.getfield 98, 3) := by decide +kernel
theorem dX12_doStir_140 : decode cX12_doStir 140 = .ok (.iconst 3, 1) := by decide +kernel
theorem dX12_doStir_141 : decode cX12_doStir 141 = .ok (.iaload, 1) := by decide +kernel
theorem dX12_doStir_142 : decode cX12_doStir 142 = .ok (.if_icmp .ge 40, 3) := by decide +kernel
theorem dX12_doStir_182 : decode cX12_doStir 182 = .ok (.aload_n 0, 1) := by decide +kernel
theorem dX12_doStir_183 : decode cX12_doStir 183 = .ok (.getfield 98, 3) := by decide +kernel
theorem dX12_doStir_186 : decode cX12_doStir 186 = .ok (.bipush 69, 2) := by decide +kernel
theorem dX12_doStir_188 : decode cX12_doStir 188 = .ok (.dup2, 1) := by decide +kernel
theorem dX12_doStir_189 : decode cX12_doStir 189 = .ok (.iaload, 1) := by decide +kernel
theorem dX12_doStir_190 : decode cX12_doStir 190 = .ok (.iconst 1, 1) := by decide +kernel
theorem dX12_doStir_191 : decode cX12_doStir 191 = .ok (.iadd, 1) := by decide +kernel
theorem dX12_doStir_192 : decode cX12_doStir 192 = .ok (.iastore, 1) := by decide +kernel
theorem dX12_doStir_193 : decode cX12_doStir 193 = .ok (.return_, 1) := by decide +kernel
theorem dX12_live_0 : decode cX12_live 0 = .ok (.iload_n 1, 1) := by decide +kernel
theorem dX12_live_1 : decode cX12_live 1 = .ok (.tableswitch 149 0 3 #[31, 37, 97, 123], 31) := by decide +kernel
theorem dX12_live_32 : decode cX12_live 32 = .ok (.aload_n 0, 1) := by decide +kernel
theorem dX12_live_33 : decode cX12_live 33 = .ok (.iload_n 2, 1) := by decide +kernel
theorem dX12_live_34 : decode cX12_live 34 = .ok (.invokevirtual 285, 3) := by decide +kernel
theorem dX12_live_37 : decode cX12_live 37 = .ok (.return_, 1) := by decide +kernel
theorem dX12_live_98 : decode cX12_live 98 = .ok (.aload_n 0, 1) := by decide +kernel
theorem dX12_live_99 : decode cX12_live 99 = .ok (.getfield 98, 3) := by decide +kernel
theorem dX12_live_102 : decode cX12_live 102 = .ok (.bipush 71, 2) := by decide +kernel
theorem dX12_live_104 : decode cX12_live 104 = .ok (.iload_n 2, 1) := by decide +kernel
theorem dX12_live_105 : decode cX12_live 105 = .ok (.iadd, 1) := by decide +kernel
theorem dX12_live_106 : decode cX12_live 106 = .ok (.bipush 9, 2) := by decide +kernel
theorem dX12_live_108 : decode cX12_live 108 = .ok (.aload_n 0, 1) := by decide +kernel
theorem dX12_live_109 : decode cX12_live 109 = .ok (.getfield 98, 3) := by decide +kernel
theorem dX12_live_112 : decode cX12_live 112 = .ok (.bipush 71, 2) := by decide +kernel
theorem dX12_live_114 : decode cX12_live 114 = .ok (.iload_n 2, 1) := by decide +kernel
theorem dX12_live_115 : decode cX12_live 115 = .ok (.iadd, 1) := by decide +kernel
theorem dX12_live_116 : decode cX12_live 116 = .ok (.iaload, 1) := by decide +kernel
theorem dX12_live_117 : decode cX12_live 117 = .ok (.iload_n 3, 1) := by decide +kernel
theorem dX12_live_118 : decode cX12_live 118 = .ok (.iadd, 1) := by decide +kernel
theorem dX12_live_119 : decode cX12_live 119 = .ok (.invokestatic 288, 3) := by decide +kernel
theorem dX12_live_122 : decode cX12_live 122 = .ok (.iastore, 1) := by decide +kernel
theorem dX12_live_123 : decode cX12_live 123 = .ok (.return_, 1) := by decide +kernel
theorem dX12_live_150 : decode cX12_live 150 = .ok (.aload_n 0, 1) := by decide +kernel
theorem dX12_live_151 : decode cX12_live 151 = .ok (.getfield 98, 3) := by decide +kernel
theorem dX12_live_154 : decode cX12_live 154 = .ok (.bipush 68, 2) := by decide +kernel
theorem dX12_live_156 : decode cX12_live 156 = .ok (.bipush 30, 2) := by decide +kernel
theorem dX12_live_158 : decode cX12_live 158 = .ok (.aload_n 0, 1) := by decide +kernel
theorem dX12_live_159 : decode cX12_live 159 = .ok (.getfield 98, 3) := by decide +kernel
theorem dX12_live_162 : decode cX12_live 162 = .ok (.bipush 68, 2) := by decide +kernel
theorem dX12_live_164 : decode cX12_live 164 = .ok (.iaload, 1) := by decide +kernel
theorem dX12_live_165 : decode cX12_live 165 = .ok (.iload_n 2, 1) := by decide +kernel
theorem dX12_live_166 : decode cX12_live 166 = .ok (.iadd, 1) := by decide +kernel
theorem dX12_live_167 : decode cX12_live 167 = .ok (.invokestatic 288, 3) := by decide +kernel
theorem dX12_live_170 : decode cX12_live 170 = .ok (.iastore, 1) := by decide +kernel
theorem dX12_live_171 : decode cX12_live 171 = .ok (.return_, 1) := by decide +kernel
theorem dX12_why_0 : decode cX12_why 0 = .ok (.iload_n 1, 1) := by decide +kernel
theorem dX12_why_1 : decode cX12_why 1 = .ok (.tableswitch 152 0 3 #[31, 44, 114, 134], 31) := by decide +kernel
theorem dX12_why_32 : decode cX12_why 32 = .ok (.aload_n 0, 1) := by decide +kernel
theorem dX12_why_33 : decode cX12_why 33 = .ok (.invokevirtual 240, 3) := by decide +kernel
theorem dX12_why_36 : decode cX12_why 36 = .ok (.ifCond .eq 7, 3) := by decide +kernel
theorem dX12_why_43 : decode cX12_why 43 = .ok (.iconst 0, 1) := by decide +kernel
theorem dX12_why_44 : decode cX12_why 44 = .ok (.ireturn, 1) := by decide +kernel
theorem dX12_why_153 : decode cX12_why 153 = .ok (.aload_n 0, 1) := by decide +kernel
theorem dX12_why_154 : decode cX12_why 154 = .ok (.getfield 98, 3) := by decide +kernel
theorem dX12_why_157 : decode cX12_why 157 = .ok (.bipush 68, 2) := by decide +kernel
theorem dX12_why_159 : decode cX12_why 159 = .ok (.iaload, 1) := by decide +kernel
theorem dX12_why_160 : decode cX12_why 160 = .ok (.bipush 30, 2) := by decide +kernel
theorem dX12_why_162 : decode cX12_why 162 = .ok (.if_icmp .ne 7, 3) := by decide +kernel
theorem dX12_why_169 : decode cX12_why 169 = .ok (.iconst 0, 1) := by decide +kernel
theorem dX12_why_170 : decode cX12_why 170 = .ok (.ireturn, 1) := by decide +kernel
theorem dX12_why_115 : decode cX12_why 115 = .ok (.aload_n 0, 1) := by decide +kernel
theorem dX12_why_116 : decode cX12_why 116 = .ok (.getfield 98, 3) := by decide +kernel
theorem dX12_why_119 : decode cX12_why 119 = .ok (.bipush 71, 2) := by decide +kernel
theorem dX12_why_121 : decode cX12_why 121 = .ok (.iload_n 2, 1) := by decide +kernel
theorem dX12_why_122 : decode cX12_why 122 = .ok (.iadd, 1) := by decide +kernel
theorem dX12_why_123 : decode cX12_why 123 = .ok (.iaload, 1) := by decide +kernel
theorem dX12_why_124 : decode cX12_why 124 = .ok (.bipush 9, 2) := by decide +kernel
theorem dX12_why_126 : decode cX12_why 126 = .ok (.if_icmp .ne 7, 3) := by decide +kernel
theorem dX12_why_133 : decode cX12_why 133 = .ok (.iconst 0, 1) := by decide +kernel
theorem dX12_why_134 : decode cX12_why 134 = .ok (.ireturn, 1) := by decide +kernel
theorem dX12_why_135 : decode cX12_why 135 = .ok (.aload_n 0, 1) := by decide +kernel
theorem dX12_why_136 : decode cX12_why 136 = .ok (.getfield 98, 3) := by decide +kernel
theorem dX12_why_139 : decode cX12_why 139 = .ok (.bipush 71, 2) := by decide +kernel
theorem dX12_why_141 : decode cX12_why 141 = .ok (.iload_n 2, 1) := by decide +kernel
theorem dX12_why_142 : decode cX12_why 142 = .ok (.iadd, 1) := by decide +kernel
theorem dX12_why_143 : decode cX12_why 143 = .ok (.iaload, 1) := by decide +kernel
theorem dX12_why_144 : decode cX12_why 144 = .ok (.ifCond .ne 7, 3) := by decide +kernel
theorem dX12_why_147 : decode cX12_why 147 = .ok (.iconst 1, 1) := by decide +kernel
theorem dX12_why_148 : decode cX12_why 148 = .ok (.goto 4, 3) := by decide +kernel
theorem dX12_why_152 : decode cX12_why 152 = .ok (.ireturn, 1) := by decide +kernel
theorem dX12_act_0 : decode cX12_act 0 = .ok (.iload 4, 2) := by decide +kernel
theorem dX12_act_2 : decode cX12_act 2 = .ok (.ifCond .ne 5, 3) := by decide +kernel
theorem dX12_act_5 : decode cX12_act 5 = .ok (.iconst (-1), 1) := by decide +kernel
theorem dX12_act_6 : decode cX12_act 6 = .ok (.ireturn, 1) := by decide +kernel
theorem dX12_act_7 : decode cX12_act 7 = .ok (.aload_n 0, 1) := by decide +kernel
theorem dX12_act_8 : decode cX12_act 8 = .ok (.iload_n 1, 1) := by decide +kernel
theorem dX12_act_9 : decode cX12_act 9 = .ok (.iload_n 2, 1) := by decide +kernel
theorem dX12_act_10 : decode cX12_act 10 = .ok (.iload_n 3, 1) := by decide +kernel
theorem dX12_act_11 : decode cX12_act 11 = .ok (.invokevirtual 291, 3) := by decide +kernel
theorem dX12_act_14 : decode cX12_act 14 = .ok (.istore 5, 2) := by decide +kernel
theorem dX12_act_16 : decode cX12_act 16 = .ok (.iload 5, 2) := by decide +kernel
theorem dX12_act_18 : decode cX12_act 18 = .ok (.ifCond .eq 6, 3) := by decide +kernel
theorem dX12_act_24 : decode cX12_act 24 = .ok (.aload_n 0, 1) := by decide +kernel
theorem dX12_act_25 : decode cX12_act 25 = .ok (.invokevirtual 295, 3) := by decide +kernel
theorem dX12_act_28 : decode cX12_act 28 = .ok (.aload_n 0, 1) := by decide +kernel
theorem dX12_act_29 : decode cX12_act 29 = .ok (.iload_n 1, 1) := by decide +kernel
theorem dX12_act_30 : decode cX12_act 30 = .ok (.iload_n 2, 1) := by decide +kernel
theorem dX12_act_31 : decode cX12_act 31 = .ok (.iload_n 3, 1) := by decide +kernel
theorem dX12_act_32 : decode cX12_act 32 = .ok (.invokevirtual 298, 3) := by decide +kernel
theorem dX12_act_35 : decode cX12_act 35 = .ok (.iconst 0, 1) := by decide +kernel
theorem dX12_act_36 : decode cX12_act 36 = .ok (.ireturn, 1) := by decide +kernel
theorem dX12_act_21 : decode cX12_act 21 = .ok (.iload 5, 2) := by decide +kernel
theorem dX12_act_23 : decode cX12_act 23 = .ok (.ireturn, 1) := by decide +kernel
theorem dX12_stir_0 : decode cX12_stir 0 = .ok (.aload_n 0, 1) := by decide +kernel
theorem dX12_stir_1 : decode cX12_stir 1 = .ok (.iconst 0, 1) := by decide +kernel
theorem dX12_stir_2 : decode cX12_stir 2 = .ok (.putfield 1, 3) := by decide +kernel
theorem dX12_stir_5 : decode cX12_stir 5 = .ok (.aload_n 0, 1) := by decide +kernel
theorem dX12_stir_6 : decode cX12_stir 6 = .ok (.iconst 0, 1) := by decide +kernel
theorem dX12_stir_7 : decode cX12_stir 7 = .ok (.iload_n 1, 1) := by decide +kernel
theorem dX12_stir_8 : decode cX12_stir 8 = .ok (.iload_n 2, 1) := by decide +kernel
theorem dX12_stir_9 : decode cX12_stir 9 = .ok (.iload_n 3, 1) := by decide +kernel
theorem dX12_stir_10 : decode cX12_stir 10 = .ok (.invokestatic 302, 3) := by decide +kernel
theorem dX12_stir_13 : decode cX12_stir 13 = .ok (.iconst 0, 1) := by decide +kernel
theorem dX12_stir_14 : decode cX12_stir 14 = .ok (.iload_n 1, 1) := by decide +kernel
theorem dX12_stir_15 : decode cX12_stir 15 = .ok (.iconst 0, 1) := by decide +kernel
theorem dX12_stir_16 : decode cX12_stir 16 = .ok (.iconst 1, 1) := by decide +kernel
theorem dX12_stir_17 : decode cX12_stir 17 = .ok (.invokestatic 75, 3) := by decide +kernel
theorem dX12_stir_20 : decode cX12_stir 20 = .ok (.ifCond .eq 41, 3) := by decide +kernel
theorem dX12_stir_61 : decode cX12_stir 61 = .ok (.iconst 0, 1) := by decide +kernel
theorem dX12_stir_62 : decode cX12_stir 62 = .ok (.invokevirtual 305, 3) := by decide +kernel
theorem dX12_stir_65 : decode cX12_stir 65 = .ok (.ireturn, 1) := by decide +kernel
theorem dX12_stir_23 : decode cX12_stir 23 = .ok (.iload_n 3, 1) := by decide +kernel
theorem dX12_stir_24 : decode cX12_stir 24 = .ok (.iconst 0, 1) := by decide +kernel
theorem dX12_stir_25 : decode cX12_stir 25 = .ok (.iconst 1, 1) := by decide +kernel
theorem dX12_stir_26 : decode cX12_stir 26 = .ok (.invokestatic 75, 3) := by decide +kernel
theorem dX12_stir_29 : decode cX12_stir 29 = .ok (.ifCond .eq 32, 3) := by decide +kernel
theorem dX12_stir_32 : decode cX12_stir 32 = .ok (.iload_n 2, 1) := by decide +kernel
theorem dX12_stir_33 : decode cX12_stir 33 = .ok (.iconst 0, 1) := by decide +kernel
theorem dX12_stir_34 : decode cX12_stir 34 = .ok (.aload_n 0, 1) := by decide +kernel
theorem dX12_stir_35 : decode cX12_stir 35 = .ok (.getfield 98, 3) := by decide +kernel
theorem dX12_stir_38 : decode cX12_stir 38 = .ok (.iload_n 1, 1) := by decide +kernel
theorem dX12_stir_39 : decode cX12_stir 39 = .ok (.iconst 1, 1) := by decide +kernel
theorem dX12_stir_40 : decode cX12_stir 40 = .ok (.if_icmp .ne 7, 3) := by decide +kernel
theorem dX12_stir_47 : decode cX12_stir 47 = .ok (.iconst 1, 1) := by decide +kernel
theorem dX12_stir_48 : decode cX12_stir 48 = .ok (.iaload, 1) := by decide +kernel
theorem dX12_stir_49 : decode cX12_stir 49 = .ok (.iconst 1, 1) := by decide +kernel
theorem dX12_stir_50 : decode cX12_stir 50 = .ok (.isub, 1) := by decide +kernel
theorem dX12_stir_51 : decode cX12_stir 51 = .ok (.invokestatic 75, 3) := by decide +kernel
theorem dX12_stir_54 : decode cX12_stir 54 = .ok (.ifCond .eq 7, 3) := by decide +kernel
theorem dX12_stir_57 : decode cX12_stir 57 = .ok (.iconst 1, 1) := by decide +kernel
theorem dX12_stir_58 : decode cX12_stir 58 = .ok (.goto 4, 3) := by decide +kernel
theorem dX12_stir_43 : decode cX12_stir 43 = .ok (.iconst 0, 1) := by decide +kernel
theorem dX12_stir_44 : decode cX12_stir 44 = .ok (.goto 4, 3) := by decide +kernel
theorem dX12_row_0 : decode cX12_row 0 = .ok (.aload_n 0, 1) := by decide +kernel
theorem dX12_row_1 : decode cX12_row 1 = .ok (.iconst 0, 1) := by decide +kernel
theorem dX12_row_2 : decode cX12_row 2 = .ok (.putfield 1, 3) := by decide +kernel
theorem dX12_row_5 : decode cX12_row 5 = .ok (.aload_n 0, 1) := by decide +kernel
theorem dX12_row_6 : decode cX12_row 6 = .ok (.iconst 1, 1) := by decide +kernel
theorem dX12_row_7 : decode cX12_row 7 = .ok (.iload_n 1, 1) := by decide +kernel
theorem dX12_row_8 : decode cX12_row 8 = .ok (.iload_n 2, 1) := by decide +kernel
theorem dX12_row_9 : decode cX12_row 9 = .ok (.aload_n 0, 1) := by decide +kernel
theorem dX12_row_10 : decode cX12_row 10 = .ok (.iload_n 1, 1) := by decide +kernel
theorem dX12_row_11 : decode cX12_row 11 = .ok (.invokevirtual 260, 3) := by decide +kernel
theorem dX12_row_14 : decode cX12_row 14 = .ok (.ifCond .eq 16, 3) := by decide +kernel
theorem dX12_row_30 : decode cX12_row 30 = .ok (.iconst 0, 1) := by decide +kernel
theorem dX12_row_31 : decode cX12_row 31 = .ok (.invokevirtual 305, 3) := by decide +kernel
theorem dX12_row_34 : decode cX12_row 34 = .ok (.ireturn, 1) := by decide +kernel
theorem dX12_flour_0 : decode cX12_flour 0 = .ok (.aload_n 0, 1) := by decide +kernel
theorem dX12_flour_1 : decode cX12_flour 1 = .ok (.iconst 0, 1) := by decide +kernel
theorem dX12_flour_2 : decode cX12_flour 2 = .ok (.putfield 1, 3) := by decide +kernel
theorem dX12_flour_5 : decode cX12_flour 5 = .ok (.aload_n 0, 1) := by decide +kernel
theorem dX12_flour_6 : decode cX12_flour 6 = .ok (.iconst 2, 1) := by decide +kernel
theorem dX12_flour_7 : decode cX12_flour 7 = .ok (.bipush 6, 2) := by decide +kernel
theorem dX12_flour_9 : decode cX12_flour 9 = .ok (.iload_n 2, 1) := by decide +kernel
theorem dX12_flour_10 : decode cX12_flour 10 = .ok (.imul, 1) := by decide +kernel
theorem dX12_flour_11 : decode cX12_flour 11 = .ok (.iload_n 1, 1) := by decide +kernel
theorem dX12_flour_12 : decode cX12_flour 12 = .ok (.iadd, 1) := by decide +kernel
theorem dX12_flour_13 : decode cX12_flour 13 = .ok (.iload_n 3, 1) := by decide +kernel
theorem dX12_flour_14 : decode cX12_flour 14 = .ok (.aload_n 0, 1) := by decide +kernel
theorem dX12_flour_15 : decode cX12_flour 15 = .ok (.iload_n 1, 1) := by decide +kernel
theorem dX12_flour_16 : decode cX12_flour 16 = .ok (.iload_n 2, 1) := by decide +kernel
theorem dX12_flour_17 : decode cX12_flour 17 = .ok (.invokevirtual 252, 3) := by decide +kernel
theorem dX12_flour_20 : decode cX12_flour 20 = .ok (.ifCond .eq 17, 3) := by decide +kernel
theorem dX12_flour_37 : decode cX12_flour 37 = .ok (.iconst 0, 1) := by decide +kernel
theorem dX12_flour_38 : decode cX12_flour 38 = .ok (.invokevirtual 305, 3) := by decide +kernel
theorem dX12_flour_41 : decode cX12_flour 41 = .ok (.ireturn, 1) := by decide +kernel
theorem dX12_flour_23 : decode cX12_flour 23 = .ok (.iload_n 3, 1) := by decide +kernel
theorem dX12_flour_24 : decode cX12_flour 24 = .ok (.iconst 1, 1) := by decide +kernel
theorem dX12_flour_25 : decode cX12_flour 25 = .ok (.bipush 9, 2) := by decide +kernel
theorem dX12_flour_27 : decode cX12_flour 27 = .ok (.invokestatic 75, 3) := by decide +kernel
theorem dX12_flour_30 : decode cX12_flour 30 = .ok (.ifCond .eq 7, 3) := by decide +kernel
theorem dX12_flour_33 : decode cX12_flour 33 = .ok (.iconst 1, 1) := by decide +kernel
theorem dX12_flour_34 : decode cX12_flour 34 = .ok (.goto 4, 3) := by decide +kernel
theorem dX12_milk_0 : decode cX12_milk 0 = .ok (.aload_n 0, 1) := by decide +kernel
theorem dX12_milk_1 : decode cX12_milk 1 = .ok (.iconst 0, 1) := by decide +kernel
theorem dX12_milk_2 : decode cX12_milk 2 = .ok (.putfield 1, 3) := by decide +kernel
theorem dX12_milk_5 : decode cX12_milk 5 = .ok (.aload_n 0, 1) := by decide +kernel
theorem dX12_milk_6 : decode cX12_milk 6 = .ok (.iconst 3, 1) := by decide +kernel
theorem dX12_milk_7 : decode cX12_milk 7 = .ok (.bipush 6, 2) := by decide +kernel
theorem dX12_milk_9 : decode cX12_milk 9 = .ok (.iload_n 2, 1) := by decide +kernel
theorem dX12_milk_10 : decode cX12_milk 10 = .ok (.imul, 1) := by decide +kernel
theorem dX12_milk_11 : decode cX12_milk 11 = .ok (.iload_n 1, 1) := by decide +kernel
theorem dX12_milk_12 : decode cX12_milk 12 = .ok (.iadd, 1) := by decide +kernel
theorem dX12_milk_13 : decode cX12_milk 13 = .ok (.iload_n 3, 1) := by decide +kernel
theorem dX12_milk_14 : decode cX12_milk 14 = .ok (.aload_n 0, 1) := by decide +kernel
theorem dX12_milk_15 : decode cX12_milk 15 = .ok (.iload_n 1, 1) := by decide +kernel
theorem dX12_milk_16 : decode cX12_milk 16 = .ok (.iload_n 2, 1) := by decide +kernel
theorem dX12_milk_17 : decode cX12_milk 17 = .ok (.invokevirtual 252, 3) := by decide +kernel
theorem dX12_milk_20 : decode cX12_milk 20 = .ok (.ifCond .eq 17, 3) := by decide +kernel
theorem dX12_milk_37 : decode cX12_milk 37 = .ok (.iconst 0, 1) := by decide +kernel
theorem dX12_milk_38 : decode cX12_milk 38 = .ok (.invokevirtual 305, 3) := by decide +kernel
theorem dX12_milk_41 : decode cX12_milk 41 = .ok (.ireturn, 1) := by decide +kernel
theorem dX12_milk_23 : decode cX12_milk 23 = .ok (.iload_n 3, 1) := by decide +kernel
theorem dX12_milk_24 : decode cX12_milk 24 = .ok (.iconst 1, 1) := by decide +kernel
theorem dX12_milk_25 : decode cX12_milk 25 = .ok (.bipush 9, 2) := by decide +kernel
theorem dX12_milk_27 : decode cX12_milk 27 = .ok (.invokestatic 75, 3) := by decide +kernel
theorem dX12_milk_30 : decode cX12_milk 30 = .ok (.ifCond .eq 7, 3) := by decide +kernel
theorem dX12_milk_33 : decode cX12_milk 33 = .ok (.iconst 1, 1) := by decide +kernel
theorem dX12_milk_34 : decode cX12_milk 34 = .ok (.goto 4, 3) := by decide +kernel
theorem dX12_stove_0 : decode cX12_stove 0 = .ok (.aload_n 0, 1) := by decide +kernel
theorem dX12_stove_1 : decode cX12_stove 1 = .ok (.iconst 0, 1) := by decide +kernel
theorem dX12_stove_2 : decode cX12_stove 2 = .ok (.putfield 1, 3) := by decide +kernel
theorem dX12_stove_5 : decode cX12_stove 5 = .ok (.aload_n 0, 1) := by decide +kernel
theorem dX12_stove_6 : decode cX12_stove 6 = .ok (.iconst 4, 1) := by decide +kernel
theorem dX12_stove_7 : decode cX12_stove 7 = .ok (.iload_n 1, 1) := by decide +kernel
theorem dX12_stove_8 : decode cX12_stove 8 = .ok (.iconst 0, 1) := by decide +kernel
theorem dX12_stove_9 : decode cX12_stove 9 = .ok (.iload_n 1, 1) := by decide +kernel
theorem dX12_stove_10 : decode cX12_stove 10 = .ok (.iconst 1, 1) := by decide +kernel
theorem dX12_stove_11 : decode cX12_stove 11 = .ok (.bipush 20, 2) := by decide +kernel
theorem dX12_stove_13 : decode cX12_stove 13 = .ok (.invokestatic 75, 3) := by decide +kernel
theorem dX12_stove_16 : decode cX12_stove 16 = .ok (.invokevirtual 305, 3) := by decide +kernel
theorem dX12_stove_19 : decode cX12_stove 19 = .ok (.ireturn, 1) := by decide +kernel
theorem dX12_oneDay_0 : decode cX12_oneDay 0 = .ok (.iconst 0, 1) := by decide +kernel
theorem dX12_oneDay_1 : decode cX12_oneDay 1 = .ok (.istore_n 1, 1) := by decide +kernel
theorem dX12_oneDay_2 : decode cX12_oneDay 2 = .ok (.iload_n 1, 1) := by decide +kernel
theorem dX12_oneDay_3 : decode cX12_oneDay 3 = .ok (.aload_n 0, 1) := by decide +kernel
theorem dX12_oneDay_4 : decode cX12_oneDay 4 = .ok (.getfield 98, 3) := by decide +kernel
theorem dX12_oneDay_7 : decode cX12_oneDay 7 = .ok (.iconst 3, 1) := by decide +kernel
theorem dX12_oneDay_8 : decode cX12_oneDay 8 = .ok (.iaload, 1) := by decide +kernel
theorem dX12_oneDay_9 : decode cX12_oneDay 9 = .ok (.if_icmp .ge 69, 3) := by decide +kernel
theorem dX12_oneDay_78 : decode cX12_oneDay 78 = .ok (.aload_n 0, 1) := by decide +kernel
theorem dX12_oneDay_79 : decode cX12_oneDay 79 = .ok (.getfield 98, 3) := by decide +kernel
theorem dX12_oneDay_82 : decode cX12_oneDay 82 = .ok (.bipush 68, 2) := by decide +kernel
theorem dX12_oneDay_84 : decode cX12_oneDay 84 = .ok (.dup2, 1) := by decide +kernel
theorem dX12_oneDay_85 : decode cX12_oneDay 85 = .ok (.iaload, 1) := by decide +kernel
theorem dX12_oneDay_86 : decode cX12_oneDay 86 = .ok (.aload_n 0, 1) := by decide +kernel
theorem dX12_oneDay_87 : decode cX12_oneDay 87 = .ok (.getfield 98, 3) := by decide +kernel
theorem dX12_oneDay_90 : decode cX12_oneDay 90 = .ok (.iconst 5, 1) := by decide +kernel
theorem dX12_oneDay_91 : decode cX12_oneDay 91 = .ok (.iaload, 1) := by decide +kernel
theorem dX12_oneDay_92 : decode cX12_oneDay 92 = .ok (.aload_n 0, 1) := by decide +kernel
theorem dX12_oneDay_93 : decode cX12_oneDay 93 = .ok (.getfield 98, 3) := by decide +kernel
theorem dX12_oneDay_96 : decode cX12_oneDay 96 = .ok (.bipush 68, 2) := by decide +kernel
theorem dX12_oneDay_98 : decode cX12_oneDay 98 = .ok (.iaload, 1) := by decide +kernel
theorem dX12_oneDay_99 : decode cX12_oneDay 99 = .ok (.invokestatic 288, 3) := by decide +kernel
theorem dX12_oneDay_102 : decode cX12_oneDay 102 = .ok (.isub, 1) := by decide +kernel
theorem dX12_oneDay_103 : decode cX12_oneDay 103 = .ok (.iastore, 1) := by decide +kernel
theorem dX12_oneDay_104 : decode cX12_oneDay 104 = .ok (.aload_n 0, 1) := by decide +kernel
theorem dX12_oneDay_105 : decode cX12_oneDay 105 = .ok (.getfield 98, 3) := by decide +kernel
theorem dX12_oneDay_108 : decode cX12_oneDay 108 = .ok (.bipush 67, 2) := by decide +kernel
theorem dX12_oneDay_110 : decode cX12_oneDay 110 = .ok (.dup2, 1) := by decide +kernel
theorem dX12_oneDay_111 : decode cX12_oneDay 111 = .ok (.iaload, 1) := by decide +kernel
theorem dX12_oneDay_112 : decode cX12_oneDay 112 = .ok (.iconst 1, 1) := by decide +kernel
theorem dX12_oneDay_113 : decode cX12_oneDay 113 = .ok (.iadd, 1) := by decide +kernel
theorem dX12_oneDay_114 : decode cX12_oneDay 114 = .ok (.iastore, 1) := by decide +kernel
theorem dX12_oneDay_115 : decode cX12_oneDay 115 = .ok (.return_, 1) := by decide +kernel
theorem dX12_passDays_0 : decode cX12_passDays 0 = .ok (.iload_n 1, 1) := by decide +kernel
theorem dX12_passDays_1 : decode cX12_passDays 1 = .ok (.sipush 400, 3) := by decide +kernel
theorem dX12_passDays_4 : decode cX12_passDays 4 = .ok (.aload_n 0, 1) := by decide +kernel
theorem dX12_passDays_5 : decode cX12_passDays 5 = .ok (.getfield 98, 3) := by decide +kernel
theorem dX12_passDays_8 : decode cX12_passDays 8 = .ok (.bipush 67, 2) := by decide +kernel
theorem dX12_passDays_10 : decode cX12_passDays 10 = .ok (.iaload, 1) := by decide +kernel
theorem dX12_passDays_11 : decode cX12_passDays 11 = .ok (.isub, 1) := by decide +kernel
theorem dX12_passDays_12 : decode cX12_passDays 12 = .ok (.invokestatic 288, 3) := by decide +kernel
theorem dX12_passDays_15 : decode cX12_passDays 15 = .ok (.istore_n 2, 1) := by decide +kernel
theorem dX12_passDays_16 : decode cX12_passDays 16 = .ok (.iconst 0, 1) := by decide +kernel
theorem dX12_passDays_17 : decode cX12_passDays 17 = .ok (.istore_n 3, 1) := by decide +kernel
theorem dX12_passDays_18 : decode cX12_passDays 18 = .ok (.iload_n 3, 1) := by decide +kernel
theorem dX12_passDays_19 : decode cX12_passDays 19 = .ok (.iload_n 2, 1) := by decide +kernel
theorem dX12_passDays_20 : decode cX12_passDays 20 = .ok (.if_icmp .ge 13, 3) := by decide +kernel
theorem dX12_passDays_23 : decode cX12_passDays 23 = .ok (.aload_n 0, 1) := by decide +kernel
theorem dX12_passDays_24 : decode cX12_passDays 24 = .ok (.invokevirtual 309, 3) := by decide +kernel
theorem dX12_passDays_27 : decode cX12_passDays 27 = .ok (.iinc 3 1, 3) := by decide +kernel
theorem dX12_passDays_30 : decode cX12_passDays 30 = .ok (.goto (-12), 3) := by decide +kernel
theorem dX12_passDays_33 : decode cX12_passDays 33 = .ok (.iload_n 2, 1) := by decide +kernel
theorem dX12_passDays_34 : decode cX12_passDays 34 = .ok (.ireturn, 1) := by decide +kernel
theorem dX12_days_0 : decode cX12_days 0 = .ok (.aload_n 0, 1) := by decide +kernel
theorem dX12_days_1 : decode cX12_days 1 = .ok (.iconst 0, 1) := by decide +kernel
theorem dX12_days_2 : decode cX12_days 2 = .ok (.putfield 1, 3) := by decide +kernel
theorem dX12_days_5 : decode cX12_days 5 = .ok (.iload_n 1, 1) := by decide +kernel
theorem dX12_days_6 : decode cX12_days 6 = .ok (.iconst 1, 1) := by decide +kernel
theorem dX12_days_7 : decode cX12_days 7 = .ok (.bipush 60, 2) := by decide +kernel
theorem dX12_days_9 : decode cX12_days 9 = .ok (.invokestatic 75, 3) := by decide +kernel
theorem dX12_days_12 : decode cX12_days 12 = .ok (.ifCond .ne 5, 3) := by decide +kernel
theorem dX12_days_17 : decode cX12_days 17 = .ok (.aload_n 0, 1) := by decide +kernel
theorem dX12_days_18 : decode cX12_days 18 = .ok (.getfield 98, 3) := by decide +kernel
theorem dX12_days_21 : decode cX12_days 21 = .ok (.bipush 67, 2) := by decide +kernel
theorem dX12_days_23 : decode cX12_days 23 = .ok (.iaload, 1) := by decide +kernel
theorem dX12_days_24 : decode cX12_days 24 = .ok (.sipush 400, 3) := by decide +kernel
theorem dX12_days_27 : decode cX12_days 27 = .ok (.if_icmp .ne 5, 3) := by decide +kernel
theorem dX12_days_32 : decode cX12_days 32 = .ok (.aload_n 0, 1) := by decide +kernel
theorem dX12_days_33 : decode cX12_days 33 = .ok (.invokevirtual 295, 3) := by decide +kernel
theorem dX12_days_36 : decode cX12_days 36 = .ok (.aload_n 0, 1) := by decide +kernel
theorem dX12_days_37 : decode cX12_days 37 = .ok (.iload_n 1, 1) := by decide +kernel
theorem dX12_days_38 : decode cX12_days 38 = .ok (.invokevirtual 312, 3) := by decide +kernel
theorem dX12_days_41 : decode cX12_days 41 = .ok (.ireturn, 1) := by decide +kernel
theorem dX12_days_15 : decode cX12_days 15 = .ok (.iconst (-1), 1) := by decide +kernel
theorem dX12_days_16 : decode cX12_days 16 = .ok (.ireturn, 1) := by decide +kernel
theorem dX12_draw_0 : decode cX12_draw 0 = .ok (.aload_n 0, 1) := by decide +kernel
theorem dX12_draw_1 : decode cX12_draw 1 = .ok (.aload_n 0, 1) := by decide +kernel
theorem dX12_draw_2 : decode cX12_draw 2 = .ok (.getfield 376, 3) := by decide +kernel
theorem dX12_draw_5 : decode cX12_draw 5 = .ok (.ldc_w 379, 3) := by decide +kernel
theorem dX12_draw_8 : decode cX12_draw 8 = .ok (.imul, 1) := by decide +kernel
theorem dX12_draw_9 : decode cX12_draw 9 = .ok (.sipush 12345, 3) := by decide +kernel
theorem dX12_draw_12 : decode cX12_draw 12 = .ok (.iadd, 1) := by decide +kernel
theorem dX12_draw_13 : decode cX12_draw 13 = .ok (.putfield 376, 3) := by decide +kernel
theorem dX12_draw_16 : decode cX12_draw 16 = .ok (.aload_n 0, 1) := by decide +kernel
theorem dX12_draw_17 : decode cX12_draw 17 = .ok (.getfield 376, 3) := by decide +kernel
theorem dX12_draw_20 : decode cX12_draw 20 = .ok (.bipush 8, 2) := by decide +kernel
theorem dX12_draw_22 : decode cX12_draw 22 = .ok (.iushr, 1) := by decide +kernel
theorem dX12_draw_23 : decode cX12_draw 23 = .ok (.iload_n 1, 1) := by decide +kernel
theorem dX12_draw_24 : decode cX12_draw 24 = .ok (.irem, 1) := by decide +kernel
theorem dX12_draw_25 : decode cX12_draw 25 = .ok (.ireturn, 1) := by decide +kernel
theorem dX12_drawsLine_0 : decode cX12_drawsLine 0 = .ok (.aload_n 0, 1) := by decide +kernel
theorem dX12_drawsLine_1 : decode cX12_drawsLine 1 = .ok (.iconst 3, 1) := by decide +kernel
theorem dX12_drawsLine_2 : decode cX12_drawsLine 2 = .ok (.invokevirtual 380, 3) := by decide +kernel
theorem dX12_drawsLine_5 : decode cX12_drawsLine 5 = .ok (.ifCond .eq 4, 3) := by decide +kernel
theorem dX12_drawsLine_9 : decode cX12_drawsLine 9 = .ok (.aload_n 0, 1) := by decide +kernel
theorem dX12_drawsLine_10 : decode cX12_drawsLine 10 = .ok (.iconst 2, 1) := by decide +kernel
theorem dX12_drawsLine_11 : decode cX12_drawsLine 11 = .ok (.invokevirtual 380, 3) := by decide +kernel
theorem dX12_drawsLine_14 : decode cX12_drawsLine 14 = .ok (.istore_n 1, 1) := by decide +kernel
theorem dX12_drawsLine_15 : decode cX12_drawsLine 15 = .ok (.aload_n 0, 1) := by decide +kernel
theorem dX12_drawsLine_16 : decode cX12_drawsLine 16 = .ok (.aload_n 0, 1) := by decide +kernel
theorem dX12_drawsLine_17 : decode cX12_drawsLine 17 = .ok (.getfield 98, 3) := by decide +kernel
theorem dX12_drawsLine_20 : decode cX12_drawsLine 20 = .ok (.iload_n 1, 1) := by decide +kernel
theorem dX12_drawsLine_21 : decode cX12_drawsLine 21 = .ok (.iconst 1, 1) := by decide +kernel
theorem dX12_drawsLine_22 : decode cX12_drawsLine 22 = .ok (.if_icmp .ne 7, 3) := by decide +kernel
theorem dX12_drawsLine_29 : decode cX12_drawsLine 29 = .ok (.iconst 1, 1) := by decide +kernel
theorem dX12_drawsLine_30 : decode cX12_drawsLine 30 = .ok (.iaload, 1) := by decide +kernel
theorem dX12_drawsLine_31 : decode cX12_drawsLine 31 = .ok (.invokevirtual 380, 3) := by decide +kernel
theorem dX12_drawsLine_34 : decode cX12_drawsLine 34 = .ok (.istore_n 2, 1) := by decide +kernel
theorem dX12_drawsLine_35 : decode cX12_drawsLine 35 = .ok (.aload_n 0, 1) := by decide +kernel
theorem dX12_drawsLine_36 : decode cX12_drawsLine 36 = .ok (.iconst 2, 1) := by decide +kernel
theorem dX12_drawsLine_37 : decode cX12_drawsLine 37 = .ok (.invokevirtual 380, 3) := by decide +kernel
theorem dX12_drawsLine_40 : decode cX12_drawsLine 40 = .ok (.istore_n 3, 1) := by decide +kernel
theorem dX12_drawsLine_41 : decode cX12_drawsLine 41 = .ok (.aload_n 0, 1) := by decide +kernel
theorem dX12_drawsLine_42 : decode cX12_drawsLine 42 = .ok (.invokevirtual 240, 3) := by decide +kernel
theorem dX12_drawsLine_45 : decode cX12_drawsLine 45 = .ok (.ifCond .ne 13, 3) := by decide +kernel
theorem dX12_drawsLine_48 : decode cX12_drawsLine 48 = .ok (.aload_n 0, 1) := by decide +kernel
theorem dX12_drawsLine_49 : decode cX12_drawsLine 49 = .ok (.iload_n 1, 1) := by decide +kernel
theorem dX12_drawsLine_50 : decode cX12_drawsLine 50 = .ok (.iload_n 2, 1) := by decide +kernel
theorem dX12_drawsLine_51 : decode cX12_drawsLine 51 = .ok (.iload_n 3, 1) := by decide +kernel
theorem dX12_drawsLine_52 : decode cX12_drawsLine 52 = .ok (.invokestatic 302, 3) := by decide +kernel
theorem dX12_drawsLine_55 : decode cX12_drawsLine 55 = .ok (.invokevirtual 285, 3) := by decide +kernel
theorem dX12_drawsLine_58 : decode cX12_drawsLine 58 = .ok (.return_, 1) := by decide +kernel
theorem dX12_drawsLine_25 : decode cX12_drawsLine 25 = .ok (.iconst 0, 1) := by decide +kernel
theorem dX12_drawsLine_26 : decode cX12_drawsLine 26 = .ok (.goto 4, 3) := by decide +kernel
theorem dX12_drawsLine_8 : decode cX12_drawsLine 8 = .ok (.return_, 1) := by decide +kernel
theorem dX12_drawDays_0 : decode cX12_drawDays 0 = .ok (.aload_n 0, 1) := by decide +kernel
theorem dX12_drawDays_1 : decode cX12_drawDays 1 = .ok (.iload_n 2, 1) := by decide +kernel
theorem dX12_drawDays_2 : decode cX12_drawDays 2 = .ok (.putfield 376, 3) := by decide +kernel
theorem dX12_drawDays_5 : decode cX12_drawDays 5 = .ok (.iload_n 1, 1) := by decide +kernel
theorem dX12_drawDays_6 : decode cX12_drawDays 6 = .ok (.sipush 400, 3) := by decide +kernel
theorem dX12_drawDays_9 : decode cX12_drawDays 9 = .ok (.aload_n 0, 1) := by decide +kernel
theorem dX12_drawDays_10 : decode cX12_drawDays 10 = .ok (.getfield 98, 3) := by decide +kernel
theorem dX12_drawDays_13 : decode cX12_drawDays 13 = .ok (.bipush 67, 2) := by decide +kernel
theorem dX12_drawDays_15 : decode cX12_drawDays 15 = .ok (.iaload, 1) := by decide +kernel
theorem dX12_drawDays_16 : decode cX12_drawDays 16 = .ok (.isub, 1) := by decide +kernel
theorem dX12_drawDays_17 : decode cX12_drawDays 17 = .ok (.invokestatic 288, 3) := by decide +kernel
theorem dX12_drawDays_20 : decode cX12_drawDays 20 = .ok (.istore_n 3, 1) := by decide +kernel
theorem dX12_drawDays_21 : decode cX12_drawDays 21 = .ok (.iconst 0, 1) := by decide +kernel
theorem dX12_drawDays_22 : decode cX12_drawDays 22 = .ok (.istore 4, 2) := by decide +kernel
theorem dX12_drawDays_24 : decode cX12_drawDays 24 = .ok (.iload 4, 2) := by decide +kernel
theorem dX12_drawDays_26 : decode cX12_drawDays 26 = .ok (.iload_n 3, 1) := by decide +kernel
theorem dX12_drawDays_27 : decode cX12_drawDays 27 = .ok (.if_icmp .ge 52, 3) := by decide +kernel
theorem dX12_drawDays_30 : decode cX12_drawDays 30 = .ok (.aload_n 0, 1) := by decide +kernel
theorem dX12_drawDays_31 : decode cX12_drawDays 31 = .ok (.invokevirtual 383, 3) := by decide +kernel
theorem dX12_drawDays_34 : decode cX12_drawDays 34 = .ok (.iconst 0, 1) := by decide +kernel
theorem dX12_drawDays_35 : decode cX12_drawDays 35 = .ok (.istore 5, 2) := by decide +kernel
theorem dX12_drawDays_37 : decode cX12_drawDays 37 = .ok (.iload 5, 2) := by decide +kernel
theorem dX12_drawDays_39 : decode cX12_drawDays 39 = .ok (.aload_n 0, 1) := by decide +kernel
theorem dX12_drawDays_40 : decode cX12_drawDays 40 = .ok (.getfield 98, 3) := by decide +kernel
theorem dX12_drawDays_43 : decode cX12_drawDays 43 = .ok (.iconst 3, 1) := by decide +kernel
theorem dX12_drawDays_44 : decode cX12_drawDays 44 = .ok (.iaload, 1) := by decide +kernel
theorem dX12_drawDays_45 : decode cX12_drawDays 45 = .ok (.if_icmp .ge 24, 3) := by decide +kernel
theorem dX12_drawDays_69 : decode cX12_drawDays 69 = .ok (.aload_n 0, 1) := by decide +kernel
theorem dX12_drawDays_70 : decode cX12_drawDays 70 = .ok (.invokevirtual 309, 3) := by decide +kernel
theorem dX12_drawDays_73 : decode cX12_drawDays 73 = .ok (.iinc 4 1, 3) := by decide +kernel
theorem dX12_drawDays_76 : decode cX12_drawDays 76 = .ok (.goto (-52), 3) := by decide +kernel
theorem dX12_drawDays_79 : decode cX12_drawDays 79 = .ok (.iload_n 3, 1) := by decide +kernel
theorem dX12_drawDays_80 : decode cX12_drawDays 80 = .ok (.ireturn, 1) := by decide +kernel
theorem dX12_drawn_0 : decode cX12_drawn 0 = .ok (.aload_n 0, 1) := by decide +kernel
theorem dX12_drawn_1 : decode cX12_drawn 1 = .ok (.iconst 0, 1) := by decide +kernel
theorem dX12_drawn_2 : decode cX12_drawn 2 = .ok (.putfield 1, 3) := by decide +kernel
theorem dX12_drawn_5 : decode cX12_drawn 5 = .ok (.iload_n 1, 1) := by decide +kernel
theorem dX12_drawn_6 : decode cX12_drawn 6 = .ok (.iconst 1, 1) := by decide +kernel
theorem dX12_drawn_7 : decode cX12_drawn 7 = .ok (.bipush 60, 2) := by decide +kernel
theorem dX12_drawn_9 : decode cX12_drawn 9 = .ok (.invokestatic 75, 3) := by decide +kernel
theorem dX12_drawn_12 : decode cX12_drawn 12 = .ok (.ifCond .ne 5, 3) := by decide +kernel
theorem dX12_drawn_17 : decode cX12_drawn 17 = .ok (.aload_n 0, 1) := by decide +kernel
theorem dX12_drawn_18 : decode cX12_drawn 18 = .ok (.getfield 98, 3) := by decide +kernel
theorem dX12_drawn_21 : decode cX12_drawn 21 = .ok (.bipush 67, 2) := by decide +kernel
theorem dX12_drawn_23 : decode cX12_drawn 23 = .ok (.iaload, 1) := by decide +kernel
theorem dX12_drawn_24 : decode cX12_drawn 24 = .ok (.sipush 400, 3) := by decide +kernel
theorem dX12_drawn_27 : decode cX12_drawn 27 = .ok (.if_icmp .ne 5, 3) := by decide +kernel
theorem dX12_drawn_32 : decode cX12_drawn 32 = .ok (.aload_n 0, 1) := by decide +kernel
theorem dX12_drawn_33 : decode cX12_drawn 33 = .ok (.invokevirtual 295, 3) := by decide +kernel
theorem dX12_drawn_36 : decode cX12_drawn 36 = .ok (.aload_n 0, 1) := by decide +kernel
theorem dX12_drawn_37 : decode cX12_drawn 37 = .ok (.iload_n 1, 1) := by decide +kernel
theorem dX12_drawn_38 : decode cX12_drawn 38 = .ok (.iload_n 2, 1) := by decide +kernel
theorem dX12_drawn_39 : decode cX12_drawn 39 = .ok (.invokevirtual 389, 3) := by decide +kernel
theorem dX12_drawn_42 : decode cX12_drawn 42 = .ok (.ireturn, 1) := by decide +kernel
theorem dX12_drawn_15 : decode cX12_drawn 15 = .ok (.iconst (-1), 1) := by decide +kernel
theorem dX12_drawn_16 : decode cX12_drawn 16 = .ok (.ireturn, 1) := by decide +kernel
set_option maxRecDepth 20000 in
theorem ggX12_now_X12_hasSkin : GoodIn wsX12_now wsX12_hasSkin := goodIn_r _ [7, 2, 28, 29, 30, 31, 32, 33, 34, 35, 36, 37, 38, 39, 40, 41, 42, 43, 44, 45, 46, 47, 48, 49, 50, 51, 52, 53, 54, 55, 56, 57, 58, 59, 60, 61, 62, 63, 64, 65, 66, 67, 68, 69, 70, 71, 72, 73, 74, 75, 76, 77, 78, 79] (by decide +kernel) (by decide +kernel)
set_option maxRecDepth 20000 in
theorem ggX12_now_X12_eaten : GoodIn wsX12_now wsX12_eaten := goodIn_r _ [11, 2, 12, 13, 14, 6, 15, 28, 29, 30, 31, 32, 33, 34, 35, 36, 37, 38, 39, 40, 41, 42, 43, 44, 45, 46, 47, 48, 49, 50, 51, 52, 53, 54, 55, 56, 57, 58, 59, 60, 61, 62, 63, 64, 65, 66, 67, 68, 69, 70, 71, 72, 73, 74, 75, 76, 77, 78, 79] (by decide +kernel) (by decide +kernel)
set_option maxRecDepth 20000 in
theorem ggX12_doStir_X12_isInSea : GoodIn wsX12_doStir wsX12_isInSea := goodIn_r _ [7, 2, 16, 17, 18, 19, 20, 21, 22, 23, 24, 25, 26, 27, 28, 29, 30, 31, 32, 33, 34, 35, 36, 37, 38, 39, 40, 41, 42, 43, 44, 45, 46, 47, 48, 49, 50, 51, 52, 53, 54, 55, 56, 57, 58, 59, 60, 61, 62, 63, 64, 65, 66, 67] (by decide +kernel) (by decide +kernel)
set_option maxRecDepth 20000 in
theorem ggX12_doStir_X12_stirred : GoodIn wsX12_doStir wsX12_stirred := goodIn_r _ [11, 2, 16, 17, 18, 19, 20, 21, 22, 23, 24, 25, 26, 27, 28, 29, 30, 31, 32, 33, 34, 35, 36, 37, 38, 39, 40, 41, 42, 43, 44, 45, 46, 47, 48, 49, 50, 51, 52, 53, 54, 55, 56, 57, 58, 59, 60, 61, 62, 63, 64, 65, 66, 67] (by decide +kernel) (by decide +kernel)
set_option maxRecDepth 20000 in
theorem ggX12_live_X12_doStir : GoodIn wsX12_live wsX12_doStir := goodIn_r _ [6, 7, 1, 8, 9, 10, 5, 11, 12, 13, 14, 15, 16, 17, 18, 19, 42, 43, 44, 45, 46, 47, 48, 49, 50, 51, 52, 53, 54, 55, 56, 57, 58, 59, 60, 61, 62, 63, 64, 65, 66, 67, 68, 69, 70, 71, 72, 73, 74, 75, 76, 77, 78, 79, 80, 81, 82, 83, 84, 85, 86, 87, 88, 89, 90, 91, 92, 93] (by decide +kernel) (by decide +kernel)
set_option maxRecDepth 20000 in
theorem ggX12_live_X12_least : GoodIn wsX12_live wsX12_least := goodIn_r _ [41] (by decide +kernel) (by decide +kernel)
set_option maxRecDepth 20000 in
theorem ggX12_why_X12_hasSkin : GoodIn wsX12_why wsX12_hasSkin := goodIn_r _ [6, 1, 26, 27, 28, 29, 30, 31, 32, 33, 34, 35, 36, 37, 38, 39, 40, 41, 42, 43, 44, 45, 46, 47, 48, 49, 50, 51, 52, 53, 54, 55, 56, 57, 58, 59, 60, 61, 62, 63, 64, 65, 66, 67, 68, 69, 70, 71, 72, 73, 74, 75, 76, 77] (by decide +kernel) (by decide +kernel)
set_option maxRecDepth 20000 in
theorem ggX12_act_X12_why : GoodIn wsX12_act wsX12_why := goodIn_r _ [5, 6, 7, 8, 9, 4, 10, 11, 12, 13, 14, 15, 16, 17, 18, 19, 20, 21, 22, 23, 24, 25, 26, 27, 28, 29, 56, 57, 58, 59, 60, 61, 62, 63, 64, 65, 66, 67, 68, 69, 70, 71, 72, 73, 74, 75, 76, 77, 78, 79, 80, 81, 82, 83, 84, 85, 86, 87, 88, 89, 90, 91, 92, 93, 94, 95, 96, 97, 98, 99, 100, 101, 102, 103, 104, 105, 106, 107] (by decide +kernel) (by decide +kernel)
set_option maxRecDepth 20000 in
theorem ggX12_act_X12_snap : GoodIn wsX12_act wsX12_snap := goodIn_r _ [33, 34, 35, 6, 56, 57, 58, 59, 60, 61, 62, 63, 64, 65, 66, 67, 68, 69, 70, 71, 72, 73, 74, 75, 76, 77, 78, 79, 80, 81, 82, 83, 84, 85, 86, 87, 88, 89, 90, 91, 92, 93, 94, 95, 96, 97, 98, 99, 100, 101, 102, 103, 104, 105, 106, 107] (by decide +kernel) (by decide +kernel)
set_option maxRecDepth 20000 in
theorem ggX12_act_X12_live : GoodIn wsX12_act wsX12_live := goodIn_r _ [39, 6, 40, 41, 42, 4, 43, 44, 45, 46, 47, 48, 49, 50, 51, 52, 11, 12, 13, 14, 15, 16, 17, 18, 19, 20, 21, 22, 23, 24, 25, 26, 27, 28, 29, 7, 8, 9, 10, 53, 54, 55, 56, 57, 58, 59, 60, 61, 62, 63, 64, 65, 66, 67, 68, 69, 70, 71, 72, 73, 74, 75, 76, 77, 78, 79, 80, 81, 82, 83, 84, 85, 86, 87, 88, 89, 90, 91, 92, 93, 94, 95, 96, 97, 98, 99, 100, 101, 102, 103, 104, 105, 106, 107] (by decide +kernel) (by decide +kernel)
set_option maxRecDepth 20000 in
theorem ggX12_stir_X12_lineOf : GoodIn wsX12_stir wsX12_lineOf := goodIn_r _ [6] (by decide +kernel) (by decide +kernel)
set_option maxRecDepth 20000 in
theorem ggX12_stir_X12_isIn : GoodIn wsX12_stir wsX12_isIn := goodIn_r _ [9] (by decide +kernel) (by decide +kernel)
set_option maxRecDepth 20000 in
theorem ggX12_stir_X12_act : GoodIn wsX12_stir wsX12_act := goodIn_r _ [13, 14, 15, 16, 5, 17, 2, 18, 19, 20, 21, 22, 23, 24, 25, 26, 27, 28, 29, 30, 31, 32, 33, 7, 8, 9, 34, 35, 36, 37, 38, 39, 40, 41, 42, 43, 44, 45, 46, 47, 48, 49, 50, 51, 52, 53, 54, 55, 56, 57, 58, 59, 60, 61, 62, 63, 64, 65, 66, 67, 68, 69, 70, 71, 72, 73, 74, 75, 76, 77, 78, 79, 80, 81, 82, 83, 84, 85, 86, 87, 88, 89, 90, 91, 92, 93, 94, 95, 96, 97, 98, 99, 100, 101, 102, 103, 104, 105, 106, 107, 108, 109, 110, 111, 112, 113, 114, 115] (by decide +kernel) (by decide +kernel)
set_option maxRecDepth 20000 in
theorem ggX12_row_X12_isBoat : GoodIn wsX12_row wsX12_isBoat := goodIn_r _ [6, 7, 8, 9, 5, 10, 65, 66, 67, 68, 69, 70, 71, 72, 73, 74, 75, 76, 77, 78, 79, 80, 81, 82, 83, 84, 85, 86, 87, 88, 89, 90, 91, 92, 93, 94, 95, 96, 97, 98, 99, 100, 101, 102, 103, 104, 105, 106, 107, 108, 109, 110, 111, 112, 113, 114, 115, 116] (by decide +kernel) (by decide +kernel)
set_option maxRecDepth 20000 in
theorem ggX12_row_X12_act : GoodIn wsX12_row wsX12_act := goodIn_r _ [14, 15, 16, 17, 5, 18, 7, 19, 20, 21, 22, 23, 24, 25, 26, 27, 28, 29, 30, 31, 32, 33, 34, 8, 9, 10, 35, 36, 37, 38, 39, 40, 41, 42, 43, 44, 45, 46, 47, 48, 49, 50, 51, 52, 53, 54, 55, 56, 57, 58, 59, 60, 61, 62, 63, 64, 65, 66, 67, 68, 69, 70, 71, 72, 73, 74, 75, 76, 77, 78, 79, 80, 81, 82, 83, 84, 85, 86, 87, 88, 89, 90, 91, 92, 93, 94, 95, 96, 97, 98, 99, 100, 101, 102, 103, 104, 105, 106, 107, 108, 109, 110, 111, 112, 113, 114, 115, 116] (by decide +kernel) (by decide +kernel)
set_option maxRecDepth 20000 in
theorem ggX12_flour_X12_isCell : GoodIn wsX12_flour wsX12_isCell := goodIn_r _ [6, 7, 8, 9, 5, 10, 61, 62, 63, 64, 65, 66, 67, 68, 69, 70, 71, 72, 73, 74, 75, 76, 77, 78, 79, 80, 81, 82, 83, 84, 85, 86, 87, 88, 89, 90, 91, 92, 93, 94, 95, 96, 97, 98, 99, 100, 101, 102, 103, 104, 105, 106, 107, 108, 109, 110, 111, 112] (by decide +kernel) (by decide +kernel)
set_option maxRecDepth 20000 in
theorem ggX12_flour_X12_act : GoodIn wsX12_flour wsX12_act := goodIn_r _ [14, 15, 16, 17, 5, 18, 7, 19, 20, 21, 22, 23, 24, 25, 26, 27, 28, 29, 30, 2, 3, 4, 6, 8, 9, 10, 31, 32, 33, 34, 35, 36, 37, 38, 39, 40, 41, 42, 43, 44, 45, 46, 47, 48, 49, 50, 51, 52, 53, 54, 55, 56, 57, 58, 59, 60, 61, 62, 63, 64, 65, 66, 67, 68, 69, 70, 71, 72, 73, 74, 75, 76, 77, 78, 79, 80, 81, 82, 83, 84, 85, 86, 87, 88, 89, 90, 91, 92, 93, 94, 95, 96, 97, 98, 99, 100, 101, 102, 103, 104, 105, 106, 107, 108, 109, 110, 111, 112] (by decide +kernel) (by decide +kernel)
set_option maxRecDepth 20000 in
theorem ggX12_flour_X12_isIn : GoodIn wsX12_flour wsX12_isIn := goodIn_r _ [10] (by decide +kernel) (by decide +kernel)
set_option maxRecDepth 20000 in
theorem ggX12_milk_X12_isCell : GoodIn wsX12_milk wsX12_isCell := goodIn_r _ [6, 7, 8, 9, 5, 10, 61, 62, 63, 64, 65, 66, 67, 68, 69, 70, 71, 72, 73, 74, 75, 76, 77, 78, 79, 80, 81, 82, 83, 84, 85, 86, 87, 88, 89, 90, 91, 92, 93, 94, 95, 96, 97, 98, 99, 100, 101, 102, 103, 104, 105, 106, 107, 108, 109, 110, 111, 112] (by decide +kernel) (by decide +kernel)
set_option maxRecDepth 20000 in
theorem ggX12_milk_X12_act : GoodIn wsX12_milk wsX12_act := goodIn_r _ [14, 15, 16, 17, 5, 18, 7, 19, 20, 21, 22, 23, 24, 25, 26, 27, 28, 29, 30, 2, 3, 4, 6, 8, 9, 10, 31, 32, 33, 34, 35, 36, 37, 38, 39, 40, 41, 42, 43, 44, 45, 46, 47, 48, 49, 50, 51, 52, 53, 54, 55, 56, 57, 58, 59, 60, 61, 62, 63, 64, 65, 66, 67, 68, 69, 70, 71, 72, 73, 74, 75, 76, 77, 78, 79, 80, 81, 82, 83, 84, 85, 86, 87, 88, 89, 90, 91, 92, 93, 94, 95, 96, 97, 98, 99, 100, 101, 102, 103, 104, 105, 106, 107, 108, 109, 110, 111, 112] (by decide +kernel) (by decide +kernel)
set_option maxRecDepth 20000 in
theorem ggX12_milk_X12_isIn : GoodIn wsX12_milk wsX12_isIn := goodIn_r _ [10] (by decide +kernel) (by decide +kernel)
set_option maxRecDepth 20000 in
theorem ggX12_stove_X12_isIn : GoodIn wsX12_stove wsX12_isIn := goodIn_r _ [5] (by decide +kernel) (by decide +kernel)
set_option maxRecDepth 20000 in
theorem ggX12_stove_X12_act : GoodIn wsX12_stove wsX12_act := goodIn_r _ [9, 10, 11, 12, 4, 13, 14, 15, 16, 17, 18, 19, 20, 21, 22, 23, 24, 25, 26, 27, 28, 29, 30, 2, 3, 5, 31, 32, 33, 34, 35, 36, 37, 38, 39, 40, 41, 42, 43, 44, 45, 46, 47, 48, 49, 50, 51, 52, 53, 54, 55, 56, 57, 58, 59, 60, 61, 62, 63, 64, 65, 66, 67, 68, 69, 70, 71, 72, 73, 74, 75, 76, 77, 78, 79, 80, 81, 82, 83, 84, 85, 86, 87, 88, 89, 90, 91, 92, 93, 94, 95, 96, 97, 98, 99, 100, 101, 102, 103, 104, 105, 106, 107, 108, 109, 110, 111, 112] (by decide +kernel) (by decide +kernel)
set_option maxRecDepth 20000 in
theorem ggX12_oneDay_X12_least : GoodIn wsX12_oneDay wsX12_least := goodIn_r _ [25] (by decide +kernel) (by decide +kernel)
set_option maxRecDepth 20000 in
theorem ggX12_passDays_X12_least : GoodIn wsX12_passDays wsX12_least := goodIn_r _ [5] (by decide +kernel) (by decide +kernel)
set_option maxRecDepth 20000 in
theorem ggX12_passDays_X12_oneDay : GoodIn wsX12_passDays wsX12_oneDay := goodIn_r _ [9, 1, 10, 11, 12, 4, 13, 14, 15, 16, 17, 18, 19, 20, 21, 22, 23, 24, 25, 26, 27, 28, 29, 2, 3, 5, 30, 31, 32, 33, 34, 35, 36, 37, 38, 39, 40, 41, 42, 43, 44, 45, 46, 47, 48, 49, 50, 51, 52, 53, 54, 55, 56, 57, 58, 59, 60, 61, 62, 63, 64, 65, 66, 67, 68, 69, 70, 71, 72, 73, 74, 75, 76, 77, 78, 79, 80, 81] (by decide +kernel) (by decide +kernel)
set_option maxRecDepth 20000 in
theorem ggX12_days_X12_isIn : GoodIn wsX12_days wsX12_isIn := goodIn_r _ [6] (by decide +kernel) (by decide +kernel)
set_option maxRecDepth 20000 in
theorem ggX12_days_X12_snap : GoodIn wsX12_days wsX12_snap := goodIn_r _ [10, 11, 12, 2, 44, 45, 46, 47, 48, 49, 50, 51, 52, 53, 54, 55, 56, 57, 58, 59, 60, 61, 62, 63, 64, 65, 66, 67, 68, 69, 70, 71, 72, 73, 74, 75, 76, 77, 78, 79, 80, 81, 82, 83, 84, 85, 86, 87, 88, 89, 90, 91, 92, 93, 94, 95] (by decide +kernel) (by decide +kernel)
set_option maxRecDepth 20000 in
theorem ggX12_days_X12_passDays : GoodIn wsX12_days wsX12_passDays := goodIn_r _ [16, 2, 17, 18, 5, 19, 20, 21, 22, 23, 24, 25, 26, 27, 28, 29, 30, 31, 32, 33, 34, 35, 36, 37, 38, 39, 40, 41, 42, 43, 44, 45, 46, 47, 48, 49, 50, 51, 52, 53, 54, 55, 56, 57, 58, 59, 60, 61, 62, 63, 64, 65, 66, 67, 68, 69, 70, 71, 72, 73, 74, 75, 76, 77, 78, 79, 80, 81, 82, 83, 84, 85, 86, 87, 88, 89, 90, 91, 92, 93, 94, 95] (by decide +kernel) (by decide +kernel)
set_option maxRecDepth 20000 in
theorem ggX12_drawsLine_X12_draw : GoodIn wsX12_drawsLine wsX12_draw := goodIn_r _ [6, 7, 8, 33, 34, 35, 36, 37, 38, 39, 40, 41, 42, 43, 44, 45, 46, 47, 48, 49, 50, 51, 52, 53, 54, 55, 56, 57, 58, 59, 60, 61, 62, 63, 64, 65, 66, 67, 68, 69, 70, 71, 72, 73, 74, 75, 76, 77, 78, 79, 80, 81, 82, 83, 84] (by decide +kernel) (by decide +kernel)
set_option maxRecDepth 20000 in
theorem ggX12_drawsLine_X12_hasSkin : GoodIn wsX12_drawsLine wsX12_hasSkin := goodIn_r _ [12, 1, 33, 34, 35, 36, 37, 38, 39, 40, 41, 42, 43, 44, 45, 46, 47, 48, 49, 50, 51, 52, 53, 54, 55, 56, 57, 58, 59, 60, 61, 62, 63, 64, 65, 66, 67, 68, 69, 70, 71, 72, 73, 74, 75, 76, 77, 78, 79, 80, 81, 82, 83, 84] (by decide +kernel) (by decide +kernel)
set_option maxRecDepth 20000 in
theorem ggX12_drawsLine_X12_lineOf : GoodIn wsX12_drawsLine wsX12_lineOf := goodIn_r _ [15] (by decide +kernel) (by decide +kernel)
set_option maxRecDepth 20000 in
theorem ggX12_drawsLine_X12_doStir : GoodIn wsX12_drawsLine wsX12_doStir := goodIn_r _ [19, 20, 1, 21, 22, 23, 5, 24, 25, 26, 27, 28, 29, 30, 31, 32, 33, 34, 35, 36, 37, 38, 39, 40, 41, 42, 43, 44, 45, 46, 47, 48, 49, 50, 51, 52, 53, 54, 55, 56, 57, 58, 59, 60, 61, 62, 63, 64, 65, 66, 67, 68, 69, 70, 71, 72, 73, 74, 75, 76, 77, 78, 79, 80, 81, 82, 83, 84] (by decide +kernel) (by decide +kernel)
set_option maxRecDepth 20000 in
theorem ggX12_drawDays_X12_least : GoodIn wsX12_drawDays wsX12_least := goodIn_r _ [6] (by decide +kernel) (by decide +kernel)
set_option maxRecDepth 20000 in
theorem ggX12_drawDays_X12_drawsLine : GoodIn wsX12_drawDays wsX12_drawsLine := goodIn_r _ [10, 2, 11, 12, 13, 5, 14, 1, 15, 16, 17, 18, 19, 20, 21, 22, 23, 24, 25, 26, 27, 28, 29, 30, 31, 32, 33, 34, 35, 36, 37, 38, 39, 83, 84, 85, 86, 87, 88, 89, 90, 91, 92, 93, 94, 95, 96, 97, 98, 99, 100, 101, 102, 103, 104, 105, 106, 107, 108, 109, 110, 111, 112, 113, 114, 115, 116, 117, 118, 119, 120, 121, 122, 123, 124, 125, 126, 127, 128, 129, 130, 131, 132, 133, 134] (by decide +kernel) (by decide +kernel)
set_option maxRecDepth 20000 in
theorem ggX12_drawDays_X12_oneDay : GoodIn wsX12_drawDays wsX12_oneDay := goodIn_r _ [70, 2, 71, 72, 73, 5, 74, 36, 37, 38, 39, 75, 76, 77, 78, 16, 17, 18, 19, 79, 80, 81, 82, 3, 4, 6, 83, 84, 85, 86, 87, 88, 89, 90, 91, 92, 93, 94, 95, 96, 97, 98, 99, 100, 101, 102, 103, 104, 105, 106, 107, 108, 109, 110, 111, 112, 113, 114, 115, 116, 117, 118, 119, 120, 121, 122, 123, 124, 125, 126, 127, 128, 129, 130, 131, 132, 133, 134] (by decide +kernel) (by decide +kernel)
set_option maxRecDepth 20000 in
theorem ggX12_drawn_X12_isIn : GoodIn wsX12_drawn wsX12_isIn := goodIn_r _ [6] (by decide +kernel) (by decide +kernel)
set_option maxRecDepth 20000 in
theorem ggX12_drawn_X12_snap : GoodIn wsX12_drawn wsX12_snap := goodIn_r _ [10, 11, 12, 2, 94, 95, 96, 97, 98, 99, 100, 101, 102, 103, 104, 105, 106, 107, 108, 109, 110, 111, 112, 113, 114, 115, 116, 117, 118, 119, 120, 121, 122, 123, 124, 125, 126, 127, 128, 129, 130, 131, 132, 133, 134, 135, 136, 137, 138, 139, 140, 141, 142, 143, 144, 145] (by decide +kernel) (by decide +kernel)
set_option maxRecDepth 20000 in
theorem ggX12_drawn_X12_drawDays : GoodIn wsX12_drawn wsX12_drawDays := goodIn_r _ [16, 17, 2, 18, 19, 5, 20, 21, 22, 23, 24, 25, 26, 27, 28, 29, 30, 31, 32, 33, 34, 35, 36, 37, 38, 39, 40, 41, 42, 43, 44, 45, 46, 47, 48, 49, 50, 51, 52, 53, 54, 55, 56, 57, 58, 59, 60, 61, 62, 63, 64, 65, 66, 67, 68, 69, 3, 4, 6, 70, 71, 72, 73, 74, 75, 76, 77, 78, 79, 80, 81, 82, 83, 84, 85, 86, 87, 88, 89, 90, 91, 92, 93, 94, 95, 96, 97, 98, 99, 100, 101, 102, 103, 104, 105, 106, 107, 108, 109, 110, 111, 112, 113, 114, 115, 116, 117, 118, 119, 120, 121, 122, 123, 124, 125, 126, 127, 128, 129, 130, 131, 132, 133, 134, 135, 136, 137, 138, 139, 140, 141, 142, 143, 144, 145] (by decide +kernel) (by decide +kernel)
set_option maxRecDepth 20000 in
theorem gX12_now_X12_hasSkin : GoodIn wsX12_now (wsV RX12 240 RX12 yX12_hasSkin wsX12_hasSkin) := goodIn_app (goodIn_of _ (by decide +kernel)) ggX12_now_X12_hasSkin
set_option maxRecDepth 20000 in
theorem gX12_now_X12_eaten : GoodIn wsX12_now (wsV RX12 269 RX12 yX12_eaten wsX12_eaten) := goodIn_app (goodIn_of _ (by decide +kernel)) ggX12_now_X12_eaten
set_option maxRecDepth 20000 in
theorem gX12_doStir_X12_isInSea : GoodIn wsX12_doStir (wsV RX12 279 RX12 yX12_isInSea wsX12_isInSea) := goodIn_app (goodIn_of _ (by decide +kernel)) ggX12_doStir_X12_isInSea
set_option maxRecDepth 20000 in
theorem gX12_doStir_X12_stirred : GoodIn wsX12_doStir (wsV RX12 282 RX12 yX12_stirred wsX12_stirred) := goodIn_app (goodIn_of _ (by decide +kernel)) ggX12_doStir_X12_stirred
set_option maxRecDepth 20000 in
theorem gX12_live_X12_doStir : GoodIn wsX12_live (wsV RX12 285 RX12 yX12_doStir wsX12_doStir) := goodIn_app (goodIn_of _ (by decide +kernel)) ggX12_live_X12_doStir
set_option maxRecDepth 20000 in
theorem gX12_live_X12_least : GoodIn wsX12_live (va_wsS RX12 288 yX12_least wsX12_least) := goodIn_app (goodIn_of _ (by decide +kernel)) ggX12_live_X12_least
set_option maxRecDepth 20000 in
theorem gX12_why_X12_hasSkin : GoodIn wsX12_why (wsV RX12 240 RX12 yX12_hasSkin wsX12_hasSkin) := goodIn_app (goodIn_of _ (by decide +kernel)) ggX12_why_X12_hasSkin
set_option maxRecDepth 20000 in
theorem gX12_act_X12_why : GoodIn wsX12_act (wsV RX12 291 RX12 yX12_why wsX12_why) := goodIn_app (goodIn_of _ (by decide +kernel)) ggX12_act_X12_why
set_option maxRecDepth 20000 in
theorem gX12_act_X12_snap : GoodIn wsX12_act (wsV RX12 295 RX12 yX12_snap wsX12_snap) := goodIn_app (goodIn_of _ (by decide +kernel)) ggX12_act_X12_snap
set_option maxRecDepth 20000 in
theorem gX12_act_X12_live : GoodIn wsX12_act (wsV RX12 298 RX12 yX12_live wsX12_live) := goodIn_app (goodIn_of _ (by decide +kernel)) ggX12_act_X12_live
set_option maxRecDepth 20000 in
theorem gX12_stir_X12_lineOf : GoodIn wsX12_stir (va_wsS RX12 302 yX12_lineOf wsX12_lineOf) := goodIn_app (goodIn_of _ (by decide +kernel)) ggX12_stir_X12_lineOf
set_option maxRecDepth 20000 in
theorem gX12_stir_X12_isIn : GoodIn wsX12_stir (va_wsS RX12 75 yX12_isIn wsX12_isIn) := goodIn_app (goodIn_of _ (by decide +kernel)) ggX12_stir_X12_isIn
set_option maxRecDepth 20000 in
theorem gX12_stir_X12_act : GoodIn wsX12_stir (wsV RX12 305 RX12 yX12_act wsX12_act) := goodIn_app (goodIn_of _ (by decide +kernel)) ggX12_stir_X12_act
set_option maxRecDepth 20000 in
theorem gX12_row_X12_isBoat : GoodIn wsX12_row (wsV RX12 260 RX12 yX12_isBoat wsX12_isBoat) := goodIn_app (goodIn_of _ (by decide +kernel)) ggX12_row_X12_isBoat
set_option maxRecDepth 20000 in
theorem gX12_row_X12_act : GoodIn wsX12_row (wsV RX12 305 RX12 yX12_act wsX12_act) := goodIn_app (goodIn_of _ (by decide +kernel)) ggX12_row_X12_act
set_option maxRecDepth 20000 in
theorem gX12_flour_X12_isCell : GoodIn wsX12_flour (wsV RX12 252 RX12 yX12_isCell wsX12_isCell) := goodIn_app (goodIn_of _ (by decide +kernel)) ggX12_flour_X12_isCell
set_option maxRecDepth 20000 in
theorem gX12_flour_X12_act : GoodIn wsX12_flour (wsV RX12 305 RX12 yX12_act wsX12_act) := goodIn_app (goodIn_of _ (by decide +kernel)) ggX12_flour_X12_act
set_option maxRecDepth 20000 in
theorem gX12_flour_X12_isIn : GoodIn wsX12_flour (va_wsS RX12 75 yX12_isIn wsX12_isIn) := goodIn_app (goodIn_of _ (by decide +kernel)) ggX12_flour_X12_isIn
set_option maxRecDepth 20000 in
theorem gX12_milk_X12_isCell : GoodIn wsX12_milk (wsV RX12 252 RX12 yX12_isCell wsX12_isCell) := goodIn_app (goodIn_of _ (by decide +kernel)) ggX12_milk_X12_isCell
set_option maxRecDepth 20000 in
theorem gX12_milk_X12_act : GoodIn wsX12_milk (wsV RX12 305 RX12 yX12_act wsX12_act) := goodIn_app (goodIn_of _ (by decide +kernel)) ggX12_milk_X12_act
set_option maxRecDepth 20000 in
theorem gX12_milk_X12_isIn : GoodIn wsX12_milk (va_wsS RX12 75 yX12_isIn wsX12_isIn) := goodIn_app (goodIn_of _ (by decide +kernel)) ggX12_milk_X12_isIn
set_option maxRecDepth 20000 in
theorem gX12_stove_X12_isIn : GoodIn wsX12_stove (va_wsS RX12 75 yX12_isIn wsX12_isIn) := goodIn_app (goodIn_of _ (by decide +kernel)) ggX12_stove_X12_isIn
set_option maxRecDepth 20000 in
theorem gX12_stove_X12_act : GoodIn wsX12_stove (wsV RX12 305 RX12 yX12_act wsX12_act) := goodIn_app (goodIn_of _ (by decide +kernel)) ggX12_stove_X12_act
set_option maxRecDepth 20000 in
theorem gX12_oneDay_X12_least : GoodIn wsX12_oneDay (va_wsS RX12 288 yX12_least wsX12_least) := goodIn_app (goodIn_of _ (by decide +kernel)) ggX12_oneDay_X12_least
set_option maxRecDepth 20000 in
theorem gX12_passDays_X12_least : GoodIn wsX12_passDays (va_wsS RX12 288 yX12_least wsX12_least) := goodIn_app (goodIn_of _ (by decide +kernel)) ggX12_passDays_X12_least
set_option maxRecDepth 20000 in
theorem gX12_passDays_X12_oneDay : GoodIn wsX12_passDays (wsV RX12 309 RX12 yX12_oneDay wsX12_oneDay) := goodIn_app (goodIn_of _ (by decide +kernel)) ggX12_passDays_X12_oneDay
set_option maxRecDepth 20000 in
theorem gX12_days_X12_isIn : GoodIn wsX12_days (va_wsS RX12 75 yX12_isIn wsX12_isIn) := goodIn_app (goodIn_of _ (by decide +kernel)) ggX12_days_X12_isIn
set_option maxRecDepth 20000 in
theorem gX12_days_X12_snap : GoodIn wsX12_days (wsV RX12 295 RX12 yX12_snap wsX12_snap) := goodIn_app (goodIn_of _ (by decide +kernel)) ggX12_days_X12_snap
set_option maxRecDepth 20000 in
theorem gX12_days_X12_passDays : GoodIn wsX12_days (wsV RX12 312 RX12 yX12_passDays wsX12_passDays) := goodIn_app (goodIn_of _ (by decide +kernel)) ggX12_days_X12_passDays
set_option maxRecDepth 20000 in
theorem gX12_drawsLine_X12_draw : GoodIn wsX12_drawsLine (wsV RX12 380 RX12 yX12_draw wsX12_draw) := goodIn_app (goodIn_of _ (by decide +kernel)) ggX12_drawsLine_X12_draw
set_option maxRecDepth 20000 in
theorem gX12_drawsLine_X12_hasSkin : GoodIn wsX12_drawsLine (wsV RX12 240 RX12 yX12_hasSkin wsX12_hasSkin) := goodIn_app (goodIn_of _ (by decide +kernel)) ggX12_drawsLine_X12_hasSkin
set_option maxRecDepth 20000 in
theorem gX12_drawsLine_X12_lineOf : GoodIn wsX12_drawsLine (va_wsS RX12 302 yX12_lineOf wsX12_lineOf) := goodIn_app (goodIn_of _ (by decide +kernel)) ggX12_drawsLine_X12_lineOf
set_option maxRecDepth 20000 in
theorem gX12_drawsLine_X12_doStir : GoodIn wsX12_drawsLine (wsV RX12 285 RX12 yX12_doStir wsX12_doStir) := goodIn_app (goodIn_of _ (by decide +kernel)) ggX12_drawsLine_X12_doStir
set_option maxRecDepth 20000 in
theorem gX12_drawDays_X12_least : GoodIn wsX12_drawDays (va_wsS RX12 288 yX12_least wsX12_least) := goodIn_app (goodIn_of _ (by decide +kernel)) ggX12_drawDays_X12_least
set_option maxRecDepth 20000 in
theorem gX12_drawDays_X12_drawsLine : GoodIn wsX12_drawDays (wsV RX12 383 RX12 yX12_drawsLine wsX12_drawsLine) := goodIn_app (goodIn_of _ (by decide +kernel)) ggX12_drawDays_X12_drawsLine
set_option maxRecDepth 20000 in
theorem gX12_drawDays_X12_oneDay : GoodIn wsX12_drawDays (wsV RX12 309 RX12 yX12_oneDay wsX12_oneDay) := goodIn_app (goodIn_of _ (by decide +kernel)) ggX12_drawDays_X12_oneDay
set_option maxRecDepth 20000 in
theorem gX12_drawn_X12_isIn : GoodIn wsX12_drawn (va_wsS RX12 75 yX12_isIn wsX12_isIn) := goodIn_app (goodIn_of _ (by decide +kernel)) ggX12_drawn_X12_isIn
set_option maxRecDepth 20000 in
theorem gX12_drawn_X12_snap : GoodIn wsX12_drawn (wsV RX12 295 RX12 yX12_snap wsX12_snap) := goodIn_app (goodIn_of _ (by decide +kernel)) ggX12_drawn_X12_snap
set_option maxRecDepth 20000 in
theorem gX12_drawn_X12_drawDays : GoodIn wsX12_drawn (wsV RX12 389 RX12 yX12_drawDays wsX12_drawDays) := goodIn_app (goodIn_of _ (by decide +kernel)) ggX12_drawn_X12_drawDays
set_option maxRecDepth 20000 in
theorem lf_m_now_1 (o : Nat) (ktape : Nat) (know : Nat) (kread : Nat) (kkept : Nat) (ksnaps : Nat) (kaside : Nat) (kname : Nat) (kreadName : Nat) (kkeptName : Nat) (kisKept : Nat) (konces : Nat) (kpoured : Nat) (kfar : Nat) (ksides : Nat) (klines : Nat) (kmet : Nat) (ksunk : Nat) (ktrying : Nat) (ktext : Nat) (kline : Nat) (kwritten : Nat) (knode : Nat) (knowF : Nat → Int32) (x : Int32) (hN : NowOk knowF) (hsw : x.toInt < 0 ∨ 7 < x.toInt) : (x.toInt = 1 ∧ (-1 : Int32) = nI 10) ∨ ((x.toInt = 0 ∨ (2 ≤ x.toInt ∧ x.toInt ≤ 7)) ∧ (-1 : Int32) = nI 0) ∨ ((x.toInt < 0 ∨ 7 < x.toInt) ∧ (-1 : Int32) = (-1 : Int32)) := by
  have k_0 := ia_n 10 (by decide)
  have k_1 := ia_n 0 (by decide)
  simp only [ia_lt, ia_le, ia_eq, ia_m1, ia_0, ia_1, ne_eq, true_and, and_true, false_and, and_false, or_false, false_or, or_true, true_or, not_true_eq_false, not_false_eq_true] at *
  all_goals omega
set_option maxRecDepth 20000 in
theorem lf_m_now_2 (o : Nat) (ktape : Nat) (know : Nat) (kread : Nat) (kkept : Nat) (ksnaps : Nat) (kaside : Nat) (kname : Nat) (kreadName : Nat) (kkeptName : Nat) (kisKept : Nat) (konces : Nat) (kpoured : Nat) (kfar : Nat) (ksides : Nat) (klines : Nat) (kmet : Nat) (ksunk : Nat) (ktrying : Nat) (ktext : Nat) (kline : Nat) (kwritten : Nat) (knode : Nat) (knowF : Nat → Int32) (hN : NowOk knowF) : ((nI 0).toInt = 1 ∧ (nI 0) = nI 10) ∨ (((nI 0).toInt = 0 ∨ (2 ≤ (nI 0).toInt ∧ (nI 0).toInt ≤ 7)) ∧ (nI 0) = nI 0) ∨ (((nI 0).toInt < 0 ∨ 7 < (nI 0).toInt) ∧ (nI 0) = (-1 : Int32)) := by
  have k_0 := ia_n 0 (by decide)
  have k_1 := ia_n 10 (by decide)
  simp only [ia_lt, ia_le, ia_eq, ia_m1, ia_0, ia_1, ne_eq, true_and, and_true, false_and, and_false, or_false, false_or, or_true, true_or, not_true_eq_false, not_false_eq_true] at *
  all_goals omega
set_option maxRecDepth 20000 in
theorem lf_m_now_3 (o : Nat) (ktape : Nat) (know : Nat) (kread : Nat) (kkept : Nat) (ksnaps : Nat) (kaside : Nat) (kname : Nat) (kreadName : Nat) (kkeptName : Nat) (kisKept : Nat) (konces : Nat) (kpoured : Nat) (kfar : Nat) (ksides : Nat) (klines : Nat) (kmet : Nat) (ksunk : Nat) (ktrying : Nat) (ktext : Nat) (kline : Nat) (kwritten : Nat) (knode : Nat) (knowF : Nat → Int32) (hN : NowOk knowF) : ((nI 1).toInt = 1 ∧ (nI 10) = nI 10) ∨ (((nI 1).toInt = 0 ∨ (2 ≤ (nI 1).toInt ∧ (nI 1).toInt ≤ 7)) ∧ (nI 10) = nI 0) ∨ (((nI 1).toInt < 0 ∨ 7 < (nI 1).toInt) ∧ (nI 10) = (-1 : Int32)) := by
  have k_0 := ia_n 1 (by decide)
  have k_1 := ia_n 10 (by decide)
  have k_2 := ia_n 0 (by decide)
  simp only [ia_lt, ia_le, ia_eq, ia_m1, ia_0, ia_1, ne_eq, true_and, and_true, false_and, and_false, or_false, false_or, or_true, true_or, not_true_eq_false, not_false_eq_true] at *
  all_goals omega
set_option maxRecDepth 20000 in
theorem lf_m_now_4 (o : Nat) (ktape : Nat) (know : Nat) (kread : Nat) (kkept : Nat) (ksnaps : Nat) (kaside : Nat) (kname : Nat) (kreadName : Nat) (kkeptName : Nat) (kisKept : Nat) (konces : Nat) (kpoured : Nat) (kfar : Nat) (ksides : Nat) (klines : Nat) (kmet : Nat) (ksunk : Nat) (ktrying : Nat) (ktext : Nat) (kline : Nat) (kwritten : Nat) (knode : Nat) (knowF : Nat → Int32) (hN : NowOk knowF) : ((nI 2).toInt = 1 ∧ (nI 0) = nI 10) ∨ (((nI 2).toInt = 0 ∨ (2 ≤ (nI 2).toInt ∧ (nI 2).toInt ≤ 7)) ∧ (nI 0) = nI 0) ∨ (((nI 2).toInt < 0 ∨ 7 < (nI 2).toInt) ∧ (nI 0) = (-1 : Int32)) := by
  have k_0 := ia_n 2 (by decide)
  have k_1 := ia_n 0 (by decide)
  have k_2 := ia_n 10 (by decide)
  simp only [ia_lt, ia_le, ia_eq, ia_m1, ia_0, ia_1, ne_eq, true_and, and_true, false_and, and_false, or_false, false_or, or_true, true_or, not_true_eq_false, not_false_eq_true] at *
  all_goals omega
set_option maxRecDepth 20000 in
theorem lf_m_now_5 (o : Nat) (ktape : Nat) (know : Nat) (kread : Nat) (kkept : Nat) (ksnaps : Nat) (kaside : Nat) (kname : Nat) (kreadName : Nat) (kkeptName : Nat) (kisKept : Nat) (konces : Nat) (kpoured : Nat) (kfar : Nat) (ksides : Nat) (klines : Nat) (kmet : Nat) (ksunk : Nat) (ktrying : Nat) (ktext : Nat) (kline : Nat) (kwritten : Nat) (knode : Nat) (knowF : Nat → Int32) (hN : NowOk knowF) : ((nI 3).toInt = 1 ∧ (nI 0) = nI 10) ∨ (((nI 3).toInt = 0 ∨ (2 ≤ (nI 3).toInt ∧ (nI 3).toInt ≤ 7)) ∧ (nI 0) = nI 0) ∨ (((nI 3).toInt < 0 ∨ 7 < (nI 3).toInt) ∧ (nI 0) = (-1 : Int32)) := by
  have k_0 := ia_n 3 (by decide)
  have k_1 := ia_n 0 (by decide)
  have k_2 := ia_n 10 (by decide)
  simp only [ia_lt, ia_le, ia_eq, ia_m1, ia_0, ia_1, ne_eq, true_and, and_true, false_and, and_false, or_false, false_or, or_true, true_or, not_true_eq_false, not_false_eq_true] at *
  all_goals omega
set_option maxRecDepth 20000 in
theorem lf_m_now_6 (o : Nat) (ktape : Nat) (know : Nat) (kread : Nat) (kkept : Nat) (ksnaps : Nat) (kaside : Nat) (kname : Nat) (kreadName : Nat) (kkeptName : Nat) (kisKept : Nat) (konces : Nat) (kpoured : Nat) (kfar : Nat) (ksides : Nat) (klines : Nat) (kmet : Nat) (ksunk : Nat) (ktrying : Nat) (ktext : Nat) (kline : Nat) (kwritten : Nat) (knode : Nat) (knowF : Nat → Int32) (hN : NowOk knowF) : ((nI 4).toInt = 1 ∧ (nI 0) = nI 10) ∨ (((nI 4).toInt = 0 ∨ (2 ≤ (nI 4).toInt ∧ (nI 4).toInt ≤ 7)) ∧ (nI 0) = nI 0) ∨ (((nI 4).toInt < 0 ∨ 7 < (nI 4).toInt) ∧ (nI 0) = (-1 : Int32)) := by
  have k_0 := ia_n 4 (by decide)
  have k_1 := ia_n 0 (by decide)
  have k_2 := ia_n 10 (by decide)
  simp only [ia_lt, ia_le, ia_eq, ia_m1, ia_0, ia_1, ne_eq, true_and, and_true, false_and, and_false, or_false, false_or, or_true, true_or, not_true_eq_false, not_false_eq_true] at *
  all_goals omega
set_option maxHeartbeats 4000000 in
set_option maxRecDepth 100000 in
theorem lp_m_now5 {p : Program} {l : Launch} {e : Env} {R : Room} {s : State} {m : MethodId} {args : Array Value} {below : List Frame} {meth : Method} {c : Code} {Q : State → Prop} {dC : Nat → ClassId} {dI : Nat → Nat → Nat} {ky : Nat → ClassId} {H0 : Heap} {A : Nat → Prop} (hx : p.tables.exec = Jvm.exec) (hb : c.code = cX12_now) (hml : c.maxLocals = 4) (hown : s.vm.findClass RX12 = some m.cls) (hts : ∀ w ∈ wsX12_now, w.before args s = true) (hK : Kk dC dI ky s) (hA : ∀ q, H0.size ≤ q → A q) (hRf : 0 ≤ R.frames) (hRl : 0 ≤ R.locals) (hRc : 0 ≤ R.cells) (hRs : 0 ≤ R.slots) (o : Nat) (ktape : Nat) (know : Nat) (kread : Nat) (kkept : Nat) (ksnaps : Nat) (kaside : Nat) (kname : Nat) (kreadName : Nat) (kkeptName : Nat) (kisKept : Nat) (konces : Nat) (kpoured : Nat) (kfar : Nat) (ksides : Nat) (klines : Nat) (kmet : Nat) (ksunk : Nat) (ktrying : Nat) (ktext : Nat) (kline : Nat) (kwritten : Nat) (knode : Nat) (knowF : Nat → Int32) (hN : NowOk knowF) (kx : ∀ (i : Nat) , 36 = i → ∀ (H : Heap) (locs : List Loc) (ls : Array Slot), va_P (dC, dI) vwCl [(o, .inr (12, [.int (nI 0), .ref ktape, .int (nI 0), .int (nI 0), .int (nI 0), .int (nI 0), .int (nI 0), .int (nI 0), .int (nI 0), .int (nI 0), .int (nI 0), .int (nI 0), .long 0, .int (nI 0), .ref know, .ref kread, .ref kkept, .ref ksnaps, .ref kaside, .ref kname, .ref kreadName, .ref kkeptName, .ref kisKept, .ref konces, .int (nI 0), .int (nI 0), .ref kpoured, .ref kfar, .ref ksides, .int (nI 0), .int (-1 : Int32), .int (nI 0), .ref klines, .ref kmet, .int (nI 0), .ref ksunk, .ref ktrying, .int (nI 0), .int (-1 : Int32), .int (-1 : Int32), .ref ktext, .int (nI 0), .int (nI 0), .ref kline, .ref kwritten, .int (nI 0), .int (nI 0), .ref knode, .int (nI 0), .int (nI 0), .int (nI 0), .int (nI 0)])), (know, .inl (ky 0, 373, .inl knowF))] H → va_D A [(o, .inr (12, [.int (nI 0), .ref ktape, .int (nI 0), .int (nI 0), .int (nI 0), .int (nI 0), .int (nI 0), .int (nI 0), .int (nI 0), .int (nI 0), .int (nI 0), .int (nI 0), .long 0, .int (nI 0), .ref know, .ref kread, .ref kkept, .ref ksnaps, .ref kaside, .ref kname, .ref kreadName, .ref kkeptName, .ref kisKept, .ref konces, .int (nI 0), .int (nI 0), .ref kpoured, .ref kfar, .ref ksides, .int (nI 0), .int (-1 : Int32), .int (nI 0), .ref klines, .ref kmet, .int (nI 0), .ref ksunk, .ref ktrying, .int (nI 0), .int (-1 : Int32), .int (-1 : Int32), .ref ktext, .int (nI 0), .int (nI 0), .ref kline, .ref kwritten, .int (nI 0), .int (nI 0), .ref knode, .int (nI 0), .int (nI 0), .int (nI 0), .int (nI 0)])), (know, .inl (ky 0, 373, .inl knowF))] → va_S A H0 H locs → lv_has ls 4 [(3, .int (nI i)), (2, .int (nI 0)), (0, .ref o), (1, .int (nI 5))] → W p l e R s m args below meth c H locs 0 0 Q (F0 m 150 ls [])) :
    ∀ (nN i : Nat) , i ≤ 36 → 36 + 1 ≤ i + nN → ∀ (H : Heap) (locs : List Loc) (ls : Array Slot), va_P (dC, dI) vwCl [(o, .inr (12, [.int (nI 0), .ref ktape, .int (nI 0), .int (nI 0), .int (nI 0), .int (nI 0), .int (nI 0), .int (nI 0), .int (nI 0), .int (nI 0), .int (nI 0), .int (nI 0), .long 0, .int (nI 0), .ref know, .ref kread, .ref kkept, .ref ksnaps, .ref kaside, .ref kname, .ref kreadName, .ref kkeptName, .ref kisKept, .ref konces, .int (nI 0), .int (nI 0), .ref kpoured, .ref kfar, .ref ksides, .int (nI 0), .int (-1 : Int32), .int (nI 0), .ref klines, .ref kmet, .int (nI 0), .ref ksunk, .ref ktrying, .int (nI 0), .int (-1 : Int32), .int (-1 : Int32), .ref ktext, .int (nI 0), .int (nI 0), .ref kline, .ref kwritten, .int (nI 0), .int (nI 0), .ref knode, .int (nI 0), .int (nI 0), .int (nI 0), .int (nI 0)])), (know, .inl (ky 0, 373, .inl knowF))] H → va_D A [(o, .inr (12, [.int (nI 0), .ref ktape, .int (nI 0), .int (nI 0), .int (nI 0), .int (nI 0), .int (nI 0), .int (nI 0), .int (nI 0), .int (nI 0), .int (nI 0), .int (nI 0), .long 0, .int (nI 0), .ref know, .ref kread, .ref kkept, .ref ksnaps, .ref kaside, .ref kname, .ref kreadName, .ref kkeptName, .ref kisKept, .ref konces, .int (nI 0), .int (nI 0), .ref kpoured, .ref kfar, .ref ksides, .int (nI 0), .int (-1 : Int32), .int (nI 0), .ref klines, .ref kmet, .int (nI 0), .ref ksunk, .ref ktrying, .int (nI 0), .int (-1 : Int32), .int (-1 : Int32), .ref ktext, .int (nI 0), .int (nI 0), .ref kline, .ref kwritten, .int (nI 0), .int (nI 0), .ref knode, .int (nI 0), .int (nI 0), .int (nI 0), .int (nI 0)])), (know, .inl (ky 0, 373, .inl knowF))] → va_S A H0 H locs → lv_has ls 4 [(3, .int (nI i)), (2, .int (nI 0)), (0, .ref o), (1, .int (nI 5))] → W p l e R s m args below meth c H locs 0 0 Q (F0 m 126 ls []) := by
  have hin12 : ∀ w ∈ u_ws RX12 TX12 52, w ∈ wsX12_now := by decide +kernel
  intro nN
  induction nN with
  | zero => intro i  hi hnN; exfalso; omega
  | succ nN ih =>
    intro i  hi hnN  H locs ls hP hD hS hl
    refine lv_iload_n hx hb dX12_now_126 rfl (lv_at hl 0 rfl) ?_
    refine lv_bipush (v := nI 36) hx hb dX12_now_127 (by decide) ?_
    refine n_icmp_ge (x := i) (y := 36) (tgt := 150) hx hb (by omega) (by omega) dX12_now_129 (by decide) (fun c1 => ?_) (fun c1 => ?_)
    · exact kx i  (by omega)  H locs ls hP hD hS (lv_sub hl [0, 1, 2, 3] rfl)
    · refine lv_iload_n hx hb dX12_now_132 rfl (lv_at hl 1 rfl) ?_
      refine lv_aload_n hx hb dX12_now_133 rfl (lv_at hl 2 rfl) ?_
      refine va_get (D := (dC, dI)) (ci := 12) (v := .ref know) (C := RX12) (T := TX12) (N := 52) hx hb hts hin12 hown hK hP 0 rfl rfl 14 (by decide) (hts (.fieldLink RX12 98 "PorridgeSeaModel" "now" "[I") (List.mem_of_getElem? (i := 2) rfl)) (fun _ h9 => h9) rfl dX12_now_134 ?_
      refine lv_bipush (v := nI 71) hx hb dX12_now_137 (by decide) ?_
      refine lv_iload_n hx hb dX12_now_139 rfl (lv_at hl 0 rfl) ?_
      refine lv_iadd hx hb dX12_now_140 ?_
      refine r_ti (nI (71 + i)) (nI_add _ _) ?_
      refine r_iald hx hb hK hP 1 rfl (71 + i) (by omega) (by decide) (nI 0) (now_hi hN (71 + i) (by omega) (by omega)) dX12_now_141 ?_
      refine lv_iadd hx hb dX12_now_142 ?_
      refine r_ti (nI 0) (by decide) ?_
      refine lv_istore_n (lv' := [(2, .int (nI 0)), (3, .int (nI i)), (0, .ref o), (1, .int (nI 5))]) hx hb dX12_now_143 rfl hl (by decide) rfl (fun ls hl => ?_)
      refine lv_iinc (v := nI (i + 1)) (lv' := [(3, .int (nI (i + 1))), (2, .int (nI 0)), (0, .ref o), (1, .int (nI 5))]) hx hb dX12_now_144 hl (k := 1) rfl (show nI i + nI 1 = nI (i + 1) from nI_add _ _) (by decide) rfl (fun ls hl => ?_)
      refine lv_goto (tgt := 126) hx hb dX12_now_147 (by decide) ?_
      exact ih (i + 1)  (by omega) (by omega)  _ _ _ hP hD hS (lv_sub hl [0, 1, 2, 3] rfl)
set_option maxRecDepth 20000 in
theorem lf_m_now_7 (o : Nat) (ktape : Nat) (know : Nat) (kread : Nat) (kkept : Nat) (ksnaps : Nat) (kaside : Nat) (kname : Nat) (kreadName : Nat) (kkeptName : Nat) (kisKept : Nat) (konces : Nat) (kpoured : Nat) (kfar : Nat) (ksides : Nat) (klines : Nat) (kmet : Nat) (ksunk : Nat) (ktrying : Nat) (ktext : Nat) (kline : Nat) (kwritten : Nat) (knode : Nat) (knowF : Nat → Int32) (hN : NowOk knowF) : ((nI 5).toInt = 1 ∧ (nI 0) = nI 10) ∨ (((nI 5).toInt = 0 ∨ (2 ≤ (nI 5).toInt ∧ (nI 5).toInt ≤ 7)) ∧ (nI 0) = nI 0) ∨ (((nI 5).toInt < 0 ∨ 7 < (nI 5).toInt) ∧ (nI 0) = (-1 : Int32)) := by
  have k_0 := ia_n 5 (by decide)
  have k_1 := ia_n 0 (by decide)
  have k_2 := ia_n 10 (by decide)
  simp only [ia_lt, ia_le, ia_eq, ia_m1, ia_0, ia_1, ne_eq, true_and, and_true, false_and, and_false, or_false, false_or, or_true, true_or, not_true_eq_false, not_false_eq_true] at *
  all_goals omega
set_option maxRecDepth 20000 in
theorem lf_m_now_8 (o : Nat) (ktape : Nat) (know : Nat) (kread : Nat) (kkept : Nat) (ksnaps : Nat) (kaside : Nat) (kname : Nat) (kreadName : Nat) (kkeptName : Nat) (kisKept : Nat) (konces : Nat) (kpoured : Nat) (kfar : Nat) (ksides : Nat) (klines : Nat) (kmet : Nat) (ksunk : Nat) (ktrying : Nat) (ktext : Nat) (kline : Nat) (kwritten : Nat) (knode : Nat) (knowF : Nat → Int32) (hN : NowOk knowF) : ((nI 6).toInt = 1 ∧ (nI 0) = nI 10) ∨ (((nI 6).toInt = 0 ∨ (2 ≤ (nI 6).toInt ∧ (nI 6).toInt ≤ 7)) ∧ (nI 0) = nI 0) ∨ (((nI 6).toInt < 0 ∨ 7 < (nI 6).toInt) ∧ (nI 0) = (-1 : Int32)) := by
  have k_0 := ia_n 6 (by decide)
  have k_1 := ia_n 0 (by decide)
  have k_2 := ia_n 10 (by decide)
  simp only [ia_lt, ia_le, ia_eq, ia_m1, ia_0, ia_1, ne_eq, true_and, and_true, false_and, and_false, or_false, false_or, or_true, true_or, not_true_eq_false, not_false_eq_true] at *
  all_goals omega
set_option maxRecDepth 20000 in
theorem lf_m_now_9 (o : Nat) (ktape : Nat) (know : Nat) (kread : Nat) (kkept : Nat) (ksnaps : Nat) (kaside : Nat) (kname : Nat) (kreadName : Nat) (kkeptName : Nat) (kisKept : Nat) (konces : Nat) (kpoured : Nat) (kfar : Nat) (ksides : Nat) (klines : Nat) (kmet : Nat) (ksunk : Nat) (ktrying : Nat) (ktext : Nat) (kline : Nat) (kwritten : Nat) (knode : Nat) (knowF : Nat → Int32) (hN : NowOk knowF) : ((nI 7).toInt = 1 ∧ (nI 0) = nI 10) ∨ (((nI 7).toInt = 0 ∨ (2 ≤ (nI 7).toInt ∧ (nI 7).toInt ≤ 7)) ∧ (nI 0) = nI 0) ∨ (((nI 7).toInt < 0 ∨ 7 < (nI 7).toInt) ∧ (nI 0) = (-1 : Int32)) := by
  have k_0 := ia_n 7 (by decide)
  have k_1 := ia_n 0 (by decide)
  have k_2 := ia_n 10 (by decide)
  simp only [ia_lt, ia_le, ia_eq, ia_m1, ia_0, ia_1, ne_eq, true_and, and_true, false_and, and_false, or_false, false_or, or_true, true_or, not_true_eq_false, not_false_eq_true] at *
  all_goals omega
set_option maxHeartbeats 4000000 in
set_option maxRecDepth 100000 in
theorem c_m_now (l : Launch) (dC : Nat → ClassId) (dI : Nat → Nat → Nat) (ky : Nat → ClassId) (sz : Nat) (o : Nat) (ktape : Nat) (know : Nat) (kread : Nat) (kkept : Nat) (ksnaps : Nat) (kaside : Nat) (kname : Nat) (kreadName : Nat) (kkeptName : Nat) (kisKept : Nat) (konces : Nat) (kpoured : Nat) (kfar : Nat) (ksides : Nat) (klines : Nat) (kmet : Nat) (ksunk : Nat) (ktrying : Nat) (ktext : Nat) (kline : Nat) (kwritten : Nat) (knode : Nat) (knowF : Nat → Int32) (x : Int32) (hN : NowOk knowF) : Met l yX12_now wsX12_now ({ frames := 1, cells := 0, slots := 0, locals := 22 }) (PcU dC dI ky [.ref o, .int x] [(o, .inr (12, [.int (nI 0), .ref ktape, .int (nI 0), .int (nI 0), .int (nI 0), .int (nI 0), .int (nI 0), .int (nI 0), .int (nI 0), .int (nI 0), .int (nI 0), .int (nI 0), .long 0, .int (nI 0), .ref know, .ref kread, .ref kkept, .ref ksnaps, .ref kaside, .ref kname, .ref kreadName, .ref kkeptName, .ref kisKept, .ref konces, .int (nI 0), .int (nI 0), .ref kpoured, .ref kfar, .ref ksides, .int (nI 0), .int (-1 : Int32), .int (nI 0), .ref klines, .ref kmet, .int (nI 0), .ref ksunk, .ref ktrying, .int (nI 0), .int (-1 : Int32), .int (-1 : Int32), .ref ktext, .int (nI 0), .int (nI 0), .ref kline, .ref kwritten, .int (nI 0), .int (nI 0), .ref knode, .int (nI 0), .int (nI 0), .int (nI 0), .int (nI 0)])), (know, .inl (ky 0, 373, .inl knowF))] sz) (va_Qi (fun (r : Int32) (_ : Unit) => (x.toInt = 1 ∧ r = nI 10) ∨ ((x.toInt = 0 ∨ (2 ≤ x.toInt ∧ x.toInt ≤ 7)) ∧ r = nI 0) ∨ ((x.toInt < 0 ∨ 7 < x.toInt) ∧ r = (-1 : Int32))) (BU dC dI ky (fun (_ : Unit) => []) (va_A [(o, .inr (12, [.int (nI 0), .ref ktape, .int (nI 0), .int (nI 0), .int (nI 0), .int (nI 0), .int (nI 0), .int (nI 0), .int (nI 0), .int (nI 0), .int (nI 0), .int (nI 0), .long 0, .int (nI 0), .ref know, .ref kread, .ref kkept, .ref ksnaps, .ref kaside, .ref kname, .ref kreadName, .ref kkeptName, .ref kisKept, .ref konces, .int (nI 0), .int (nI 0), .ref kpoured, .ref kfar, .ref ksides, .int (nI 0), .int (-1 : Int32), .int (nI 0), .ref klines, .ref kmet, .int (nI 0), .ref ksunk, .ref ktrying, .int (nI 0), .int (-1 : Int32), .int (-1 : Int32), .ref ktext, .int (nI 0), .int (nI 0), .ref kline, .ref kwritten, .int (nI 0), .int (nI 0), .ref knode, .int (nI 0), .int (nI 0), .int (nI 0), .int (nI 0)])), (know, .inl (ky 0, 373, .inl knowF))] sz)) (va_A [(o, .inr (12, [.int (nI 0), .ref ktape, .int (nI 0), .int (nI 0), .int (nI 0), .int (nI 0), .int (nI 0), .int (nI 0), .int (nI 0), .int (nI 0), .int (nI 0), .int (nI 0), .long 0, .int (nI 0), .ref know, .ref kread, .ref kkept, .ref ksnaps, .ref kaside, .ref kname, .ref kreadName, .ref kkeptName, .ref kisKept, .ref konces, .int (nI 0), .int (nI 0), .ref kpoured, .ref kfar, .ref ksides, .int (nI 0), .int (-1 : Int32), .int (nI 0), .ref klines, .ref kmet, .int (nI 0), .ref ksunk, .ref ktrying, .int (nI 0), .int (-1 : Int32), .int (-1 : Int32), .ref ktext, .int (nI 0), .int (nI 0), .ref kline, .ref kwritten, .int (nI 0), .int (nI 0), .ref knode, .int (nI 0), .int (nI 0), .int (nI 0), .int (nI 0)])), (know, .inl (ky 0, 373, .inl knowF))] sz)) 0 0 (va_A [(o, .inr (12, [.int (nI 0), .ref ktape, .int (nI 0), .int (nI 0), .int (nI 0), .int (nI 0), .int (nI 0), .int (nI 0), .int (nI 0), .int (nI 0), .int (nI 0), .int (nI 0), .long 0, .int (nI 0), .ref know, .ref kread, .ref kkept, .ref ksnaps, .ref kaside, .ref kname, .ref kreadName, .ref kkeptName, .ref kisKept, .ref konces, .int (nI 0), .int (nI 0), .ref kpoured, .ref kfar, .ref ksides, .int (nI 0), .int (-1 : Int32), .int (nI 0), .ref klines, .ref kmet, .int (nI 0), .ref ksunk, .ref ktrying, .int (nI 0), .int (-1 : Int32), .int (-1 : Int32), .ref ktext, .int (nI 0), .int (nI 0), .ref kline, .ref kwritten, .int (nI 0), .int (nI 0), .ref knode, .int (nI 0), .int (nI 0), .int (nI 0), .int (nI 0)])), (know, .inl (ky 0, 373, .inl knowF))] sz) := by
  refine Met.ofW (cc := cX12_now) (maxL := 4) (ret := (some .int)) (by decide) rfl ?_
  intro p e s m args below meth c s₁ B hml hv
  obtain ⟨rfl, hsz, hP, hK, hD0⟩ := hv
  have hx := B.exec
  have hb := B.bytes
  have hr := B.returns
  have hts := atoms_spec (ws := wsX12_now) B.pre
  have hown : s.vm.findClass RX12 = some m.cls := findClass_of_methodNamed B.named
  have hlocks := B.notSynchronized
  have hin12 : ∀ w ∈ u_ws RX12 TX12 52, w ∈ wsX12_now := by decide +kernel
  subst hsz
  have hD := hD0.self (sz := s.heap.size)
  generalize hAe : va_A [(o, .inr (12, [.int (nI 0), .ref ktape, .int (nI 0), .int (nI 0), .int (nI 0), .int (nI 0), .int (nI 0), .int (nI 0), .int (nI 0), .int (nI 0), .int (nI 0), .int (nI 0), .long 0, .int (nI 0), .ref know, .ref kread, .ref kkept, .ref ksnaps, .ref kaside, .ref kname, .ref kreadName, .ref kkeptName, .ref kisKept, .ref konces, .int (nI 0), .int (nI 0), .ref kpoured, .ref kfar, .ref ksides, .int (nI 0), .int (-1 : Int32), .int (nI 0), .ref klines, .ref kmet, .int (nI 0), .ref ksunk, .ref ktrying, .int (nI 0), .int (-1 : Int32), .int (-1 : Int32), .ref ktext, .int (nI 0), .int (nI 0), .ref kline, .ref kwritten, .int (nI 0), .int (nI 0), .ref knode, .int (nI 0), .int (nI 0), .int (nI 0), .int (nI 0)])), (know, .inl (ky 0, 373, .inl knowF))] s.heap.size = A at hD ⊢
  have hA : ∀ q : Nat, s.heap.size ≤ q → A q := fun q h => by rw [← hAe]; exact Or.inr h
  have hS : va_S A s.heap s.heap [] := va_S.rf
  have hP : va_P (dC, dI) vwCl [(o, .inr (12, [.int (nI 0), .ref ktape, .int (nI 0), .int (nI 0), .int (nI 0), .int (nI 0), .int (nI 0), .int (nI 0), .int (nI 0), .int (nI 0), .int (nI 0), .int (nI 0), .long 0, .int (nI 0), .ref know, .ref kread, .ref kkept, .ref ksnaps, .ref kaside, .ref kname, .ref kreadName, .ref kkeptName, .ref kisKept, .ref konces, .int (nI 0), .int (nI 0), .ref kpoured, .ref kfar, .ref ksides, .int (nI 0), .int (-1 : Int32), .int (nI 0), .ref klines, .ref kmet, .int (nI 0), .ref ksunk, .ref ktrying, .int (nI 0), .int (-1 : Int32), .int (-1 : Int32), .ref ktext, .int (nI 0), .int (nI 0), .ref kline, .ref kwritten, .int (nI 0), .int (nI 0), .ref knode, .int (nI 0), .int (nI 0), .int (nI 0), .int (nI 0)])), (know, .inl (ky 0, 373, .inl knowF))] s.heap := hP
  have hl := lv_entry ([.ref o, .int x]) (n := 4) (Nat.le_of_ble_eq_true rfl)
  rw [lg_entry_eq]
  generalize (lg_sl ([.ref o, .int x]) ++ List.replicate (4 - (lg_sl ([.ref o, .int x])).length) Slot.unset).toArray = ls at hl ⊢
  have hl : lv_has ls 4 [(0, .ref o), (1, .int x)] := hl
  have hH0 : True := trivial
  refine lv_aload_n hx hb dX12_now_0 rfl (lv_at hl 0 rfl) ?_
  refine lv_iconst (v := nI 0) hx hb dX12_now_1 (by decide) ?_
  refine va_put (D := (dC, dI)) (ci := 12) (v := .int (nI 0)) (ty := .int) (C := RX12) (T := TX12) (N := 52) hx hb hts hin12 tyX12 tyX12_ok nmX12 hown hK hP hD hS 0 rfl rfl 0 (by decide) (hts (.fieldLink RX12 1 "PorridgeSeaModel" "thrown" "I") (List.mem_of_getElem? (i := 1) rfl)) (fun _ h9 => h9) rfl (by decide +kernel) rfl rfl (Nat.le_of_ble_eq_true rfl) dX12_now_2 (fun H locs hP hD hS => ?_)
  have hP : va_P (dC, dI) vwCl [(o, .inr (12, [.int (nI 0), .ref ktape, .int (nI 0), .int (nI 0), .int (nI 0), .int (nI 0), .int (nI 0), .int (nI 0), .int (nI 0), .int (nI 0), .int (nI 0), .int (nI 0), .long 0, .int (nI 0), .ref know, .ref kread, .ref kkept, .ref ksnaps, .ref kaside, .ref kname, .ref kreadName, .ref kkeptName, .ref kisKept, .ref konces, .int (nI 0), .int (nI 0), .ref kpoured, .ref kfar, .ref ksides, .int (nI 0), .int (-1 : Int32), .int (nI 0), .ref klines, .ref kmet, .int (nI 0), .ref ksunk, .ref ktrying, .int (nI 0), .int (-1 : Int32), .int (-1 : Int32), .ref ktext, .int (nI 0), .int (nI 0), .ref kline, .ref kwritten, .int (nI 0), .int (nI 0), .ref knode, .int (nI 0), .int (nI 0), .int (nI 0), .int (nI 0)])), (know, .inl (ky 0, 373, .inl knowF))] H := hP
  have hD : va_D A [(o, .inr (12, [.int (nI 0), .ref ktape, .int (nI 0), .int (nI 0), .int (nI 0), .int (nI 0), .int (nI 0), .int (nI 0), .int (nI 0), .int (nI 0), .int (nI 0), .int (nI 0), .long 0, .int (nI 0), .ref know, .ref kread, .ref kkept, .ref ksnaps, .ref kaside, .ref kname, .ref kreadName, .ref kkeptName, .ref kisKept, .ref konces, .int (nI 0), .int (nI 0), .ref kpoured, .ref kfar, .ref ksides, .int (nI 0), .int (-1 : Int32), .int (nI 0), .ref klines, .ref kmet, .int (nI 0), .ref ksunk, .ref ktrying, .int (nI 0), .int (-1 : Int32), .int (-1 : Int32), .ref ktext, .int (nI 0), .int (nI 0), .ref kline, .ref kwritten, .int (nI 0), .int (nI 0), .ref knode, .int (nI 0), .int (nI 0), .int (nI 0), .int (nI 0)])), (know, .inl (ky 0, 373, .inl knowF))] := hD
  refine lv_iconst (v := nI 0) hx hb dX12_now_5 (by decide) ?_
  refine lv_istore_n (lv' := [(2, .int (nI 0)), (0, .ref o), (1, .int x)]) hx hb dX12_now_6 rfl hl (by decide) rfl (fun ls hl => ?_)
  refine lv_iload_n hx hb dX12_now_7 rfl (lv_at hl 2 rfl) ?_
  rcases sw_in x 7 7 (by decide) (by decide) with hsw | ⟨ksw, hk1, rfl⟩
  · refine lv_tableOut (tgt := 168) hx hb dX12_now_8 hsw (by decide) ?_
    refine lv_iconst (v := (-1 : Int32)) hx hb dX12_now_168 (by decide) ?_
    have hP9 := hP.sub (ws' := []) [] rfl
    have hD9 := hD.sub (ws' := []) [] (by decide) rfl
    refine W.widen (k := 0) (n := 0) (Nat.le_of_ble_eq_true rfl) (Nat.le_of_ble_eq_true rfl) ?_
    exact W.iret (v := (-1 : Int32)) hx hb hr (fun t ht9 hW9 => ⟨⟨(-1 : Int32), (), rfl, (lf_m_now_1 o ktape know kread kkept ksnaps kaside kname kreadName kkeptName kisKept konces kpoured kfar ksides klines kmet ksunk ktrying ktext kline kwritten knode knowF x hN hsw), by rw [ht9]; exact hP9, va_K.moved hW9.alike hK, hD9⟩, hS.F ht9⟩) hS.2.2 dX12_now_169
  · rcases (show ksw = 0 ∨ ksw = 1 ∨ ksw = 2 ∨ ksw = 3 ∨ ksw = 4 ∨ ksw = 5 ∨ ksw = 6 ∨ ksw = 7 by omega) with rfl | rfl | rfl | rfl | rfl | rfl | rfl | rfl
    · refine lv_tableIn (off := 48) (tgt := 56) hx hb dX12_now_8 (by decide) (by decide) rfl (by decide) ?_
      refine lv_aload_n hx hb dX12_now_56 rfl (lv_at hl 1 rfl) ?_
      refine va_get (D := (dC, dI)) (ci := 12) (v := .ref know) (C := RX12) (T := TX12) (N := 52) hx hb hts hin12 hown hK hP 0 rfl rfl 14 (by decide) (hts (.fieldLink RX12 98 "PorridgeSeaModel" "now" "[I") (List.mem_of_getElem? (i := 2) rfl)) (fun _ h9 => h9) rfl dX12_now_57 ?_
      refine lv_bipush (v := nI 67) hx hb dX12_now_60 (by decide) ?_
      refine r_iald hx hb hK hP 1 rfl 67 (by decide) (by decide) (nI 0) hN.2.1 dX12_now_62 ?_
      have hP9 := hP.sub (ws' := []) [] rfl
      have hD9 := hD.sub (ws' := []) [] (by decide) rfl
      refine W.widen (k := 0) (n := 0) (Nat.le_of_ble_eq_true rfl) (Nat.le_of_ble_eq_true rfl) ?_
      exact W.iret (v := nI 0) hx hb hr (fun t ht9 hW9 => ⟨⟨nI 0, (), rfl, (lf_m_now_2 o ktape know kread kkept ksnaps kaside kname kreadName kkeptName kisKept konces kpoured kfar ksides klines kmet ksunk ktrying ktext kline kwritten knode knowF hN), by rw [ht9]; exact hP9, va_K.moved hW9.alike hK, hD9⟩, hS.F ht9⟩) hS.2.2 dX12_now_63
    · refine lv_tableIn (off := 56) (tgt := 64) hx hb dX12_now_8 (by decide) (by decide) rfl (by decide) ?_
      refine lv_aload_n hx hb dX12_now_64 rfl (lv_at hl 1 rfl) ?_
      refine va_get (D := (dC, dI)) (ci := 12) (v := .ref know) (C := RX12) (T := TX12) (N := 52) hx hb hts hin12 hown hK hP 0 rfl rfl 14 (by decide) (hts (.fieldLink RX12 98 "PorridgeSeaModel" "now" "[I") (List.mem_of_getElem? (i := 2) rfl)) (fun _ h9 => h9) rfl dX12_now_65 ?_
      refine lv_bipush (v := nI 68) hx hb dX12_now_68 (by decide) ?_
      refine r_iald hx hb hK hP 1 rfl 68 (by decide) (by decide) (nI 10) hN.2.2.1 dX12_now_70 ?_
      have hP9 := hP.sub (ws' := []) [] rfl
      have hD9 := hD.sub (ws' := []) [] (by decide) rfl
      refine W.widen (k := 0) (n := 0) (Nat.le_of_ble_eq_true rfl) (Nat.le_of_ble_eq_true rfl) ?_
      exact W.iret (v := nI 10) hx hb hr (fun t ht9 hW9 => ⟨⟨nI 10, (), rfl, (lf_m_now_3 o ktape know kread kkept ksnaps kaside kname kreadName kkeptName kisKept konces kpoured kfar ksides klines kmet ksunk ktrying ktext kline kwritten knode knowF hN), by rw [ht9]; exact hP9, va_K.moved hW9.alike hK, hD9⟩, hS.F ht9⟩) hS.2.2 dX12_now_71
    · refine lv_tableIn (off := 64) (tgt := 72) hx hb dX12_now_8 (by decide) (by decide) rfl (by decide) ?_
      refine lv_aload_n hx hb dX12_now_72 rfl (lv_at hl 1 rfl) ?_
      refine vp_callSi (W.runV (As := []) (rest := []) ⟨hx, hb, hml, hown, hts⟩ (c_m_hasSkin0 l dC dI ky o (nI 0) ktape (nI 0) (nI 0) (nI 0) (nI 0) (nI 0) (nI 0) (nI 0) (nI 0) (nI 0) (nI 0) 0 (nI 0) know kread kkept ksnaps kaside kname kreadName kkeptName kisKept konces (nI 0) (nI 0) kpoured kfar ksides (nI 0) (-1 : Int32) (nI 0) klines kmet (nI 0) ksunk ktrying (nI 0) (-1 : Int32) (-1 : Int32) ktext (nI 0) (nI 0) kline kwritten (nI 0) (nI 0) knode (nI 0) (nI 0) (nI 0) (nI 0) knowF hN) (cwV 0 hts gX12_now_X12_hasSkin rfl rfl rfl (by decide +kernel) ⟨(Nat.le_of_ble_eq_true rfl), (Nat.le_of_ble_eq_true rfl)⟩) (pre_PV hK hP [0, 1] rfl (ci := 12) (q0 := 0) rfl rfl) rfl rfl hl.1 rfl (lv_room (Nat.le_of_ble_eq_true rfl)) dX12_now_73 ⟨(Nat.le_of_ble_eq_true rfl), (Nat.le_of_ble_eq_true rfl)⟩) (fun r2 p3 => ?_)
      subst p3
      refine lv_if_eq (tgt := 83) hx hb dX12_now_76 (by decide) (fun c4 => ?_) (fun c4 => absurd (by decide) c4)
      refine lv_iconst (v := nI 0) hx hb dX12_now_83 (by decide) ?_
      have hP9 := hP.sub (ws' := []) [] rfl
      have hD9 := hD.sub (ws' := []) [] (by decide) rfl
      refine W.widen (k := 0) (n := 0) (Nat.le_of_ble_eq_true rfl) (Nat.le_of_ble_eq_true rfl) ?_
      exact W.iret (v := nI 0) hx hb hr (fun t ht9 hW9 => ⟨⟨nI 0, (), rfl, (lf_m_now_4 o ktape know kread kkept ksnaps kaside kname kreadName kkeptName kisKept konces kpoured kfar ksides klines kmet ksunk ktrying ktext kline kwritten knode knowF hN), by rw [ht9]; exact hP9, va_K.moved hW9.alike hK, hD9⟩, hS.F ht9⟩) hS.2.2 dX12_now_84
    · refine lv_tableIn (off := 77) (tgt := 85) hx hb dX12_now_8 (by decide) (by decide) rfl (by decide) ?_
      refine lv_aload_n hx hb dX12_now_85 rfl (lv_at hl 1 rfl) ?_
      refine vp_callSi (W.runV (As := []) (rest := []) ⟨hx, hb, hml, hown, hts⟩ (c_m_eaten l dC dI ky o (nI 0) ktape (nI 0) (nI 0) (nI 0) (nI 0) (nI 0) (nI 0) (nI 0) (nI 0) (nI 0) (nI 0) 0 (nI 0) know kread kkept ksnaps kaside kname kreadName kkeptName kisKept konces (nI 0) (nI 0) kpoured kfar ksides (nI 0) (-1 : Int32) (nI 0) klines kmet (nI 0) ksunk ktrying (nI 0) (-1 : Int32) (-1 : Int32) ktext (nI 0) (nI 0) kline kwritten (nI 0) (nI 0) knode (nI 0) (nI 0) (nI 0) (nI 0) knowF (NowOk.b hN)) (cwV 0 hts gX12_now_X12_eaten rfl rfl rfl (by decide +kernel) ⟨(Nat.le_of_ble_eq_true rfl), (Nat.le_of_ble_eq_true rfl)⟩) (pre_PV hK hP [0, 1] rfl (ci := 12) (q0 := 0) rfl rfl) rfl rfl hl.1 rfl (lv_room (Nat.le_of_ble_eq_true rfl)) dX12_now_86 ⟨(Nat.le_of_ble_eq_true rfl), (Nat.le_of_ble_eq_true rfl)⟩) (fun r5 p6 => ?_)
      subst p6
      have hP9 := hP.sub (ws' := []) [] rfl
      have hD9 := hD.sub (ws' := []) [] (by decide) rfl
      refine W.widen (k := 0) (n := 0) (Nat.le_of_ble_eq_true rfl) (Nat.le_of_ble_eq_true rfl) ?_
      exact W.iret (v := nI 0) hx hb hr (fun t ht9 hW9 => ⟨⟨nI 0, (), rfl, (lf_m_now_5 o ktape know kread kkept ksnaps kaside kname kreadName kkeptName kisKept konces kpoured kfar ksides klines kmet ksunk ktrying ktext kline kwritten knode knowF hN), by rw [ht9]; exact hP9, va_K.moved hW9.alike hK, hD9⟩, hS.F ht9⟩) hS.2.2 dX12_now_89
    · refine lv_tableIn (off := 82) (tgt := 90) hx hb dX12_now_8 (by decide) (by decide) rfl (by decide) ?_
      refine lv_iconst (v := nI 0) hx hb dX12_now_90 (by decide) ?_
      refine lv_istore_n (lv' := [(3, .int (nI 0)), (2, .int (nI 0)), (0, .ref o), (1, .int (nI 4))]) hx hb dX12_now_91 rfl hl (by decide) rfl (fun ls hl => ?_)
      refine lv_iload_n hx hb dX12_now_92 rfl (lv_at hl 0 rfl) ?_
      refine lv_aload_n hx hb dX12_now_93 rfl (lv_at hl 2 rfl) ?_
      refine va_get (D := (dC, dI)) (ci := 12) (v := .ref know) (C := RX12) (T := TX12) (N := 52) hx hb hts hin12 hown hK hP 0 rfl rfl 14 (by decide) (hts (.fieldLink RX12 98 "PorridgeSeaModel" "now" "[I") (List.mem_of_getElem? (i := 2) rfl)) (fun _ h9 => h9) rfl dX12_now_94 ?_
      refine lv_iconst (v := nI 3) hx hb dX12_now_97 (by decide) ?_
      refine r_iald hx hb hK hP 1 rfl 3 (by decide) (by decide) (nI 0) (NowOk.b hN).2.2.2 dX12_now_98 ?_
      refine lv_icmp_ge (tgt := 122) hx hb dX12_now_99 (by decide) (fun c7 => ?_) (fun c7 => absurd (by decide) c7)
      refine lv_iload_n hx hb dX12_now_122 rfl (lv_at hl 1 rfl) ?_
      have hP9 := hP.sub (ws' := []) [] rfl
      have hD9 := hD.sub (ws' := []) [] (by decide) rfl
      refine W.widen (k := 0) (n := 0) (Nat.le_of_ble_eq_true rfl) (Nat.le_of_ble_eq_true rfl) ?_
      exact W.iret (v := nI 0) hx hb hr (fun t ht9 hW9 => ⟨⟨nI 0, (), rfl, (lf_m_now_6 o ktape know kread kkept ksnaps kaside kname kreadName kkeptName kisKept konces kpoured kfar ksides klines kmet ksunk ktrying ktext kline kwritten knode knowF hN), by rw [ht9]; exact hP9, va_K.moved hW9.alike hK, hD9⟩, hS.F ht9⟩) hS.2.2 dX12_now_123
    · refine lv_tableIn (off := 116) (tgt := 124) hx hb dX12_now_8 (by decide) (by decide) rfl (by decide) ?_
      refine lv_iconst (v := nI 0) hx hb dX12_now_124 (by decide) ?_
      refine lv_istore_n (lv' := [(3, .int (nI 0)), (2, .int (nI 0)), (0, .ref o), (1, .int (nI 5))]) hx hb dX12_now_125 rfl hl (by decide) rfl (fun ls hl => ?_)
      refine lp_m_now5 hx hb hml hown hts hK hA (Nat.le_of_ble_eq_true rfl) (Nat.le_of_ble_eq_true rfl) (Nat.le_of_ble_eq_true rfl) (Nat.le_of_ble_eq_true rfl) o ktape know kread kkept ksnaps kaside kname kreadName kkeptName kisKept konces kpoured kfar ksides klines kmet ksunk ktrying ktext kline kwritten knode knowF hN ?_ (36 + 1) 0  (by omega) (by omega)  _ _ _ hP hD hS (lv_sub hl [0, 1, 2, 3] rfl)
      intro i  hiN  H locs ls hP hD hS hl
      subst hiN
      refine lv_iload_n hx hb dX12_now_150 rfl (lv_at hl 1 rfl) ?_
      have hP9 := hP.sub (ws' := []) [] rfl
      have hD9 := hD.sub (ws' := []) [] (by decide) rfl
      refine W.widen (k := 0) (n := 0) (Nat.le_of_ble_eq_true rfl) (Nat.le_of_ble_eq_true rfl) ?_
      exact W.iret (v := nI 0) hx hb hr (fun t ht9 hW9 => ⟨⟨nI 0, (), rfl, (lf_m_now_7 o ktape know kread kkept ksnaps kaside kname kreadName kkeptName kisKept konces kpoured kfar ksides klines kmet ksunk ktrying ktext kline kwritten knode knowF hN), by rw [ht9]; exact hP9, va_K.moved hW9.alike hK, hD9⟩, hS.F ht9⟩) hS.2.2 dX12_now_151
    · refine lv_tableIn (off := 144) (tgt := 152) hx hb dX12_now_8 (by decide) (by decide) rfl (by decide) ?_
      refine lv_aload_n hx hb dX12_now_152 rfl (lv_at hl 1 rfl) ?_
      refine va_get (D := (dC, dI)) (ci := 12) (v := .ref know) (C := RX12) (T := TX12) (N := 52) hx hb hts hin12 hown hK hP 0 rfl rfl 14 (by decide) (hts (.fieldLink RX12 98 "PorridgeSeaModel" "now" "[I") (List.mem_of_getElem? (i := 2) rfl)) (fun _ h9 => h9) rfl dX12_now_153 ?_
      refine lv_bipush (v := nI 69) hx hb dX12_now_156 (by decide) ?_
      refine r_iald hx hb hK hP 1 rfl 69 (by decide) (by decide) (nI 0) (now_hi hN 69 (by decide) (by decide)) dX12_now_158 ?_
      have hP9 := hP.sub (ws' := []) [] rfl
      have hD9 := hD.sub (ws' := []) [] (by decide) rfl
      refine W.widen (k := 0) (n := 0) (Nat.le_of_ble_eq_true rfl) (Nat.le_of_ble_eq_true rfl) ?_
      exact W.iret (v := nI 0) hx hb hr (fun t ht9 hW9 => ⟨⟨nI 0, (), rfl, (lf_m_now_8 o ktape know kread kkept ksnaps kaside kname kreadName kkeptName kisKept konces kpoured kfar ksides klines kmet ksunk ktrying ktext kline kwritten knode knowF hN), by rw [ht9]; exact hP9, va_K.moved hW9.alike hK, hD9⟩, hS.F ht9⟩) hS.2.2 dX12_now_159
    · refine lv_tableIn (off := 152) (tgt := 160) hx hb dX12_now_8 (by decide) (by decide) rfl (by decide) ?_
      refine lv_aload_n hx hb dX12_now_160 rfl (lv_at hl 1 rfl) ?_
      refine va_get (D := (dC, dI)) (ci := 12) (v := .ref know) (C := RX12) (T := TX12) (N := 52) hx hb hts hin12 hown hK hP 0 rfl rfl 14 (by decide) (hts (.fieldLink RX12 98 "PorridgeSeaModel" "now" "[I") (List.mem_of_getElem? (i := 2) rfl)) (fun _ h9 => h9) rfl dX12_now_161 ?_
      refine lv_bipush (v := nI 70) hx hb dX12_now_164 (by decide) ?_
      refine r_iald hx hb hK hP 1 rfl 70 (by decide) (by decide) (nI 0) (now_hi hN 70 (by decide) (by decide)) dX12_now_166 ?_
      have hP9 := hP.sub (ws' := []) [] rfl
      have hD9 := hD.sub (ws' := []) [] (by decide) rfl
      refine W.widen (k := 0) (n := 0) (Nat.le_of_ble_eq_true rfl) (Nat.le_of_ble_eq_true rfl) ?_
      exact W.iret (v := nI 0) hx hb hr (fun t ht9 hW9 => ⟨⟨nI 0, (), rfl, (lf_m_now_9 o ktape know kread kkept ksnaps kaside kname kreadName kkeptName kisKept konces kpoured kfar ksides klines kmet ksunk ktrying ktext kline kwritten knode knowF hN), by rw [ht9]; exact hP9, va_K.moved hW9.alike hK, hD9⟩, hS.F ht9⟩) hS.2.2 dX12_now_167
set_option maxRecDepth 20000 in
theorem lf_m_count_1 (o : Nat) (ktape : Nat) (know : Nat) (kread : Nat) (kkept : Nat) (ksnaps : Nat) (kaside : Nat) (kname : Nat) (kreadName : Nat) (kkeptName : Nat) (kisKept : Nat) (konces : Nat) (kpoured : Nat) (kfar : Nat) (ksides : Nat) (klines : Nat) (kmet : Nat) (ksunk : Nat) (ktrying : Nat) (ktext : Nat) (kline : Nat) (kwritten : Nat) (knode : Nat) (knowF : Nat → Int32) (x : Int32) (hN : NowOk knowF) (hsw : x.toInt < 0 ∨ 6 < x.toInt) : ((x.toInt = 0 ∨ x.toInt = 1) ∧ (-1 : Int32) = nI 4) ∨ ((x.toInt = 2 ∨ x.toInt = 3 ∨ x.toInt = 6) ∧ (-1 : Int32) = nI 0) ∨ (x.toInt = 4 ∧ (-1 : Int32) = nI 1) ∨ (x.toInt = 5 ∧ (-1 : Int32) = nI 3) ∨ ((x.toInt < 0 ∨ 6 < x.toInt) ∧ (-1 : Int32) = (-1 : Int32)) := by
  have k_0 := ia_n 4 (by decide)
  have k_1 := ia_n 0 (by decide)
  have k_2 := ia_n 1 (by decide)
  have k_3 := ia_n 3 (by decide)
  simp only [ia_lt, ia_le, ia_eq, ia_m1, ia_0, ia_1, ne_eq, true_and, and_true, false_and, and_false, or_false, false_or, or_true, true_or, not_true_eq_false, not_false_eq_true] at *
  all_goals omega
set_option maxRecDepth 20000 in
theorem lf_m_count_2 (o : Nat) (ktape : Nat) (know : Nat) (kread : Nat) (kkept : Nat) (ksnaps : Nat) (kaside : Nat) (kname : Nat) (kreadName : Nat) (kkeptName : Nat) (kisKept : Nat) (konces : Nat) (kpoured : Nat) (kfar : Nat) (ksides : Nat) (klines : Nat) (kmet : Nat) (ksunk : Nat) (ktrying : Nat) (ktext : Nat) (kline : Nat) (kwritten : Nat) (knode : Nat) (knowF : Nat → Int32) (hN : NowOk knowF) : (((nI 0).toInt = 0 ∨ (nI 0).toInt = 1) ∧ (nI 4) = nI 4) ∨ (((nI 0).toInt = 2 ∨ (nI 0).toInt = 3 ∨ (nI 0).toInt = 6) ∧ (nI 4) = nI 0) ∨ ((nI 0).toInt = 4 ∧ (nI 4) = nI 1) ∨ ((nI 0).toInt = 5 ∧ (nI 4) = nI 3) ∨ (((nI 0).toInt < 0 ∨ 6 < (nI 0).toInt) ∧ (nI 4) = (-1 : Int32)) := by
  have k_0 := ia_n 0 (by decide)
  have k_1 := ia_n 4 (by decide)
  have k_2 := ia_n 1 (by decide)
  have k_3 := ia_n 3 (by decide)
  simp only [ia_lt, ia_le, ia_eq, ia_m1, ia_0, ia_1, ne_eq, true_and, and_true, false_and, and_false, or_false, false_or, or_true, true_or, not_true_eq_false, not_false_eq_true] at *
  all_goals omega
set_option maxRecDepth 20000 in
theorem lf_m_count_3 (o : Nat) (ktape : Nat) (know : Nat) (kread : Nat) (kkept : Nat) (ksnaps : Nat) (kaside : Nat) (kname : Nat) (kreadName : Nat) (kkeptName : Nat) (kisKept : Nat) (konces : Nat) (kpoured : Nat) (kfar : Nat) (ksides : Nat) (klines : Nat) (kmet : Nat) (ksunk : Nat) (ktrying : Nat) (ktext : Nat) (kline : Nat) (kwritten : Nat) (knode : Nat) (knowF : Nat → Int32) (hN : NowOk knowF) : (((nI 1).toInt = 0 ∨ (nI 1).toInt = 1) ∧ (nI 4) = nI 4) ∨ (((nI 1).toInt = 2 ∨ (nI 1).toInt = 3 ∨ (nI 1).toInt = 6) ∧ (nI 4) = nI 0) ∨ ((nI 1).toInt = 4 ∧ (nI 4) = nI 1) ∨ ((nI 1).toInt = 5 ∧ (nI 4) = nI 3) ∨ (((nI 1).toInt < 0 ∨ 6 < (nI 1).toInt) ∧ (nI 4) = (-1 : Int32)) := by
  have k_0 := ia_n 1 (by decide)
  have k_1 := ia_n 4 (by decide)
  have k_2 := ia_n 0 (by decide)
  have k_3 := ia_n 3 (by decide)
  simp only [ia_lt, ia_le, ia_eq, ia_m1, ia_0, ia_1, ne_eq, true_and, and_true, false_and, and_false, or_false, false_or, or_true, true_or, not_true_eq_false, not_false_eq_true] at *
  all_goals omega
set_option maxRecDepth 20000 in
theorem lf_m_count_4 (o : Nat) (ktape : Nat) (know : Nat) (kread : Nat) (kkept : Nat) (ksnaps : Nat) (kaside : Nat) (kname : Nat) (kreadName : Nat) (kkeptName : Nat) (kisKept : Nat) (konces : Nat) (kpoured : Nat) (kfar : Nat) (ksides : Nat) (klines : Nat) (kmet : Nat) (ksunk : Nat) (ktrying : Nat) (ktext : Nat) (kline : Nat) (kwritten : Nat) (knode : Nat) (knowF : Nat → Int32) (hN : NowOk knowF) : (((nI 2).toInt = 0 ∨ (nI 2).toInt = 1) ∧ (nI 0) = nI 4) ∨ (((nI 2).toInt = 2 ∨ (nI 2).toInt = 3 ∨ (nI 2).toInt = 6) ∧ (nI 0) = nI 0) ∨ ((nI 2).toInt = 4 ∧ (nI 0) = nI 1) ∨ ((nI 2).toInt = 5 ∧ (nI 0) = nI 3) ∨ (((nI 2).toInt < 0 ∨ 6 < (nI 2).toInt) ∧ (nI 0) = (-1 : Int32)) := by
  have k_0 := ia_n 2 (by decide)
  have k_1 := ia_n 0 (by decide)
  have k_2 := ia_n 4 (by decide)
  have k_3 := ia_n 1 (by decide)
  have k_4 := ia_n 3 (by decide)
  simp only [ia_lt, ia_le, ia_eq, ia_m1, ia_0, ia_1, ne_eq, true_and, and_true, false_and, and_false, or_false, false_or, or_true, true_or, not_true_eq_false, not_false_eq_true] at *
  all_goals omega
set_option maxRecDepth 20000 in
theorem lf_m_count_5 (o : Nat) (ktape : Nat) (know : Nat) (kread : Nat) (kkept : Nat) (ksnaps : Nat) (kaside : Nat) (kname : Nat) (kreadName : Nat) (kkeptName : Nat) (kisKept : Nat) (konces : Nat) (kpoured : Nat) (kfar : Nat) (ksides : Nat) (klines : Nat) (kmet : Nat) (ksunk : Nat) (ktrying : Nat) (ktext : Nat) (kline : Nat) (kwritten : Nat) (knode : Nat) (knowF : Nat → Int32) (hN : NowOk knowF) : (((nI 3).toInt = 0 ∨ (nI 3).toInt = 1) ∧ (nI 0) = nI 4) ∨ (((nI 3).toInt = 2 ∨ (nI 3).toInt = 3 ∨ (nI 3).toInt = 6) ∧ (nI 0) = nI 0) ∨ ((nI 3).toInt = 4 ∧ (nI 0) = nI 1) ∨ ((nI 3).toInt = 5 ∧ (nI 0) = nI 3) ∨ (((nI 3).toInt < 0 ∨ 6 < (nI 3).toInt) ∧ (nI 0) = (-1 : Int32)) := by
  have k_0 := ia_n 3 (by decide)
  have k_1 := ia_n 0 (by decide)
  have k_2 := ia_n 4 (by decide)
  have k_3 := ia_n 1 (by decide)
  simp only [ia_lt, ia_le, ia_eq, ia_m1, ia_0, ia_1, ne_eq, true_and, and_true, false_and, and_false, or_false, false_or, or_true, true_or, not_true_eq_false, not_false_eq_true] at *
  all_goals omega
set_option maxRecDepth 20000 in
theorem lf_m_count_6 (o : Nat) (ktape : Nat) (know : Nat) (kread : Nat) (kkept : Nat) (ksnaps : Nat) (kaside : Nat) (kname : Nat) (kreadName : Nat) (kkeptName : Nat) (kisKept : Nat) (konces : Nat) (kpoured : Nat) (kfar : Nat) (ksides : Nat) (klines : Nat) (kmet : Nat) (ksunk : Nat) (ktrying : Nat) (ktext : Nat) (kline : Nat) (kwritten : Nat) (knode : Nat) (knowF : Nat → Int32) (hN : NowOk knowF) : (((nI 4).toInt = 0 ∨ (nI 4).toInt = 1) ∧ (nI 1) = nI 4) ∨ (((nI 4).toInt = 2 ∨ (nI 4).toInt = 3 ∨ (nI 4).toInt = 6) ∧ (nI 1) = nI 0) ∨ ((nI 4).toInt = 4 ∧ (nI 1) = nI 1) ∨ ((nI 4).toInt = 5 ∧ (nI 1) = nI 3) ∨ (((nI 4).toInt < 0 ∨ 6 < (nI 4).toInt) ∧ (nI 1) = (-1 : Int32)) := by
  have k_0 := ia_n 4 (by decide)
  have k_1 := ia_n 1 (by decide)
  have k_2 := ia_n 0 (by decide)
  have k_3 := ia_n 3 (by decide)
  simp only [ia_lt, ia_le, ia_eq, ia_m1, ia_0, ia_1, ne_eq, true_and, and_true, false_and, and_false, or_false, false_or, or_true, true_or, not_true_eq_false, not_false_eq_true] at *
  all_goals omega
set_option maxRecDepth 20000 in
theorem lf_m_count_7 (o : Nat) (ktape : Nat) (know : Nat) (kread : Nat) (kkept : Nat) (ksnaps : Nat) (kaside : Nat) (kname : Nat) (kreadName : Nat) (kkeptName : Nat) (kisKept : Nat) (konces : Nat) (kpoured : Nat) (kfar : Nat) (ksides : Nat) (klines : Nat) (kmet : Nat) (ksunk : Nat) (ktrying : Nat) (ktext : Nat) (kline : Nat) (kwritten : Nat) (knode : Nat) (knowF : Nat → Int32) (hN : NowOk knowF) : (((nI 5).toInt = 0 ∨ (nI 5).toInt = 1) ∧ (nI 3) = nI 4) ∨ (((nI 5).toInt = 2 ∨ (nI 5).toInt = 3 ∨ (nI 5).toInt = 6) ∧ (nI 3) = nI 0) ∨ ((nI 5).toInt = 4 ∧ (nI 3) = nI 1) ∨ ((nI 5).toInt = 5 ∧ (nI 3) = nI 3) ∨ (((nI 5).toInt < 0 ∨ 6 < (nI 5).toInt) ∧ (nI 3) = (-1 : Int32)) := by
  have k_0 := ia_n 5 (by decide)
  have k_1 := ia_n 3 (by decide)
  have k_2 := ia_n 4 (by decide)
  have k_3 := ia_n 0 (by decide)
  have k_4 := ia_n 1 (by decide)
  simp only [ia_lt, ia_le, ia_eq, ia_m1, ia_0, ia_1, ne_eq, true_and, and_true, false_and, and_false, or_false, false_or, or_true, true_or, not_true_eq_false, not_false_eq_true] at *
  all_goals omega
set_option maxRecDepth 20000 in
theorem lf_m_count_8 (o : Nat) (ktape : Nat) (know : Nat) (kread : Nat) (kkept : Nat) (ksnaps : Nat) (kaside : Nat) (kname : Nat) (kreadName : Nat) (kkeptName : Nat) (kisKept : Nat) (konces : Nat) (kpoured : Nat) (kfar : Nat) (ksides : Nat) (klines : Nat) (kmet : Nat) (ksunk : Nat) (ktrying : Nat) (ktext : Nat) (kline : Nat) (kwritten : Nat) (knode : Nat) (knowF : Nat → Int32) (hN : NowOk knowF) : (((nI 6).toInt = 0 ∨ (nI 6).toInt = 1) ∧ (nI 0) = nI 4) ∨ (((nI 6).toInt = 2 ∨ (nI 6).toInt = 3 ∨ (nI 6).toInt = 6) ∧ (nI 0) = nI 0) ∨ ((nI 6).toInt = 4 ∧ (nI 0) = nI 1) ∨ ((nI 6).toInt = 5 ∧ (nI 0) = nI 3) ∨ (((nI 6).toInt < 0 ∨ 6 < (nI 6).toInt) ∧ (nI 0) = (-1 : Int32)) := by
  have k_0 := ia_n 6 (by decide)
  have k_1 := ia_n 0 (by decide)
  have k_2 := ia_n 4 (by decide)
  have k_3 := ia_n 1 (by decide)
  have k_4 := ia_n 3 (by decide)
  simp only [ia_lt, ia_le, ia_eq, ia_m1, ia_0, ia_1, ne_eq, true_and, and_true, false_and, and_false, or_false, false_or, or_true, true_or, not_true_eq_false, not_false_eq_true] at *
  all_goals omega
set_option maxHeartbeats 4000000 in
set_option maxRecDepth 100000 in
theorem c_m_count (l : Launch) (dC : Nat → ClassId) (dI : Nat → Nat → Nat) (ky : Nat → ClassId) (sz : Nat) (o : Nat) (ktape : Nat) (know : Nat) (kread : Nat) (kkept : Nat) (ksnaps : Nat) (kaside : Nat) (kname : Nat) (kreadName : Nat) (kkeptName : Nat) (kisKept : Nat) (konces : Nat) (kpoured : Nat) (kfar : Nat) (ksides : Nat) (klines : Nat) (kmet : Nat) (ksunk : Nat) (ktrying : Nat) (ktext : Nat) (kline : Nat) (kwritten : Nat) (knode : Nat) (knowF : Nat → Int32) (x : Int32) (hN : NowOk knowF) : Met l yX12_count wsX12_count ({ frames := 0, cells := 0, slots := 0, locals := 0 }) (PcU dC dI ky [.ref o, .int x] [(o, .inr (12, [.int (nI 0), .ref ktape, .int (nI 0), .int (nI 0), .int (nI 0), .int (nI 0), .int (nI 0), .int (nI 0), .int (nI 0), .int (nI 0), .int (nI 0), .int (nI 0), .long 0, .int (nI 0), .ref know, .ref kread, .ref kkept, .ref ksnaps, .ref kaside, .ref kname, .ref kreadName, .ref kkeptName, .ref kisKept, .ref konces, .int (nI 0), .int (nI 0), .ref kpoured, .ref kfar, .ref ksides, .int (nI 0), .int (-1 : Int32), .int (nI 0), .ref klines, .ref kmet, .int (nI 0), .ref ksunk, .ref ktrying, .int (nI 0), .int (-1 : Int32), .int (-1 : Int32), .ref ktext, .int (nI 0), .int (nI 0), .ref kline, .ref kwritten, .int (nI 0), .int (nI 0), .ref knode, .int (nI 0), .int (nI 0), .int (nI 0), .int (nI 0)])), (know, .inl (ky 0, 373, .inl knowF))] sz) (va_Qi (fun (r : Int32) (_ : Unit) => ((x.toInt = 0 ∨ x.toInt = 1) ∧ r = nI 4) ∨ ((x.toInt = 2 ∨ x.toInt = 3 ∨ x.toInt = 6) ∧ r = nI 0) ∨ (x.toInt = 4 ∧ r = nI 1) ∨ (x.toInt = 5 ∧ r = nI 3) ∨ ((x.toInt < 0 ∨ 6 < x.toInt) ∧ r = (-1 : Int32))) (BU dC dI ky (fun (_ : Unit) => []) (va_A [(o, .inr (12, [.int (nI 0), .ref ktape, .int (nI 0), .int (nI 0), .int (nI 0), .int (nI 0), .int (nI 0), .int (nI 0), .int (nI 0), .int (nI 0), .int (nI 0), .int (nI 0), .long 0, .int (nI 0), .ref know, .ref kread, .ref kkept, .ref ksnaps, .ref kaside, .ref kname, .ref kreadName, .ref kkeptName, .ref kisKept, .ref konces, .int (nI 0), .int (nI 0), .ref kpoured, .ref kfar, .ref ksides, .int (nI 0), .int (-1 : Int32), .int (nI 0), .ref klines, .ref kmet, .int (nI 0), .ref ksunk, .ref ktrying, .int (nI 0), .int (-1 : Int32), .int (-1 : Int32), .ref ktext, .int (nI 0), .int (nI 0), .ref kline, .ref kwritten, .int (nI 0), .int (nI 0), .ref knode, .int (nI 0), .int (nI 0), .int (nI 0), .int (nI 0)])), (know, .inl (ky 0, 373, .inl knowF))] sz)) (va_A [(o, .inr (12, [.int (nI 0), .ref ktape, .int (nI 0), .int (nI 0), .int (nI 0), .int (nI 0), .int (nI 0), .int (nI 0), .int (nI 0), .int (nI 0), .int (nI 0), .int (nI 0), .long 0, .int (nI 0), .ref know, .ref kread, .ref kkept, .ref ksnaps, .ref kaside, .ref kname, .ref kreadName, .ref kkeptName, .ref kisKept, .ref konces, .int (nI 0), .int (nI 0), .ref kpoured, .ref kfar, .ref ksides, .int (nI 0), .int (-1 : Int32), .int (nI 0), .ref klines, .ref kmet, .int (nI 0), .ref ksunk, .ref ktrying, .int (nI 0), .int (-1 : Int32), .int (-1 : Int32), .ref ktext, .int (nI 0), .int (nI 0), .ref kline, .ref kwritten, .int (nI 0), .int (nI 0), .ref knode, .int (nI 0), .int (nI 0), .int (nI 0), .int (nI 0)])), (know, .inl (ky 0, 373, .inl knowF))] sz)) 0 0 (va_A [(o, .inr (12, [.int (nI 0), .ref ktape, .int (nI 0), .int (nI 0), .int (nI 0), .int (nI 0), .int (nI 0), .int (nI 0), .int (nI 0), .int (nI 0), .int (nI 0), .int (nI 0), .long 0, .int (nI 0), .ref know, .ref kread, .ref kkept, .ref ksnaps, .ref kaside, .ref kname, .ref kreadName, .ref kkeptName, .ref kisKept, .ref konces, .int (nI 0), .int (nI 0), .ref kpoured, .ref kfar, .ref ksides, .int (nI 0), .int (-1 : Int32), .int (nI 0), .ref klines, .ref kmet, .int (nI 0), .ref ksunk, .ref ktrying, .int (nI 0), .int (-1 : Int32), .int (-1 : Int32), .ref ktext, .int (nI 0), .int (nI 0), .ref kline, .ref kwritten, .int (nI 0), .int (nI 0), .ref knode, .int (nI 0), .int (nI 0), .int (nI 0), .int (nI 0)])), (know, .inl (ky 0, 373, .inl knowF))] sz) := by
  refine Met.ofW (cc := cX12_count) (maxL := 2) (ret := (some .int)) (by decide) rfl ?_
  intro p e s m args below meth c s₁ B hml hv
  obtain ⟨rfl, hsz, hP, hK, hD0⟩ := hv
  have hx := B.exec
  have hb := B.bytes
  have hr := B.returns
  have hts := atoms_spec (ws := wsX12_count) B.pre
  have hown : s.vm.findClass RX12 = some m.cls := findClass_of_methodNamed B.named
  have hlocks := B.notSynchronized
  have hin12 : ∀ w ∈ u_ws RX12 TX12 52, w ∈ wsX12_count := by decide +kernel
  subst hsz
  have hD := hD0.self (sz := s.heap.size)
  generalize hAe : va_A [(o, .inr (12, [.int (nI 0), .ref ktape, .int (nI 0), .int (nI 0), .int (nI 0), .int (nI 0), .int (nI 0), .int (nI 0), .int (nI 0), .int (nI 0), .int (nI 0), .int (nI 0), .long 0, .int (nI 0), .ref know, .ref kread, .ref kkept, .ref ksnaps, .ref kaside, .ref kname, .ref kreadName, .ref kkeptName, .ref kisKept, .ref konces, .int (nI 0), .int (nI 0), .ref kpoured, .ref kfar, .ref ksides, .int (nI 0), .int (-1 : Int32), .int (nI 0), .ref klines, .ref kmet, .int (nI 0), .ref ksunk, .ref ktrying, .int (nI 0), .int (-1 : Int32), .int (-1 : Int32), .ref ktext, .int (nI 0), .int (nI 0), .ref kline, .ref kwritten, .int (nI 0), .int (nI 0), .ref knode, .int (nI 0), .int (nI 0), .int (nI 0), .int (nI 0)])), (know, .inl (ky 0, 373, .inl knowF))] s.heap.size = A at hD ⊢
  have hA : ∀ q : Nat, s.heap.size ≤ q → A q := fun q h => by rw [← hAe]; exact Or.inr h
  have hS : va_S A s.heap s.heap [] := va_S.rf
  have hP : va_P (dC, dI) vwCl [(o, .inr (12, [.int (nI 0), .ref ktape, .int (nI 0), .int (nI 0), .int (nI 0), .int (nI 0), .int (nI 0), .int (nI 0), .int (nI 0), .int (nI 0), .int (nI 0), .int (nI 0), .long 0, .int (nI 0), .ref know, .ref kread, .ref kkept, .ref ksnaps, .ref kaside, .ref kname, .ref kreadName, .ref kkeptName, .ref kisKept, .ref konces, .int (nI 0), .int (nI 0), .ref kpoured, .ref kfar, .ref ksides, .int (nI 0), .int (-1 : Int32), .int (nI 0), .ref klines, .ref kmet, .int (nI 0), .ref ksunk, .ref ktrying, .int (nI 0), .int (-1 : Int32), .int (-1 : Int32), .ref ktext, .int (nI 0), .int (nI 0), .ref kline, .ref kwritten, .int (nI 0), .int (nI 0), .ref knode, .int (nI 0), .int (nI 0), .int (nI 0), .int (nI 0)])), (know, .inl (ky 0, 373, .inl knowF))] s.heap := hP
  have hl := lv_entry ([.ref o, .int x]) (n := 2) (Nat.le_of_ble_eq_true rfl)
  rw [lg_entry_eq]
  generalize (lg_sl ([.ref o, .int x]) ++ List.replicate (2 - (lg_sl ([.ref o, .int x])).length) Slot.unset).toArray = ls at hl ⊢
  have hl : lv_has ls 2 [(0, .ref o), (1, .int x)] := hl
  have hH0 : True := trivial
  refine lv_aload_n hx hb dX12_count_0 rfl (lv_at hl 0 rfl) ?_
  refine lv_iconst (v := nI 0) hx hb dX12_count_1 (by decide) ?_
  refine va_put (D := (dC, dI)) (ci := 12) (v := .int (nI 0)) (ty := .int) (C := RX12) (T := TX12) (N := 52) hx hb hts hin12 tyX12 tyX12_ok nmX12 hown hK hP hD hS 0 rfl rfl 0 (by decide) (hts (.fieldLink RX12 1 "PorridgeSeaModel" "thrown" "I") (List.mem_of_getElem? (i := 1) rfl)) (fun _ h9 => h9) rfl (by decide +kernel) rfl rfl (Nat.le_of_ble_eq_true rfl) dX12_count_2 (fun H locs hP hD hS => ?_)
  have hP : va_P (dC, dI) vwCl [(o, .inr (12, [.int (nI 0), .ref ktape, .int (nI 0), .int (nI 0), .int (nI 0), .int (nI 0), .int (nI 0), .int (nI 0), .int (nI 0), .int (nI 0), .int (nI 0), .int (nI 0), .long 0, .int (nI 0), .ref know, .ref kread, .ref kkept, .ref ksnaps, .ref kaside, .ref kname, .ref kreadName, .ref kkeptName, .ref kisKept, .ref konces, .int (nI 0), .int (nI 0), .ref kpoured, .ref kfar, .ref ksides, .int (nI 0), .int (-1 : Int32), .int (nI 0), .ref klines, .ref kmet, .int (nI 0), .ref ksunk, .ref ktrying, .int (nI 0), .int (-1 : Int32), .int (-1 : Int32), .ref ktext, .int (nI 0), .int (nI 0), .ref kline, .ref kwritten, .int (nI 0), .int (nI 0), .ref knode, .int (nI 0), .int (nI 0), .int (nI 0), .int (nI 0)])), (know, .inl (ky 0, 373, .inl knowF))] H := hP
  have hD : va_D A [(o, .inr (12, [.int (nI 0), .ref ktape, .int (nI 0), .int (nI 0), .int (nI 0), .int (nI 0), .int (nI 0), .int (nI 0), .int (nI 0), .int (nI 0), .int (nI 0), .int (nI 0), .long 0, .int (nI 0), .ref know, .ref kread, .ref kkept, .ref ksnaps, .ref kaside, .ref kname, .ref kreadName, .ref kkeptName, .ref kisKept, .ref konces, .int (nI 0), .int (nI 0), .ref kpoured, .ref kfar, .ref ksides, .int (nI 0), .int (-1 : Int32), .int (nI 0), .ref klines, .ref kmet, .int (nI 0), .ref ksunk, .ref ktrying, .int (nI 0), .int (-1 : Int32), .int (-1 : Int32), .ref ktext, .int (nI 0), .int (nI 0), .ref kline, .ref kwritten, .int (nI 0), .int (nI 0), .ref knode, .int (nI 0), .int (nI 0), .int (nI 0), .int (nI 0)])), (know, .inl (ky 0, 373, .inl knowF))] := hD
  refine lv_iload_n hx hb dX12_count_5 rfl (lv_at hl 1 rfl) ?_
  rcases sw_in x 6 6 (by decide) (by decide) with hsw | ⟨ksw, hk1, rfl⟩
  · refine lv_tableOut (tgt := 96) hx hb dX12_count_6 hsw (by decide) ?_
    refine lv_iconst (v := (-1 : Int32)) hx hb dX12_count_96 (by decide) ?_
    have hP9 := hP.sub (ws' := []) [] rfl
    have hD9 := hD.sub (ws' := []) [] (by decide) rfl
    refine W.widen (k := 0) (n := 0) (Nat.le_of_ble_eq_true rfl) (Nat.le_of_ble_eq_true rfl) ?_
    exact W.iret (v := (-1 : Int32)) hx hb hr (fun t ht9 hW9 => ⟨⟨(-1 : Int32), (), rfl, (lf_m_count_1 o ktape know kread kkept ksnaps kaside kname kreadName kkeptName kisKept konces kpoured kfar ksides klines kmet ksunk ktrying ktext kline kwritten knode knowF x hN hsw), by rw [ht9]; exact hP9, va_K.moved hW9.alike hK, hD9⟩, hS.F ht9⟩) hS.2.2 dX12_count_97
  · rcases (show ksw = 0 ∨ ksw = 1 ∨ ksw = 2 ∨ ksw = 3 ∨ ksw = 4 ∨ ksw = 5 ∨ ksw = 6 by omega) with rfl | rfl | rfl | rfl | rfl | rfl | rfl
    · refine lv_tableIn (off := 42) (tgt := 48) hx hb dX12_count_6 (by decide) (by decide) rfl (by decide) ?_
      refine lv_aload_n hx hb dX12_count_48 rfl (lv_at hl 0 rfl) ?_
      refine va_get (D := (dC, dI)) (ci := 12) (v := .ref know) (C := RX12) (T := TX12) (N := 52) hx hb hts hin12 hown hK hP 0 rfl rfl 14 (by decide) (hts (.fieldLink RX12 98 "PorridgeSeaModel" "now" "[I") (List.mem_of_getElem? (i := 2) rfl)) (fun _ h9 => h9) rfl dX12_count_49 ?_
      refine lv_iconst (v := nI 0) hx hb dX12_count_52 (by decide) ?_
      refine r_iald hx hb hK hP 1 rfl 0 (by decide) (by decide) (nI 4) (NowOk.b hN).1 dX12_count_53 ?_
      have hP9 := hP.sub (ws' := []) [] rfl
      have hD9 := hD.sub (ws' := []) [] (by decide) rfl
      refine W.widen (k := 0) (n := 0) (Nat.le_of_ble_eq_true rfl) (Nat.le_of_ble_eq_true rfl) ?_
      exact W.iret (v := nI 4) hx hb hr (fun t ht9 hW9 => ⟨⟨nI 4, (), rfl, (lf_m_count_2 o ktape know kread kkept ksnaps kaside kname kreadName kkeptName kisKept konces kpoured kfar ksides klines kmet ksunk ktrying ktext kline kwritten knode knowF hN), by rw [ht9]; exact hP9, va_K.moved hW9.alike hK, hD9⟩, hS.F ht9⟩) hS.2.2 dX12_count_54
    · refine lv_tableIn (off := 49) (tgt := 55) hx hb dX12_count_6 (by decide) (by decide) rfl (by decide) ?_
      refine lv_aload_n hx hb dX12_count_55 rfl (lv_at hl 0 rfl) ?_
      refine va_get (D := (dC, dI)) (ci := 12) (v := .ref know) (C := RX12) (T := TX12) (N := 52) hx hb hts hin12 hown hK hP 0 rfl rfl 14 (by decide) (hts (.fieldLink RX12 98 "PorridgeSeaModel" "now" "[I") (List.mem_of_getElem? (i := 2) rfl)) (fun _ h9 => h9) rfl dX12_count_56 ?_
      refine lv_iconst (v := nI 1) hx hb dX12_count_59 (by decide) ?_
      refine r_iald hx hb hK hP 1 rfl 1 (by decide) (by decide) (nI 4) (NowOk.b hN).2.1 dX12_count_60 ?_
      have hP9 := hP.sub (ws' := []) [] rfl
      have hD9 := hD.sub (ws' := []) [] (by decide) rfl
      refine W.widen (k := 0) (n := 0) (Nat.le_of_ble_eq_true rfl) (Nat.le_of_ble_eq_true rfl) ?_
      exact W.iret (v := nI 4) hx hb hr (fun t ht9 hW9 => ⟨⟨nI 4, (), rfl, (lf_m_count_3 o ktape know kread kkept ksnaps kaside kname kreadName kkeptName kisKept konces kpoured kfar ksides klines kmet ksunk ktrying ktext kline kwritten knode knowF hN), by rw [ht9]; exact hP9, va_K.moved hW9.alike hK, hD9⟩, hS.F ht9⟩) hS.2.2 dX12_count_61
    · refine lv_tableIn (off := 56) (tgt := 62) hx hb dX12_count_6 (by decide) (by decide) rfl (by decide) ?_
      refine lv_aload_n hx hb dX12_count_62 rfl (lv_at hl 0 rfl) ?_
      refine va_get (D := (dC, dI)) (ci := 12) (v := .ref know) (C := RX12) (T := TX12) (N := 52) hx hb hts hin12 hown hK hP 0 rfl rfl 14 (by decide) (hts (.fieldLink RX12 98 "PorridgeSeaModel" "now" "[I") (List.mem_of_getElem? (i := 2) rfl)) (fun _ h9 => h9) rfl dX12_count_63 ?_
      refine lv_iconst (v := nI 2) hx hb dX12_count_66 (by decide) ?_
      refine r_iald hx hb hK hP 1 rfl 2 (by decide) (by decide) (nI 0) (NowOk.b hN).2.2.1 dX12_count_67 ?_
      have hP9 := hP.sub (ws' := []) [] rfl
      have hD9 := hD.sub (ws' := []) [] (by decide) rfl
      refine W.widen (k := 0) (n := 0) (Nat.le_of_ble_eq_true rfl) (Nat.le_of_ble_eq_true rfl) ?_
      exact W.iret (v := nI 0) hx hb hr (fun t ht9 hW9 => ⟨⟨nI 0, (), rfl, (lf_m_count_4 o ktape know kread kkept ksnaps kaside kname kreadName kkeptName kisKept konces kpoured kfar ksides klines kmet ksunk ktrying ktext kline kwritten knode knowF hN), by rw [ht9]; exact hP9, va_K.moved hW9.alike hK, hD9⟩, hS.F ht9⟩) hS.2.2 dX12_count_68
    · refine lv_tableIn (off := 63) (tgt := 69) hx hb dX12_count_6 (by decide) (by decide) rfl (by decide) ?_
      refine lv_aload_n hx hb dX12_count_69 rfl (lv_at hl 0 rfl) ?_
      refine va_get (D := (dC, dI)) (ci := 12) (v := .ref know) (C := RX12) (T := TX12) (N := 52) hx hb hts hin12 hown hK hP 0 rfl rfl 14 (by decide) (hts (.fieldLink RX12 98 "PorridgeSeaModel" "now" "[I") (List.mem_of_getElem? (i := 2) rfl)) (fun _ h9 => h9) rfl dX12_count_70 ?_
      refine lv_iconst (v := nI 3) hx hb dX12_count_73 (by decide) ?_
      refine r_iald hx hb hK hP 1 rfl 3 (by decide) (by decide) (nI 0) (NowOk.b hN).2.2.2 dX12_count_74 ?_
      have hP9 := hP.sub (ws' := []) [] rfl
      have hD9 := hD.sub (ws' := []) [] (by decide) rfl
      refine W.widen (k := 0) (n := 0) (Nat.le_of_ble_eq_true rfl) (Nat.le_of_ble_eq_true rfl) ?_
      exact W.iret (v := nI 0) hx hb hr (fun t ht9 hW9 => ⟨⟨nI 0, (), rfl, (lf_m_count_5 o ktape know kread kkept ksnaps kaside kname kreadName kkeptName kisKept konces kpoured kfar ksides klines kmet ksunk ktrying ktext kline kwritten knode knowF hN), by rw [ht9]; exact hP9, va_K.moved hW9.alike hK, hD9⟩, hS.F ht9⟩) hS.2.2 dX12_count_75
    · refine lv_tableIn (off := 70) (tgt := 76) hx hb dX12_count_6 (by decide) (by decide) rfl (by decide) ?_
      refine lv_aload_n hx hb dX12_count_76 rfl (lv_at hl 0 rfl) ?_
      refine va_get (D := (dC, dI)) (ci := 12) (v := .ref know) (C := RX12) (T := TX12) (N := 52) hx hb hts hin12 hown hK hP 0 rfl rfl 14 (by decide) (hts (.fieldLink RX12 98 "PorridgeSeaModel" "now" "[I") (List.mem_of_getElem? (i := 2) rfl)) (fun _ h9 => h9) rfl dX12_count_77 ?_
      refine lv_iconst (v := nI 5) hx hb dX12_count_80 (by decide) ?_
      refine r_iald hx hb hK hP 1 rfl 5 (by decide) (by decide) (nI 1) (now_5 hN) dX12_count_81 ?_
      have hP9 := hP.sub (ws' := []) [] rfl
      have hD9 := hD.sub (ws' := []) [] (by decide) rfl
      refine W.widen (k := 0) (n := 0) (Nat.le_of_ble_eq_true rfl) (Nat.le_of_ble_eq_true rfl) ?_
      exact W.iret (v := nI 1) hx hb hr (fun t ht9 hW9 => ⟨⟨nI 1, (), rfl, (lf_m_count_6 o ktape know kread kkept ksnaps kaside kname kreadName kkeptName kisKept konces kpoured kfar ksides klines kmet ksunk ktrying ktext kline kwritten knode knowF hN), by rw [ht9]; exact hP9, va_K.moved hW9.alike hK, hD9⟩, hS.F ht9⟩) hS.2.2 dX12_count_82
    · refine lv_tableIn (off := 77) (tgt := 83) hx hb dX12_count_6 (by decide) (by decide) rfl (by decide) ?_
      refine lv_aload_n hx hb dX12_count_83 rfl (lv_at hl 0 rfl) ?_
      refine va_get (D := (dC, dI)) (ci := 12) (v := .ref know) (C := RX12) (T := TX12) (N := 52) hx hb hts hin12 hown hK hP 0 rfl rfl 14 (by decide) (hts (.fieldLink RX12 98 "PorridgeSeaModel" "now" "[I") (List.mem_of_getElem? (i := 2) rfl)) (fun _ h9 => h9) rfl dX12_count_84 ?_
      refine lv_bipush (v := nI 6) hx hb dX12_count_87 (by decide) ?_
      refine r_iald hx hb hK hP 1 rfl 6 (by decide) (by decide) (nI 3) (now_6 hN) dX12_count_89 ?_
      have hP9 := hP.sub (ws' := []) [] rfl
      have hD9 := hD.sub (ws' := []) [] (by decide) rfl
      refine W.widen (k := 0) (n := 0) (Nat.le_of_ble_eq_true rfl) (Nat.le_of_ble_eq_true rfl) ?_
      exact W.iret (v := nI 3) hx hb hr (fun t ht9 hW9 => ⟨⟨nI 3, (), rfl, (lf_m_count_7 o ktape know kread kkept ksnaps kaside kname kreadName kkeptName kisKept konces kpoured kfar ksides klines kmet ksunk ktrying ktext kline kwritten knode knowF hN), by rw [ht9]; exact hP9, va_K.moved hW9.alike hK, hD9⟩, hS.F ht9⟩) hS.2.2 dX12_count_90
    · refine lv_tableIn (off := 85) (tgt := 91) hx hb dX12_count_6 (by decide) (by decide) rfl (by decide) ?_
      refine lv_aload_n hx hb dX12_count_91 rfl (lv_at hl 0 rfl) ?_
      refine va_get (D := (dC, dI)) (ci := 12) (v := .int (nI 0)) (C := RX12) (T := TX12) (N := 52) hx hb hts hin12 hown hK hP 0 rfl rfl 2 (by decide) (hts (.fieldLink RX12 11 "PorridgeSeaModel" "taped" "I") (List.mem_of_getElem? (i := 3) rfl)) (fun _ h9 => h9) rfl dX12_count_92 ?_
      have hP9 := hP.sub (ws' := []) [] rfl
      have hD9 := hD.sub (ws' := []) [] (by decide) rfl
      refine W.widen (k := 0) (n := 0) (Nat.le_of_ble_eq_true rfl) (Nat.le_of_ble_eq_true rfl) ?_
      exact W.iret (v := nI 0) hx hb hr (fun t ht9 hW9 => ⟨⟨nI 0, (), rfl, (lf_m_count_8 o ktape know kread kkept ksnaps kaside kname kreadName kkeptName kisKept konces kpoured kfar ksides klines kmet ksunk ktrying ktext kline kwritten knode knowF hN), by rw [ht9]; exact hP9, va_K.moved hW9.alike hK, hD9⟩, hS.F ht9⟩) hS.2.2 dX12_count_95
set_option maxHeartbeats 4000000 in
set_option maxRecDepth 100000 in
theorem lp_m_snap {p : Program} {l : Launch} {e : Env} {R : Room} {s : State} {m : MethodId} {args : Array Value} {below : List Frame} {meth : Method} {c : Code} {Q : State → Prop} {dC : Nat → ClassId} {dI : Nat → Nat → Nat} {ky : Nat → ClassId} {H0 : Heap} {A : Nat → Prop} (hx : p.tables.exec = Jvm.exec) (hb : c.code = cX12_snap) (hml : c.maxLocals = 2) (hown : s.vm.findClass RX12 = some m.cls) (hts : ∀ w ∈ wsX12_snap, w.before args s = true) (hK : Kk dC dI ky s) (hA : ∀ q, H0.size ≤ q → A q) (hRf : 0 ≤ R.frames) (hRl : 0 ≤ R.locals) (hRc : 0 ≤ R.cells) (hRs : 0 ≤ R.slots) (o : Nat) (kthrown : Int32) (ktape : Nat) (ktaped : Int32) (ksize : Int32) (klimit : Int32) (kto : Int32) (kfrom : Int32) (kkind : Int32) (knumber : Int32) (ksign : Int32) (kfault : Int32) (kplace : Int32) (kword : Int64) (ktold : Int32) (know : Nat) (kread : Nat) (kkept : Nat) (ksnaps : Nat) (kaside : Nat) (kname : Nat) (kreadName : Nat) (kkeptName : Nat) (kisKept : Nat) (konces : Nat) (khasCells : Int32) (kpoured : Nat) (kfar : Nat) (ksides : Nat) (ksideMany : Int32) (kwayDays : Int32) (khasWay : Int32) (klines : Nat) (kmet : Nat) (kmetMany : Int32) (ksunk : Nat) (ktrying : Nat) (ksunkMany : Int32) (ksending : Int32) (kfleets : Int32) (ktext : Nat) (ktexts : Int32) (kseed : Int32) (kline : Nat) (kwritten : Nat) (klineMany : Int32) (khasWritten : Int32) (knode : Nat) (knodes : Int32) (konesMany : Int32) (kwithin : Int32) (ktop : Int32) (knowF : Nat → Int32) (ksnapsF : Nat → Int32)  (kx : ∀ (i : Nat) (fs : Nat → Int32), 64 = i → ∀ (H : Heap) (locs : List Loc) (ls : Array Slot), va_P (dC, dI) vwCl [(o, .inr (12, [.int kthrown, .ref ktape, .int ktaped, .int ksize, .int klimit, .int kto, .int kfrom, .int kkind, .int knumber, .int ksign, .int kfault, .int kplace, .long kword, .int ktold, .ref know, .ref kread, .ref kkept, .ref ksnaps, .ref kaside, .ref kname, .ref kreadName, .ref kkeptName, .ref kisKept, .ref konces, .int (nI 0), .int khasCells, .ref kpoured, .ref kfar, .ref ksides, .int ksideMany, .int kwayDays, .int khasWay, .ref klines, .ref kmet, .int kmetMany, .ref ksunk, .ref ktrying, .int ksunkMany, .int ksending, .int kfleets, .ref ktext, .int ktexts, .int kseed, .ref kline, .ref kwritten, .int klineMany, .int khasWritten, .ref knode, .int knodes, .int konesMany, .int kwithin, .int ktop])), (know, .inl (ky 0, 373, .inl knowF)), (ksnaps, .inl (ky 0, 512, .inl fs))] H → va_D A [(o, .inr (12, [.int kthrown, .ref ktape, .int ktaped, .int ksize, .int klimit, .int kto, .int kfrom, .int kkind, .int knumber, .int ksign, .int kfault, .int kplace, .long kword, .int ktold, .ref know, .ref kread, .ref kkept, .ref ksnaps, .ref kaside, .ref kname, .ref kreadName, .ref kkeptName, .ref kisKept, .ref konces, .int (nI 0), .int khasCells, .ref kpoured, .ref kfar, .ref ksides, .int ksideMany, .int kwayDays, .int khasWay, .ref klines, .ref kmet, .int kmetMany, .ref ksunk, .ref ktrying, .int ksunkMany, .int ksending, .int kfleets, .ref ktext, .int ktexts, .int kseed, .ref kline, .ref kwritten, .int klineMany, .int khasWritten, .ref knode, .int knodes, .int konesMany, .int kwithin, .int ktop])), (know, .inl (ky 0, 373, .inl knowF)), (ksnaps, .inl (ky 0, 512, .inl fs))] → va_S A H0 H locs → lv_has ls 2 [(1, .int (nI i)), (0, .ref o)] → W p l e R s m args below meth c H locs 0 0 Q (F0 m 86 ls [])) :
    ∀ (nN i : Nat) (fs : Nat → Int32), i ≤ 64 → 64 + 1 ≤ i + nN → ∀ (H : Heap) (locs : List Loc) (ls : Array Slot), va_P (dC, dI) vwCl [(o, .inr (12, [.int kthrown, .ref ktape, .int ktaped, .int ksize, .int klimit, .int kto, .int kfrom, .int kkind, .int knumber, .int ksign, .int kfault, .int kplace, .long kword, .int ktold, .ref know, .ref kread, .ref kkept, .ref ksnaps, .ref kaside, .ref kname, .ref kreadName, .ref kkeptName, .ref kisKept, .ref konces, .int (nI 0), .int khasCells, .ref kpoured, .ref kfar, .ref ksides, .int ksideMany, .int kwayDays, .int khasWay, .ref klines, .ref kmet, .int kmetMany, .ref ksunk, .ref ktrying, .int ksunkMany, .int ksending, .int kfleets, .ref ktext, .int ktexts, .int kseed, .ref kline, .ref kwritten, .int klineMany, .int khasWritten, .ref knode, .int knodes, .int konesMany, .int kwithin, .int ktop])), (know, .inl (ky 0, 373, .inl knowF)), (ksnaps, .inl (ky 0, 512, .inl fs))] H → va_D A [(o, .inr (12, [.int kthrown, .ref ktape, .int ktaped, .int ksize, .int klimit, .int kto, .int kfrom, .int kkind, .int knumber, .int ksign, .int kfault, .int kplace, .long kword, .int ktold, .ref know, .ref kread, .ref kkept, .ref ksnaps, .ref kaside, .ref kname, .ref kreadName, .ref kkeptName, .ref kisKept, .ref konces, .int (nI 0), .int khasCells, .ref kpoured, .ref kfar, .ref ksides, .int ksideMany, .int kwayDays, .int khasWay, .ref klines, .ref kmet, .int kmetMany, .ref ksunk, .ref ktrying, .int ksunkMany, .int ksending, .int kfleets, .ref ktext, .int ktexts, .int kseed, .ref kline, .ref kwritten, .int klineMany, .int khasWritten, .ref knode, .int knodes, .int konesMany, .int kwithin, .int ktop])), (know, .inl (ky 0, 373, .inl knowF)), (ksnaps, .inl (ky 0, 512, .inl fs))] → va_S A H0 H locs → lv_has ls 2 [(1, .int (nI i)), (0, .ref o)] → W p l e R s m args below meth c H locs 0 0 Q (F0 m 51 ls []) := by
  have hin12 : ∀ w ∈ u_ws RX12 TX12 52, w ∈ wsX12_snap := by decide +kernel
  intro nN
  induction nN with
  | zero => intro i fs hi hnN; exfalso; omega
  | succ nN ih =>
    intro i fs hi hnN  H locs ls hP hD hS hl
    refine lv_iload_n hx hb dX12_snap_51 rfl (lv_at hl 0 rfl) ?_
    refine lv_bipush (v := nI 64) hx hb dX12_snap_52 (by decide) ?_
    refine n_icmp_ge (x := i) (y := 64) (tgt := 86) hx hb (by omega) (by omega) dX12_snap_54 (by decide) (fun c1 => ?_) (fun c1 => ?_)
    · exact kx i fs (by omega)  H locs ls hP hD hS (lv_sub hl [0, 1] rfl)
    · refine lv_aload_n hx hb dX12_snap_57 rfl (lv_at hl 1 rfl) ?_
      refine va_get (D := (dC, dI)) (ci := 12) (v := .ref ksnaps) (C := RX12) (T := TX12) (N := 52) hx hb hts hin12 hown hK hP 0 rfl rfl 17 (by decide) (hts (.fieldLink RX12 107 "PorridgeSeaModel" "snaps" "[I") (List.mem_of_getElem? (i := 2) rfl)) (fun _ h9 => h9) rfl dX12_snap_58 ?_
      refine lv_bipush (v := nI 64) hx hb dX12_snap_61 (by decide) ?_
      refine lv_aload_n hx hb dX12_snap_63 rfl (lv_at hl 1 rfl) ?_
      refine va_get (D := (dC, dI)) (ci := 12) (v := .int (nI 0)) (C := RX12) (T := TX12) (N := 52) hx hb hts hin12 hown hK hP 0 rfl rfl 24 (by decide) (hts (.fieldLink RX12 237 "PorridgeSeaModel" "snapMany" "I") (List.mem_of_getElem? (i := 1) rfl)) (fun _ h9 => h9) rfl dX12_snap_64 ?_
      refine lv_imul hx hb dX12_snap_67 ?_
      refine r_ti (nI 0) (by decide) ?_
      refine lv_iload_n hx hb dX12_snap_68 rfl (lv_at hl 0 rfl) ?_
      refine lv_iadd hx hb dX12_snap_69 ?_
      refine r_ti (nI (0 + i)) (nI_add _ _) ?_
      refine lv_aload_n hx hb dX12_snap_70 rfl (lv_at hl 1 rfl) ?_
      refine va_get (D := (dC, dI)) (ci := 12) (v := .ref know) (C := RX12) (T := TX12) (N := 52) hx hb hts hin12 hown hK hP 0 rfl rfl 14 (by decide) (hts (.fieldLink RX12 98 "PorridgeSeaModel" "now" "[I") (List.mem_of_getElem? (i := 3) rfl)) (fun _ h9 => h9) rfl dX12_snap_71 ?_
      refine lv_bipush (v := nI 67) hx hb dX12_snap_74 (by decide) ?_
      refine lv_iload_n hx hb dX12_snap_76 rfl (lv_at hl 0 rfl) ?_
      refine lv_iadd hx hb dX12_snap_77 ?_
      refine r_ti (nI (67 + i)) (nI_add _ _) ?_
      obtain ⟨y2, e3⟩ : ∃ z9, z9 = knowF (67 + i) := ⟨_, rfl⟩
      refine r_iald hx hb hK hP 1 rfl (67 + i) (by omega) (by decide) y2 e3.symm dX12_snap_78 ?_
      refine r_iast (x := y2) hx hb hK hP hD hS 2 rfl (0 + i) (by omega) (by decide) dX12_snap_79 (fun H locs hP hD hS => ?_)
      obtain ⟨g4, e5⟩ : ∃ z9, z9 = upd fs (0 + i) y2 := ⟨_, rfl⟩
      rw [← e5] at hP hD
      have hP : va_P (dC, dI) vwCl [(o, .inr (12, [.int kthrown, .ref ktape, .int ktaped, .int ksize, .int klimit, .int kto, .int kfrom, .int kkind, .int knumber, .int ksign, .int kfault, .int kplace, .long kword, .int ktold, .ref know, .ref kread, .ref kkept, .ref ksnaps, .ref kaside, .ref kname, .ref kreadName, .ref kkeptName, .ref kisKept, .ref konces, .int (nI 0), .int khasCells, .ref kpoured, .ref kfar, .ref ksides, .int ksideMany, .int kwayDays, .int khasWay, .ref klines, .ref kmet, .int kmetMany, .ref ksunk, .ref ktrying, .int ksunkMany, .int ksending, .int kfleets, .ref ktext, .int ktexts, .int kseed, .ref kline, .ref kwritten, .int klineMany, .int khasWritten, .ref knode, .int knodes, .int konesMany, .int kwithin, .int ktop])), (know, .inl (ky 0, 373, .inl knowF)), (ksnaps, .inl (ky 0, 512, .inl g4))] H := hP
      have hD : va_D A [(o, .inr (12, [.int kthrown, .ref ktape, .int ktaped, .int ksize, .int klimit, .int kto, .int kfrom, .int kkind, .int knumber, .int ksign, .int kfault, .int kplace, .long kword, .int ktold, .ref know, .ref kread, .ref kkept, .ref ksnaps, .ref kaside, .ref kname, .ref kreadName, .ref kkeptName, .ref kisKept, .ref konces, .int (nI 0), .int khasCells, .ref kpoured, .ref kfar, .ref ksides, .int ksideMany, .int kwayDays, .int khasWay, .ref klines, .ref kmet, .int kmetMany, .ref ksunk, .ref ktrying, .int ksunkMany, .int ksending, .int kfleets, .ref ktext, .int ktexts, .int kseed, .ref kline, .ref kwritten, .int klineMany, .int khasWritten, .ref knode, .int knodes, .int konesMany, .int kwithin, .int ktop])), (know, .inl (ky 0, 373, .inl knowF)), (ksnaps, .inl (ky 0, 512, .inl g4))] := hD
      refine lv_iinc (v := nI (i + 1)) (lv' := [(1, .int (nI (i + 1))), (0, .ref o)]) hx hb dX12_snap_80 hl (k := 0) rfl (show nI i + nI 1 = nI (i + 1) from nI_add _ _) (by decide) rfl (fun ls hl => ?_)
      refine lv_goto (tgt := 51) hx hb dX12_snap_83 (by decide) ?_
      exact ih (i + 1) g4 (by omega) (by omega)  _ _ _ hP hD hS (lv_sub hl [0, 1] rfl)
set_option maxHeartbeats 4000000 in
set_option maxRecDepth 100000 in
theorem c_m_snap (l : Launch) (dC : Nat → ClassId) (dI : Nat → Nat → Nat) (ky : Nat → ClassId) (sz : Nat) (o : Nat) (kthrown : Int32) (ktape : Nat) (ktaped : Int32) (ksize : Int32) (klimit : Int32) (kto : Int32) (kfrom : Int32) (kkind : Int32) (knumber : Int32) (ksign : Int32) (kfault : Int32) (kplace : Int32) (kword : Int64) (ktold : Int32) (know : Nat) (kread : Nat) (kkept : Nat) (ksnaps : Nat) (kaside : Nat) (kname : Nat) (kreadName : Nat) (kkeptName : Nat) (kisKept : Nat) (konces : Nat) (khasCells : Int32) (kpoured : Nat) (kfar : Nat) (ksides : Nat) (ksideMany : Int32) (kwayDays : Int32) (khasWay : Int32) (klines : Nat) (kmet : Nat) (kmetMany : Int32) (ksunk : Nat) (ktrying : Nat) (ksunkMany : Int32) (ksending : Int32) (kfleets : Int32) (ktext : Nat) (ktexts : Int32) (kseed : Int32) (kline : Nat) (kwritten : Nat) (klineMany : Int32) (khasWritten : Int32) (knode : Nat) (knodes : Int32) (konesMany : Int32) (kwithin : Int32) (ktop : Int32) (knowF : Nat → Int32) (ksnapsF : Nat → Int32)  : Met l yX12_snap wsX12_snap ({ frames := 0, cells := 0, slots := 0, locals := 0 }) (PcU dC dI ky [.ref o] [(o, .inr (12, [.int kthrown, .ref ktape, .int ktaped, .int ksize, .int klimit, .int kto, .int kfrom, .int kkind, .int knumber, .int ksign, .int kfault, .int kplace, .long kword, .int ktold, .ref know, .ref kread, .ref kkept, .ref ksnaps, .ref kaside, .ref kname, .ref kreadName, .ref kkeptName, .ref kisKept, .ref konces, .int (nI 0), .int khasCells, .ref kpoured, .ref kfar, .ref ksides, .int ksideMany, .int kwayDays, .int khasWay, .ref klines, .ref kmet, .int kmetMany, .ref ksunk, .ref ktrying, .int ksunkMany, .int ksending, .int kfleets, .ref ktext, .int ktexts, .int kseed, .ref kline, .ref kwritten, .int klineMany, .int khasWritten, .ref knode, .int knodes, .int konesMany, .int kwithin, .int ktop])), (know, .inl (ky 0, 373, .inl knowF)), (ksnaps, .inl (ky 0, 512, .inl ksnapsF))] sz) (va_Qv (fun (ksnapsG : (Nat → Int32)) => True) (BU dC dI ky (fun (ksnapsG : (Nat → Int32)) => [(o, .inr (12, [.int kthrown, .ref ktape, .int ktaped, .int ksize, .int klimit, .int kto, .int kfrom, .int kkind, .int knumber, .int ksign, .int kfault, .int kplace, .long kword, .int ktold, .ref know, .ref kread, .ref kkept, .ref ksnaps, .ref kaside, .ref kname, .ref kreadName, .ref kkeptName, .ref kisKept, .ref konces, .int (nI 1), .int khasCells, .ref kpoured, .ref kfar, .ref ksides, .int ksideMany, .int kwayDays, .int khasWay, .ref klines, .ref kmet, .int kmetMany, .ref ksunk, .ref ktrying, .int ksunkMany, .int ksending, .int kfleets, .ref ktext, .int ktexts, .int kseed, .ref kline, .ref kwritten, .int klineMany, .int khasWritten, .ref knode, .int knodes, .int konesMany, .int kwithin, .int ktop])), (know, .inl (ky 0, 373, .inl knowF)), (ksnaps, .inl (ky 0, 512, .inl ksnapsG))]) (va_A [(o, .inr (12, [.int kthrown, .ref ktape, .int ktaped, .int ksize, .int klimit, .int kto, .int kfrom, .int kkind, .int knumber, .int ksign, .int kfault, .int kplace, .long kword, .int ktold, .ref know, .ref kread, .ref kkept, .ref ksnaps, .ref kaside, .ref kname, .ref kreadName, .ref kkeptName, .ref kisKept, .ref konces, .int (nI 0), .int khasCells, .ref kpoured, .ref kfar, .ref ksides, .int ksideMany, .int kwayDays, .int khasWay, .ref klines, .ref kmet, .int kmetMany, .ref ksunk, .ref ktrying, .int ksunkMany, .int ksending, .int kfleets, .ref ktext, .int ktexts, .int kseed, .ref kline, .ref kwritten, .int klineMany, .int khasWritten, .ref knode, .int knodes, .int konesMany, .int kwithin, .int ktop])), (know, .inl (ky 0, 373, .inl knowF)), (ksnaps, .inl (ky 0, 512, .inl ksnapsF))] sz)) (va_A [(o, .inr (12, [.int kthrown, .ref ktape, .int ktaped, .int ksize, .int klimit, .int kto, .int kfrom, .int kkind, .int knumber, .int ksign, .int kfault, .int kplace, .long kword, .int ktold, .ref know, .ref kread, .ref kkept, .ref ksnaps, .ref kaside, .ref kname, .ref kreadName, .ref kkeptName, .ref kisKept, .ref konces, .int (nI 0), .int khasCells, .ref kpoured, .ref kfar, .ref ksides, .int ksideMany, .int kwayDays, .int khasWay, .ref klines, .ref kmet, .int kmetMany, .ref ksunk, .ref ktrying, .int ksunkMany, .int ksending, .int kfleets, .ref ktext, .int ktexts, .int kseed, .ref kline, .ref kwritten, .int klineMany, .int khasWritten, .ref knode, .int knodes, .int konesMany, .int kwithin, .int ktop])), (know, .inl (ky 0, 373, .inl knowF)), (ksnaps, .inl (ky 0, 512, .inl ksnapsF))] sz)) 0 0 (va_A [(o, .inr (12, [.int kthrown, .ref ktape, .int ktaped, .int ksize, .int klimit, .int kto, .int kfrom, .int kkind, .int knumber, .int ksign, .int kfault, .int kplace, .long kword, .int ktold, .ref know, .ref kread, .ref kkept, .ref ksnaps, .ref kaside, .ref kname, .ref kreadName, .ref kkeptName, .ref kisKept, .ref konces, .int (nI 0), .int khasCells, .ref kpoured, .ref kfar, .ref ksides, .int ksideMany, .int kwayDays, .int khasWay, .ref klines, .ref kmet, .int kmetMany, .ref ksunk, .ref ktrying, .int ksunkMany, .int ksending, .int kfleets, .ref ktext, .int ktexts, .int kseed, .ref kline, .ref kwritten, .int klineMany, .int khasWritten, .ref knode, .int knodes, .int konesMany, .int kwithin, .int ktop])), (know, .inl (ky 0, 373, .inl knowF)), (ksnaps, .inl (ky 0, 512, .inl ksnapsF))] sz) := by
  refine Met.ofW (cc := cX12_snap) (maxL := 2) (ret := none) (by decide) rfl ?_
  intro p e s m args below meth c s₁ B hml hv
  obtain ⟨rfl, hsz, hP, hK, hD0⟩ := hv
  have hx := B.exec
  have hb := B.bytes
  have hr := B.returns
  have hts := atoms_spec (ws := wsX12_snap) B.pre
  have hown : s.vm.findClass RX12 = some m.cls := findClass_of_methodNamed B.named
  have hlocks := B.notSynchronized
  have hin12 : ∀ w ∈ u_ws RX12 TX12 52, w ∈ wsX12_snap := by decide +kernel
  subst hsz
  have hD := hD0.self (sz := s.heap.size)
  generalize hAe : va_A [(o, .inr (12, [.int kthrown, .ref ktape, .int ktaped, .int ksize, .int klimit, .int kto, .int kfrom, .int kkind, .int knumber, .int ksign, .int kfault, .int kplace, .long kword, .int ktold, .ref know, .ref kread, .ref kkept, .ref ksnaps, .ref kaside, .ref kname, .ref kreadName, .ref kkeptName, .ref kisKept, .ref konces, .int (nI 0), .int khasCells, .ref kpoured, .ref kfar, .ref ksides, .int ksideMany, .int kwayDays, .int khasWay, .ref klines, .ref kmet, .int kmetMany, .ref ksunk, .ref ktrying, .int ksunkMany, .int ksending, .int kfleets, .ref ktext, .int ktexts, .int kseed, .ref kline, .ref kwritten, .int klineMany, .int khasWritten, .ref knode, .int knodes, .int konesMany, .int kwithin, .int ktop])), (know, .inl (ky 0, 373, .inl knowF)), (ksnaps, .inl (ky 0, 512, .inl ksnapsF))] s.heap.size = A at hD ⊢
  have hA : ∀ q : Nat, s.heap.size ≤ q → A q := fun q h => by rw [← hAe]; exact Or.inr h
  have hS : va_S A s.heap s.heap [] := va_S.rf
  have hP : va_P (dC, dI) vwCl [(o, .inr (12, [.int kthrown, .ref ktape, .int ktaped, .int ksize, .int klimit, .int kto, .int kfrom, .int kkind, .int knumber, .int ksign, .int kfault, .int kplace, .long kword, .int ktold, .ref know, .ref kread, .ref kkept, .ref ksnaps, .ref kaside, .ref kname, .ref kreadName, .ref kkeptName, .ref kisKept, .ref konces, .int (nI 0), .int khasCells, .ref kpoured, .ref kfar, .ref ksides, .int ksideMany, .int kwayDays, .int khasWay, .ref klines, .ref kmet, .int kmetMany, .ref ksunk, .ref ktrying, .int ksunkMany, .int ksending, .int kfleets, .ref ktext, .int ktexts, .int kseed, .ref kline, .ref kwritten, .int klineMany, .int khasWritten, .ref knode, .int knodes, .int konesMany, .int kwithin, .int ktop])), (know, .inl (ky 0, 373, .inl knowF)), (ksnaps, .inl (ky 0, 512, .inl ksnapsF))] s.heap := hP
  have hl := lv_entry ([.ref o]) (n := 2) (Nat.le_of_ble_eq_true rfl)
  rw [lg_entry_eq]
  generalize (lg_sl ([.ref o]) ++ List.replicate (2 - (lg_sl ([.ref o])).length) Slot.unset).toArray = ls at hl ⊢
  have hl : lv_has ls 2 [(0, .ref o)] := hl
  have hH0 : True := trivial
  refine lv_aload_n hx hb dX12_snap_0 rfl (lv_at hl 0 rfl) ?_
  refine va_get (D := (dC, dI)) (ci := 12) (v := .int (nI 0)) (C := RX12) (T := TX12) (N := 52) hx hb hts hin12 hown hK hP 0 rfl rfl 24 (by decide) (hts (.fieldLink RX12 237 "PorridgeSeaModel" "snapMany" "I") (List.mem_of_getElem? (i := 1) rfl)) (fun _ h9 => h9) rfl dX12_snap_1 ?_
  refine lv_bipush (v := nI 8) hx hb dX12_snap_4 (by decide) ?_
  refine lv_icmp_ne (tgt := 49) hx hb dX12_snap_6 (by decide) (fun c1 => ?_) (fun c1 => absurd c1 (by decide))
  refine lv_iconst (v := nI 0) hx hb dX12_snap_49 (by decide) ?_
  refine lv_istore_n (lv' := [(1, .int (nI 0)), (0, .ref o)]) hx hb dX12_snap_50 rfl hl (by decide) rfl (fun ls hl => ?_)
  refine lp_m_snap hx hb hml hown hts hK hA (Nat.le_of_ble_eq_true rfl) (Nat.le_of_ble_eq_true rfl) (Nat.le_of_ble_eq_true rfl) (Nat.le_of_ble_eq_true rfl) o kthrown ktape ktaped ksize klimit kto kfrom kkind knumber ksign kfault kplace kword ktold know kread kkept ksnaps kaside kname kreadName kkeptName kisKept konces khasCells kpoured kfar ksides ksideMany kwayDays khasWay klines kmet kmetMany ksunk ktrying ksunkMany ksending kfleets ktext ktexts kseed kline kwritten klineMany khasWritten knode knodes konesMany kwithin ktop knowF ksnapsF ?_ (64 + 1) 0 ksnapsF (by omega) (by omega)  _ _ _ hP hD hS (lv_sub hl [0, 1] rfl)
  intro i fs hiN  H locs ls hP hD hS hl
  subst hiN
  refine lv_aload_n hx hb dX12_snap_86 rfl (lv_at hl 1 rfl) ?_
  refine lv_dup hx hb dX12_snap_87 rfl ?_
  refine va_get (D := (dC, dI)) (ci := 12) (v := .int (nI 0)) (C := RX12) (T := TX12) (N := 52) hx hb hts hin12 hown hK hP 0 rfl rfl 24 (by decide) (hts (.fieldLink RX12 237 "PorridgeSeaModel" "snapMany" "I") (List.mem_of_getElem? (i := 1) rfl)) (fun _ h9 => h9) rfl dX12_snap_88 ?_
  refine lv_iconst (v := nI 1) hx hb dX12_snap_91 (by decide) ?_
  refine lv_iadd hx hb dX12_snap_92 ?_
  refine r_ti (nI 1) (by decide) ?_
  refine va_put (D := (dC, dI)) (ci := 12) (v := .int (nI 1)) (ty := .int) (C := RX12) (T := TX12) (N := 52) hx hb hts hin12 tyX12 tyX12_ok nmX12 hown hK hP hD hS 0 rfl rfl 24 (by decide) (hts (.fieldLink RX12 237 "PorridgeSeaModel" "snapMany" "I") (List.mem_of_getElem? (i := 1) rfl)) (fun _ h9 => h9) rfl (by decide +kernel) rfl rfl (Nat.le_of_ble_eq_true rfl) dX12_snap_93 (fun H locs hP hD hS => ?_)
  have hP : va_P (dC, dI) vwCl [(o, .inr (12, [.int kthrown, .ref ktape, .int ktaped, .int ksize, .int klimit, .int kto, .int kfrom, .int kkind, .int knumber, .int ksign, .int kfault, .int kplace, .long kword, .int ktold, .ref know, .ref kread, .ref kkept, .ref ksnaps, .ref kaside, .ref kname, .ref kreadName, .ref kkeptName, .ref kisKept, .ref konces, .int (nI 1), .int khasCells, .ref kpoured, .ref kfar, .ref ksides, .int ksideMany, .int kwayDays, .int khasWay, .ref klines, .ref kmet, .int kmetMany, .ref ksunk, .ref ktrying, .int ksunkMany, .int ksending, .int kfleets, .ref ktext, .int ktexts, .int kseed, .ref kline, .ref kwritten, .int klineMany, .int khasWritten, .ref knode, .int knodes, .int konesMany, .int kwithin, .int ktop])), (know, .inl (ky 0, 373, .inl knowF)), (ksnaps, .inl (ky 0, 512, .inl fs))] H := hP
  have hD : va_D A [(o, .inr (12, [.int kthrown, .ref ktape, .int ktaped, .int ksize, .int klimit, .int kto, .int kfrom, .int kkind, .int knumber, .int ksign, .int kfault, .int kplace, .long kword, .int ktold, .ref know, .ref kread, .ref kkept, .ref ksnaps, .ref kaside, .ref kname, .ref kreadName, .ref kkeptName, .ref kisKept, .ref konces, .int (nI 1), .int khasCells, .ref kpoured, .ref kfar, .ref ksides, .int ksideMany, .int kwayDays, .int khasWay, .ref klines, .ref kmet, .int kmetMany, .ref ksunk, .ref ktrying, .int ksunkMany, .int ksending, .int kfleets, .ref ktext, .int ktexts, .int kseed, .ref kline, .ref kwritten, .int klineMany, .int khasWritten, .ref knode, .int knodes, .int konesMany, .int kwithin, .int ktop])), (know, .inl (ky 0, 373, .inl knowF)), (ksnaps, .inl (ky 0, 512, .inl fs))] := hD
  have hP9 := hP.sub (ws' := [(o, .inr (12, [.int kthrown, .ref ktape, .int ktaped, .int ksize, .int klimit, .int kto, .int kfrom, .int kkind, .int knumber, .int ksign, .int kfault, .int kplace, .long kword, .int ktold, .ref know, .ref kread, .ref kkept, .ref ksnaps, .ref kaside, .ref kname, .ref kreadName, .ref kkeptName, .ref kisKept, .ref konces, .int (nI 1), .int khasCells, .ref kpoured, .ref kfar, .ref ksides, .int ksideMany, .int kwayDays, .int khasWay, .ref klines, .ref kmet, .int kmetMany, .ref ksunk, .ref ktrying, .int ksunkMany, .int ksending, .int kfleets, .ref ktext, .int ktexts, .int kseed, .ref kline, .ref kwritten, .int klineMany, .int khasWritten, .ref knode, .int knodes, .int konesMany, .int kwithin, .int ktop])), (know, .inl (ky 0, 373, .inl knowF)), (ksnaps, .inl (ky 0, 512, .inl fs))]) [0, 1, 2] rfl
  have hD9 := hD.sub (ws' := [(o, .inr (12, [.int kthrown, .ref ktape, .int ktaped, .int ksize, .int klimit, .int kto, .int kfrom, .int kkind, .int knumber, .int ksign, .int kfault, .int kplace, .long kword, .int ktold, .ref know, .ref kread, .ref kkept, .ref ksnaps, .ref kaside, .ref kname, .ref kreadName, .ref kkeptName, .ref kisKept, .ref konces, .int (nI 1), .int khasCells, .ref kpoured, .ref kfar, .ref ksides, .int ksideMany, .int kwayDays, .int khasWay, .ref klines, .ref kmet, .int kmetMany, .ref ksunk, .ref ktrying, .int ksunkMany, .int ksending, .int kfleets, .ref ktext, .int ktexts, .int kseed, .ref kline, .ref kwritten, .int klineMany, .int khasWritten, .ref knode, .int knodes, .int konesMany, .int kwithin, .int ktop])), (know, .inl (ky 0, 373, .inl knowF)), (ksnaps, .inl (ky 0, 512, .inl fs))]) [0, 1, 2] (by decide) rfl
  refine W.widen (k := 0) (n := 0) (Nat.le_of_ble_eq_true rfl) (Nat.le_of_ble_eq_true rfl) ?_
  exact W.vret hx hb hr (fun t ht9 hW9 => ⟨⟨fs, rfl, trivial, by rw [ht9]; exact hP9, va_K.moved hW9.alike hK, hD9⟩, hS.F ht9⟩) hS.2.2 dX12_snap_96
set_option maxHeartbeats 4000000 in
set_option maxRecDepth 100000 in
theorem lp_m_st1 {p : Program} {l : Launch} {e : Env} {R : Room} {s : State} {m : MethodId} {args : Array Value} {below : List Frame} {meth : Method} {c : Code} {Q : State → Prop} {dC : Nat → ClassId} {dI : Nat → Nat → Nat} {ky : Nat → ClassId} {H0 : Heap} {A : Nat → Prop} (hx : p.tables.exec = Jvm.exec) (hb : c.code = cX12_doStir) (hml : c.maxLocals = 3) (hown : s.vm.findClass RX12 = some m.cls) (hts : ∀ w ∈ wsX12_doStir, w.before args s = true) (hK : Kk dC dI ky s) (hA : ∀ q, H0.size ≤ q → A q) (hRf : 0 ≤ R.frames) (hRl : 0 ≤ R.locals) (hRc : 0 ≤ R.cells) (hRs : 0 ≤ R.slots) (o : Nat) (kthrown : Int32) (ktape : Nat) (ktaped : Int32) (ksize : Int32) (klimit : Int32) (kto : Int32) (kfrom : Int32) (kkind : Int32) (knumber : Int32) (ksign : Int32) (kfault : Int32) (kplace : Int32) (kword : Int64) (ktold : Int32) (know : Nat) (kread : Nat) (kkept : Nat) (ksnaps : Nat) (kaside : Nat) (kname : Nat) (kreadName : Nat) (kkeptName : Nat) (kisKept : Nat) (konces : Nat) (ksnapMany : Int32) (khasCells : Int32) (kpoured : Nat) (kfar : Nat) (ksides : Nat) (ksideMany : Int32) (kwayDays : Int32) (khasWay : Int32) (klines : Nat) (kmet : Nat) (kmetMany : Int32) (ksunk : Nat) (ktrying : Nat) (ksunkMany : Int32) (ksending : Int32) (kfleets : Int32) (ktext : Nat) (ktexts : Int32) (kseed : Int32) (kline : Nat) (kwritten : Nat) (klineMany : Int32) (khasWritten : Int32) (knode : Nat) (knodes : Int32) (konesMany : Int32) (kwithin : Int32) (ktop : Int32) (knowF : Nat → Int32) (kpouredF : Nat → Int32) (ln : Nat) (hB : NowB knowF) (hln : ln < 24) (kx : ∀ (i : Nat) (fp : Nat → Int32), 36 = i → ∀ (H : Heap) (locs : List Loc) (ls : Array Slot), va_P (dC, dI) vwCl [(o, .inr (12, [.int kthrown, .ref ktape, .int ktaped, .int ksize, .int klimit, .int kto, .int kfrom, .int kkind, .int knumber, .int ksign, .int kfault, .int kplace, .long kword, .int ktold, .ref know, .ref kread, .ref kkept, .ref ksnaps, .ref kaside, .ref kname, .ref kreadName, .ref kkeptName, .ref kisKept, .ref konces, .int ksnapMany, .int khasCells, .ref kpoured, .ref kfar, .ref ksides, .int ksideMany, .int kwayDays, .int khasWay, .ref klines, .ref kmet, .int kmetMany, .ref ksunk, .ref ktrying, .int ksunkMany, .int ksending, .int kfleets, .ref ktext, .int ktexts, .int kseed, .ref kline, .ref kwritten, .int klineMany, .int khasWritten, .ref knode, .int knodes, .int konesMany, .int kwithin, .int ktop])), (know, .inl (ky 0, 373, .inl knowF)), (kpoured, .inl (ky 0, 36, .inl fp))] H → va_D A [(o, .inr (12, [.int kthrown, .ref ktape, .int ktaped, .int ksize, .int klimit, .int kto, .int kfrom, .int kkind, .int knumber, .int ksign, .int kfault, .int kplace, .long kword, .int ktold, .ref know, .ref kread, .ref kkept, .ref ksnaps, .ref kaside, .ref kname, .ref kreadName, .ref kkeptName, .ref kisKept, .ref konces, .int ksnapMany, .int khasCells, .ref kpoured, .ref kfar, .ref ksides, .int ksideMany, .int kwayDays, .int khasWay, .ref klines, .ref kmet, .int kmetMany, .ref ksunk, .ref ktrying, .int ksunkMany, .int ksending, .int kfleets, .ref ktext, .int ktexts, .int kseed, .ref kline, .ref kwritten, .int klineMany, .int khasWritten, .ref knode, .int knodes, .int konesMany, .int kwithin, .int ktop])), (know, .inl (ky 0, 373, .inl knowF)), (kpoured, .inl (ky 0, 36, .inl fp))] → va_S A H0 H locs → lv_has ls 3 [(2, .int (nI i)), (0, .ref o), (1, .int (nI ln))] → W p l e R s m args below meth c H locs 0 0 Q (F0 m 21 ls [])) :
    ∀ (nN i : Nat) (fp : Nat → Int32), i ≤ 36 → 36 + 1 ≤ i + nN → ∀ (H : Heap) (locs : List Loc) (ls : Array Slot), va_P (dC, dI) vwCl [(o, .inr (12, [.int kthrown, .ref ktape, .int ktaped, .int ksize, .int klimit, .int kto, .int kfrom, .int kkind, .int knumber, .int ksign, .int kfault, .int kplace, .long kword, .int ktold, .ref know, .ref kread, .ref kkept, .ref ksnaps, .ref kaside, .ref kname, .ref kreadName, .ref kkeptName, .ref kisKept, .ref konces, .int ksnapMany, .int khasCells, .ref kpoured, .ref kfar, .ref ksides, .int ksideMany, .int kwayDays, .int khasWay, .ref klines, .ref kmet, .int kmetMany, .ref ksunk, .ref ktrying, .int ksunkMany, .int ksending, .int kfleets, .ref ktext, .int ktexts, .int kseed, .ref kline, .ref kwritten, .int klineMany, .int khasWritten, .ref knode, .int knodes, .int konesMany, .int kwithin, .int ktop])), (know, .inl (ky 0, 373, .inl knowF)), (kpoured, .inl (ky 0, 36, .inl fp))] H → va_D A [(o, .inr (12, [.int kthrown, .ref ktape, .int ktaped, .int ksize, .int klimit, .int kto, .int kfrom, .int kkind, .int knumber, .int ksign, .int kfault, .int kplace, .long kword, .int ktold, .ref know, .ref kread, .ref kkept, .ref ksnaps, .ref kaside, .ref kname, .ref kreadName, .ref kkeptName, .ref kisKept, .ref konces, .int ksnapMany, .int khasCells, .ref kpoured, .ref kfar, .ref ksides, .int ksideMany, .int kwayDays, .int khasWay, .ref klines, .ref kmet, .int kmetMany, .ref ksunk, .ref ktrying, .int ksunkMany, .int ksending, .int kfleets, .ref ktext, .int ktexts, .int kseed, .ref kline, .ref kwritten, .int klineMany, .int khasWritten, .ref knode, .int knodes, .int konesMany, .int kwithin, .int ktop])), (know, .inl (ky 0, 373, .inl knowF)), (kpoured, .inl (ky 0, 36, .inl fp))] → va_S A H0 H locs → lv_has ls 3 [(2, .int (nI i)), (0, .ref o), (1, .int (nI ln))] → W p l e R s m args below meth c H locs 0 0 Q (F0 m 2 ls []) := by
  have hin12 : ∀ w ∈ u_ws RX12 TX12 52, w ∈ wsX12_doStir := by decide +kernel
  intro nN
  induction nN with
  | zero => intro i fp hi hnN; exfalso; omega
  | succ nN ih =>
    intro i fp hi hnN  H locs ls hP hD hS hl
    refine lv_iload_n hx hb dX12_doStir_2 rfl (lv_at hl 0 rfl) ?_
    refine lv_bipush (v := nI 36) hx hb dX12_doStir_3 (by decide) ?_
    refine n_icmp_ge (x := i) (y := 36) (tgt := 21) hx hb (by omega) (by omega) dX12_doStir_5 (by decide) (fun c1 => ?_) (fun c1 => ?_)
    · exact kx i fp (by omega)  H locs ls hP hD hS (lv_sub hl [0, 1, 2] rfl)
    · refine lv_aload_n hx hb dX12_doStir_8 rfl (lv_at hl 1 rfl) ?_
      refine va_get (D := (dC, dI)) (ci := 12) (v := .ref kpoured) (C := RX12) (T := TX12) (N := 52) hx hb hts hin12 hown hK hP 0 rfl rfl 26 (by decide) (hts (.fieldLink RX12 130 "PorridgeSeaModel" "poured" "[I") (List.mem_of_getElem? (i := 1) rfl)) (fun _ h9 => h9) rfl dX12_doStir_9 ?_
      refine lv_iload_n hx hb dX12_doStir_12 rfl (lv_at hl 0 rfl) ?_
      refine lv_iconst (v := nI 0) hx hb dX12_doStir_13 (by decide) ?_
      refine r_iast (x := (nI 0)) hx hb hK hP hD hS 2 rfl i (by omega) (by decide) dX12_doStir_14 (fun H locs hP hD hS => ?_)
      obtain ⟨g2, e3⟩ : ∃ z9, z9 = upd fp i (nI 0) := ⟨_, rfl⟩
      rw [← e3] at hP hD
      have hP : va_P (dC, dI) vwCl [(o, .inr (12, [.int kthrown, .ref ktape, .int ktaped, .int ksize, .int klimit, .int kto, .int kfrom, .int kkind, .int knumber, .int ksign, .int kfault, .int kplace, .long kword, .int ktold, .ref know, .ref kread, .ref kkept, .ref ksnaps, .ref kaside, .ref kname, .ref kreadName, .ref kkeptName, .ref kisKept, .ref konces, .int ksnapMany, .int khasCells, .ref kpoured, .ref kfar, .ref ksides, .int ksideMany, .int kwayDays, .int khasWay, .ref klines, .ref kmet, .int kmetMany, .ref ksunk, .ref ktrying, .int ksunkMany, .int ksending, .int kfleets, .ref ktext, .int ktexts, .int kseed, .ref kline, .ref kwritten, .int klineMany, .int khasWritten, .ref knode, .int knodes, .int konesMany, .int kwithin, .int ktop])), (know, .inl (ky 0, 373, .inl knowF)), (kpoured, .inl (ky 0, 36, .inl g2))] H := hP
      have hD : va_D A [(o, .inr (12, [.int kthrown, .ref ktape, .int ktaped, .int ksize, .int klimit, .int kto, .int kfrom, .int kkind, .int knumber, .int ksign, .int kfault, .int kplace, .long kword, .int ktold, .ref know, .ref kread, .ref kkept, .ref ksnaps, .ref kaside, .ref kname, .ref kreadName, .ref kkeptName, .ref kisKept, .ref konces, .int ksnapMany, .int khasCells, .ref kpoured, .ref kfar, .ref ksides, .int ksideMany, .int kwayDays, .int khasWay, .ref klines, .ref kmet, .int kmetMany, .ref ksunk, .ref ktrying, .int ksunkMany, .int ksending, .int kfleets, .ref ktext, .int ktexts, .int kseed, .ref kline, .ref kwritten, .int klineMany, .int khasWritten, .ref knode, .int knodes, .int konesMany, .int kwithin, .int ktop])), (know, .inl (ky 0, 373, .inl knowF)), (kpoured, .inl (ky 0, 36, .inl g2))] := hD
      refine lv_iinc (v := nI (i + 1)) (lv' := [(2, .int (nI (i + 1))), (0, .ref o), (1, .int (nI ln))]) hx hb dX12_doStir_15 hl (k := 0) rfl (show nI i + nI 1 = nI (i + 1) from nI_add _ _) (by decide) rfl (fun ls hl => ?_)
      refine lv_goto (tgt := 2) hx hb dX12_doStir_18 (by decide) ?_
      exact ih (i + 1) g2 (by omega) (by omega)  _ _ _ hP hD hS (lv_sub hl [0, 1, 2] rfl)
set_option maxHeartbeats 4000000 in
set_option maxRecDepth 100000 in
theorem lp_m_st2 {p : Program} {l : Launch} {e : Env} {R : Room} {s : State} {m : MethodId} {args : Array Value} {below : List Frame} {meth : Method} {c : Code} {Q : State → Prop} {dC : Nat → ClassId} {dI : Nat → Nat → Nat} {ky : Nat → ClassId} {H0 : Heap} {A : Nat → Prop} (hx : p.tables.exec = Jvm.exec) (hb : c.code = cX12_doStir) (hml : c.maxLocals = 3) (hown : s.vm.findClass RX12 = some m.cls) (hts : ∀ w ∈ wsX12_doStir, w.before args s = true) (hK : Kk dC dI ky s) (hA : ∀ q, H0.size ≤ q → A q) (hRf : 1 ≤ R.frames) (hRl : 27 ≤ R.locals) (hRc : 0 ≤ R.cells) (hRs : 0 ≤ R.slots) (o : Nat) (kthrown : Int32) (ktape : Nat) (ktaped : Int32) (ksize : Int32) (klimit : Int32) (kto : Int32) (kfrom : Int32) (kkind : Int32) (knumber : Int32) (ksign : Int32) (kfault : Int32) (kplace : Int32) (kword : Int64) (ktold : Int32) (know : Nat) (kread : Nat) (kkept : Nat) (ksnaps : Nat) (kaside : Nat) (kname : Nat) (kreadName : Nat) (kkeptName : Nat) (kisKept : Nat) (konces : Nat) (ksnapMany : Int32) (khasCells : Int32) (kpoured : Nat) (kfar : Nat) (ksides : Nat) (ksideMany : Int32) (kwayDays : Int32) (khasWay : Int32) (klines : Nat) (kmet : Nat) (kmetMany : Int32) (ksunk : Nat) (ktrying : Nat) (ksunkMany : Int32) (ksending : Int32) (kfleets : Int32) (ktext : Nat) (ktexts : Int32) (kseed : Int32) (kline : Nat) (kwritten : Nat) (klineMany : Int32) (khasWritten : Int32) (knode : Nat) (knodes : Int32) (konesMany : Int32) (kwithin : Int32) (ktop : Int32) (knowF : Nat → Int32) (kpouredF : Nat → Int32) (ln : Nat) (fp : Nat → Int32) (hB : NowB knowF) (hln : ln < 24) (kx : ∀ (i : Nat) (fq : Nat → Int32), 36 = i → ∀ (H : Heap) (locs : List Loc) (ls : Array Slot), va_P (dC, dI) vwCl [(o, .inr (12, [.int kthrown, .ref ktape, .int ktaped, .int ksize, .int klimit, .int kto, .int kfrom, .int kkind, .int knumber, .int ksign, .int kfault, .int kplace, .long kword, .int ktold, .ref know, .ref kread, .ref kkept, .ref ksnaps, .ref kaside, .ref kname, .ref kreadName, .ref kkeptName, .ref kisKept, .ref konces, .int ksnapMany, .int khasCells, .ref kpoured, .ref kfar, .ref ksides, .int ksideMany, .int kwayDays, .int khasWay, .ref klines, .ref kmet, .int kmetMany, .ref ksunk, .ref ktrying, .int ksunkMany, .int ksending, .int kfleets, .ref ktext, .int ktexts, .int kseed, .ref kline, .ref kwritten, .int klineMany, .int khasWritten, .ref knode, .int knodes, .int konesMany, .int kwithin, .int ktop])), (know, .inl (ky 0, 373, .inl knowF)), (kpoured, .inl (ky 0, 36, .inl fq))] H → va_D A [(o, .inr (12, [.int kthrown, .ref ktape, .int ktaped, .int ksize, .int klimit, .int kto, .int kfrom, .int kkind, .int knumber, .int ksign, .int kfault, .int kplace, .long kword, .int ktold, .ref know, .ref kread, .ref kkept, .ref ksnaps, .ref kaside, .ref kname, .ref kreadName, .ref kkeptName, .ref kisKept, .ref konces, .int ksnapMany, .int khasCells, .ref kpoured, .ref kfar, .ref ksides, .int ksideMany, .int kwayDays, .int khasWay, .ref klines, .ref kmet, .int kmetMany, .ref ksunk, .ref ktrying, .int ksunkMany, .int ksending, .int kfleets, .ref ktext, .int ktexts, .int kseed, .ref kline, .ref kwritten, .int klineMany, .int khasWritten, .ref knode, .int knodes, .int konesMany, .int kwithin, .int ktop])), (know, .inl (ky 0, 373, .inl knowF)), (kpoured, .inl (ky 0, 36, .inl fq))] → va_S A H0 H locs → lv_has ls 3 [(2, .int (nI i)), (0, .ref o), (1, .int (nI ln))] → W p l e R s m args below meth c H locs 0 0 Q (F0 m 63 ls [])) :
    ∀ (nN i : Nat) (fq : Nat → Int32), i ≤ 36 → 36 + 1 ≤ i + nN → ∀ (H : Heap) (locs : List Loc) (ls : Array Slot), va_P (dC, dI) vwCl [(o, .inr (12, [.int kthrown, .ref ktape, .int ktaped, .int ksize, .int klimit, .int kto, .int kfrom, .int kkind, .int knumber, .int ksign, .int kfault, .int kplace, .long kword, .int ktold, .ref know, .ref kread, .ref kkept, .ref ksnaps, .ref kaside, .ref kname, .ref kreadName, .ref kkeptName, .ref kisKept, .ref konces, .int ksnapMany, .int khasCells, .ref kpoured, .ref kfar, .ref ksides, .int ksideMany, .int kwayDays, .int khasWay, .ref klines, .ref kmet, .int kmetMany, .ref ksunk, .ref ktrying, .int ksunkMany, .int ksending, .int kfleets, .ref ktext, .int ktexts, .int kseed, .ref kline, .ref kwritten, .int klineMany, .int khasWritten, .ref knode, .int knodes, .int konesMany, .int kwithin, .int ktop])), (know, .inl (ky 0, 373, .inl knowF)), (kpoured, .inl (ky 0, 36, .inl fq))] H → va_D A [(o, .inr (12, [.int kthrown, .ref ktape, .int ktaped, .int ksize, .int klimit, .int kto, .int kfrom, .int kkind, .int knumber, .int ksign, .int kfault, .int kplace, .long kword, .int ktold, .ref know, .ref kread, .ref kkept, .ref ksnaps, .ref kaside, .ref kname, .ref kreadName, .ref kkeptName, .ref kisKept, .ref konces, .int ksnapMany, .int khasCells, .ref kpoured, .ref kfar, .ref ksides, .int ksideMany, .int kwayDays, .int khasWay, .ref klines, .ref kmet, .int kmetMany, .ref ksunk, .ref ktrying, .int ksunkMany, .int ksending, .int kfleets, .ref ktext, .int ktexts, .int kseed, .ref kline, .ref kwritten, .int klineMany, .int khasWritten, .ref knode, .int knodes, .int konesMany, .int kwithin, .int ktop])), (know, .inl (ky 0, 373, .inl knowF)), (kpoured, .inl (ky 0, 36, .inl fq))] → va_S A H0 H locs → lv_has ls 3 [(2, .int (nI i)), (0, .ref o), (1, .int (nI ln))] → W p l e R s m args below meth c H locs 0 0 Q (F0 m 23 ls []) := by
  have hin12 : ∀ w ∈ u_ws RX12 TX12 52, w ∈ wsX12_doStir := by decide +kernel
  intro nN
  induction nN with
  | zero => intro i fq hi hnN; exfalso; omega
  | succ nN ih =>
    intro i fq hi hnN  H locs ls hP hD hS hl
    refine lv_iload_n hx hb dX12_doStir_23 rfl (lv_at hl 0 rfl) ?_
    refine lv_bipush (v := nI 36) hx hb dX12_doStir_24 (by decide) ?_
    refine n_icmp_ge (x := i) (y := 36) (tgt := 63) hx hb (by omega) (by omega) dX12_doStir_26 (by decide) (fun c1 => ?_) (fun c1 => ?_)
    · exact kx i fq (by omega)  H locs ls hP hD hS (lv_sub hl [0, 1, 2] rfl)
    · refine lv_aload_n hx hb dX12_doStir_29 rfl (lv_at hl 1 rfl) ?_
      refine lv_iload_n hx hb dX12_doStir_30 rfl (lv_at hl 0 rfl) ?_
      refine vp_callSi (W.runV (As := [.int (nI i)]) (rest := []) ⟨hx, hb, hml, hown, hts⟩ (c_m_isInSea l dC dI ky o kthrown ktape ktaped ksize klimit kto kfrom kkind knumber ksign kfault kplace kword ktold know kread kkept ksnaps kaside kname kreadName kkeptName kisKept konces ksnapMany khasCells kpoured kfar ksides ksideMany kwayDays khasWay klines kmet kmetMany ksunk ktrying ksunkMany ksending kfleets ktext ktexts kseed kline kwritten klineMany khasWritten knode knodes konesMany kwithin ktop knowF i hB (by omega)) (cwV 1 hts gX12_doStir_X12_isInSea rfl rfl rfl (by decide +kernel) ⟨(Nat.le_trans (Nat.le_of_ble_eq_true rfl) hRf), (Nat.le_trans (Nat.le_of_ble_eq_true rfl) hRl)⟩) (pre_PV hK hP [0, 1] rfl (ci := 12) (q0 := 0) rfl rfl) rfl rfl hl.1 rfl (lv_room (Nat.le_of_ble_eq_true rfl)) dX12_doStir_31 ⟨(Nat.le_trans (Nat.le_of_ble_eq_true rfl) hRc), (Nat.le_trans (Nat.le_of_ble_eq_true rfl) hRs)⟩) (fun r2 p3 => ?_)
      refine lv_if_eq (tgt := 57) hx hb dX12_doStir_34 (by decide) (fun c4 => ?_) (fun c4 => ?_)
      · refine lv_iinc (v := nI (i + 1)) (lv' := [(2, .int (nI (i + 1))), (0, .ref o), (1, .int (nI ln))]) hx hb dX12_doStir_57 hl (k := 0) rfl (show nI i + nI 1 = nI (i + 1) from nI_add _ _) (by decide) rfl (fun ls hl => ?_)
        refine lv_goto (tgt := 23) hx hb dX12_doStir_60 (by decide) ?_
        exact ih (i + 1) fq (by omega) (by omega)  _ _ _ hP hD hS (lv_sub hl [0, 1, 2] rfl)
      · refine lv_aload_n hx hb dX12_doStir_37 rfl (lv_at hl 1 rfl) ?_
        refine va_get (D := (dC, dI)) (ci := 12) (v := .ref kpoured) (C := RX12) (T := TX12) (N := 52) hx hb hts hin12 hown hK hP 0 rfl rfl 26 (by decide) (hts (.fieldLink RX12 130 "PorridgeSeaModel" "poured" "[I") (List.mem_of_getElem? (i := 1) rfl)) (fun _ h9 => h9) rfl dX12_doStir_38 ?_
        refine lv_aload_n hx hb dX12_doStir_41 rfl (lv_at hl 1 rfl) ?_
        refine lv_iload_n hx hb dX12_doStir_42 rfl (lv_at hl 0 rfl) ?_
        refine lv_iload_n hx hb dX12_doStir_43 rfl (lv_at hl 2 rfl) ?_
        refine vp_callSi (W.runV (As := [.int (nI i), .int (nI ln)]) (rest := [.ref kpoured]) ⟨hx, hb, hml, hown, hts⟩ (c_m_stirred l dC dI ky o kthrown ktape ktaped ksize klimit kto kfrom kkind knumber ksign kfault kplace kword ktold know kread kkept ksnaps kaside kname kreadName kkeptName kisKept konces ksnapMany khasCells kpoured kfar ksides ksideMany kwayDays khasWay klines kmet kmetMany ksunk ktrying ksunkMany ksending kfleets ktext ktexts kseed kline kwritten klineMany khasWritten knode knodes konesMany kwithin ktop knowF i ln hB (by omega) (by omega)) (cwV 2 hts gX12_doStir_X12_stirred rfl rfl rfl (by decide +kernel) ⟨(Nat.le_trans (Nat.le_of_ble_eq_true rfl) hRf), (Nat.le_trans (Nat.le_of_ble_eq_true rfl) hRl)⟩) (pre_PV hK hP [0, 1] rfl (ci := 12) (q0 := 0) rfl rfl) rfl rfl hl.1 rfl (lv_room (Nat.le_of_ble_eq_true rfl)) dX12_doStir_44 ⟨(Nat.le_trans (Nat.le_of_ble_eq_true rfl) hRc), (Nat.le_trans (Nat.le_of_ble_eq_true rfl) hRs)⟩) (fun r5 p6 => ?_)
        obtain ⟨k7, h8, rfl⟩ := p6
        refine lv_aload_n hx hb dX12_doStir_47 rfl (lv_at hl 1 rfl) ?_
        refine va_get (D := (dC, dI)) (ci := 12) (v := .ref know) (C := RX12) (T := TX12) (N := 52) hx hb hts hin12 hown hK hP 0 rfl rfl 14 (by decide) (hts (.fieldLink RX12 98 "PorridgeSeaModel" "now" "[I") (List.mem_of_getElem? (i := 2) rfl)) (fun _ h9 => h9) rfl dX12_doStir_48 ?_
        refine lv_bipush (v := nI 71) hx hb dX12_doStir_51 (by decide) ?_
        refine lv_iload_n hx hb dX12_doStir_53 rfl (lv_at hl 0 rfl) ?_
        refine lv_iadd hx hb dX12_doStir_54 ?_
        refine r_ti (nI (71 + i)) (nI_add _ _) ?_
        obtain ⟨y9, e10⟩ : ∃ z9, z9 = knowF (71 + i) := ⟨_, rfl⟩
        refine r_iald hx hb hK hP 1 rfl (71 + i) (by omega) (by decide) y9 e10.symm dX12_doStir_55 ?_
        refine r_iast (x := y9) hx hb hK hP hD hS 2 rfl k7 (by omega) (by decide) dX12_doStir_56 (fun H locs hP hD hS => ?_)
        obtain ⟨g11, e12⟩ : ∃ z9, z9 = upd fq k7 y9 := ⟨_, rfl⟩
        rw [← e12] at hP hD
        have hP : va_P (dC, dI) vwCl [(o, .inr (12, [.int kthrown, .ref ktape, .int ktaped, .int ksize, .int klimit, .int kto, .int kfrom, .int kkind, .int knumber, .int ksign, .int kfault, .int kplace, .long kword, .int ktold, .ref know, .ref kread, .ref kkept, .ref ksnaps, .ref kaside, .ref kname, .ref kreadName, .ref kkeptName, .ref kisKept, .ref konces, .int ksnapMany, .int khasCells, .ref kpoured, .ref kfar, .ref ksides, .int ksideMany, .int kwayDays, .int khasWay, .ref klines, .ref kmet, .int kmetMany, .ref ksunk, .ref ktrying, .int ksunkMany, .int ksending, .int kfleets, .ref ktext, .int ktexts, .int kseed, .ref kline, .ref kwritten, .int klineMany, .int khasWritten, .ref knode, .int knodes, .int konesMany, .int kwithin, .int ktop])), (know, .inl (ky 0, 373, .inl knowF)), (kpoured, .inl (ky 0, 36, .inl g11))] H := hP
        have hD : va_D A [(o, .inr (12, [.int kthrown, .ref ktape, .int ktaped, .int ksize, .int klimit, .int kto, .int kfrom, .int kkind, .int knumber, .int ksign, .int kfault, .int kplace, .long kword, .int ktold, .ref know, .ref kread, .ref kkept, .ref ksnaps, .ref kaside, .ref kname, .ref kreadName, .ref kkeptName, .ref kisKept, .ref konces, .int ksnapMany, .int khasCells, .ref kpoured, .ref kfar, .ref ksides, .int ksideMany, .int kwayDays, .int khasWay, .ref klines, .ref kmet, .int kmetMany, .ref ksunk, .ref ktrying, .int ksunkMany, .int ksending, .int kfleets, .ref ktext, .int ktexts, .int kseed, .ref kline, .ref kwritten, .int klineMany, .int khasWritten, .ref knode, .int knodes, .int konesMany, .int kwithin, .int ktop])), (know, .inl (ky 0, 373, .inl knowF)), (kpoured, .inl (ky 0, 36, .inl g11))] := hD
        refine lv_iinc (v := nI (i + 1)) (lv' := [(2, .int (nI (i + 1))), (0, .ref o), (1, .int (nI ln))]) hx hb dX12_doStir_57 hl (k := 0) rfl (show nI i + nI 1 = nI (i + 1) from nI_add _ _) (by decide) rfl (fun ls hl => ?_)
        refine lv_goto (tgt := 23) hx hb dX12_doStir_60 (by decide) ?_
        exact ih (i + 1) g11 (by omega) (by omega)  _ _ _ hP hD hS (lv_sub hl [0, 1, 2] rfl)
set_option maxRecDepth 20000 in
theorem lf_lpm_st3_1 (o : Nat) (kthrown : Int32) (ktape : Nat) (ktaped : Int32) (ksize : Int32) (klimit : Int32) (kto : Int32) (kfrom : Int32) (kkind : Int32) (knumber : Int32) (ksign : Int32) (kfault : Int32) (kplace : Int32) (kword : Int64) (ktold : Int32) (know : Nat) (kread : Nat) (kkept : Nat) (ksnaps : Nat) (kaside : Nat) (kname : Nat) (kreadName : Nat) (kkeptName : Nat) (kisKept : Nat) (konces : Nat) (ksnapMany : Int32) (khasCells : Int32) (kpoured : Nat) (kfar : Nat) (ksides : Nat) (ksideMany : Int32) (kwayDays : Int32) (khasWay : Int32) (klines : Nat) (kmet : Nat) (kmetMany : Int32) (ksunk : Nat) (ktrying : Nat) (ksunkMany : Int32) (ksending : Int32) (kfleets : Int32) (ktext : Nat) (ktexts : Int32) (kseed : Int32) (kline : Nat) (kwritten : Nat) (klineMany : Int32) (khasWritten : Int32) (knode : Nat) (knodes : Int32) (konesMany : Int32) (kwithin : Int32) (ktop : Int32) (knowF : Nat → Int32) (kpouredF : Nat → Int32) (ln : Nat) (fp : Nat → Int32) (fq : Nat → Int32) (i : Nat) (fw : Nat → Int32) (y2 : Int32) (g4 : Nat → Int32) (hB : NowB knowF) (hln : ln < 24) (hi : i ≤ 36) (hL : NowB fw) (c1 : i < 36) (e3 : y2 = fq i) (hB6 : NowB g4) : NowB g4 := by
  assumption
set_option maxHeartbeats 4000000 in
set_option maxRecDepth 100000 in
theorem lp_m_st3 {p : Program} {l : Launch} {e : Env} {R : Room} {s : State} {m : MethodId} {args : Array Value} {below : List Frame} {meth : Method} {c : Code} {Q : State → Prop} {dC : Nat → ClassId} {dI : Nat → Nat → Nat} {ky : Nat → ClassId} {H0 : Heap} {A : Nat → Prop} (hx : p.tables.exec = Jvm.exec) (hb : c.code = cX12_doStir) (hml : c.maxLocals = 3) (hown : s.vm.findClass RX12 = some m.cls) (hts : ∀ w ∈ wsX12_doStir, w.before args s = true) (hK : Kk dC dI ky s) (hA : ∀ q, H0.size ≤ q → A q) (hRf : 0 ≤ R.frames) (hRl : 0 ≤ R.locals) (hRc : 0 ≤ R.cells) (hRs : 0 ≤ R.slots) (o : Nat) (kthrown : Int32) (ktape : Nat) (ktaped : Int32) (ksize : Int32) (klimit : Int32) (kto : Int32) (kfrom : Int32) (kkind : Int32) (knumber : Int32) (ksign : Int32) (kfault : Int32) (kplace : Int32) (kword : Int64) (ktold : Int32) (know : Nat) (kread : Nat) (kkept : Nat) (ksnaps : Nat) (kaside : Nat) (kname : Nat) (kreadName : Nat) (kkeptName : Nat) (kisKept : Nat) (konces : Nat) (ksnapMany : Int32) (khasCells : Int32) (kpoured : Nat) (kfar : Nat) (ksides : Nat) (ksideMany : Int32) (kwayDays : Int32) (khasWay : Int32) (klines : Nat) (kmet : Nat) (kmetMany : Int32) (ksunk : Nat) (ktrying : Nat) (ksunkMany : Int32) (ksending : Int32) (kfleets : Int32) (ktext : Nat) (ktexts : Int32) (kseed : Int32) (kline : Nat) (kwritten : Nat) (klineMany : Int32) (khasWritten : Int32) (knode : Nat) (knodes : Int32) (konesMany : Int32) (kwithin : Int32) (ktop : Int32) (knowF : Nat → Int32) (kpouredF : Nat → Int32) (ln : Nat) (fp : Nat → Int32) (fq : Nat → Int32) (hB : NowB knowF) (hln : ln < 24) (kx : ∀ (i : Nat) (fw : Nat → Int32), 36 = i → (NowB fw) → ∀ (H : Heap) (locs : List Loc) (ls : Array Slot), va_P (dC, dI) vwCl [(o, .inr (12, [.int kthrown, .ref ktape, .int ktaped, .int ksize, .int klimit, .int kto, .int kfrom, .int kkind, .int knumber, .int ksign, .int kfault, .int kplace, .long kword, .int ktold, .ref know, .ref kread, .ref kkept, .ref ksnaps, .ref kaside, .ref kname, .ref kreadName, .ref kkeptName, .ref kisKept, .ref konces, .int ksnapMany, .int khasCells, .ref kpoured, .ref kfar, .ref ksides, .int ksideMany, .int kwayDays, .int khasWay, .ref klines, .ref kmet, .int kmetMany, .ref ksunk, .ref ktrying, .int ksunkMany, .int ksending, .int kfleets, .ref ktext, .int ktexts, .int kseed, .ref kline, .ref kwritten, .int klineMany, .int khasWritten, .ref knode, .int knodes, .int konesMany, .int kwithin, .int ktop])), (know, .inl (ky 0, 373, .inl fw)), (kpoured, .inl (ky 0, 36, .inl fq))] H → va_D A [(o, .inr (12, [.int kthrown, .ref ktape, .int ktaped, .int ksize, .int klimit, .int kto, .int kfrom, .int kkind, .int knumber, .int ksign, .int kfault, .int kplace, .long kword, .int ktold, .ref know, .ref kread, .ref kkept, .ref ksnaps, .ref kaside, .ref kname, .ref kreadName, .ref kkeptName, .ref kisKept, .ref konces, .int ksnapMany, .int khasCells, .ref kpoured, .ref kfar, .ref ksides, .int ksideMany, .int kwayDays, .int khasWay, .ref klines, .ref kmet, .int kmetMany, .ref ksunk, .ref ktrying, .int ksunkMany, .int ksending, .int kfleets, .ref ktext, .int ktexts, .int kseed, .ref kline, .ref kwritten, .int klineMany, .int khasWritten, .ref knode, .int knodes, .int konesMany, .int kwithin, .int ktop])), (know, .inl (ky 0, 373, .inl fw)), (kpoured, .inl (ky 0, 36, .inl fq))] → va_S A H0 H locs → lv_has ls 3 [(2, .int (nI i)), (0, .ref o), (1, .int (nI ln))] → W p l e R s m args below meth c H locs 0 0 Q (F0 m 92 ls [])) :
    ∀ (nN i : Nat) (fw : Nat → Int32), i ≤ 36 → 36 + 1 ≤ i + nN → (NowB fw) → ∀ (H : Heap) (locs : List Loc) (ls : Array Slot), va_P (dC, dI) vwCl [(o, .inr (12, [.int kthrown, .ref ktape, .int ktaped, .int ksize, .int klimit, .int kto, .int kfrom, .int kkind, .int knumber, .int ksign, .int kfault, .int kplace, .long kword, .int ktold, .ref know, .ref kread, .ref kkept, .ref ksnaps, .ref kaside, .ref kname, .ref kreadName, .ref kkeptName, .ref kisKept, .ref konces, .int ksnapMany, .int khasCells, .ref kpoured, .ref kfar, .ref ksides, .int ksideMany, .int kwayDays, .int khasWay, .ref klines, .ref kmet, .int kmetMany, .ref ksunk, .ref ktrying, .int ksunkMany, .int ksending, .int kfleets, .ref ktext, .int ktexts, .int kseed, .ref kline, .ref kwritten, .int klineMany, .int khasWritten, .ref knode, .int knodes, .int konesMany, .int kwithin, .int ktop])), (know, .inl (ky 0, 373, .inl fw)), (kpoured, .inl (ky 0, 36, .inl fq))] H → va_D A [(o, .inr (12, [.int kthrown, .ref ktape, .int ktaped, .int ksize, .int klimit, .int kto, .int kfrom, .int kkind, .int knumber, .int ksign, .int kfault, .int kplace, .long kword, .int ktold, .ref know, .ref kread, .ref kkept, .ref ksnaps, .ref kaside, .ref kname, .ref kreadName, .ref kkeptName, .ref kisKept, .ref konces, .int ksnapMany, .int khasCells, .ref kpoured, .ref kfar, .ref ksides, .int ksideMany, .int kwayDays, .int khasWay, .ref klines, .ref kmet, .int kmetMany, .ref ksunk, .ref ktrying, .int ksunkMany, .int ksending, .int kfleets, .ref ktext, .int ktexts, .int kseed, .ref kline, .ref kwritten, .int klineMany, .int khasWritten, .ref knode, .int knodes, .int konesMany, .int kwithin, .int ktop])), (know, .inl (ky 0, 373, .inl fw)), (kpoured, .inl (ky 0, 36, .inl fq))] → va_S A H0 H locs → lv_has ls 3 [(2, .int (nI i)), (0, .ref o), (1, .int (nI ln))] → W p l e R s m args below meth c H locs 0 0 Q (F0 m 65 ls []) := by
  have hin12 : ∀ w ∈ u_ws RX12 TX12 52, w ∈ wsX12_doStir := by decide +kernel
  intro nN
  induction nN with
  | zero => intro i fw hi hnN; exfalso; omega
  | succ nN ih =>
    intro i fw hi hnN hL H locs ls hP hD hS hl
    refine lv_iload_n hx hb dX12_doStir_65 rfl (lv_at hl 0 rfl) ?_
    refine lv_bipush (v := nI 36) hx hb dX12_doStir_66 (by decide) ?_
    refine n_icmp_ge (x := i) (y := 36) (tgt := 92) hx hb (by omega) (by omega) dX12_doStir_68 (by decide) (fun c1 => ?_) (fun c1 => ?_)
    · exact kx i fw (by omega) hL H locs ls hP hD hS (lv_sub hl [0, 1, 2] rfl)
    · refine lv_aload_n hx hb dX12_doStir_71 rfl (lv_at hl 1 rfl) ?_
      refine va_get (D := (dC, dI)) (ci := 12) (v := .ref know) (C := RX12) (T := TX12) (N := 52) hx hb hts hin12 hown hK hP 0 rfl rfl 14 (by decide) (hts (.fieldLink RX12 98 "PorridgeSeaModel" "now" "[I") (List.mem_of_getElem? (i := 2) rfl)) (fun _ h9 => h9) rfl dX12_doStir_72 ?_
      refine lv_bipush (v := nI 71) hx hb dX12_doStir_75 (by decide) ?_
      refine lv_iload_n hx hb dX12_doStir_77 rfl (lv_at hl 0 rfl) ?_
      refine lv_iadd hx hb dX12_doStir_78 ?_
      refine r_ti (nI (71 + i)) (nI_add _ _) ?_
      refine lv_aload_n hx hb dX12_doStir_79 rfl (lv_at hl 1 rfl) ?_
      refine va_get (D := (dC, dI)) (ci := 12) (v := .ref kpoured) (C := RX12) (T := TX12) (N := 52) hx hb hts hin12 hown hK hP 0 rfl rfl 26 (by decide) (hts (.fieldLink RX12 130 "PorridgeSeaModel" "poured" "[I") (List.mem_of_getElem? (i := 1) rfl)) (fun _ h9 => h9) rfl dX12_doStir_80 ?_
      refine lv_iload_n hx hb dX12_doStir_83 rfl (lv_at hl 0 rfl) ?_
      obtain ⟨y2, e3⟩ : ∃ z9, z9 = fq i := ⟨_, rfl⟩
      refine r_iald hx hb hK hP 2 rfl i (by omega) (by decide) y2 e3.symm dX12_doStir_84 ?_
      refine r_iast (x := y2) hx hb hK hP hD hS 1 rfl (71 + i) (by omega) (by decide) dX12_doStir_85 (fun H locs hP hD hS => ?_)
      obtain ⟨g4, e5⟩ : ∃ z9, z9 = upd fw (71 + i) y2 := ⟨_, rfl⟩
      rw [← e5] at hP hD
      have hB6 : NowB g4 := by rw [e5]; exact NowB.up hL (by omega)
      have hP : va_P (dC, dI) vwCl [(o, .inr (12, [.int kthrown, .ref ktape, .int ktaped, .int ksize, .int klimit, .int kto, .int kfrom, .int kkind, .int knumber, .int ksign, .int kfault, .int kplace, .long kword, .int ktold, .ref know, .ref kread, .ref kkept, .ref ksnaps, .ref kaside, .ref kname, .ref kreadName, .ref kkeptName, .ref kisKept, .ref konces, .int ksnapMany, .int khasCells, .ref kpoured, .ref kfar, .ref ksides, .int ksideMany, .int kwayDays, .int khasWay, .ref klines, .ref kmet, .int kmetMany, .ref ksunk, .ref ktrying, .int ksunkMany, .int ksending, .int kfleets, .ref ktext, .int ktexts, .int kseed, .ref kline, .ref kwritten, .int klineMany, .int khasWritten, .ref knode, .int knodes, .int konesMany, .int kwithin, .int ktop])), (know, .inl (ky 0, 373, .inl g4)), (kpoured, .inl (ky 0, 36, .inl fq))] H := hP
      have hD : va_D A [(o, .inr (12, [.int kthrown, .ref ktape, .int ktaped, .int ksize, .int klimit, .int kto, .int kfrom, .int kkind, .int knumber, .int ksign, .int kfault, .int kplace, .long kword, .int ktold, .ref know, .ref kread, .ref kkept, .ref ksnaps, .ref kaside, .ref kname, .ref kreadName, .ref kkeptName, .ref kisKept, .ref konces, .int ksnapMany, .int khasCells, .ref kpoured, .ref kfar, .ref ksides, .int ksideMany, .int kwayDays, .int khasWay, .ref klines, .ref kmet, .int kmetMany, .ref ksunk, .ref ktrying, .int ksunkMany, .int ksending, .int kfleets, .ref ktext, .int ktexts, .int kseed, .ref kline, .ref kwritten, .int klineMany, .int khasWritten, .ref knode, .int knodes, .int konesMany, .int kwithin, .int ktop])), (know, .inl (ky 0, 373, .inl g4)), (kpoured, .inl (ky 0, 36, .inl fq))] := hD
      refine lv_iinc (v := nI (i + 1)) (lv' := [(2, .int (nI (i + 1))), (0, .ref o), (1, .int (nI ln))]) hx hb dX12_doStir_86 hl (k := 0) rfl (show nI i + nI 1 = nI (i + 1) from nI_add _ _) (by decide) rfl (fun ls hl => ?_)
      refine lv_goto (tgt := 65) hx hb dX12_doStir_89 (by decide) ?_
      exact ih (i + 1) g4 (by omega) (by omega) (lf_lpm_st3_1 o kthrown ktape ktaped ksize klimit kto kfrom kkind knumber ksign kfault kplace kword ktold know kread kkept ksnaps kaside kname kreadName kkeptName kisKept konces ksnapMany khasCells kpoured kfar ksides ksideMany kwayDays khasWay klines kmet kmetMany ksunk ktrying ksunkMany ksending kfleets ktext ktexts kseed kline kwritten klineMany khasWritten knode knodes konesMany kwithin ktop knowF kpouredF ln fp fq i fw y2 g4 hB hln hi hL c1 e3 hB6) _ _ _ hP hD hS (lv_sub hl [0, 1, 2] rfl)
set_option maxRecDepth 20000 in
theorem lf_m_doStir_1 (o : Nat) (kthrown : Int32) (ktape : Nat) (ktaped : Int32) (ksize : Int32) (klimit : Int32) (kto : Int32) (kfrom : Int32) (kkind : Int32) (knumber : Int32) (ksign : Int32) (kfault : Int32) (kplace : Int32) (kword : Int64) (ktold : Int32) (know : Nat) (kread : Nat) (kkept : Nat) (ksnaps : Nat) (kaside : Nat) (kname : Nat) (kreadName : Nat) (kkeptName : Nat) (kisKept : Nat) (konces : Nat) (ksnapMany : Int32) (khasCells : Int32) (kpoured : Nat) (kfar : Nat) (ksides : Nat) (ksideMany : Int32) (kwayDays : Int32) (khasWay : Int32) (klines : Nat) (kmet : Nat) (kmetMany : Int32) (ksunk : Nat) (ktrying : Nat) (ksunkMany : Int32) (ksending : Int32) (kfleets : Int32) (ktext : Nat) (ktexts : Int32) (kseed : Int32) (kline : Nat) (kwritten : Nat) (klineMany : Int32) (khasWritten : Int32) (knode : Nat) (knodes : Int32) (konesMany : Int32) (kwithin : Int32) (ktop : Int32) (knowF : Nat → Int32) (kpouredF : Nat → Int32) (ln : Nat) (fp : Nat → Int32) (fq : Nat → Int32) (hB : NowB knowF) (hln : ln < 24) : NowB knowF := by
  assumption
set_option maxRecDepth 20000 in
theorem lf_m_doStir_2 (o : Nat) (kthrown : Int32) (ktape : Nat) (ktaped : Int32) (ksize : Int32) (klimit : Int32) (kto : Int32) (kfrom : Int32) (kkind : Int32) (knumber : Int32) (ksign : Int32) (kfault : Int32) (kplace : Int32) (kword : Int64) (ktold : Int32) (know : Nat) (kread : Nat) (kkept : Nat) (ksnaps : Nat) (kaside : Nat) (kname : Nat) (kreadName : Nat) (kkeptName : Nat) (kisKept : Nat) (konces : Nat) (ksnapMany : Int32) (khasCells : Int32) (kpoured : Nat) (kfar : Nat) (ksides : Nat) (ksideMany : Int32) (kwayDays : Int32) (khasWay : Int32) (klines : Nat) (kmet : Nat) (kmetMany : Int32) (ksunk : Nat) (ktrying : Nat) (ksunkMany : Int32) (ksending : Int32) (kfleets : Int32) (ktext : Nat) (ktexts : Int32) (kseed : Int32) (kline : Nat) (kwritten : Nat) (klineMany : Int32) (khasWritten : Int32) (knode : Nat) (knodes : Int32) (konesMany : Int32) (kwithin : Int32) (ktop : Int32) (knowF : Nat → Int32) (kpouredF : Nat → Int32) (ln : Nat) (fp : Nat → Int32) (fq : Nat → Int32) (fw : Nat → Int32) (y3 : Int32) (y5 : Int32) (g7 : Nat → Int32) (hB : NowB knowF) (hln : ln < 24) (hL : NowB fw) (e4 : y3 = fw 69) (e6 : y5 = y3 + (nI 1)) (hB9 : NowB g7) : NowB g7 := by
  assumption
set_option maxHeartbeats 4000000 in
set_option maxRecDepth 100000 in
theorem c_m_doStir (l : Launch) (dC : Nat → ClassId) (dI : Nat → Nat → Nat) (ky : Nat → ClassId) (sz : Nat) (o : Nat) (kthrown : Int32) (ktape : Nat) (ktaped : Int32) (ksize : Int32) (klimit : Int32) (kto : Int32) (kfrom : Int32) (kkind : Int32) (knumber : Int32) (ksign : Int32) (kfault : Int32) (kplace : Int32) (kword : Int64) (ktold : Int32) (know : Nat) (kread : Nat) (kkept : Nat) (ksnaps : Nat) (kaside : Nat) (kname : Nat) (kreadName : Nat) (kkeptName : Nat) (kisKept : Nat) (konces : Nat) (ksnapMany : Int32) (khasCells : Int32) (kpoured : Nat) (kfar : Nat) (ksides : Nat) (ksideMany : Int32) (kwayDays : Int32) (khasWay : Int32) (klines : Nat) (kmet : Nat) (kmetMany : Int32) (ksunk : Nat) (ktrying : Nat) (ksunkMany : Int32) (ksending : Int32) (kfleets : Int32) (ktext : Nat) (ktexts : Int32) (kseed : Int32) (kline : Nat) (kwritten : Nat) (klineMany : Int32) (khasWritten : Int32) (knode : Nat) (knodes : Int32) (konesMany : Int32) (kwithin : Int32) (ktop : Int32) (knowF : Nat → Int32) (kpouredF : Nat → Int32) (ln : Nat) (hB : NowB knowF) (hln : ln < 24) : Met l yX12_doStir wsX12_doStir ({ frames := 1, cells := 0, slots := 0, locals := 27 }) (PcU dC dI ky [.ref o, .int (nI ln)] [(o, .inr (12, [.int kthrown, .ref ktape, .int ktaped, .int ksize, .int klimit, .int kto, .int kfrom, .int kkind, .int knumber, .int ksign, .int kfault, .int kplace, .long kword, .int ktold, .ref know, .ref kread, .ref kkept, .ref ksnaps, .ref kaside, .ref kname, .ref kreadName, .ref kkeptName, .ref kisKept, .ref konces, .int ksnapMany, .int khasCells, .ref kpoured, .ref kfar, .ref ksides, .int ksideMany, .int kwayDays, .int khasWay, .ref klines, .ref kmet, .int kmetMany, .ref ksunk, .ref ktrying, .int ksunkMany, .int ksending, .int kfleets, .ref ktext, .int ktexts, .int kseed, .ref kline, .ref kwritten, .int klineMany, .int khasWritten, .ref knode, .int knodes, .int konesMany, .int kwithin, .int ktop])), (know, .inl (ky 0, 373, .inl knowF)), (kpoured, .inl (ky 0, 36, .inl kpouredF))] sz) (va_Qv (fun (u : (Nat → Int32) × (Nat → Int32)) => match u with | (knowG, kpouredG) => NowB knowG) (BU dC dI ky (fun (u : (Nat → Int32) × (Nat → Int32)) => match u with | (knowG, kpouredG) => [(o, .inr (12, [.int kthrown, .ref ktape, .int ktaped, .int ksize, .int klimit, .int kto, .int kfrom, .int kkind, .int knumber, .int ksign, .int kfault, .int kplace, .long kword, .int ktold, .ref know, .ref kread, .ref kkept, .ref ksnaps, .ref kaside, .ref kname, .ref kreadName, .ref kkeptName, .ref kisKept, .ref konces, .int ksnapMany, .int khasCells, .ref kpoured, .ref kfar, .ref ksides, .int ksideMany, .int kwayDays, .int khasWay, .ref klines, .ref kmet, .int kmetMany, .ref ksunk, .ref ktrying, .int ksunkMany, .int ksending, .int kfleets, .ref ktext, .int ktexts, .int kseed, .ref kline, .ref kwritten, .int klineMany, .int khasWritten, .ref knode, .int knodes, .int konesMany, .int kwithin, .int ktop])), (know, .inl (ky 0, 373, .inl knowG)), (kpoured, .inl (ky 0, 36, .inl kpouredG))]) (va_A [(o, .inr (12, [.int kthrown, .ref ktape, .int ktaped, .int ksize, .int klimit, .int kto, .int kfrom, .int kkind, .int knumber, .int ksign, .int kfault, .int kplace, .long kword, .int ktold, .ref know, .ref kread, .ref kkept, .ref ksnaps, .ref kaside, .ref kname, .ref kreadName, .ref kkeptName, .ref kisKept, .ref konces, .int ksnapMany, .int khasCells, .ref kpoured, .ref kfar, .ref ksides, .int ksideMany, .int kwayDays, .int khasWay, .ref klines, .ref kmet, .int kmetMany, .ref ksunk, .ref ktrying, .int ksunkMany, .int ksending, .int kfleets, .ref ktext, .int ktexts, .int kseed, .ref kline, .ref kwritten, .int klineMany, .int khasWritten, .ref knode, .int knodes, .int konesMany, .int kwithin, .int ktop])), (know, .inl (ky 0, 373, .inl knowF)), (kpoured, .inl (ky 0, 36, .inl kpouredF))] sz)) (va_A [(o, .inr (12, [.int kthrown, .ref ktape, .int ktaped, .int ksize, .int klimit, .int kto, .int kfrom, .int kkind, .int knumber, .int ksign, .int kfault, .int kplace, .long kword, .int ktold, .ref know, .ref kread, .ref kkept, .ref ksnaps, .ref kaside, .ref kname, .ref kreadName, .ref kkeptName, .ref kisKept, .ref konces, .int ksnapMany, .int khasCells, .ref kpoured, .ref kfar, .ref ksides, .int ksideMany, .int kwayDays, .int khasWay, .ref klines, .ref kmet, .int kmetMany, .ref ksunk, .ref ktrying, .int ksunkMany, .int ksending, .int kfleets, .ref ktext, .int ktexts, .int kseed, .ref kline, .ref kwritten, .int klineMany, .int khasWritten, .ref knode, .int knodes, .int konesMany, .int kwithin, .int ktop])), (know, .inl (ky 0, 373, .inl knowF)), (kpoured, .inl (ky 0, 36, .inl kpouredF))] sz)) 0 0 (va_A [(o, .inr (12, [.int kthrown, .ref ktape, .int ktaped, .int ksize, .int klimit, .int kto, .int kfrom, .int kkind, .int knumber, .int ksign, .int kfault, .int kplace, .long kword, .int ktold, .ref know, .ref kread, .ref kkept, .ref ksnaps, .ref kaside, .ref kname, .ref kreadName, .ref kkeptName, .ref kisKept, .ref konces, .int ksnapMany, .int khasCells, .ref kpoured, .ref kfar, .ref ksides, .int ksideMany, .int kwayDays, .int khasWay, .ref klines, .ref kmet, .int kmetMany, .ref ksunk, .ref ktrying, .int ksunkMany, .int ksending, .int kfleets, .ref ktext, .int ktexts, .int kseed, .ref kline, .ref kwritten, .int klineMany, .int khasWritten, .ref knode, .int knodes, .int konesMany, .int kwithin, .int ktop])), (know, .inl (ky 0, 373, .inl knowF)), (kpoured, .inl (ky 0, 36, .inl kpouredF))] sz) := by
  refine Met.ofW (cc := cX12_doStir) (maxL := 3) (ret := none) (by decide) rfl ?_
  intro p e s m args below meth c s₁ B hml hv
  obtain ⟨rfl, hsz, hP, hK, hD0⟩ := hv
  have hx := B.exec
  have hb := B.bytes
  have hr := B.returns
  have hts := atoms_spec (ws := wsX12_doStir) B.pre
  have hown : s.vm.findClass RX12 = some m.cls := findClass_of_methodNamed B.named
  have hlocks := B.notSynchronized
  have hin12 : ∀ w ∈ u_ws RX12 TX12 52, w ∈ wsX12_doStir := by decide +kernel
  subst hsz
  have hD := hD0.self (sz := s.heap.size)
  generalize hAe : va_A [(o, .inr (12, [.int kthrown, .ref ktape, .int ktaped, .int ksize, .int klimit, .int kto, .int kfrom, .int kkind, .int knumber, .int ksign, .int kfault, .int kplace, .long kword, .int ktold, .ref know, .ref kread, .ref kkept, .ref ksnaps, .ref kaside, .ref kname, .ref kreadName, .ref kkeptName, .ref kisKept, .ref konces, .int ksnapMany, .int khasCells, .ref kpoured, .ref kfar, .ref ksides, .int ksideMany, .int kwayDays, .int khasWay, .ref klines, .ref kmet, .int kmetMany, .ref ksunk, .ref ktrying, .int ksunkMany, .int ksending, .int kfleets, .ref ktext, .int ktexts, .int kseed, .ref kline, .ref kwritten, .int klineMany, .int khasWritten, .ref knode, .int knodes, .int konesMany, .int kwithin, .int ktop])), (know, .inl (ky 0, 373, .inl knowF)), (kpoured, .inl (ky 0, 36, .inl kpouredF))] s.heap.size = A at hD ⊢
  have hA : ∀ q : Nat, s.heap.size ≤ q → A q := fun q h => by rw [← hAe]; exact Or.inr h
  have hS : va_S A s.heap s.heap [] := va_S.rf
  have hP : va_P (dC, dI) vwCl [(o, .inr (12, [.int kthrown, .ref ktape, .int ktaped, .int ksize, .int klimit, .int kto, .int kfrom, .int kkind, .int knumber, .int ksign, .int kfault, .int kplace, .long kword, .int ktold, .ref know, .ref kread, .ref kkept, .ref ksnaps, .ref kaside, .ref kname, .ref kreadName, .ref kkeptName, .ref kisKept, .ref konces, .int ksnapMany, .int khasCells, .ref kpoured, .ref kfar, .ref ksides, .int ksideMany, .int kwayDays, .int khasWay, .ref klines, .ref kmet, .int kmetMany, .ref ksunk, .ref ktrying, .int ksunkMany, .int ksending, .int kfleets, .ref ktext, .int ktexts, .int kseed, .ref kline, .ref kwritten, .int klineMany, .int khasWritten, .ref knode, .int knodes, .int konesMany, .int kwithin, .int ktop])), (know, .inl (ky 0, 373, .inl knowF)), (kpoured, .inl (ky 0, 36, .inl kpouredF))] s.heap := hP
  have hl := lv_entry ([.ref o, .int (nI ln)]) (n := 3) (Nat.le_of_ble_eq_true rfl)
  rw [lg_entry_eq]
  generalize (lg_sl ([.ref o, .int (nI ln)]) ++ List.replicate (3 - (lg_sl ([.ref o, .int (nI ln)])).length) Slot.unset).toArray = ls at hl ⊢
  have hl : lv_has ls 3 [(0, .ref o), (1, .int (nI ln))] := hl
  have hH0 : True := trivial
  refine lv_iconst (v := nI 0) hx hb dX12_doStir_0 (by decide) ?_
  refine lv_istore_n (lv' := [(2, .int (nI 0)), (0, .ref o), (1, .int (nI ln))]) hx hb dX12_doStir_1 rfl hl (by decide) rfl (fun ls hl => ?_)
  refine lp_m_st1 hx hb hml hown hts hK hA (Nat.le_of_ble_eq_true rfl) (Nat.le_of_ble_eq_true rfl) (Nat.le_of_ble_eq_true rfl) (Nat.le_of_ble_eq_true rfl) o kthrown ktape ktaped ksize klimit kto kfrom kkind knumber ksign kfault kplace kword ktold know kread kkept ksnaps kaside kname kreadName kkeptName kisKept konces ksnapMany khasCells kpoured kfar ksides ksideMany kwayDays khasWay klines kmet kmetMany ksunk ktrying ksunkMany ksending kfleets ktext ktexts kseed kline kwritten klineMany khasWritten knode knodes konesMany kwithin ktop knowF kpouredF ln hB hln ?_ (36 + 1) 0 kpouredF (by omega) (by omega)  _ _ _ hP hD hS (lv_sub hl [0, 1, 2] rfl)
  intro i fp hiN  H locs ls hP hD hS hl
  subst hiN
  refine lv_iconst (v := nI 0) hx hb dX12_doStir_21 (by decide) ?_
  refine lv_istore_n (lv' := [(2, .int (nI 0)), (0, .ref o), (1, .int (nI ln))]) hx hb dX12_doStir_22 rfl hl (by decide) rfl (fun ls hl => ?_)
  refine lp_m_st2 hx hb hml hown hts hK hA (Nat.le_of_ble_eq_true rfl) (Nat.le_of_ble_eq_true rfl) (Nat.le_of_ble_eq_true rfl) (Nat.le_of_ble_eq_true rfl) o kthrown ktape ktaped ksize klimit kto kfrom kkind knumber ksign kfault kplace kword ktold know kread kkept ksnaps kaside kname kreadName kkeptName kisKept konces ksnapMany khasCells kpoured kfar ksides ksideMany kwayDays khasWay klines kmet kmetMany ksunk ktrying ksunkMany ksending kfleets ktext ktexts kseed kline kwritten klineMany khasWritten knode knodes konesMany kwithin ktop knowF kpouredF ln fp hB hln ?_ (36 + 1) 0 fp (by omega) (by omega)  _ _ _ hP hD hS (lv_sub hl [0, 1, 2] rfl)
  intro i fq hiN  H locs ls hP hD hS hl
  subst hiN
  refine lv_iconst (v := nI 0) hx hb dX12_doStir_63 (by decide) ?_
  refine lv_istore_n (lv' := [(2, .int (nI 0)), (0, .ref o), (1, .int (nI ln))]) hx hb dX12_doStir_64 rfl hl (by decide) rfl (fun ls hl => ?_)
  refine lp_m_st3 hx hb hml hown hts hK hA (Nat.le_of_ble_eq_true rfl) (Nat.le_of_ble_eq_true rfl) (Nat.le_of_ble_eq_true rfl) (Nat.le_of_ble_eq_true rfl) o kthrown ktape ktaped ksize klimit kto kfrom kkind knumber ksign kfault kplace kword ktold know kread kkept ksnaps kaside kname kreadName kkeptName kisKept konces ksnapMany khasCells kpoured kfar ksides ksideMany kwayDays khasWay klines kmet kmetMany ksunk ktrying ksunkMany ksending kfleets ktext ktexts kseed kline kwritten klineMany khasWritten knode knodes konesMany kwithin ktop knowF kpouredF ln fp fq hB hln ?_ (36 + 1) 0 knowF (by omega) (by omega) (lf_m_doStir_1 o kthrown ktape ktaped ksize klimit kto kfrom kkind knumber ksign kfault kplace kword ktold know kread kkept ksnaps kaside kname kreadName kkeptName kisKept konces ksnapMany khasCells kpoured kfar ksides ksideMany kwayDays khasWay klines kmet kmetMany ksunk ktrying ksunkMany ksending kfleets ktext ktexts kseed kline kwritten klineMany khasWritten knode knodes konesMany kwithin ktop knowF kpouredF ln fp fq hB hln) _ _ _ hP hD hS (lv_sub hl [0, 1, 2] rfl)
  intro i fw hiN hL H locs ls hP hD hS hl
  subst hiN
  refine lv_iconst (v := nI 0) hx hb dX12_doStir_92 (by decide) ?_
  refine lv_istore_n (lv' := [(2, .int (nI 0)), (0, .ref o), (1, .int (nI ln))]) hx hb dX12_doStir_93 rfl hl (by decide) rfl (fun ls hl => ?_)
  refine lv_iload_n hx hb dX12_doStir_94 rfl (lv_at hl 0 rfl) ?_
  refine lv_aload_n hx hb dX12_doStir_95 rfl (lv_at hl 1 rfl) ?_
  refine va_get (D := (dC, dI)) (ci := 12) (v := .ref know) (C := RX12) (T := TX12) (N := 52) hx hb hts hin12 hown hK hP 0 rfl rfl 14 (by decide) (hts (.fieldLink RX12 98 "PorridgeSeaModel" "now" "[I") (List.mem_of_getElem? (i := 2) rfl)) (fun _ h9 => h9) rfl dX12_doStir_96 ?_
  refine lv_iconst (v := nI 2) hx hb dX12_doStir_99 (by decide) ?_
  refine r_iald hx hb hK hP 1 rfl 2 (by decide) (by decide) (nI 0) hL.2.2.1 dX12_doStir_100 ?_
  refine lv_icmp_ge (tgt := 133) hx hb dX12_doStir_101 (by decide) (fun c1 => ?_) (fun c1 => absurd (by decide) c1)
  refine lv_iconst (v := nI 0) hx hb dX12_doStir_133 (by decide) ?_
  refine lv_istore_n (lv' := [(2, .int (nI 0)), (0, .ref o), (1, .int (nI ln))]) hx hb dX12_doStir_134 rfl hl (by decide) rfl (fun ls hl => ?_)
  refine lv_iload_n hx hb dX12_doStir_135 rfl (lv_at hl 0 rfl) ?_
  refine lv_aload_n hx hb dX12_doStir_136 rfl (lv_at hl 1 rfl) ?_
  refine va_get (D := (dC, dI)) (ci := 12) (v := .ref know) (C := RX12) (T := TX12) (N := 52) hx hb hts hin12 hown hK hP 0 rfl rfl 14 (by decide) (hts (.fieldLink RX12 98 "PorridgeSeaModel" "now" "[I") (List.mem_of_getElem? (i := 2) rfl)) (fun _ h9 => h9) rfl dX12_doStir_137 ?_
  refine lv_iconst (v := nI 3) hx hb dX12_doStir_140 (by decide) ?_
  refine r_iald hx hb hK hP 1 rfl 3 (by decide) (by decide) (nI 0) hL.2.2.2 dX12_doStir_141 ?_
  refine lv_icmp_ge (tgt := 182) hx hb dX12_doStir_142 (by decide) (fun c2 => ?_) (fun c2 => absurd (by decide) c2)
  refine lv_aload_n hx hb dX12_doStir_182 rfl (lv_at hl 1 rfl) ?_
  refine va_get (D := (dC, dI)) (ci := 12) (v := .ref know) (C := RX12) (T := TX12) (N := 52) hx hb hts hin12 hown hK hP 0 rfl rfl 14 (by decide) (hts (.fieldLink RX12 98 "PorridgeSeaModel" "now" "[I") (List.mem_of_getElem? (i := 2) rfl)) (fun _ h9 => h9) rfl dX12_doStir_183 ?_
  refine lv_bipush (v := nI 69) hx hb dX12_doStir_186 (by decide) ?_
  refine lv_dup2_11 hx hb dX12_doStir_188 rfl rfl ?_
  obtain ⟨y3, e4⟩ : ∃ z9, z9 = fw 69 := ⟨_, rfl⟩
  refine r_iald hx hb hK hP 1 rfl 69 (by decide) (by decide) y3 e4.symm dX12_doStir_189 ?_
  refine lv_iconst (v := nI 1) hx hb dX12_doStir_190 (by decide) ?_
  refine lv_iadd hx hb dX12_doStir_191 ?_
  refine lv_topi (fun y5 e6 => ?_)
  refine r_iast (x := y5) hx hb hK hP hD hS 1 rfl 69 (by decide) (by decide) dX12_doStir_192 (fun H locs hP hD hS => ?_)
  obtain ⟨g7, e8⟩ : ∃ z9, z9 = upd fw 69 y5 := ⟨_, rfl⟩
  rw [← e8] at hP hD
  have hB9 : NowB g7 := by rw [e8]; exact NowB.up hL (by omega)
  have hP : va_P (dC, dI) vwCl [(o, .inr (12, [.int kthrown, .ref ktape, .int ktaped, .int ksize, .int klimit, .int kto, .int kfrom, .int kkind, .int knumber, .int ksign, .int kfault, .int kplace, .long kword, .int ktold, .ref know, .ref kread, .ref kkept, .ref ksnaps, .ref kaside, .ref kname, .ref kreadName, .ref kkeptName, .ref kisKept, .ref konces, .int ksnapMany, .int khasCells, .ref kpoured, .ref kfar, .ref ksides, .int ksideMany, .int kwayDays, .int khasWay, .ref klines, .ref kmet, .int kmetMany, .ref ksunk, .ref ktrying, .int ksunkMany, .int ksending, .int kfleets, .ref ktext, .int ktexts, .int kseed, .ref kline, .ref kwritten, .int klineMany, .int khasWritten, .ref knode, .int knodes, .int konesMany, .int kwithin, .int ktop])), (know, .inl (ky 0, 373, .inl g7)), (kpoured, .inl (ky 0, 36, .inl fq))] H := hP
  have hD : va_D A [(o, .inr (12, [.int kthrown, .ref ktape, .int ktaped, .int ksize, .int klimit, .int kto, .int kfrom, .int kkind, .int knumber, .int ksign, .int kfault, .int kplace, .long kword, .int ktold, .ref know, .ref kread, .ref kkept, .ref ksnaps, .ref kaside, .ref kname, .ref kreadName, .ref kkeptName, .ref kisKept, .ref konces, .int ksnapMany, .int khasCells, .ref kpoured, .ref kfar, .ref ksides, .int ksideMany, .int kwayDays, .int khasWay, .ref klines, .ref kmet, .int kmetMany, .ref ksunk, .ref ktrying, .int ksunkMany, .int ksending, .int kfleets, .ref ktext, .int ktexts, .int kseed, .ref kline, .ref kwritten, .int klineMany, .int khasWritten, .ref knode, .int knodes, .int konesMany, .int kwithin, .int ktop])), (know, .inl (ky 0, 373, .inl g7)), (kpoured, .inl (ky 0, 36, .inl fq))] := hD
  have hP9 := hP.sub (ws' := [(o, .inr (12, [.int kthrown, .ref ktape, .int ktaped, .int ksize, .int klimit, .int kto, .int kfrom, .int kkind, .int knumber, .int ksign, .int kfault, .int kplace, .long kword, .int ktold, .ref know, .ref kread, .ref kkept, .ref ksnaps, .ref kaside, .ref kname, .ref kreadName, .ref kkeptName, .ref kisKept, .ref konces, .int ksnapMany, .int khasCells, .ref kpoured, .ref kfar, .ref ksides, .int ksideMany, .int kwayDays, .int khasWay, .ref klines, .ref kmet, .int kmetMany, .ref ksunk, .ref ktrying, .int ksunkMany, .int ksending, .int kfleets, .ref ktext, .int ktexts, .int kseed, .ref kline, .ref kwritten, .int klineMany, .int khasWritten, .ref knode, .int knodes, .int konesMany, .int kwithin, .int ktop])), (know, .inl (ky 0, 373, .inl g7)), (kpoured, .inl (ky 0, 36, .inl fq))]) [0, 1, 2] rfl
  have hD9 := hD.sub (ws' := [(o, .inr (12, [.int kthrown, .ref ktape, .int ktaped, .int ksize, .int klimit, .int kto, .int kfrom, .int kkind, .int knumber, .int ksign, .int kfault, .int kplace, .long kword, .int ktold, .ref know, .ref kread, .ref kkept, .ref ksnaps, .ref kaside, .ref kname, .ref kreadName, .ref kkeptName, .ref kisKept, .ref konces, .int ksnapMany, .int khasCells, .ref kpoured, .ref kfar, .ref ksides, .int ksideMany, .int kwayDays, .int khasWay, .ref klines, .ref kmet, .int kmetMany, .ref ksunk, .ref ktrying, .int ksunkMany, .int ksending, .int kfleets, .ref ktext, .int ktexts, .int kseed, .ref kline, .ref kwritten, .int klineMany, .int khasWritten, .ref knode, .int knodes, .int konesMany, .int kwithin, .int ktop])), (know, .inl (ky 0, 373, .inl g7)), (kpoured, .inl (ky 0, 36, .inl fq))]) [0, 1, 2] (by decide) rfl
  refine W.widen (k := 0) (n := 0) (Nat.le_of_ble_eq_true rfl) (Nat.le_of_ble_eq_true rfl) ?_
  exact W.vret hx hb hr (fun t ht9 hW9 => ⟨⟨(g7, fq), rfl, (lf_m_doStir_2 o kthrown ktape ktaped ksize klimit kto kfrom kkind knumber ksign kfault kplace kword ktold know kread kkept ksnaps kaside kname kreadName kkeptName kisKept konces ksnapMany khasCells kpoured kfar ksides ksideMany kwayDays khasWay klines kmet kmetMany ksunk ktrying ksunkMany ksending kfleets ktext ktexts kseed kline kwritten klineMany khasWritten knode knodes konesMany kwithin ktop knowF kpouredF ln fp fq fw y3 y5 g7 hB hln hL e4 e6 hB9), by rw [ht9]; exact hP9, va_K.moved hW9.alike hK, hD9⟩, hS.F ht9⟩) hS.2.2 dX12_doStir_193
set_option maxHeartbeats 4000000 in
set_option maxRecDepth 100000 in
theorem c_m_live0 (l : Launch) (dC : Nat → ClassId) (dI : Nat → Nat → Nat) (ky : Nat → ClassId) (sz : Nat) (o : Nat) (kthrown : Int32) (ktape : Nat) (ktaped : Int32) (ksize : Int32) (klimit : Int32) (kto : Int32) (kfrom : Int32) (kkind : Int32) (knumber : Int32) (ksign : Int32) (kfault : Int32) (kplace : Int32) (kword : Int64) (ktold : Int32) (know : Nat) (kread : Nat) (kkept : Nat) (ksnaps : Nat) (kaside : Nat) (kname : Nat) (kreadName : Nat) (kkeptName : Nat) (kisKept : Nat) (konces : Nat) (ksnapMany : Int32) (khasCells : Int32) (kpoured : Nat) (kfar : Nat) (ksides : Nat) (ksideMany : Int32) (kwayDays : Int32) (khasWay : Int32) (klines : Nat) (kmet : Nat) (kmetMany : Int32) (ksunk : Nat) (ktrying : Nat) (ksunkMany : Int32) (ksending : Int32) (kfleets : Int32) (ktext : Nat) (ktexts : Int32) (kseed : Int32) (kline : Nat) (kwritten : Nat) (klineMany : Int32) (khasWritten : Int32) (knode : Nat) (knodes : Int32) (konesMany : Int32) (kwithin : Int32) (ktop : Int32) (knowF : Nat → Int32) (kpouredF : Nat → Int32) (ln : Nat) (y : Int32) (hB : NowB knowF) (hln : ln < 24) : Met l yX12_live wsX12_live ({ frames := 2, cells := 0, slots := 0, locals := 49 }) (PcU dC dI ky [.ref o, .int (nI 0), .int (nI ln), .int y] [(o, .inr (12, [.int kthrown, .ref ktape, .int ktaped, .int ksize, .int klimit, .int kto, .int kfrom, .int kkind, .int knumber, .int ksign, .int kfault, .int kplace, .long kword, .int ktold, .ref know, .ref kread, .ref kkept, .ref ksnaps, .ref kaside, .ref kname, .ref kreadName, .ref kkeptName, .ref kisKept, .ref konces, .int ksnapMany, .int khasCells, .ref kpoured, .ref kfar, .ref ksides, .int ksideMany, .int kwayDays, .int khasWay, .ref klines, .ref kmet, .int kmetMany, .ref ksunk, .ref ktrying, .int ksunkMany, .int ksending, .int kfleets, .ref ktext, .int ktexts, .int kseed, .ref kline, .ref kwritten, .int klineMany, .int khasWritten, .ref knode, .int knodes, .int konesMany, .int kwithin, .int ktop])), (know, .inl (ky 0, 373, .inl knowF)), (kpoured, .inl (ky 0, 36, .inl kpouredF))] sz) (va_Qv (fun (_ : Unit) => True) (BU dC dI ky (fun (_ : Unit) => []) (va_A [(o, .inr (12, [.int kthrown, .ref ktape, .int ktaped, .int ksize, .int klimit, .int kto, .int kfrom, .int kkind, .int knumber, .int ksign, .int kfault, .int kplace, .long kword, .int ktold, .ref know, .ref kread, .ref kkept, .ref ksnaps, .ref kaside, .ref kname, .ref kreadName, .ref kkeptName, .ref kisKept, .ref konces, .int ksnapMany, .int khasCells, .ref kpoured, .ref kfar, .ref ksides, .int ksideMany, .int kwayDays, .int khasWay, .ref klines, .ref kmet, .int kmetMany, .ref ksunk, .ref ktrying, .int ksunkMany, .int ksending, .int kfleets, .ref ktext, .int ktexts, .int kseed, .ref kline, .ref kwritten, .int klineMany, .int khasWritten, .ref knode, .int knodes, .int konesMany, .int kwithin, .int ktop])), (know, .inl (ky 0, 373, .inl knowF)), (kpoured, .inl (ky 0, 36, .inl kpouredF))] sz)) (va_A [(o, .inr (12, [.int kthrown, .ref ktape, .int ktaped, .int ksize, .int klimit, .int kto, .int kfrom, .int kkind, .int knumber, .int ksign, .int kfault, .int kplace, .long kword, .int ktold, .ref know, .ref kread, .ref kkept, .ref ksnaps, .ref kaside, .ref kname, .ref kreadName, .ref kkeptName, .ref kisKept, .ref konces, .int ksnapMany, .int khasCells, .ref kpoured, .ref kfar, .ref ksides, .int ksideMany, .int kwayDays, .int khasWay, .ref klines, .ref kmet, .int kmetMany, .ref ksunk, .ref ktrying, .int ksunkMany, .int ksending, .int kfleets, .ref ktext, .int ktexts, .int kseed, .ref kline, .ref kwritten, .int klineMany, .int khasWritten, .ref knode, .int knodes, .int konesMany, .int kwithin, .int ktop])), (know, .inl (ky 0, 373, .inl knowF)), (kpoured, .inl (ky 0, 36, .inl kpouredF))] sz)) 0 0 (va_A [(o, .inr (12, [.int kthrown, .ref ktape, .int ktaped, .int ksize, .int klimit, .int kto, .int kfrom, .int kkind, .int knumber, .int ksign, .int kfault, .int kplace, .long kword, .int ktold, .ref know, .ref kread, .ref kkept, .ref ksnaps, .ref kaside, .ref kname, .ref kreadName, .ref kkeptName, .ref kisKept, .ref konces, .int ksnapMany, .int khasCells, .ref kpoured, .ref kfar, .ref ksides, .int ksideMany, .int kwayDays, .int khasWay, .ref klines, .ref kmet, .int kmetMany, .ref ksunk, .ref ktrying, .int ksunkMany, .int ksending, .int kfleets, .ref ktext, .int ktexts, .int kseed, .ref kline, .ref kwritten, .int klineMany, .int khasWritten, .ref knode, .int knodes, .int konesMany, .int kwithin, .int ktop])), (know, .inl (ky 0, 373, .inl knowF)), (kpoured, .inl (ky 0, 36, .inl kpouredF))] sz) := by
  refine Met.ofW (cc := cX12_live) (maxL := 4) (ret := none) (by decide) rfl ?_
  intro p e s m args below meth c s₁ B hml hv
  obtain ⟨rfl, hsz, hP, hK, hD0⟩ := hv
  have hx := B.exec
  have hb := B.bytes
  have hr := B.returns
  have hts := atoms_spec (ws := wsX12_live) B.pre
  have hown : s.vm.findClass RX12 = some m.cls := findClass_of_methodNamed B.named
  have hlocks := B.notSynchronized
  subst hsz
  have hD := hD0.self (sz := s.heap.size)
  generalize hAe : va_A [(o, .inr (12, [.int kthrown, .ref ktape, .int ktaped, .int ksize, .int klimit, .int kto, .int kfrom, .int kkind, .int knumber, .int ksign, .int kfault, .int kplace, .long kword, .int ktold, .ref know, .ref kread, .ref kkept, .ref ksnaps, .ref kaside, .ref kname, .ref kreadName, .ref kkeptName, .ref kisKept, .ref konces, .int ksnapMany, .int khasCells, .ref kpoured, .ref kfar, .ref ksides, .int ksideMany, .int kwayDays, .int khasWay, .ref klines, .ref kmet, .int kmetMany, .ref ksunk, .ref ktrying, .int ksunkMany, .int ksending, .int kfleets, .ref ktext, .int ktexts, .int kseed, .ref kline, .ref kwritten, .int klineMany, .int khasWritten, .ref knode, .int knodes, .int konesMany, .int kwithin, .int ktop])), (know, .inl (ky 0, 373, .inl knowF)), (kpoured, .inl (ky 0, 36, .inl kpouredF))] s.heap.size = A at hD ⊢
  have hA : ∀ q : Nat, s.heap.size ≤ q → A q := fun q h => by rw [← hAe]; exact Or.inr h
  have hS : va_S A s.heap s.heap [] := va_S.rf
  have hP : va_P (dC, dI) vwCl [(o, .inr (12, [.int kthrown, .ref ktape, .int ktaped, .int ksize, .int klimit, .int kto, .int kfrom, .int kkind, .int knumber, .int ksign, .int kfault, .int kplace, .long kword, .int ktold, .ref know, .ref kread, .ref kkept, .ref ksnaps, .ref kaside, .ref kname, .ref kreadName, .ref kkeptName, .ref kisKept, .ref konces, .int ksnapMany, .int khasCells, .ref kpoured, .ref kfar, .ref ksides, .int ksideMany, .int kwayDays, .int khasWay, .ref klines, .ref kmet, .int kmetMany, .ref ksunk, .ref ktrying, .int ksunkMany, .int ksending, .int kfleets, .ref ktext, .int ktexts, .int kseed, .ref kline, .ref kwritten, .int klineMany, .int khasWritten, .ref knode, .int knodes, .int konesMany, .int kwithin, .int ktop])), (know, .inl (ky 0, 373, .inl knowF)), (kpoured, .inl (ky 0, 36, .inl kpouredF))] s.heap := hP
  have hl := lv_entry ([.ref o, .int (nI 0), .int (nI ln), .int y]) (n := 4) (Nat.le_of_ble_eq_true rfl)
  rw [lg_entry_eq]
  generalize (lg_sl ([.ref o, .int (nI 0), .int (nI ln), .int y]) ++ List.replicate (4 - (lg_sl ([.ref o, .int (nI 0), .int (nI ln), .int y])).length) Slot.unset).toArray = ls at hl ⊢
  have hl : lv_has ls 4 [(0, .ref o), (1, .int (nI 0)), (2, .int (nI ln)), (3, .int y)] := hl
  have hH0 : True := trivial
  refine lv_iload_n hx hb dX12_live_0 rfl (lv_at hl 1 rfl) ?_
  refine lv_tableIn (off := 31) (tgt := 32) hx hb dX12_live_1 (by decide) (by decide) rfl (by decide) ?_
  refine lv_aload_n hx hb dX12_live_32 rfl (lv_at hl 0 rfl) ?_
  refine lv_iload_n hx hb dX12_live_33 rfl (lv_at hl 2 rfl) ?_
  refine r_call_v (wr := []) (va_runV (As := [.int (nI ln)]) (rest := []) ⟨hx, hb, hml, hown, hts⟩ (c_m_doStir l dC dI ky s.heap.size o kthrown ktape ktaped ksize klimit kto kfrom kkind knumber ksign kfault kplace kword ktold know kread kkept ksnaps kaside kname kreadName kkeptName kisKept konces ksnapMany khasCells kpoured kfar ksides ksideMany kwayDays khasWay klines kmet kmetMany ksunk ktrying ksunkMany ksending kfleets ktext ktexts kseed kline kwritten klineMany khasWritten knode knodes konesMany kwithin ktop knowF kpouredF ln hB (by omega)) (cwV 1 hts gX12_live_X12_doStir rfl rfl rfl (by decide +kernel) ⟨(Nat.le_of_ble_eq_true rfl), (Nat.le_of_ble_eq_true rfl)⟩) (pre_UV hK hP hD [0, 1, 2] (by decide) rfl (ci := 12) (q0 := 0) rfl rfl) rfl rfl hl.1 rfl (lv_room (Nat.le_of_ble_eq_true rfl)) dX12_live_34 ⟨(Nat.le_of_ble_eq_true rfl), (Nat.le_of_ble_eq_true rfl)⟩) hP hD hS hA [0, 1, 2] [] rfl rfl (by decide) (by decide) (fun  u1 H locs p2 hP hD hS => ?_)
  obtain ⟨knowG_3, kpouredG_4⟩ := u1
  try dsimp only at p2
  have p5 := p2
  refine W.widen (k := 0) (n := 0) (Nat.le_of_ble_eq_true rfl) (Nat.le_of_ble_eq_true rfl) ?_
  have hP : va_P (dC, dI) vwCl [(o, .inr (12, [.int kthrown, .ref ktape, .int ktaped, .int ksize, .int klimit, .int kto, .int kfrom, .int kkind, .int knumber, .int ksign, .int kfault, .int kplace, .long kword, .int ktold, .ref know, .ref kread, .ref kkept, .ref ksnaps, .ref kaside, .ref kname, .ref kreadName, .ref kkeptName, .ref kisKept, .ref konces, .int ksnapMany, .int khasCells, .ref kpoured, .ref kfar, .ref ksides, .int ksideMany, .int kwayDays, .int khasWay, .ref klines, .ref kmet, .int kmetMany, .ref ksunk, .ref ktrying, .int ksunkMany, .int ksending, .int kfleets, .ref ktext, .int ktexts, .int kseed, .ref kline, .ref kwritten, .int klineMany, .int khasWritten, .ref knode, .int knodes, .int konesMany, .int kwithin, .int ktop])), (know, .inl (ky 0, 373, .inl knowG_3)), (kpoured, .inl (ky 0, 36, .inl kpouredG_4))] H := hP
  have hD : va_D A [(o, .inr (12, [.int kthrown, .ref ktape, .int ktaped, .int ksize, .int klimit, .int kto, .int kfrom, .int kkind, .int knumber, .int ksign, .int kfault, .int kplace, .long kword, .int ktold, .ref know, .ref kread, .ref kkept, .ref ksnaps, .ref kaside, .ref kname, .ref kreadName, .ref kkeptName, .ref kisKept, .ref konces, .int ksnapMany, .int khasCells, .ref kpoured, .ref kfar, .ref ksides, .int ksideMany, .int kwayDays, .int khasWay, .ref klines, .ref kmet, .int kmetMany, .ref ksunk, .ref ktrying, .int ksunkMany, .int ksending, .int kfleets, .ref ktext, .int ktexts, .int kseed, .ref kline, .ref kwritten, .int klineMany, .int khasWritten, .ref knode, .int knodes, .int konesMany, .int kwithin, .int ktop])), (know, .inl (ky 0, 373, .inl knowG_3)), (kpoured, .inl (ky 0, 36, .inl kpouredG_4))] := hD
  have hP9 := hP.sub (ws' := []) [] rfl
  have hD9 := hD.sub (ws' := []) [] (by decide) rfl
  refine W.widen (k := 0) (n := 0) (Nat.le_of_ble_eq_true rfl) (Nat.le_of_ble_eq_true rfl) ?_
  exact W.vret hx hb hr (fun t ht9 hW9 => ⟨⟨(), rfl, trivial, by rw [ht9]; exact hP9, va_K.moved hW9.alike hK, hD9⟩, hS.F ht9⟩) hS.2.2 dX12_live_37
set_option maxHeartbeats 4000000 in
set_option maxRecDepth 100000 in
theorem c_m_live2 (l : Launch) (dC : Nat → ClassId) (dI : Nat → Nat → Nat) (ky : Nat → ClassId) (sz : Nat) (o : Nat) (kthrown : Int32) (ktape : Nat) (ktaped : Int32) (ksize : Int32) (klimit : Int32) (kto : Int32) (kfrom : Int32) (kkind : Int32) (knumber : Int32) (ksign : Int32) (kfault : Int32) (kplace : Int32) (kword : Int64) (ktold : Int32) (know : Nat) (kread : Nat) (kkept : Nat) (ksnaps : Nat) (kaside : Nat) (kname : Nat) (kreadName : Nat) (kkeptName : Nat) (kisKept : Nat) (konces : Nat) (ksnapMany : Int32) (khasCells : Int32) (kpoured : Nat) (kfar : Nat) (ksides : Nat) (ksideMany : Int32) (kwayDays : Int32) (khasWay : Int32) (klines : Nat) (kmet : Nat) (kmetMany : Int32) (ksunk : Nat) (ktrying : Nat) (ksunkMany : Int32) (ksending : Int32) (kfleets : Int32) (ktext : Nat) (ktexts : Int32) (kseed : Int32) (kline : Nat) (kwritten : Nat) (klineMany : Int32) (khasWritten : Int32) (knode : Nat) (knodes : Int32) (konesMany : Int32) (kwithin : Int32) (ktop : Int32) (knowF : Nat → Int32) (k : Nat) (y : Int32) (hk : k < 36) : Met l yX12_live wsX12_live ({ frames := 1, cells := 0, slots := 0, locals := 21 }) (PcU dC dI ky [.ref o, .int (nI 2), .int (nI k), .int y] [(o, .inr (12, [.int kthrown, .ref ktape, .int ktaped, .int ksize, .int klimit, .int kto, .int kfrom, .int kkind, .int knumber, .int ksign, .int kfault, .int kplace, .long kword, .int ktold, .ref know, .ref kread, .ref kkept, .ref ksnaps, .ref kaside, .ref kname, .ref kreadName, .ref kkeptName, .ref kisKept, .ref konces, .int ksnapMany, .int khasCells, .ref kpoured, .ref kfar, .ref ksides, .int ksideMany, .int kwayDays, .int khasWay, .ref klines, .ref kmet, .int kmetMany, .ref ksunk, .ref ktrying, .int ksunkMany, .int ksending, .int kfleets, .ref ktext, .int ktexts, .int kseed, .ref kline, .ref kwritten, .int klineMany, .int khasWritten, .ref knode, .int knodes, .int konesMany, .int kwithin, .int ktop])), (know, .inl (ky 0, 373, .inl knowF))] sz) (va_Qv (fun (_ : Unit) => True) (BU dC dI ky (fun (_ : Unit) => []) (va_A [(o, .inr (12, [.int kthrown, .ref ktape, .int ktaped, .int ksize, .int klimit, .int kto, .int kfrom, .int kkind, .int knumber, .int ksign, .int kfault, .int kplace, .long kword, .int ktold, .ref know, .ref kread, .ref kkept, .ref ksnaps, .ref kaside, .ref kname, .ref kreadName, .ref kkeptName, .ref kisKept, .ref konces, .int ksnapMany, .int khasCells, .ref kpoured, .ref kfar, .ref ksides, .int ksideMany, .int kwayDays, .int khasWay, .ref klines, .ref kmet, .int kmetMany, .ref ksunk, .ref ktrying, .int ksunkMany, .int ksending, .int kfleets, .ref ktext, .int ktexts, .int kseed, .ref kline, .ref kwritten, .int klineMany, .int khasWritten, .ref knode, .int knodes, .int konesMany, .int kwithin, .int ktop])), (know, .inl (ky 0, 373, .inl knowF))] sz)) (va_A [(o, .inr (12, [.int kthrown, .ref ktape, .int ktaped, .int ksize, .int klimit, .int kto, .int kfrom, .int kkind, .int knumber, .int ksign, .int kfault, .int kplace, .long kword, .int ktold, .ref know, .ref kread, .ref kkept, .ref ksnaps, .ref kaside, .ref kname, .ref kreadName, .ref kkeptName, .ref kisKept, .ref konces, .int ksnapMany, .int khasCells, .ref kpoured, .ref kfar, .ref ksides, .int ksideMany, .int kwayDays, .int khasWay, .ref klines, .ref kmet, .int kmetMany, .ref ksunk, .ref ktrying, .int ksunkMany, .int ksending, .int kfleets, .ref ktext, .int ktexts, .int kseed, .ref kline, .ref kwritten, .int klineMany, .int khasWritten, .ref knode, .int knodes, .int konesMany, .int kwithin, .int ktop])), (know, .inl (ky 0, 373, .inl knowF))] sz)) 0 0 (va_A [(o, .inr (12, [.int kthrown, .ref ktape, .int ktaped, .int ksize, .int klimit, .int kto, .int kfrom, .int kkind, .int knumber, .int ksign, .int kfault, .int kplace, .long kword, .int ktold, .ref know, .ref kread, .ref kkept, .ref ksnaps, .ref kaside, .ref kname, .ref kreadName, .ref kkeptName, .ref kisKept, .ref konces, .int ksnapMany, .int khasCells, .ref kpoured, .ref kfar, .ref ksides, .int ksideMany, .int kwayDays, .int khasWay, .ref klines, .ref kmet, .int kmetMany, .ref ksunk, .ref ktrying, .int ksunkMany, .int ksending, .int kfleets, .ref ktext, .int ktexts, .int kseed, .ref kline, .ref kwritten, .int klineMany, .int khasWritten, .ref knode, .int knodes, .int konesMany, .int kwithin, .int ktop])), (know, .inl (ky 0, 373, .inl knowF))] sz) := by
  refine Met.ofW (cc := cX12_live) (maxL := 4) (ret := none) (by decide) rfl ?_
  intro p e s m args below meth c s₁ B hml hv
  obtain ⟨rfl, hsz, hP, hK, hD0⟩ := hv
  have hx := B.exec
  have hb := B.bytes
  have hr := B.returns
  have hts := atoms_spec (ws := wsX12_live) B.pre
  have hown : s.vm.findClass RX12 = some m.cls := findClass_of_methodNamed B.named
  have hlocks := B.notSynchronized
  have hin12 : ∀ w ∈ u_ws RX12 TX12 52, w ∈ wsX12_live := by decide +kernel
  subst hsz
  have hD := hD0.self (sz := s.heap.size)
  generalize hAe : va_A [(o, .inr (12, [.int kthrown, .ref ktape, .int ktaped, .int ksize, .int klimit, .int kto, .int kfrom, .int kkind, .int knumber, .int ksign, .int kfault, .int kplace, .long kword, .int ktold, .ref know, .ref kread, .ref kkept, .ref ksnaps, .ref kaside, .ref kname, .ref kreadName, .ref kkeptName, .ref kisKept, .ref konces, .int ksnapMany, .int khasCells, .ref kpoured, .ref kfar, .ref ksides, .int ksideMany, .int kwayDays, .int khasWay, .ref klines, .ref kmet, .int kmetMany, .ref ksunk, .ref ktrying, .int ksunkMany, .int ksending, .int kfleets, .ref ktext, .int ktexts, .int kseed, .ref kline, .ref kwritten, .int klineMany, .int khasWritten, .ref knode, .int knodes, .int konesMany, .int kwithin, .int ktop])), (know, .inl (ky 0, 373, .inl knowF))] s.heap.size = A at hD ⊢
  have hA : ∀ q : Nat, s.heap.size ≤ q → A q := fun q h => by rw [← hAe]; exact Or.inr h
  have hS : va_S A s.heap s.heap [] := va_S.rf
  have hP : va_P (dC, dI) vwCl [(o, .inr (12, [.int kthrown, .ref ktape, .int ktaped, .int ksize, .int klimit, .int kto, .int kfrom, .int kkind, .int knumber, .int ksign, .int kfault, .int kplace, .long kword, .int ktold, .ref know, .ref kread, .ref kkept, .ref ksnaps, .ref kaside, .ref kname, .ref kreadName, .ref kkeptName, .ref kisKept, .ref konces, .int ksnapMany, .int khasCells, .ref kpoured, .ref kfar, .ref ksides, .int ksideMany, .int kwayDays, .int khasWay, .ref klines, .ref kmet, .int kmetMany, .ref ksunk, .ref ktrying, .int ksunkMany, .int ksending, .int kfleets, .ref ktext, .int ktexts, .int kseed, .ref kline, .ref kwritten, .int klineMany, .int khasWritten, .ref knode, .int knodes, .int konesMany, .int kwithin, .int ktop])), (know, .inl (ky 0, 373, .inl knowF))] s.heap := hP
  have hl := lv_entry ([.ref o, .int (nI 2), .int (nI k), .int y]) (n := 4) (Nat.le_of_ble_eq_true rfl)
  rw [lg_entry_eq]
  generalize (lg_sl ([.ref o, .int (nI 2), .int (nI k), .int y]) ++ List.replicate (4 - (lg_sl ([.ref o, .int (nI 2), .int (nI k), .int y])).length) Slot.unset).toArray = ls at hl ⊢
  have hl : lv_has ls 4 [(0, .ref o), (1, .int (nI 2)), (2, .int (nI k)), (3, .int y)] := hl
  have hH0 : True := trivial
  refine lv_iload_n hx hb dX12_live_0 rfl (lv_at hl 1 rfl) ?_
  refine lv_tableIn (off := 97) (tgt := 98) hx hb dX12_live_1 (by decide) (by decide) rfl (by decide) ?_
  refine lv_aload_n hx hb dX12_live_98 rfl (lv_at hl 0 rfl) ?_
  refine va_get (D := (dC, dI)) (ci := 12) (v := .ref know) (C := RX12) (T := TX12) (N := 52) hx hb hts hin12 hown hK hP 0 rfl rfl 14 (by decide) (hts (.fieldLink RX12 98 "PorridgeSeaModel" "now" "[I") (List.mem_of_getElem? (i := 1) rfl)) (fun _ h9 => h9) rfl dX12_live_99 ?_
  refine lv_bipush (v := nI 71) hx hb dX12_live_102 (by decide) ?_
  refine lv_iload_n hx hb dX12_live_104 rfl (lv_at hl 2 rfl) ?_
  refine lv_iadd hx hb dX12_live_105 ?_
  refine r_ti (nI (71 + k)) (nI_add _ _) ?_
  refine lv_bipush (v := nI 9) hx hb dX12_live_106 (by decide) ?_
  refine lv_aload_n hx hb dX12_live_108 rfl (lv_at hl 0 rfl) ?_
  refine va_get (D := (dC, dI)) (ci := 12) (v := .ref know) (C := RX12) (T := TX12) (N := 52) hx hb hts hin12 hown hK hP 0 rfl rfl 14 (by decide) (hts (.fieldLink RX12 98 "PorridgeSeaModel" "now" "[I") (List.mem_of_getElem? (i := 1) rfl)) (fun _ h9 => h9) rfl dX12_live_109 ?_
  refine lv_bipush (v := nI 71) hx hb dX12_live_112 (by decide) ?_
  refine lv_iload_n hx hb dX12_live_114 rfl (lv_at hl 2 rfl) ?_
  refine lv_iadd hx hb dX12_live_115 ?_
  refine r_ti (nI (71 + k)) (nI_add _ _) ?_
  obtain ⟨y1, e2⟩ : ∃ z9, z9 = knowF (71 + k) := ⟨_, rfl⟩
  refine r_iald hx hb hK hP 1 rfl (71 + k) (by omega) (by decide) y1 e2.symm dX12_live_116 ?_
  refine lv_iload_n hx hb dX12_live_117 rfl (lv_at hl 3 rfl) ?_
  refine lv_iadd hx hb dX12_live_118 ?_
  refine lv_topi (fun y3 e4 => ?_)
  refine vp_callSi (W.runS (As := [.int (nI 9), .int y3]) (rest := [.int (nI (71 + k)), .ref know]) ⟨hx, hb, hml, hown, hts⟩ (c_m_least l dC dI ky (nI 9) y3) (va_cwS 2 hts gX12_live_X12_least rfl rfl rfl (by decide +kernel) ⟨(Nat.le_of_ble_eq_true rfl), (Nat.le_of_ble_eq_true rfl)⟩) (pre_PS hK hP [] rfl) rfl rfl hl.1 rfl (lv_room (Nat.le_of_ble_eq_true rfl)) dX12_live_119 ⟨(Nat.le_of_ble_eq_true rfl), (Nat.le_of_ble_eq_true rfl)⟩) (fun r5 p6 => ?_)
  refine r_iast (x := r5) hx hb hK hP hD hS 1 rfl (71 + k) (by omega) (by decide) dX12_live_122 (fun H locs hP hD hS => ?_)
  obtain ⟨g7, e8⟩ : ∃ z9, z9 = upd knowF (71 + k) r5 := ⟨_, rfl⟩
  rw [← e8] at hP hD
  have hP : va_P (dC, dI) vwCl [(o, .inr (12, [.int kthrown, .ref ktape, .int ktaped, .int ksize, .int klimit, .int kto, .int kfrom, .int kkind, .int knumber, .int ksign, .int kfault, .int kplace, .long kword, .int ktold, .ref know, .ref kread, .ref kkept, .ref ksnaps, .ref kaside, .ref kname, .ref kreadName, .ref kkeptName, .ref kisKept, .ref konces, .int ksnapMany, .int khasCells, .ref kpoured, .ref kfar, .ref ksides, .int ksideMany, .int kwayDays, .int khasWay, .ref klines, .ref kmet, .int kmetMany, .ref ksunk, .ref ktrying, .int ksunkMany, .int ksending, .int kfleets, .ref ktext, .int ktexts, .int kseed, .ref kline, .ref kwritten, .int klineMany, .int khasWritten, .ref knode, .int knodes, .int konesMany, .int kwithin, .int ktop])), (know, .inl (ky 0, 373, .inl g7))] H := hP
  have hD : va_D A [(o, .inr (12, [.int kthrown, .ref ktape, .int ktaped, .int ksize, .int klimit, .int kto, .int kfrom, .int kkind, .int knumber, .int ksign, .int kfault, .int kplace, .long kword, .int ktold, .ref know, .ref kread, .ref kkept, .ref ksnaps, .ref kaside, .ref kname, .ref kreadName, .ref kkeptName, .ref kisKept, .ref konces, .int ksnapMany, .int khasCells, .ref kpoured, .ref kfar, .ref ksides, .int ksideMany, .int kwayDays, .int khasWay, .ref klines, .ref kmet, .int kmetMany, .ref ksunk, .ref ktrying, .int ksunkMany, .int ksending, .int kfleets, .ref ktext, .int ktexts, .int kseed, .ref kline, .ref kwritten, .int klineMany, .int khasWritten, .ref knode, .int knodes, .int konesMany, .int kwithin, .int ktop])), (know, .inl (ky 0, 373, .inl g7))] := hD
  have hP9 := hP.sub (ws' := []) [] rfl
  have hD9 := hD.sub (ws' := []) [] (by decide) rfl
  refine W.widen (k := 0) (n := 0) (Nat.le_of_ble_eq_true rfl) (Nat.le_of_ble_eq_true rfl) ?_
  exact W.vret hx hb hr (fun t ht9 hW9 => ⟨⟨(), rfl, trivial, by rw [ht9]; exact hP9, va_K.moved hW9.alike hK, hD9⟩, hS.F ht9⟩) hS.2.2 dX12_live_123
set_option maxHeartbeats 4000000 in
set_option maxRecDepth 100000 in
theorem c_m_live4 (l : Launch) (dC : Nat → ClassId) (dI : Nat → Nat → Nat) (ky : Nat → ClassId) (sz : Nat) (o : Nat) (kthrown : Int32) (ktape : Nat) (ktaped : Int32) (ksize : Int32) (klimit : Int32) (kto : Int32) (kfrom : Int32) (kkind : Int32) (knumber : Int32) (ksign : Int32) (kfault : Int32) (kplace : Int32) (kword : Int64) (ktold : Int32) (know : Nat) (kread : Nat) (kkept : Nat) (ksnaps : Nat) (kaside : Nat) (kname : Nat) (kreadName : Nat) (kkeptName : Nat) (kisKept : Nat) (konces : Nat) (ksnapMany : Int32) (khasCells : Int32) (kpoured : Nat) (kfar : Nat) (ksides : Nat) (ksideMany : Int32) (kwayDays : Int32) (khasWay : Int32) (klines : Nat) (kmet : Nat) (kmetMany : Int32) (ksunk : Nat) (ktrying : Nat) (ksunkMany : Int32) (ksending : Int32) (kfleets : Int32) (ktext : Nat) (ktexts : Int32) (kseed : Int32) (kline : Nat) (kwritten : Nat) (klineMany : Int32) (khasWritten : Int32) (knode : Nat) (knodes : Int32) (konesMany : Int32) (kwithin : Int32) (ktop : Int32) (knowF : Nat → Int32) (x : Int32) (y : Int32)  : Met l yX12_live wsX12_live ({ frames := 1, cells := 0, slots := 0, locals := 21 }) (PcU dC dI ky [.ref o, .int (nI 4), .int x, .int y] [(o, .inr (12, [.int kthrown, .ref ktape, .int ktaped, .int ksize, .int klimit, .int kto, .int kfrom, .int kkind, .int knumber, .int ksign, .int kfault, .int kplace, .long kword, .int ktold, .ref know, .ref kread, .ref kkept, .ref ksnaps, .ref kaside, .ref kname, .ref kreadName, .ref kkeptName, .ref kisKept, .ref konces, .int ksnapMany, .int khasCells, .ref kpoured, .ref kfar, .ref ksides, .int ksideMany, .int kwayDays, .int khasWay, .ref klines, .ref kmet, .int kmetMany, .ref ksunk, .ref ktrying, .int ksunkMany, .int ksending, .int kfleets, .ref ktext, .int ktexts, .int kseed, .ref kline, .ref kwritten, .int klineMany, .int khasWritten, .ref knode, .int knodes, .int konesMany, .int kwithin, .int ktop])), (know, .inl (ky 0, 373, .inl knowF))] sz) (va_Qv (fun (_ : Unit) => True) (BU dC dI ky (fun (_ : Unit) => []) (va_A [(o, .inr (12, [.int kthrown, .ref ktape, .int ktaped, .int ksize, .int klimit, .int kto, .int kfrom, .int kkind, .int knumber, .int ksign, .int kfault, .int kplace, .long kword, .int ktold, .ref know, .ref kread, .ref kkept, .ref ksnaps, .ref kaside, .ref kname, .ref kreadName, .ref kkeptName, .ref kisKept, .ref konces, .int ksnapMany, .int khasCells, .ref kpoured, .ref kfar, .ref ksides, .int ksideMany, .int kwayDays, .int khasWay, .ref klines, .ref kmet, .int kmetMany, .ref ksunk, .ref ktrying, .int ksunkMany, .int ksending, .int kfleets, .ref ktext, .int ktexts, .int kseed, .ref kline, .ref kwritten, .int klineMany, .int khasWritten, .ref knode, .int knodes, .int konesMany, .int kwithin, .int ktop])), (know, .inl (ky 0, 373, .inl knowF))] sz)) (va_A [(o, .inr (12, [.int kthrown, .ref ktape, .int ktaped, .int ksize, .int klimit, .int kto, .int kfrom, .int kkind, .int knumber, .int ksign, .int kfault, .int kplace, .long kword, .int ktold, .ref know, .ref kread, .ref kkept, .ref ksnaps, .ref kaside, .ref kname, .ref kreadName, .ref kkeptName, .ref kisKept, .ref konces, .int ksnapMany, .int khasCells, .ref kpoured, .ref kfar, .ref ksides, .int ksideMany, .int kwayDays, .int khasWay, .ref klines, .ref kmet, .int kmetMany, .ref ksunk, .ref ktrying, .int ksunkMany, .int ksending, .int kfleets, .ref ktext, .int ktexts, .int kseed, .ref kline, .ref kwritten, .int klineMany, .int khasWritten, .ref knode, .int knodes, .int konesMany, .int kwithin, .int ktop])), (know, .inl (ky 0, 373, .inl knowF))] sz)) 0 0 (va_A [(o, .inr (12, [.int kthrown, .ref ktape, .int ktaped, .int ksize, .int klimit, .int kto, .int kfrom, .int kkind, .int knumber, .int ksign, .int kfault, .int kplace, .long kword, .int ktold, .ref know, .ref kread, .ref kkept, .ref ksnaps, .ref kaside, .ref kname, .ref kreadName, .ref kkeptName, .ref kisKept, .ref konces, .int ksnapMany, .int khasCells, .ref kpoured, .ref kfar, .ref ksides, .int ksideMany, .int kwayDays, .int khasWay, .ref klines, .ref kmet, .int kmetMany, .ref ksunk, .ref ktrying, .int ksunkMany, .int ksending, .int kfleets, .ref ktext, .int ktexts, .int kseed, .ref kline, .ref kwritten, .int klineMany, .int khasWritten, .ref knode, .int knodes, .int konesMany, .int kwithin, .int ktop])), (know, .inl (ky 0, 373, .inl knowF))] sz) := by
  refine Met.ofW (cc := cX12_live) (maxL := 4) (ret := none) (by decide) rfl ?_
  intro p e s m args below meth c s₁ B hml hv
  obtain ⟨rfl, hsz, hP, hK, hD0⟩ := hv
  have hx := B.exec
  have hb := B.bytes
  have hr := B.returns
  have hts := atoms_spec (ws := wsX12_live) B.pre
  have hown : s.vm.findClass RX12 = some m.cls := findClass_of_methodNamed B.named
  have hlocks := B.notSynchronized
  have hin12 : ∀ w ∈ u_ws RX12 TX12 52, w ∈ wsX12_live := by decide +kernel
  subst hsz
  have hD := hD0.self (sz := s.heap.size)
  generalize hAe : va_A [(o, .inr (12, [.int kthrown, .ref ktape, .int ktaped, .int ksize, .int klimit, .int kto, .int kfrom, .int kkind, .int knumber, .int ksign, .int kfault, .int kplace, .long kword, .int ktold, .ref know, .ref kread, .ref kkept, .ref ksnaps, .ref kaside, .ref kname, .ref kreadName, .ref kkeptName, .ref kisKept, .ref konces, .int ksnapMany, .int khasCells, .ref kpoured, .ref kfar, .ref ksides, .int ksideMany, .int kwayDays, .int khasWay, .ref klines, .ref kmet, .int kmetMany, .ref ksunk, .ref ktrying, .int ksunkMany, .int ksending, .int kfleets, .ref ktext, .int ktexts, .int kseed, .ref kline, .ref kwritten, .int klineMany, .int khasWritten, .ref knode, .int knodes, .int konesMany, .int kwithin, .int ktop])), (know, .inl (ky 0, 373, .inl knowF))] s.heap.size = A at hD ⊢
  have hA : ∀ q : Nat, s.heap.size ≤ q → A q := fun q h => by rw [← hAe]; exact Or.inr h
  have hS : va_S A s.heap s.heap [] := va_S.rf
  have hP : va_P (dC, dI) vwCl [(o, .inr (12, [.int kthrown, .ref ktape, .int ktaped, .int ksize, .int klimit, .int kto, .int kfrom, .int kkind, .int knumber, .int ksign, .int kfault, .int kplace, .long kword, .int ktold, .ref know, .ref kread, .ref kkept, .ref ksnaps, .ref kaside, .ref kname, .ref kreadName, .ref kkeptName, .ref kisKept, .ref konces, .int ksnapMany, .int khasCells, .ref kpoured, .ref kfar, .ref ksides, .int ksideMany, .int kwayDays, .int khasWay, .ref klines, .ref kmet, .int kmetMany, .ref ksunk, .ref ktrying, .int ksunkMany, .int ksending, .int kfleets, .ref ktext, .int ktexts, .int kseed, .ref kline, .ref kwritten, .int klineMany, .int khasWritten, .ref knode, .int knodes, .int konesMany, .int kwithin, .int ktop])), (know, .inl (ky 0, 373, .inl knowF))] s.heap := hP
  have hl := lv_entry ([.ref o, .int (nI 4), .int x, .int y]) (n := 4) (Nat.le_of_ble_eq_true rfl)
  rw [lg_entry_eq]
  generalize (lg_sl ([.ref o, .int (nI 4), .int x, .int y]) ++ List.replicate (4 - (lg_sl ([.ref o, .int (nI 4), .int x, .int y])).length) Slot.unset).toArray = ls at hl ⊢
  have hl : lv_has ls 4 [(0, .ref o), (1, .int (nI 4)), (2, .int x), (3, .int y)] := hl
  have hH0 : True := trivial
  refine lv_iload_n hx hb dX12_live_0 rfl (lv_at hl 1 rfl) ?_
  refine lv_tableOut (tgt := 150) hx hb dX12_live_1 (by decide) (by decide) ?_
  refine lv_aload_n hx hb dX12_live_150 rfl (lv_at hl 0 rfl) ?_
  refine va_get (D := (dC, dI)) (ci := 12) (v := .ref know) (C := RX12) (T := TX12) (N := 52) hx hb hts hin12 hown hK hP 0 rfl rfl 14 (by decide) (hts (.fieldLink RX12 98 "PorridgeSeaModel" "now" "[I") (List.mem_of_getElem? (i := 1) rfl)) (fun _ h9 => h9) rfl dX12_live_151 ?_
  refine lv_bipush (v := nI 68) hx hb dX12_live_154 (by decide) ?_
  refine lv_bipush (v := nI 30) hx hb dX12_live_156 (by decide) ?_
  refine lv_aload_n hx hb dX12_live_158 rfl (lv_at hl 0 rfl) ?_
  refine va_get (D := (dC, dI)) (ci := 12) (v := .ref know) (C := RX12) (T := TX12) (N := 52) hx hb hts hin12 hown hK hP 0 rfl rfl 14 (by decide) (hts (.fieldLink RX12 98 "PorridgeSeaModel" "now" "[I") (List.mem_of_getElem? (i := 1) rfl)) (fun _ h9 => h9) rfl dX12_live_159 ?_
  refine lv_bipush (v := nI 68) hx hb dX12_live_162 (by decide) ?_
  obtain ⟨y1, e2⟩ : ∃ z9, z9 = knowF 68 := ⟨_, rfl⟩
  refine r_iald hx hb hK hP 1 rfl 68 (by decide) (by decide) y1 e2.symm dX12_live_164 ?_
  refine lv_iload_n hx hb dX12_live_165 rfl (lv_at hl 2 rfl) ?_
  refine lv_iadd hx hb dX12_live_166 ?_
  refine lv_topi (fun y3 e4 => ?_)
  refine vp_callSi (W.runS (As := [.int (nI 30), .int y3]) (rest := [.int (nI 68), .ref know]) ⟨hx, hb, hml, hown, hts⟩ (c_m_least l dC dI ky (nI 30) y3) (va_cwS 2 hts gX12_live_X12_least rfl rfl rfl (by decide +kernel) ⟨(Nat.le_of_ble_eq_true rfl), (Nat.le_of_ble_eq_true rfl)⟩) (pre_PS hK hP [] rfl) rfl rfl hl.1 rfl (lv_room (Nat.le_of_ble_eq_true rfl)) dX12_live_167 ⟨(Nat.le_of_ble_eq_true rfl), (Nat.le_of_ble_eq_true rfl)⟩) (fun r5 p6 => ?_)
  refine r_iast (x := r5) hx hb hK hP hD hS 1 rfl 68 (by decide) (by decide) dX12_live_170 (fun H locs hP hD hS => ?_)
  obtain ⟨g7, e8⟩ : ∃ z9, z9 = upd knowF 68 r5 := ⟨_, rfl⟩
  rw [← e8] at hP hD
  have hP : va_P (dC, dI) vwCl [(o, .inr (12, [.int kthrown, .ref ktape, .int ktaped, .int ksize, .int klimit, .int kto, .int kfrom, .int kkind, .int knumber, .int ksign, .int kfault, .int kplace, .long kword, .int ktold, .ref know, .ref kread, .ref kkept, .ref ksnaps, .ref kaside, .ref kname, .ref kreadName, .ref kkeptName, .ref kisKept, .ref konces, .int ksnapMany, .int khasCells, .ref kpoured, .ref kfar, .ref ksides, .int ksideMany, .int kwayDays, .int khasWay, .ref klines, .ref kmet, .int kmetMany, .ref ksunk, .ref ktrying, .int ksunkMany, .int ksending, .int kfleets, .ref ktext, .int ktexts, .int kseed, .ref kline, .ref kwritten, .int klineMany, .int khasWritten, .ref knode, .int knodes, .int konesMany, .int kwithin, .int ktop])), (know, .inl (ky 0, 373, .inl g7))] H := hP
  have hD : va_D A [(o, .inr (12, [.int kthrown, .ref ktape, .int ktaped, .int ksize, .int klimit, .int kto, .int kfrom, .int kkind, .int knumber, .int ksign, .int kfault, .int kplace, .long kword, .int ktold, .ref know, .ref kread, .ref kkept, .ref ksnaps, .ref kaside, .ref kname, .ref kreadName, .ref kkeptName, .ref kisKept, .ref konces, .int ksnapMany, .int khasCells, .ref kpoured, .ref kfar, .ref ksides, .int ksideMany, .int kwayDays, .int khasWay, .ref klines, .ref kmet, .int kmetMany, .ref ksunk, .ref ktrying, .int ksunkMany, .int ksending, .int kfleets, .ref ktext, .int ktexts, .int kseed, .ref kline, .ref kwritten, .int klineMany, .int khasWritten, .ref knode, .int knodes, .int konesMany, .int kwithin, .int ktop])), (know, .inl (ky 0, 373, .inl g7))] := hD
  have hP9 := hP.sub (ws' := []) [] rfl
  have hD9 := hD.sub (ws' := []) [] (by decide) rfl
  refine W.widen (k := 0) (n := 0) (Nat.le_of_ble_eq_true rfl) (Nat.le_of_ble_eq_true rfl) ?_
  exact W.vret hx hb hr (fun t ht9 hW9 => ⟨⟨(), rfl, trivial, by rw [ht9]; exact hP9, va_K.moved hW9.alike hK, hD9⟩, hS.F ht9⟩) hS.2.2 dX12_live_171
set_option maxHeartbeats 4000000 in
set_option maxRecDepth 100000 in
theorem c_m_why0 (l : Launch) (dC : Nat → ClassId) (dI : Nat → Nat → Nat) (ky : Nat → ClassId) (o : Nat) (kthrown : Int32) (ktape : Nat) (ktaped : Int32) (ksize : Int32) (klimit : Int32) (kto : Int32) (kfrom : Int32) (kkind : Int32) (knumber : Int32) (ksign : Int32) (kfault : Int32) (kplace : Int32) (kword : Int64) (ktold : Int32) (know : Nat) (kread : Nat) (kkept : Nat) (ksnaps : Nat) (kaside : Nat) (kname : Nat) (kreadName : Nat) (kkeptName : Nat) (kisKept : Nat) (konces : Nat) (ksnapMany : Int32) (khasCells : Int32) (kpoured : Nat) (kfar : Nat) (ksides : Nat) (ksideMany : Int32) (kwayDays : Int32) (khasWay : Int32) (klines : Nat) (kmet : Nat) (kmetMany : Int32) (ksunk : Nat) (ktrying : Nat) (ksunkMany : Int32) (ksending : Int32) (kfleets : Int32) (ktext : Nat) (ktexts : Int32) (kseed : Int32) (kline : Nat) (kwritten : Nat) (klineMany : Int32) (khasWritten : Int32) (knode : Nat) (knodes : Int32) (konesMany : Int32) (kwithin : Int32) (ktop : Int32) (knowF : Nat → Int32) (x : Int32) (y : Int32) (hN : NowOk knowF) : Met l yX12_why wsX12_why ({ frames := 1, cells := 0, slots := 0, locals := 20 }) (PcP dC dI ky [.ref o, .int (nI 0), .int x, .int y] [(o, .inr (12, [.int kthrown, .ref ktape, .int ktaped, .int ksize, .int klimit, .int kto, .int kfrom, .int kkind, .int knumber, .int ksign, .int kfault, .int kplace, .long kword, .int ktold, .ref know, .ref kread, .ref kkept, .ref ksnaps, .ref kaside, .ref kname, .ref kreadName, .ref kkeptName, .ref kisKept, .ref konces, .int ksnapMany, .int khasCells, .ref kpoured, .ref kfar, .ref ksides, .int ksideMany, .int kwayDays, .int khasWay, .ref klines, .ref kmet, .int kmetMany, .ref ksunk, .ref ktrying, .int ksunkMany, .int ksending, .int kfleets, .ref ktext, .int ktexts, .int kseed, .ref kline, .ref kwritten, .int klineMany, .int khasWritten, .ref knode, .int knodes, .int konesMany, .int kwithin, .int ktop])), (know, .inl (ky 0, 373, .inl knowF))]) (vp_Si (fun r : Int32 => r = nI 0)) 0 0 (fun _ => False) := by
  refine Met.ofW (cc := cX12_why) (maxL := 4) (ret := (some .int)) (by decide) rfl ?_
  intro p e s m args below meth c s₁ B hml hv
  obtain ⟨rfl, hP, hK⟩ := hv
  have hx := B.exec
  have hb := B.bytes
  have hr := B.returns
  have hts := atoms_spec (ws := wsX12_why) B.pre
  have hown : s.vm.findClass RX12 = some m.cls := findClass_of_methodNamed B.named
  have hlocks := B.notSynchronized
  have hl := lv_entry ([.ref o, .int (nI 0), .int x, .int y]) (n := 4) (Nat.le_of_ble_eq_true rfl)
  rw [lg_entry_eq]
  generalize (lg_sl ([.ref o, .int (nI 0), .int x, .int y]) ++ List.replicate (4 - (lg_sl ([.ref o, .int (nI 0), .int x, .int y])).length) Slot.unset).toArray = ls at hl ⊢
  have hl : lv_has ls 4 [(0, .ref o), (1, .int (nI 0)), (2, .int x), (3, .int y)] := hl
  refine lv_iload_n hx hb dX12_why_0 rfl (lv_at hl 1 rfl) ?_
  refine lv_tableIn (off := 31) (tgt := 32) hx hb dX12_why_1 (by decide) (by decide) rfl (by decide) ?_
  refine lv_aload_n hx hb dX12_why_32 rfl (lv_at hl 0 rfl) ?_
  refine vp_callSi (W.runV (As := []) (rest := []) ⟨hx, hb, hml, hown, hts⟩ (c_m_hasSkin0 l dC dI ky o kthrown ktape ktaped ksize klimit kto kfrom kkind knumber ksign kfault kplace kword ktold know kread kkept ksnaps kaside kname kreadName kkeptName kisKept konces ksnapMany khasCells kpoured kfar ksides ksideMany kwayDays khasWay klines kmet kmetMany ksunk ktrying ksunkMany ksending kfleets ktext ktexts kseed kline kwritten klineMany khasWritten knode knodes konesMany kwithin ktop knowF hN) (cwV 0 hts gX12_why_X12_hasSkin rfl rfl rfl (by decide +kernel) ⟨(Nat.le_of_ble_eq_true rfl), (Nat.le_of_ble_eq_true rfl)⟩) (pre_PV hK hP [0, 1] rfl (ci := 12) (q0 := 0) rfl rfl) rfl rfl hl.1 rfl (lv_room (Nat.le_of_ble_eq_true rfl)) dX12_why_33 ⟨(Nat.le_of_ble_eq_true rfl), (Nat.le_of_ble_eq_true rfl)⟩) (fun r1 p2 => ?_)
  subst p2
  refine lv_if_eq (tgt := 43) hx hb dX12_why_36 (by decide) (fun c3 => ?_) (fun c3 => absurd (by decide) c3)
  refine lv_iconst (v := nI 0) hx hb dX12_why_43 (by decide) ?_
  exact W.iret (v := nI 0) hx hb hr (fun t ht9 hW9 => ⟨nI 0, rfl, rfl, ht9⟩) (fun _ h => absurd h List.not_mem_nil) dX12_why_44
set_option maxHeartbeats 4000000 in
set_option maxRecDepth 100000 in
theorem c_m_why4 (l : Launch) (dC : Nat → ClassId) (dI : Nat → Nat → Nat) (ky : Nat → ClassId) (o : Nat) (kthrown : Int32) (ktape : Nat) (ktaped : Int32) (ksize : Int32) (klimit : Int32) (kto : Int32) (kfrom : Int32) (kkind : Int32) (knumber : Int32) (ksign : Int32) (kfault : Int32) (kplace : Int32) (kword : Int64) (ktold : Int32) (know : Nat) (kread : Nat) (kkept : Nat) (ksnaps : Nat) (kaside : Nat) (kname : Nat) (kreadName : Nat) (kkeptName : Nat) (kisKept : Nat) (konces : Nat) (ksnapMany : Int32) (khasCells : Int32) (kpoured : Nat) (kfar : Nat) (ksides : Nat) (ksideMany : Int32) (kwayDays : Int32) (khasWay : Int32) (klines : Nat) (kmet : Nat) (kmetMany : Int32) (ksunk : Nat) (ktrying : Nat) (ksunkMany : Int32) (ksending : Int32) (kfleets : Int32) (ktext : Nat) (ktexts : Int32) (kseed : Int32) (kline : Nat) (kwritten : Nat) (klineMany : Int32) (khasWritten : Int32) (knode : Nat) (knodes : Int32) (konesMany : Int32) (kwithin : Int32) (ktop : Int32) (knowF : Nat → Int32) (x : Int32) (y : Int32) (hN : NowOk knowF) : Met l yX12_why wsX12_why ({ frames := 0, cells := 0, slots := 0, locals := 0 }) (PcP dC dI ky [.ref o, .int (nI 4), .int x, .int y] [(o, .inr (12, [.int kthrown, .ref ktape, .int ktaped, .int ksize, .int klimit, .int kto, .int kfrom, .int kkind, .int knumber, .int ksign, .int kfault, .int kplace, .long kword, .int ktold, .ref know, .ref kread, .ref kkept, .ref ksnaps, .ref kaside, .ref kname, .ref kreadName, .ref kkeptName, .ref kisKept, .ref konces, .int ksnapMany, .int khasCells, .ref kpoured, .ref kfar, .ref ksides, .int ksideMany, .int kwayDays, .int khasWay, .ref klines, .ref kmet, .int kmetMany, .ref ksunk, .ref ktrying, .int ksunkMany, .int ksending, .int kfleets, .ref ktext, .int ktexts, .int kseed, .ref kline, .ref kwritten, .int klineMany, .int khasWritten, .ref knode, .int knodes, .int konesMany, .int kwithin, .int ktop])), (know, .inl (ky 0, 373, .inl knowF))]) (vp_Si (fun r : Int32 => r = nI 0)) 0 0 (fun _ => False) := by
  refine Met.ofW (cc := cX12_why) (maxL := 4) (ret := (some .int)) (by decide) rfl ?_
  intro p e s m args below meth c s₁ B hml hv
  obtain ⟨rfl, hP, hK⟩ := hv
  have hx := B.exec
  have hb := B.bytes
  have hr := B.returns
  have hts := atoms_spec (ws := wsX12_why) B.pre
  have hown : s.vm.findClass RX12 = some m.cls := findClass_of_methodNamed B.named
  have hlocks := B.notSynchronized
  have hin12 : ∀ w ∈ u_ws RX12 TX12 52, w ∈ wsX12_why := by decide +kernel
  have hl := lv_entry ([.ref o, .int (nI 4), .int x, .int y]) (n := 4) (Nat.le_of_ble_eq_true rfl)
  rw [lg_entry_eq]
  generalize (lg_sl ([.ref o, .int (nI 4), .int x, .int y]) ++ List.replicate (4 - (lg_sl ([.ref o, .int (nI 4), .int x, .int y])).length) Slot.unset).toArray = ls at hl ⊢
  have hl : lv_has ls 4 [(0, .ref o), (1, .int (nI 4)), (2, .int x), (3, .int y)] := hl
  refine lv_iload_n hx hb dX12_why_0 rfl (lv_at hl 1 rfl) ?_
  refine lv_tableOut (tgt := 153) hx hb dX12_why_1 (by decide) (by decide) ?_
  refine lv_aload_n hx hb dX12_why_153 rfl (lv_at hl 0 rfl) ?_
  refine va_get (D := (dC, dI)) (ci := 12) (v := .ref know) (C := RX12) (T := TX12) (N := 52) hx hb hts hin12 hown hK hP 0 rfl rfl 14 (by decide) (hts (.fieldLink RX12 98 "PorridgeSeaModel" "now" "[I") (List.mem_of_getElem? (i := 1) rfl)) (fun _ h9 => h9) rfl dX12_why_154 ?_
  refine lv_bipush (v := nI 68) hx hb dX12_why_157 (by decide) ?_
  refine r_iald hx hb hK hP 1 rfl 68 (by decide) (by decide) (nI 10) hN.2.2.1 dX12_why_159 ?_
  refine lv_bipush (v := nI 30) hx hb dX12_why_160 (by decide) ?_
  refine lv_icmp_ne (tgt := 169) hx hb dX12_why_162 (by decide) (fun c1 => ?_) (fun c1 => absurd c1 (by decide))
  refine lv_iconst (v := nI 0) hx hb dX12_why_169 (by decide) ?_
  exact W.iret (v := nI 0) hx hb hr (fun t ht9 hW9 => ⟨nI 0, rfl, rfl, ht9⟩) (fun _ h => absurd h List.not_mem_nil) dX12_why_170
set_option maxHeartbeats 4000000 in
set_option maxRecDepth 100000 in
theorem c_m_why2 (l : Launch) (dC : Nat → ClassId) (dI : Nat → Nat → Nat) (ky : Nat → ClassId) (o : Nat) (kthrown : Int32) (ktape : Nat) (ktaped : Int32) (ksize : Int32) (klimit : Int32) (kto : Int32) (kfrom : Int32) (kkind : Int32) (knumber : Int32) (ksign : Int32) (kfault : Int32) (kplace : Int32) (kword : Int64) (ktold : Int32) (know : Nat) (kread : Nat) (kkept : Nat) (ksnaps : Nat) (kaside : Nat) (kname : Nat) (kreadName : Nat) (kkeptName : Nat) (kisKept : Nat) (konces : Nat) (ksnapMany : Int32) (khasCells : Int32) (kpoured : Nat) (kfar : Nat) (ksides : Nat) (ksideMany : Int32) (kwayDays : Int32) (khasWay : Int32) (klines : Nat) (kmet : Nat) (kmetMany : Int32) (ksunk : Nat) (ktrying : Nat) (ksunkMany : Int32) (ksending : Int32) (kfleets : Int32) (ktext : Nat) (ktexts : Int32) (kseed : Int32) (kline : Nat) (kwritten : Nat) (klineMany : Int32) (khasWritten : Int32) (knode : Nat) (knodes : Int32) (konesMany : Int32) (kwithin : Int32) (ktop : Int32) (knowF : Nat → Int32) (k : Nat) (y : Int32) (hN : NowOk knowF) (hk : k < 36) : Met l yX12_why wsX12_why ({ frames := 0, cells := 0, slots := 0, locals := 0 }) (PcP dC dI ky [.ref o, .int (nI 2), .int (nI k), .int y] [(o, .inr (12, [.int kthrown, .ref ktape, .int ktaped, .int ksize, .int klimit, .int kto, .int kfrom, .int kkind, .int knumber, .int ksign, .int kfault, .int kplace, .long kword, .int ktold, .ref know, .ref kread, .ref kkept, .ref ksnaps, .ref kaside, .ref kname, .ref kreadName, .ref kkeptName, .ref kisKept, .ref konces, .int ksnapMany, .int khasCells, .ref kpoured, .ref kfar, .ref ksides, .int ksideMany, .int kwayDays, .int khasWay, .ref klines, .ref kmet, .int kmetMany, .ref ksunk, .ref ktrying, .int ksunkMany, .int ksending, .int kfleets, .ref ktext, .int ktexts, .int kseed, .ref kline, .ref kwritten, .int klineMany, .int khasWritten, .ref knode, .int knodes, .int konesMany, .int kwithin, .int ktop])), (know, .inl (ky 0, 373, .inl knowF))]) (vp_Si (fun r : Int32 => r = nI 0)) 0 0 (fun _ => False) := by
  refine Met.ofW (cc := cX12_why) (maxL := 4) (ret := (some .int)) (by decide) rfl ?_
  intro p e s m args below meth c s₁ B hml hv
  obtain ⟨rfl, hP, hK⟩ := hv
  have hx := B.exec
  have hb := B.bytes
  have hr := B.returns
  have hts := atoms_spec (ws := wsX12_why) B.pre
  have hown : s.vm.findClass RX12 = some m.cls := findClass_of_methodNamed B.named
  have hlocks := B.notSynchronized
  have hin12 : ∀ w ∈ u_ws RX12 TX12 52, w ∈ wsX12_why := by decide +kernel
  have hl := lv_entry ([.ref o, .int (nI 2), .int (nI k), .int y]) (n := 4) (Nat.le_of_ble_eq_true rfl)
  rw [lg_entry_eq]
  generalize (lg_sl ([.ref o, .int (nI 2), .int (nI k), .int y]) ++ List.replicate (4 - (lg_sl ([.ref o, .int (nI 2), .int (nI k), .int y])).length) Slot.unset).toArray = ls at hl ⊢
  have hl : lv_has ls 4 [(0, .ref o), (1, .int (nI 2)), (2, .int (nI k)), (3, .int y)] := hl
  refine lv_iload_n hx hb dX12_why_0 rfl (lv_at hl 1 rfl) ?_
  refine lv_tableIn (off := 114) (tgt := 115) hx hb dX12_why_1 (by decide) (by decide) rfl (by decide) ?_
  refine lv_aload_n hx hb dX12_why_115 rfl (lv_at hl 0 rfl) ?_
  refine va_get (D := (dC, dI)) (ci := 12) (v := .ref know) (C := RX12) (T := TX12) (N := 52) hx hb hts hin12 hown hK hP 0 rfl rfl 14 (by decide) (hts (.fieldLink RX12 98 "PorridgeSeaModel" "now" "[I") (List.mem_of_getElem? (i := 1) rfl)) (fun _ h9 => h9) rfl dX12_why_116 ?_
  refine lv_bipush (v := nI 71) hx hb dX12_why_119 (by decide) ?_
  refine lv_iload_n hx hb dX12_why_121 rfl (lv_at hl 2 rfl) ?_
  refine lv_iadd hx hb dX12_why_122 ?_
  refine r_ti (nI (71 + k)) (nI_add _ _) ?_
  refine r_iald hx hb hK hP 1 rfl (71 + k) (by omega) (by decide) (nI 0) (now_hi hN (71 + k) (by omega) (by omega)) dX12_why_123 ?_
  refine lv_bipush (v := nI 9) hx hb dX12_why_124 (by decide) ?_
  refine lv_icmp_ne (tgt := 133) hx hb dX12_why_126 (by decide) (fun c1 => ?_) (fun c1 => absurd c1 (by decide))
  refine lv_iconst (v := nI 0) hx hb dX12_why_133 (by decide) ?_
  exact W.iret (v := nI 0) hx hb hr (fun t ht9 hW9 => ⟨nI 0, rfl, rfl, ht9⟩) (fun _ h => absurd h List.not_mem_nil) dX12_why_134
set_option maxHeartbeats 4000000 in
set_option maxRecDepth 100000 in
theorem c_m_why3 (l : Launch) (dC : Nat → ClassId) (dI : Nat → Nat → Nat) (ky : Nat → ClassId) (o : Nat) (kthrown : Int32) (ktape : Nat) (ktaped : Int32) (ksize : Int32) (klimit : Int32) (kto : Int32) (kfrom : Int32) (kkind : Int32) (knumber : Int32) (ksign : Int32) (kfault : Int32) (kplace : Int32) (kword : Int64) (ktold : Int32) (know : Nat) (kread : Nat) (kkept : Nat) (ksnaps : Nat) (kaside : Nat) (kname : Nat) (kreadName : Nat) (kkeptName : Nat) (kisKept : Nat) (konces : Nat) (ksnapMany : Int32) (khasCells : Int32) (kpoured : Nat) (kfar : Nat) (ksides : Nat) (ksideMany : Int32) (kwayDays : Int32) (khasWay : Int32) (klines : Nat) (kmet : Nat) (kmetMany : Int32) (ksunk : Nat) (ktrying : Nat) (ksunkMany : Int32) (ksending : Int32) (kfleets : Int32) (ktext : Nat) (ktexts : Int32) (kseed : Int32) (kline : Nat) (kwritten : Nat) (klineMany : Int32) (khasWritten : Int32) (knode : Nat) (knodes : Int32) (konesMany : Int32) (kwithin : Int32) (ktop : Int32) (knowF : Nat → Int32) (k : Nat) (y : Int32) (hN : NowOk knowF) (hk : k < 36) : Met l yX12_why wsX12_why ({ frames := 0, cells := 0, slots := 0, locals := 0 }) (PcP dC dI ky [.ref o, .int (nI 3), .int (nI k), .int y] [(o, .inr (12, [.int kthrown, .ref ktape, .int ktaped, .int ksize, .int klimit, .int kto, .int kfrom, .int kkind, .int knumber, .int ksign, .int kfault, .int kplace, .long kword, .int ktold, .ref know, .ref kread, .ref kkept, .ref ksnaps, .ref kaside, .ref kname, .ref kreadName, .ref kkeptName, .ref kisKept, .ref konces, .int ksnapMany, .int khasCells, .ref kpoured, .ref kfar, .ref ksides, .int ksideMany, .int kwayDays, .int khasWay, .ref klines, .ref kmet, .int kmetMany, .ref ksunk, .ref ktrying, .int ksunkMany, .int ksending, .int kfleets, .ref ktext, .int ktexts, .int kseed, .ref kline, .ref kwritten, .int klineMany, .int khasWritten, .ref knode, .int knodes, .int konesMany, .int kwithin, .int ktop])), (know, .inl (ky 0, 373, .inl knowF))]) (vp_Si (fun r : Int32 => r = nI 1)) 0 0 (fun _ => False) := by
  refine Met.ofW (cc := cX12_why) (maxL := 4) (ret := (some .int)) (by decide) rfl ?_
  intro p e s m args below meth c s₁ B hml hv
  obtain ⟨rfl, hP, hK⟩ := hv
  have hx := B.exec
  have hb := B.bytes
  have hr := B.returns
  have hts := atoms_spec (ws := wsX12_why) B.pre
  have hown : s.vm.findClass RX12 = some m.cls := findClass_of_methodNamed B.named
  have hlocks := B.notSynchronized
  have hin12 : ∀ w ∈ u_ws RX12 TX12 52, w ∈ wsX12_why := by decide +kernel
  have hl := lv_entry ([.ref o, .int (nI 3), .int (nI k), .int y]) (n := 4) (Nat.le_of_ble_eq_true rfl)
  rw [lg_entry_eq]
  generalize (lg_sl ([.ref o, .int (nI 3), .int (nI k), .int y]) ++ List.replicate (4 - (lg_sl ([.ref o, .int (nI 3), .int (nI k), .int y])).length) Slot.unset).toArray = ls at hl ⊢
  have hl : lv_has ls 4 [(0, .ref o), (1, .int (nI 3)), (2, .int (nI k)), (3, .int y)] := hl
  refine lv_iload_n hx hb dX12_why_0 rfl (lv_at hl 1 rfl) ?_
  refine lv_tableIn (off := 134) (tgt := 135) hx hb dX12_why_1 (by decide) (by decide) rfl (by decide) ?_
  refine lv_aload_n hx hb dX12_why_135 rfl (lv_at hl 0 rfl) ?_
  refine va_get (D := (dC, dI)) (ci := 12) (v := .ref know) (C := RX12) (T := TX12) (N := 52) hx hb hts hin12 hown hK hP 0 rfl rfl 14 (by decide) (hts (.fieldLink RX12 98 "PorridgeSeaModel" "now" "[I") (List.mem_of_getElem? (i := 1) rfl)) (fun _ h9 => h9) rfl dX12_why_136 ?_
  refine lv_bipush (v := nI 71) hx hb dX12_why_139 (by decide) ?_
  refine lv_iload_n hx hb dX12_why_141 rfl (lv_at hl 2 rfl) ?_
  refine lv_iadd hx hb dX12_why_142 ?_
  refine r_ti (nI (71 + k)) (nI_add _ _) ?_
  refine r_iald hx hb hK hP 1 rfl (71 + k) (by omega) (by decide) (nI 0) (now_hi hN (71 + k) (by omega) (by omega)) dX12_why_143 ?_
  refine lv_if_ne (tgt := 151) hx hb dX12_why_144 (by decide) (fun c1 => absurd c1 (by decide)) (fun c1 => ?_)
  refine lv_iconst (v := nI 1) hx hb dX12_why_147 (by decide) ?_
  refine lv_goto (tgt := 152) hx hb dX12_why_148 (by decide) ?_
  exact W.iret (v := nI 1) hx hb hr (fun t ht9 hW9 => ⟨nI 1, rfl, rfl, ht9⟩) (fun _ h => absurd h List.not_mem_nil) dX12_why_152
set_option maxHeartbeats 4000000 in
set_option maxRecDepth 100000 in
theorem c_m_actNo (l : Launch) (dC : Nat → ClassId) (dI : Nat → Nat → Nat) (ky : Nat → ClassId) (o : Nat) (kthrown : Int32) (ktape : Nat) (ktaped : Int32) (ksize : Int32) (klimit : Int32) (kto : Int32) (kfrom : Int32) (kkind : Int32) (knumber : Int32) (ksign : Int32) (kfault : Int32) (kplace : Int32) (kword : Int64) (ktold : Int32) (know : Nat) (kread : Nat) (kkept : Nat) (ksnaps : Nat) (kaside : Nat) (kname : Nat) (kreadName : Nat) (kkeptName : Nat) (kisKept : Nat) (konces : Nat) (ksnapMany : Int32) (khasCells : Int32) (kpoured : Nat) (kfar : Nat) (ksides : Nat) (ksideMany : Int32) (kwayDays : Int32) (khasWay : Int32) (klines : Nat) (kmet : Nat) (kmetMany : Int32) (ksunk : Nat) (ktrying : Nat) (ksunkMany : Int32) (ksending : Int32) (kfleets : Int32) (ktext : Nat) (ktexts : Int32) (kseed : Int32) (kline : Nat) (kwritten : Nat) (klineMany : Int32) (khasWritten : Int32) (knode : Nat) (knodes : Int32) (konesMany : Int32) (kwithin : Int32) (ktop : Int32) (wh : Int32) (x : Int32) (y : Int32)  : Met l yX12_act wsX12_act ({ frames := 0, cells := 0, slots := 0, locals := 0 }) (PcP dC dI ky [.ref o, .int wh, .int x, .int y, .int (nI 0)] [(o, .inr (12, [.int kthrown, .ref ktape, .int ktaped, .int ksize, .int klimit, .int kto, .int kfrom, .int kkind, .int knumber, .int ksign, .int kfault, .int kplace, .long kword, .int ktold, .ref know, .ref kread, .ref kkept, .ref ksnaps, .ref kaside, .ref kname, .ref kreadName, .ref kkeptName, .ref kisKept, .ref konces, .int ksnapMany, .int khasCells, .ref kpoured, .ref kfar, .ref ksides, .int ksideMany, .int kwayDays, .int khasWay, .ref klines, .ref kmet, .int kmetMany, .ref ksunk, .ref ktrying, .int ksunkMany, .int ksending, .int kfleets, .ref ktext, .int ktexts, .int kseed, .ref kline, .ref kwritten, .int klineMany, .int khasWritten, .ref knode, .int knodes, .int konesMany, .int kwithin, .int ktop]))]) (vp_Si (fun r : Int32 => r = (-1 : Int32))) 0 0 (fun _ => False) := by
  refine Met.ofW (cc := cX12_act) (maxL := 6) (ret := (some .int)) (by decide) rfl ?_
  intro p e s m args below meth c s₁ B hml hv
  obtain ⟨rfl, hP, hK⟩ := hv
  have hx := B.exec
  have hb := B.bytes
  have hr := B.returns
  have hts := atoms_spec (ws := wsX12_act) B.pre
  have hown : s.vm.findClass RX12 = some m.cls := findClass_of_methodNamed B.named
  have hlocks := B.notSynchronized
  have hl := lv_entry ([.ref o, .int wh, .int x, .int y, .int (nI 0)]) (n := 6) (Nat.le_of_ble_eq_true rfl)
  rw [lg_entry_eq]
  generalize (lg_sl ([.ref o, .int wh, .int x, .int y, .int (nI 0)]) ++ List.replicate (6 - (lg_sl ([.ref o, .int wh, .int x, .int y, .int (nI 0)])).length) Slot.unset).toArray = ls at hl ⊢
  have hl : lv_has ls 6 [(0, .ref o), (1, .int wh), (2, .int x), (3, .int y), (4, .int (nI 0))] := hl
  refine lv_iload hx hb dX12_act_0 (lv_at hl 4 rfl) ?_
  refine lv_if_ne (tgt := 7) hx hb dX12_act_2 (by decide) (fun c1 => absurd c1 (by decide)) (fun c1 => ?_)
  refine lv_iconst (v := (-1 : Int32)) hx hb dX12_act_5 (by decide) ?_
  exact W.iret (v := (-1 : Int32)) hx hb hr (fun t ht9 hW9 => ⟨(-1 : Int32), rfl, rfl, ht9⟩) (fun _ h => absurd h List.not_mem_nil) dX12_act_6
set_option maxHeartbeats 4000000 in
set_option maxRecDepth 100000 in
theorem c_m_act0 (l : Launch) (dC : Nat → ClassId) (dI : Nat → Nat → Nat) (ky : Nat → ClassId) (sz : Nat) (o : Nat) (kthrown : Int32) (ktape : Nat) (ktaped : Int32) (ksize : Int32) (klimit : Int32) (kto : Int32) (kfrom : Int32) (kkind : Int32) (knumber : Int32) (ksign : Int32) (kfault : Int32) (kplace : Int32) (kword : Int64) (ktold : Int32) (know : Nat) (kread : Nat) (kkept : Nat) (ksnaps : Nat) (kaside : Nat) (kname : Nat) (kreadName : Nat) (kkeptName : Nat) (kisKept : Nat) (konces : Nat) (khasCells : Int32) (kpoured : Nat) (kfar : Nat) (ksides : Nat) (ksideMany : Int32) (kwayDays : Int32) (khasWay : Int32) (klines : Nat) (kmet : Nat) (kmetMany : Int32) (ksunk : Nat) (ktrying : Nat) (ksunkMany : Int32) (ksending : Int32) (kfleets : Int32) (ktext : Nat) (ktexts : Int32) (kseed : Int32) (kline : Nat) (kwritten : Nat) (klineMany : Int32) (khasWritten : Int32) (knode : Nat) (knodes : Int32) (konesMany : Int32) (kwithin : Int32) (ktop : Int32) (knowF : Nat → Int32) (ksnapsF : Nat → Int32) (kpouredF : Nat → Int32) (ln : Nat) (y : Int32) (hN : NowOk knowF) (hln : ln < 24) : Met l yX12_act wsX12_act ({ frames := 3, cells := 0, slots := 0, locals := 72 }) (PcU dC dI ky [.ref o, .int (nI 0), .int (nI ln), .int y, .int (nI 1)] [(o, .inr (12, [.int kthrown, .ref ktape, .int ktaped, .int ksize, .int klimit, .int kto, .int kfrom, .int kkind, .int knumber, .int ksign, .int kfault, .int kplace, .long kword, .int ktold, .ref know, .ref kread, .ref kkept, .ref ksnaps, .ref kaside, .ref kname, .ref kreadName, .ref kkeptName, .ref kisKept, .ref konces, .int (nI 0), .int khasCells, .ref kpoured, .ref kfar, .ref ksides, .int ksideMany, .int kwayDays, .int khasWay, .ref klines, .ref kmet, .int kmetMany, .ref ksunk, .ref ktrying, .int ksunkMany, .int ksending, .int kfleets, .ref ktext, .int ktexts, .int kseed, .ref kline, .ref kwritten, .int klineMany, .int khasWritten, .ref knode, .int knodes, .int konesMany, .int kwithin, .int ktop])), (know, .inl (ky 0, 373, .inl knowF)), (ksnaps, .inl (ky 0, 512, .inl ksnapsF)), (kpoured, .inl (ky 0, 36, .inl kpouredF))] sz) (va_Qi (fun (r : Int32) (_ : Unit) => r = nI 0) (BU dC dI ky (fun (_ : Unit) => []) (va_A [(o, .inr (12, [.int kthrown, .ref ktape, .int ktaped, .int ksize, .int klimit, .int kto, .int kfrom, .int kkind, .int knumber, .int ksign, .int kfault, .int kplace, .long kword, .int ktold, .ref know, .ref kread, .ref kkept, .ref ksnaps, .ref kaside, .ref kname, .ref kreadName, .ref kkeptName, .ref kisKept, .ref konces, .int (nI 0), .int khasCells, .ref kpoured, .ref kfar, .ref ksides, .int ksideMany, .int kwayDays, .int khasWay, .ref klines, .ref kmet, .int kmetMany, .ref ksunk, .ref ktrying, .int ksunkMany, .int ksending, .int kfleets, .ref ktext, .int ktexts, .int kseed, .ref kline, .ref kwritten, .int klineMany, .int khasWritten, .ref knode, .int knodes, .int konesMany, .int kwithin, .int ktop])), (know, .inl (ky 0, 373, .inl knowF)), (ksnaps, .inl (ky 0, 512, .inl ksnapsF)), (kpoured, .inl (ky 0, 36, .inl kpouredF))] sz)) (va_A [(o, .inr (12, [.int kthrown, .ref ktape, .int ktaped, .int ksize, .int klimit, .int kto, .int kfrom, .int kkind, .int knumber, .int ksign, .int kfault, .int kplace, .long kword, .int ktold, .ref know, .ref kread, .ref kkept, .ref ksnaps, .ref kaside, .ref kname, .ref kreadName, .ref kkeptName, .ref kisKept, .ref konces, .int (nI 0), .int khasCells, .ref kpoured, .ref kfar, .ref ksides, .int ksideMany, .int kwayDays, .int khasWay, .ref klines, .ref kmet, .int kmetMany, .ref ksunk, .ref ktrying, .int ksunkMany, .int ksending, .int kfleets, .ref ktext, .int ktexts, .int kseed, .ref kline, .ref kwritten, .int klineMany, .int khasWritten, .ref knode, .int knodes, .int konesMany, .int kwithin, .int ktop])), (know, .inl (ky 0, 373, .inl knowF)), (ksnaps, .inl (ky 0, 512, .inl ksnapsF)), (kpoured, .inl (ky 0, 36, .inl kpouredF))] sz)) 0 0 (va_A [(o, .inr (12, [.int kthrown, .ref ktape, .int ktaped, .int ksize, .int klimit, .int kto, .int kfrom, .int kkind, .int knumber, .int ksign, .int kfault, .int kplace, .long kword, .int ktold, .ref know, .ref kread, .ref kkept, .ref ksnaps, .ref kaside, .ref kname, .ref kreadName, .ref kkeptName, .ref kisKept, .ref konces, .int (nI 0), .int khasCells, .ref kpoured, .ref kfar, .ref ksides, .int ksideMany, .int kwayDays, .int khasWay, .ref klines, .ref kmet, .int kmetMany, .ref ksunk, .ref ktrying, .int ksunkMany, .int ksending, .int kfleets, .ref ktext, .int ktexts, .int kseed, .ref kline, .ref kwritten, .int klineMany, .int khasWritten, .ref knode, .int knodes, .int konesMany, .int kwithin, .int ktop])), (know, .inl (ky 0, 373, .inl knowF)), (ksnaps, .inl (ky 0, 512, .inl ksnapsF)), (kpoured, .inl (ky 0, 36, .inl kpouredF))] sz) := by
  refine Met.ofW (cc := cX12_act) (maxL := 6) (ret := (some .int)) (by decide) rfl ?_
  intro p e s m args below meth c s₁ B hml hv
  obtain ⟨rfl, hsz, hP, hK, hD0⟩ := hv
  have hx := B.exec
  have hb := B.bytes
  have hr := B.returns
  have hts := atoms_spec (ws := wsX12_act) B.pre
  have hown : s.vm.findClass RX12 = some m.cls := findClass_of_methodNamed B.named
  have hlocks := B.notSynchronized
  subst hsz
  have hD := hD0.self (sz := s.heap.size)
  generalize hAe : va_A [(o, .inr (12, [.int kthrown, .ref ktape, .int ktaped, .int ksize, .int klimit, .int kto, .int kfrom, .int kkind, .int knumber, .int ksign, .int kfault, .int kplace, .long kword, .int ktold, .ref know, .ref kread, .ref kkept, .ref ksnaps, .ref kaside, .ref kname, .ref kreadName, .ref kkeptName, .ref kisKept, .ref konces, .int (nI 0), .int khasCells, .ref kpoured, .ref kfar, .ref ksides, .int ksideMany, .int kwayDays, .int khasWay, .ref klines, .ref kmet, .int kmetMany, .ref ksunk, .ref ktrying, .int ksunkMany, .int ksending, .int kfleets, .ref ktext, .int ktexts, .int kseed, .ref kline, .ref kwritten, .int klineMany, .int khasWritten, .ref knode, .int knodes, .int konesMany, .int kwithin, .int ktop])), (know, .inl (ky 0, 373, .inl knowF)), (ksnaps, .inl (ky 0, 512, .inl ksnapsF)), (kpoured, .inl (ky 0, 36, .inl kpouredF))] s.heap.size = A at hD ⊢
  have hA : ∀ q : Nat, s.heap.size ≤ q → A q := fun q h => by rw [← hAe]; exact Or.inr h
  have hS : va_S A s.heap s.heap [] := va_S.rf
  have hP : va_P (dC, dI) vwCl [(o, .inr (12, [.int kthrown, .ref ktape, .int ktaped, .int ksize, .int klimit, .int kto, .int kfrom, .int kkind, .int knumber, .int ksign, .int kfault, .int kplace, .long kword, .int ktold, .ref know, .ref kread, .ref kkept, .ref ksnaps, .ref kaside, .ref kname, .ref kreadName, .ref kkeptName, .ref kisKept, .ref konces, .int (nI 0), .int khasCells, .ref kpoured, .ref kfar, .ref ksides, .int ksideMany, .int kwayDays, .int khasWay, .ref klines, .ref kmet, .int kmetMany, .ref ksunk, .ref ktrying, .int ksunkMany, .int ksending, .int kfleets, .ref ktext, .int ktexts, .int kseed, .ref kline, .ref kwritten, .int klineMany, .int khasWritten, .ref knode, .int knodes, .int konesMany, .int kwithin, .int ktop])), (know, .inl (ky 0, 373, .inl knowF)), (ksnaps, .inl (ky 0, 512, .inl ksnapsF)), (kpoured, .inl (ky 0, 36, .inl kpouredF))] s.heap := hP
  have hl := lv_entry ([.ref o, .int (nI 0), .int (nI ln), .int y, .int (nI 1)]) (n := 6) (Nat.le_of_ble_eq_true rfl)
  rw [lg_entry_eq]
  generalize (lg_sl ([.ref o, .int (nI 0), .int (nI ln), .int y, .int (nI 1)]) ++ List.replicate (6 - (lg_sl ([.ref o, .int (nI 0), .int (nI ln), .int y, .int (nI 1)])).length) Slot.unset).toArray = ls at hl ⊢
  have hl : lv_has ls 6 [(0, .ref o), (1, .int (nI 0)), (2, .int (nI ln)), (3, .int y), (4, .int (nI 1))] := hl
  have hH0 : True := trivial
  refine lv_iload hx hb dX12_act_0 (lv_at hl 4 rfl) ?_
  refine lv_if_ne (tgt := 7) hx hb dX12_act_2 (by decide) (fun c1 => ?_) (fun c1 => absurd c1 (by decide))
  refine lv_aload_n hx hb dX12_act_7 rfl (lv_at hl 0 rfl) ?_
  refine lv_iload_n hx hb dX12_act_8 rfl (lv_at hl 1 rfl) ?_
  refine lv_iload_n hx hb dX12_act_9 rfl (lv_at hl 2 rfl) ?_
  refine lv_iload_n hx hb dX12_act_10 rfl (lv_at hl 3 rfl) ?_
  refine vp_callSi (W.runV (As := [.int (nI 0), .int (nI ln), .int y]) (rest := []) ⟨hx, hb, hml, hown, hts⟩ (c_m_why0 l dC dI ky o kthrown ktape ktaped ksize klimit kto kfrom kkind knumber ksign kfault kplace kword ktold know kread kkept ksnaps kaside kname kreadName kkeptName kisKept konces (nI 0) khasCells kpoured kfar ksides ksideMany kwayDays khasWay klines kmet kmetMany ksunk ktrying ksunkMany ksending kfleets ktext ktexts kseed kline kwritten klineMany khasWritten knode knodes konesMany kwithin ktop knowF (nI ln) y hN) (cwV 3 hts gX12_act_X12_why rfl rfl rfl (by decide +kernel) ⟨(Nat.le_of_ble_eq_true rfl), (Nat.le_of_ble_eq_true rfl)⟩) (pre_PV hK hP [0, 1] rfl (ci := 12) (q0 := 0) rfl rfl) rfl rfl hl.1 rfl (lv_room (Nat.le_of_ble_eq_true rfl)) dX12_act_11 ⟨(Nat.le_of_ble_eq_true rfl), (Nat.le_of_ble_eq_true rfl)⟩) (fun r2 p3 => ?_)
  subst p3
  refine lv_istore (lv' := [(5, .int (nI 0)), (0, .ref o), (1, .int (nI 0)), (2, .int (nI ln)), (3, .int y), (4, .int (nI 1))]) hx hb dX12_act_14 hl (by decide) rfl (fun ls hl => ?_)
  refine lv_iload hx hb dX12_act_16 (lv_at hl 0 rfl) ?_
  refine lv_if_eq (tgt := 24) hx hb dX12_act_18 (by decide) (fun c4 => ?_) (fun c4 => absurd (by decide) c4)
  refine lv_aload_n hx hb dX12_act_24 rfl (lv_at hl 1 rfl) ?_
  refine r_call_v (wr := [(kpoured, .inl (ky 0, 36, .inl kpouredF))]) (va_runV (As := []) (rest := []) ⟨hx, hb, hml, hown, hts⟩ (c_m_snap l dC dI ky s.heap.size o kthrown ktape ktaped ksize klimit kto kfrom kkind knumber ksign kfault kplace kword ktold know kread kkept ksnaps kaside kname kreadName kkeptName kisKept konces khasCells kpoured kfar ksides ksideMany kwayDays khasWay klines kmet kmetMany ksunk ktrying ksunkMany ksending kfleets ktext ktexts kseed kline kwritten klineMany khasWritten knode knodes konesMany kwithin ktop knowF ksnapsF) (cwV 0 hts gX12_act_X12_snap rfl rfl rfl (by decide +kernel) ⟨(Nat.le_of_ble_eq_true rfl), (Nat.le_of_ble_eq_true rfl)⟩) (pre_UV hK hP hD [0, 1, 2] (by decide) rfl (ci := 12) (q0 := 0) rfl rfl) rfl rfl hl.1 rfl (lv_room (Nat.le_of_ble_eq_true rfl)) dX12_act_25 ⟨(Nat.le_of_ble_eq_true rfl), (Nat.le_of_ble_eq_true rfl)⟩) hP hD hS hA [0, 1, 2] [3] rfl rfl (by decide) (by decide) (fun  u5 H locs p6 hP hD hS => ?_)
  obtain ⟨ksnapsG_7, rfl⟩ : ∃ z, z = u5 := ⟨_, rfl⟩
  refine W.widen (k := 0) (n := 0) (Nat.le_of_ble_eq_true rfl) (Nat.le_of_ble_eq_true rfl) ?_
  have hP : va_P (dC, dI) vwCl [(kpoured, .inl (ky 0, 36, .inl kpouredF)), (o, .inr (12, [.int kthrown, .ref ktape, .int ktaped, .int ksize, .int klimit, .int kto, .int kfrom, .int kkind, .int knumber, .int ksign, .int kfault, .int kplace, .long kword, .int ktold, .ref know, .ref kread, .ref kkept, .ref ksnaps, .ref kaside, .ref kname, .ref kreadName, .ref kkeptName, .ref kisKept, .ref konces, .int (nI 1), .int khasCells, .ref kpoured, .ref kfar, .ref ksides, .int ksideMany, .int kwayDays, .int khasWay, .ref klines, .ref kmet, .int kmetMany, .ref ksunk, .ref ktrying, .int ksunkMany, .int ksending, .int kfleets, .ref ktext, .int ktexts, .int kseed, .ref kline, .ref kwritten, .int klineMany, .int khasWritten, .ref knode, .int knodes, .int konesMany, .int kwithin, .int ktop])), (know, .inl (ky 0, 373, .inl knowF)), (ksnaps, .inl (ky 0, 512, .inl ksnapsG_7))] H := hP
  have hD : va_D A [(kpoured, .inl (ky 0, 36, .inl kpouredF)), (o, .inr (12, [.int kthrown, .ref ktape, .int ktaped, .int ksize, .int klimit, .int kto, .int kfrom, .int kkind, .int knumber, .int ksign, .int kfault, .int kplace, .long kword, .int ktold, .ref know, .ref kread, .ref kkept, .ref ksnaps, .ref kaside, .ref kname, .ref kreadName, .ref kkeptName, .ref kisKept, .ref konces, .int (nI 1), .int khasCells, .ref kpoured, .ref kfar, .ref ksides, .int ksideMany, .int kwayDays, .int khasWay, .ref klines, .ref kmet, .int kmetMany, .ref ksunk, .ref ktrying, .int ksunkMany, .int ksending, .int kfleets, .ref ktext, .int ktexts, .int kseed, .ref kline, .ref kwritten, .int klineMany, .int khasWritten, .ref knode, .int knodes, .int konesMany, .int kwithin, .int ktop])), (know, .inl (ky 0, 373, .inl knowF)), (ksnaps, .inl (ky 0, 512, .inl ksnapsG_7))] := hD
  refine lv_aload_n hx hb dX12_act_28 rfl (lv_at hl 1 rfl) ?_
  refine lv_iload_n hx hb dX12_act_29 rfl (lv_at hl 2 rfl) ?_
  refine lv_iload_n hx hb dX12_act_30 rfl (lv_at hl 3 rfl) ?_
  refine lv_iload_n hx hb dX12_act_31 rfl (lv_at hl 4 rfl) ?_
  refine r_call_v (wr := [(ksnaps, .inl (ky 0, 512, .inl ksnapsG_7))]) (va_runV (As := [.int (nI 0), .int (nI ln), .int y]) (rest := []) ⟨hx, hb, hml, hown, hts⟩ (c_m_live0 l dC dI ky H.size o kthrown ktape ktaped ksize klimit kto kfrom kkind knumber ksign kfault kplace kword ktold know kread kkept ksnaps kaside kname kreadName kkeptName kisKept konces (nI 1) khasCells kpoured kfar ksides ksideMany kwayDays khasWay klines kmet kmetMany ksunk ktrying ksunkMany ksending kfleets ktext ktexts kseed kline kwritten klineMany khasWritten knode knodes konesMany kwithin ktop knowF kpouredF ln y (NowOk.b hN) (by omega)) (cwV 3 hts gX12_act_X12_live rfl rfl rfl (by decide +kernel) ⟨(Nat.le_of_ble_eq_true rfl), (Nat.le_of_ble_eq_true rfl)⟩) (pre_UV hK hP hD [1, 2, 0] (by decide) rfl (ci := 12) (q0 := 1) rfl rfl) rfl rfl hl.1 rfl (lv_room (Nat.le_of_ble_eq_true rfl)) dX12_act_32 ⟨(Nat.le_of_ble_eq_true rfl), (Nat.le_of_ble_eq_true rfl)⟩) hP hD hS hA [1, 2, 0] [3] rfl rfl (by decide) (by decide) (fun  u8 H locs p9 hP hD hS => ?_)
  refine W.widen (k := 0) (n := 0) (Nat.le_of_ble_eq_true rfl) (Nat.le_of_ble_eq_true rfl) ?_
  have hP : va_P (dC, dI) vwCl [(ksnaps, .inl (ky 0, 512, .inl ksnapsG_7))] H := hP
  have hD : va_D A [(ksnaps, .inl (ky 0, 512, .inl ksnapsG_7))] := hD
  refine lv_iconst (v := nI 0) hx hb dX12_act_35 (by decide) ?_
  have hP9 := hP.sub (ws' := []) [] rfl
  have hD9 := hD.sub (ws' := []) [] (by decide) rfl
  refine W.widen (k := 0) (n := 0) (Nat.le_of_ble_eq_true rfl) (Nat.le_of_ble_eq_true rfl) ?_
  exact W.iret (v := nI 0) hx hb hr (fun t ht9 hW9 => ⟨⟨nI 0, (), rfl, rfl, by rw [ht9]; exact hP9, va_K.moved hW9.alike hK, hD9⟩, hS.F ht9⟩) hS.2.2 dX12_act_36
set_option maxHeartbeats 4000000 in
set_option maxRecDepth 100000 in
theorem c_m_act2 (l : Launch) (dC : Nat → ClassId) (dI : Nat → Nat → Nat) (ky : Nat → ClassId) (sz : Nat) (o : Nat) (kthrown : Int32) (ktape : Nat) (ktaped : Int32) (ksize : Int32) (klimit : Int32) (kto : Int32) (kfrom : Int32) (kkind : Int32) (knumber : Int32) (ksign : Int32) (kfault : Int32) (kplace : Int32) (kword : Int64) (ktold : Int32) (know : Nat) (kread : Nat) (kkept : Nat) (ksnaps : Nat) (kaside : Nat) (kname : Nat) (kreadName : Nat) (kkeptName : Nat) (kisKept : Nat) (konces : Nat) (khasCells : Int32) (kpoured : Nat) (kfar : Nat) (ksides : Nat) (ksideMany : Int32) (kwayDays : Int32) (khasWay : Int32) (klines : Nat) (kmet : Nat) (kmetMany : Int32) (ksunk : Nat) (ktrying : Nat) (ksunkMany : Int32) (ksending : Int32) (kfleets : Int32) (ktext : Nat) (ktexts : Int32) (kseed : Int32) (kline : Nat) (kwritten : Nat) (klineMany : Int32) (khasWritten : Int32) (knode : Nat) (knodes : Int32) (konesMany : Int32) (kwithin : Int32) (ktop : Int32) (knowF : Nat → Int32) (ksnapsF : Nat → Int32) (k : Nat) (y : Int32) (hN : NowOk knowF) (hk : k < 36) : Met l yX12_act wsX12_act ({ frames := 2, cells := 0, slots := 0, locals := 44 }) (PcU dC dI ky [.ref o, .int (nI 2), .int (nI k), .int y, .int (nI 1)] [(o, .inr (12, [.int kthrown, .ref ktape, .int ktaped, .int ksize, .int klimit, .int kto, .int kfrom, .int kkind, .int knumber, .int ksign, .int kfault, .int kplace, .long kword, .int ktold, .ref know, .ref kread, .ref kkept, .ref ksnaps, .ref kaside, .ref kname, .ref kreadName, .ref kkeptName, .ref kisKept, .ref konces, .int (nI 0), .int khasCells, .ref kpoured, .ref kfar, .ref ksides, .int ksideMany, .int kwayDays, .int khasWay, .ref klines, .ref kmet, .int kmetMany, .ref ksunk, .ref ktrying, .int ksunkMany, .int ksending, .int kfleets, .ref ktext, .int ktexts, .int kseed, .ref kline, .ref kwritten, .int klineMany, .int khasWritten, .ref knode, .int knodes, .int konesMany, .int kwithin, .int ktop])), (know, .inl (ky 0, 373, .inl knowF)), (ksnaps, .inl (ky 0, 512, .inl ksnapsF))] sz) (va_Qi (fun (r : Int32) (_ : Unit) => r = nI 0) (BU dC dI ky (fun (_ : Unit) => []) (va_A [(o, .inr (12, [.int kthrown, .ref ktape, .int ktaped, .int ksize, .int klimit, .int kto, .int kfrom, .int kkind, .int knumber, .int ksign, .int kfault, .int kplace, .long kword, .int ktold, .ref know, .ref kread, .ref kkept, .ref ksnaps, .ref kaside, .ref kname, .ref kreadName, .ref kkeptName, .ref kisKept, .ref konces, .int (nI 0), .int khasCells, .ref kpoured, .ref kfar, .ref ksides, .int ksideMany, .int kwayDays, .int khasWay, .ref klines, .ref kmet, .int kmetMany, .ref ksunk, .ref ktrying, .int ksunkMany, .int ksending, .int kfleets, .ref ktext, .int ktexts, .int kseed, .ref kline, .ref kwritten, .int klineMany, .int khasWritten, .ref knode, .int knodes, .int konesMany, .int kwithin, .int ktop])), (know, .inl (ky 0, 373, .inl knowF)), (ksnaps, .inl (ky 0, 512, .inl ksnapsF))] sz)) (va_A [(o, .inr (12, [.int kthrown, .ref ktape, .int ktaped, .int ksize, .int klimit, .int kto, .int kfrom, .int kkind, .int knumber, .int ksign, .int kfault, .int kplace, .long kword, .int ktold, .ref know, .ref kread, .ref kkept, .ref ksnaps, .ref kaside, .ref kname, .ref kreadName, .ref kkeptName, .ref kisKept, .ref konces, .int (nI 0), .int khasCells, .ref kpoured, .ref kfar, .ref ksides, .int ksideMany, .int kwayDays, .int khasWay, .ref klines, .ref kmet, .int kmetMany, .ref ksunk, .ref ktrying, .int ksunkMany, .int ksending, .int kfleets, .ref ktext, .int ktexts, .int kseed, .ref kline, .ref kwritten, .int klineMany, .int khasWritten, .ref knode, .int knodes, .int konesMany, .int kwithin, .int ktop])), (know, .inl (ky 0, 373, .inl knowF)), (ksnaps, .inl (ky 0, 512, .inl ksnapsF))] sz)) 0 0 (va_A [(o, .inr (12, [.int kthrown, .ref ktape, .int ktaped, .int ksize, .int klimit, .int kto, .int kfrom, .int kkind, .int knumber, .int ksign, .int kfault, .int kplace, .long kword, .int ktold, .ref know, .ref kread, .ref kkept, .ref ksnaps, .ref kaside, .ref kname, .ref kreadName, .ref kkeptName, .ref kisKept, .ref konces, .int (nI 0), .int khasCells, .ref kpoured, .ref kfar, .ref ksides, .int ksideMany, .int kwayDays, .int khasWay, .ref klines, .ref kmet, .int kmetMany, .ref ksunk, .ref ktrying, .int ksunkMany, .int ksending, .int kfleets, .ref ktext, .int ktexts, .int kseed, .ref kline, .ref kwritten, .int klineMany, .int khasWritten, .ref knode, .int knodes, .int konesMany, .int kwithin, .int ktop])), (know, .inl (ky 0, 373, .inl knowF)), (ksnaps, .inl (ky 0, 512, .inl ksnapsF))] sz) := by
  refine Met.ofW (cc := cX12_act) (maxL := 6) (ret := (some .int)) (by decide) rfl ?_
  intro p e s m args below meth c s₁ B hml hv
  obtain ⟨rfl, hsz, hP, hK, hD0⟩ := hv
  have hx := B.exec
  have hb := B.bytes
  have hr := B.returns
  have hts := atoms_spec (ws := wsX12_act) B.pre
  have hown : s.vm.findClass RX12 = some m.cls := findClass_of_methodNamed B.named
  have hlocks := B.notSynchronized
  subst hsz
  have hD := hD0.self (sz := s.heap.size)
  generalize hAe : va_A [(o, .inr (12, [.int kthrown, .ref ktape, .int ktaped, .int ksize, .int klimit, .int kto, .int kfrom, .int kkind, .int knumber, .int ksign, .int kfault, .int kplace, .long kword, .int ktold, .ref know, .ref kread, .ref kkept, .ref ksnaps, .ref kaside, .ref kname, .ref kreadName, .ref kkeptName, .ref kisKept, .ref konces, .int (nI 0), .int khasCells, .ref kpoured, .ref kfar, .ref ksides, .int ksideMany, .int kwayDays, .int khasWay, .ref klines, .ref kmet, .int kmetMany, .ref ksunk, .ref ktrying, .int ksunkMany, .int ksending, .int kfleets, .ref ktext, .int ktexts, .int kseed, .ref kline, .ref kwritten, .int klineMany, .int khasWritten, .ref knode, .int knodes, .int konesMany, .int kwithin, .int ktop])), (know, .inl (ky 0, 373, .inl knowF)), (ksnaps, .inl (ky 0, 512, .inl ksnapsF))] s.heap.size = A at hD ⊢
  have hA : ∀ q : Nat, s.heap.size ≤ q → A q := fun q h => by rw [← hAe]; exact Or.inr h
  have hS : va_S A s.heap s.heap [] := va_S.rf
  have hP : va_P (dC, dI) vwCl [(o, .inr (12, [.int kthrown, .ref ktape, .int ktaped, .int ksize, .int klimit, .int kto, .int kfrom, .int kkind, .int knumber, .int ksign, .int kfault, .int kplace, .long kword, .int ktold, .ref know, .ref kread, .ref kkept, .ref ksnaps, .ref kaside, .ref kname, .ref kreadName, .ref kkeptName, .ref kisKept, .ref konces, .int (nI 0), .int khasCells, .ref kpoured, .ref kfar, .ref ksides, .int ksideMany, .int kwayDays, .int khasWay, .ref klines, .ref kmet, .int kmetMany, .ref ksunk, .ref ktrying, .int ksunkMany, .int ksending, .int kfleets, .ref ktext, .int ktexts, .int kseed, .ref kline, .ref kwritten, .int klineMany, .int khasWritten, .ref knode, .int knodes, .int konesMany, .int kwithin, .int ktop])), (know, .inl (ky 0, 373, .inl knowF)), (ksnaps, .inl (ky 0, 512, .inl ksnapsF))] s.heap := hP
  have hl := lv_entry ([.ref o, .int (nI 2), .int (nI k), .int y, .int (nI 1)]) (n := 6) (Nat.le_of_ble_eq_true rfl)
  rw [lg_entry_eq]
  generalize (lg_sl ([.ref o, .int (nI 2), .int (nI k), .int y, .int (nI 1)]) ++ List.replicate (6 - (lg_sl ([.ref o, .int (nI 2), .int (nI k), .int y, .int (nI 1)])).length) Slot.unset).toArray = ls at hl ⊢
  have hl : lv_has ls 6 [(0, .ref o), (1, .int (nI 2)), (2, .int (nI k)), (3, .int y), (4, .int (nI 1))] := hl
  have hH0 : True := trivial
  refine lv_iload hx hb dX12_act_0 (lv_at hl 4 rfl) ?_
  refine lv_if_ne (tgt := 7) hx hb dX12_act_2 (by decide) (fun c1 => ?_) (fun c1 => absurd c1 (by decide))
  refine lv_aload_n hx hb dX12_act_7 rfl (lv_at hl 0 rfl) ?_
  refine lv_iload_n hx hb dX12_act_8 rfl (lv_at hl 1 rfl) ?_
  refine lv_iload_n hx hb dX12_act_9 rfl (lv_at hl 2 rfl) ?_
  refine lv_iload_n hx hb dX12_act_10 rfl (lv_at hl 3 rfl) ?_
  refine vp_callSi (W.runV (As := [.int (nI 2), .int (nI k), .int y]) (rest := []) ⟨hx, hb, hml, hown, hts⟩ (c_m_why2 l dC dI ky o kthrown ktape ktaped ksize klimit kto kfrom kkind knumber ksign kfault kplace kword ktold know kread kkept ksnaps kaside kname kreadName kkeptName kisKept konces (nI 0) khasCells kpoured kfar ksides ksideMany kwayDays khasWay klines kmet kmetMany ksunk ktrying ksunkMany ksending kfleets ktext ktexts kseed kline kwritten klineMany khasWritten knode knodes konesMany kwithin ktop knowF k y hN (by omega)) (cwV 3 hts gX12_act_X12_why rfl rfl rfl (by decide +kernel) ⟨(Nat.le_of_ble_eq_true rfl), (Nat.le_of_ble_eq_true rfl)⟩) (pre_PV hK hP [0, 1] rfl (ci := 12) (q0 := 0) rfl rfl) rfl rfl hl.1 rfl (lv_room (Nat.le_of_ble_eq_true rfl)) dX12_act_11 ⟨(Nat.le_of_ble_eq_true rfl), (Nat.le_of_ble_eq_true rfl)⟩) (fun r2 p3 => ?_)
  subst p3
  refine lv_istore (lv' := [(5, .int (nI 0)), (0, .ref o), (1, .int (nI 2)), (2, .int (nI k)), (3, .int y), (4, .int (nI 1))]) hx hb dX12_act_14 hl (by decide) rfl (fun ls hl => ?_)
  refine lv_iload hx hb dX12_act_16 (lv_at hl 0 rfl) ?_
  refine lv_if_eq (tgt := 24) hx hb dX12_act_18 (by decide) (fun c4 => ?_) (fun c4 => absurd (by decide) c4)
  refine lv_aload_n hx hb dX12_act_24 rfl (lv_at hl 1 rfl) ?_
  refine r_call_v (wr := []) (va_runV (As := []) (rest := []) ⟨hx, hb, hml, hown, hts⟩ (c_m_snap l dC dI ky s.heap.size o kthrown ktape ktaped ksize klimit kto kfrom kkind knumber ksign kfault kplace kword ktold know kread kkept ksnaps kaside kname kreadName kkeptName kisKept konces khasCells kpoured kfar ksides ksideMany kwayDays khasWay klines kmet kmetMany ksunk ktrying ksunkMany ksending kfleets ktext ktexts kseed kline kwritten klineMany khasWritten knode knodes konesMany kwithin ktop knowF ksnapsF) (cwV 0 hts gX12_act_X12_snap rfl rfl rfl (by decide +kernel) ⟨(Nat.le_of_ble_eq_true rfl), (Nat.le_of_ble_eq_true rfl)⟩) (pre_UV hK hP hD [0, 1, 2] (by decide) rfl (ci := 12) (q0 := 0) rfl rfl) rfl rfl hl.1 rfl (lv_room (Nat.le_of_ble_eq_true rfl)) dX12_act_25 ⟨(Nat.le_of_ble_eq_true rfl), (Nat.le_of_ble_eq_true rfl)⟩) hP hD hS hA [0, 1, 2] [] rfl rfl (by decide) (by decide) (fun  u5 H locs p6 hP hD hS => ?_)
  obtain ⟨ksnapsG_7, rfl⟩ : ∃ z, z = u5 := ⟨_, rfl⟩
  refine W.widen (k := 0) (n := 0) (Nat.le_of_ble_eq_true rfl) (Nat.le_of_ble_eq_true rfl) ?_
  have hP : va_P (dC, dI) vwCl [(o, .inr (12, [.int kthrown, .ref ktape, .int ktaped, .int ksize, .int klimit, .int kto, .int kfrom, .int kkind, .int knumber, .int ksign, .int kfault, .int kplace, .long kword, .int ktold, .ref know, .ref kread, .ref kkept, .ref ksnaps, .ref kaside, .ref kname, .ref kreadName, .ref kkeptName, .ref kisKept, .ref konces, .int (nI 1), .int khasCells, .ref kpoured, .ref kfar, .ref ksides, .int ksideMany, .int kwayDays, .int khasWay, .ref klines, .ref kmet, .int kmetMany, .ref ksunk, .ref ktrying, .int ksunkMany, .int ksending, .int kfleets, .ref ktext, .int ktexts, .int kseed, .ref kline, .ref kwritten, .int klineMany, .int khasWritten, .ref knode, .int knodes, .int konesMany, .int kwithin, .int ktop])), (know, .inl (ky 0, 373, .inl knowF)), (ksnaps, .inl (ky 0, 512, .inl ksnapsG_7))] H := hP
  have hD : va_D A [(o, .inr (12, [.int kthrown, .ref ktape, .int ktaped, .int ksize, .int klimit, .int kto, .int kfrom, .int kkind, .int knumber, .int ksign, .int kfault, .int kplace, .long kword, .int ktold, .ref know, .ref kread, .ref kkept, .ref ksnaps, .ref kaside, .ref kname, .ref kreadName, .ref kkeptName, .ref kisKept, .ref konces, .int (nI 1), .int khasCells, .ref kpoured, .ref kfar, .ref ksides, .int ksideMany, .int kwayDays, .int khasWay, .ref klines, .ref kmet, .int kmetMany, .ref ksunk, .ref ktrying, .int ksunkMany, .int ksending, .int kfleets, .ref ktext, .int ktexts, .int kseed, .ref kline, .ref kwritten, .int klineMany, .int khasWritten, .ref knode, .int knodes, .int konesMany, .int kwithin, .int ktop])), (know, .inl (ky 0, 373, .inl knowF)), (ksnaps, .inl (ky 0, 512, .inl ksnapsG_7))] := hD
  refine lv_aload_n hx hb dX12_act_28 rfl (lv_at hl 1 rfl) ?_
  refine lv_iload_n hx hb dX12_act_29 rfl (lv_at hl 2 rfl) ?_
  refine lv_iload_n hx hb dX12_act_30 rfl (lv_at hl 3 rfl) ?_
  refine lv_iload_n hx hb dX12_act_31 rfl (lv_at hl 4 rfl) ?_
  refine r_call_v (wr := [(ksnaps, .inl (ky 0, 512, .inl ksnapsG_7))]) (va_runV (As := [.int (nI 2), .int (nI k), .int y]) (rest := []) ⟨hx, hb, hml, hown, hts⟩ (c_m_live2 l dC dI ky H.size o kthrown ktape ktaped ksize klimit kto kfrom kkind knumber ksign kfault kplace kword ktold know kread kkept ksnaps kaside kname kreadName kkeptName kisKept konces (nI 1) khasCells kpoured kfar ksides ksideMany kwayDays khasWay klines kmet kmetMany ksunk ktrying ksunkMany ksending kfleets ktext ktexts kseed kline kwritten klineMany khasWritten knode knodes konesMany kwithin ktop knowF k y (by omega)) (cwV 3 hts gX12_act_X12_live rfl rfl rfl (by decide +kernel) ⟨(Nat.le_of_ble_eq_true rfl), (Nat.le_of_ble_eq_true rfl)⟩) (pre_UV hK hP hD [0, 1] (by decide) rfl (ci := 12) (q0 := 0) rfl rfl) rfl rfl hl.1 rfl (lv_room (Nat.le_of_ble_eq_true rfl)) dX12_act_32 ⟨(Nat.le_of_ble_eq_true rfl), (Nat.le_of_ble_eq_true rfl)⟩) hP hD hS hA [0, 1] [2] rfl rfl (by decide) (by decide) (fun  u8 H locs p9 hP hD hS => ?_)
  refine W.widen (k := 0) (n := 0) (Nat.le_of_ble_eq_true rfl) (Nat.le_of_ble_eq_true rfl) ?_
  have hP : va_P (dC, dI) vwCl [(ksnaps, .inl (ky 0, 512, .inl ksnapsG_7))] H := hP
  have hD : va_D A [(ksnaps, .inl (ky 0, 512, .inl ksnapsG_7))] := hD
  refine lv_iconst (v := nI 0) hx hb dX12_act_35 (by decide) ?_
  have hP9 := hP.sub (ws' := []) [] rfl
  have hD9 := hD.sub (ws' := []) [] (by decide) rfl
  refine W.widen (k := 0) (n := 0) (Nat.le_of_ble_eq_true rfl) (Nat.le_of_ble_eq_true rfl) ?_
  exact W.iret (v := nI 0) hx hb hr (fun t ht9 hW9 => ⟨⟨nI 0, (), rfl, rfl, by rw [ht9]; exact hP9, va_K.moved hW9.alike hK, hD9⟩, hS.F ht9⟩) hS.2.2 dX12_act_36
set_option maxHeartbeats 4000000 in
set_option maxRecDepth 100000 in
theorem c_m_act3 (l : Launch) (dC : Nat → ClassId) (dI : Nat → Nat → Nat) (ky : Nat → ClassId) (o : Nat) (kthrown : Int32) (ktape : Nat) (ktaped : Int32) (ksize : Int32) (klimit : Int32) (kto : Int32) (kfrom : Int32) (kkind : Int32) (knumber : Int32) (ksign : Int32) (kfault : Int32) (kplace : Int32) (kword : Int64) (ktold : Int32) (know : Nat) (kread : Nat) (kkept : Nat) (ksnaps : Nat) (kaside : Nat) (kname : Nat) (kreadName : Nat) (kkeptName : Nat) (kisKept : Nat) (konces : Nat) (ksnapMany : Int32) (khasCells : Int32) (kpoured : Nat) (kfar : Nat) (ksides : Nat) (ksideMany : Int32) (kwayDays : Int32) (khasWay : Int32) (klines : Nat) (kmet : Nat) (kmetMany : Int32) (ksunk : Nat) (ktrying : Nat) (ksunkMany : Int32) (ksending : Int32) (kfleets : Int32) (ktext : Nat) (ktexts : Int32) (kseed : Int32) (kline : Nat) (kwritten : Nat) (klineMany : Int32) (khasWritten : Int32) (knode : Nat) (knodes : Int32) (konesMany : Int32) (kwithin : Int32) (ktop : Int32) (knowF : Nat → Int32) (k : Nat) (y : Int32) (hN : NowOk knowF) (hk : k < 36) : Met l yX12_act wsX12_act ({ frames := 1, cells := 0, slots := 0, locals := 23 }) (PcP dC dI ky [.ref o, .int (nI 3), .int (nI k), .int y, .int (nI 1)] [(o, .inr (12, [.int kthrown, .ref ktape, .int ktaped, .int ksize, .int klimit, .int kto, .int kfrom, .int kkind, .int knumber, .int ksign, .int kfault, .int kplace, .long kword, .int ktold, .ref know, .ref kread, .ref kkept, .ref ksnaps, .ref kaside, .ref kname, .ref kreadName, .ref kkeptName, .ref kisKept, .ref konces, .int ksnapMany, .int khasCells, .ref kpoured, .ref kfar, .ref ksides, .int ksideMany, .int kwayDays, .int khasWay, .ref klines, .ref kmet, .int kmetMany, .ref ksunk, .ref ktrying, .int ksunkMany, .int ksending, .int kfleets, .ref ktext, .int ktexts, .int kseed, .ref kline, .ref kwritten, .int klineMany, .int khasWritten, .ref knode, .int knodes, .int konesMany, .int kwithin, .int ktop])), (know, .inl (ky 0, 373, .inl knowF))]) (vp_Si (fun r : Int32 => r = nI 1)) 0 0 (fun _ => False) := by
  refine Met.ofW (cc := cX12_act) (maxL := 6) (ret := (some .int)) (by decide) rfl ?_
  intro p e s m args below meth c s₁ B hml hv
  obtain ⟨rfl, hP, hK⟩ := hv
  have hx := B.exec
  have hb := B.bytes
  have hr := B.returns
  have hts := atoms_spec (ws := wsX12_act) B.pre
  have hown : s.vm.findClass RX12 = some m.cls := findClass_of_methodNamed B.named
  have hlocks := B.notSynchronized
  have hl := lv_entry ([.ref o, .int (nI 3), .int (nI k), .int y, .int (nI 1)]) (n := 6) (Nat.le_of_ble_eq_true rfl)
  rw [lg_entry_eq]
  generalize (lg_sl ([.ref o, .int (nI 3), .int (nI k), .int y, .int (nI 1)]) ++ List.replicate (6 - (lg_sl ([.ref o, .int (nI 3), .int (nI k), .int y, .int (nI 1)])).length) Slot.unset).toArray = ls at hl ⊢
  have hl : lv_has ls 6 [(0, .ref o), (1, .int (nI 3)), (2, .int (nI k)), (3, .int y), (4, .int (nI 1))] := hl
  refine lv_iload hx hb dX12_act_0 (lv_at hl 4 rfl) ?_
  refine lv_if_ne (tgt := 7) hx hb dX12_act_2 (by decide) (fun c1 => ?_) (fun c1 => absurd c1 (by decide))
  refine lv_aload_n hx hb dX12_act_7 rfl (lv_at hl 0 rfl) ?_
  refine lv_iload_n hx hb dX12_act_8 rfl (lv_at hl 1 rfl) ?_
  refine lv_iload_n hx hb dX12_act_9 rfl (lv_at hl 2 rfl) ?_
  refine lv_iload_n hx hb dX12_act_10 rfl (lv_at hl 3 rfl) ?_
  refine vp_callSi (W.runV (As := [.int (nI 3), .int (nI k), .int y]) (rest := []) ⟨hx, hb, hml, hown, hts⟩ (c_m_why3 l dC dI ky o kthrown ktape ktaped ksize klimit kto kfrom kkind knumber ksign kfault kplace kword ktold know kread kkept ksnaps kaside kname kreadName kkeptName kisKept konces ksnapMany khasCells kpoured kfar ksides ksideMany kwayDays khasWay klines kmet kmetMany ksunk ktrying ksunkMany ksending kfleets ktext ktexts kseed kline kwritten klineMany khasWritten knode knodes konesMany kwithin ktop knowF k y hN (by omega)) (cwV 3 hts gX12_act_X12_why rfl rfl rfl (by decide +kernel) ⟨(Nat.le_of_ble_eq_true rfl), (Nat.le_of_ble_eq_true rfl)⟩) (pre_PV hK hP [0, 1] rfl (ci := 12) (q0 := 0) rfl rfl) rfl rfl hl.1 rfl (lv_room (Nat.le_of_ble_eq_true rfl)) dX12_act_11 ⟨(Nat.le_of_ble_eq_true rfl), (Nat.le_of_ble_eq_true rfl)⟩) (fun r2 p3 => ?_)
  subst p3
  refine lv_istore (lv' := [(5, .int (nI 1)), (0, .ref o), (1, .int (nI 3)), (2, .int (nI k)), (3, .int y), (4, .int (nI 1))]) hx hb dX12_act_14 hl (by decide) rfl (fun ls hl => ?_)
  refine lv_iload hx hb dX12_act_16 (lv_at hl 0 rfl) ?_
  refine lv_if_eq (tgt := 24) hx hb dX12_act_18 (by decide) (fun c4 => absurd c4 (by decide)) (fun c4 => ?_)
  refine lv_iload hx hb dX12_act_21 (lv_at hl 0 rfl) ?_
  exact W.iret (v := nI 1) hx hb hr (fun t ht9 hW9 => ⟨nI 1, rfl, rfl, ht9⟩) (fun _ h => absurd h List.not_mem_nil) dX12_act_23
set_option maxHeartbeats 4000000 in
set_option maxRecDepth 100000 in
theorem c_m_act4 (l : Launch) (dC : Nat → ClassId) (dI : Nat → Nat → Nat) (ky : Nat → ClassId) (sz : Nat) (o : Nat) (kthrown : Int32) (ktape : Nat) (ktaped : Int32) (ksize : Int32) (klimit : Int32) (kto : Int32) (kfrom : Int32) (kkind : Int32) (knumber : Int32) (ksign : Int32) (kfault : Int32) (kplace : Int32) (kword : Int64) (ktold : Int32) (know : Nat) (kread : Nat) (kkept : Nat) (ksnaps : Nat) (kaside : Nat) (kname : Nat) (kreadName : Nat) (kkeptName : Nat) (kisKept : Nat) (konces : Nat) (khasCells : Int32) (kpoured : Nat) (kfar : Nat) (ksides : Nat) (ksideMany : Int32) (kwayDays : Int32) (khasWay : Int32) (klines : Nat) (kmet : Nat) (kmetMany : Int32) (ksunk : Nat) (ktrying : Nat) (ksunkMany : Int32) (ksending : Int32) (kfleets : Int32) (ktext : Nat) (ktexts : Int32) (kseed : Int32) (kline : Nat) (kwritten : Nat) (klineMany : Int32) (khasWritten : Int32) (knode : Nat) (knodes : Int32) (konesMany : Int32) (kwithin : Int32) (ktop : Int32) (knowF : Nat → Int32) (ksnapsF : Nat → Int32) (x : Int32) (y : Int32) (hN : NowOk knowF) : Met l yX12_act wsX12_act ({ frames := 2, cells := 0, slots := 0, locals := 44 }) (PcU dC dI ky [.ref o, .int (nI 4), .int x, .int y, .int (nI 1)] [(o, .inr (12, [.int kthrown, .ref ktape, .int ktaped, .int ksize, .int klimit, .int kto, .int kfrom, .int kkind, .int knumber, .int ksign, .int kfault, .int kplace, .long kword, .int ktold, .ref know, .ref kread, .ref kkept, .ref ksnaps, .ref kaside, .ref kname, .ref kreadName, .ref kkeptName, .ref kisKept, .ref konces, .int (nI 0), .int khasCells, .ref kpoured, .ref kfar, .ref ksides, .int ksideMany, .int kwayDays, .int khasWay, .ref klines, .ref kmet, .int kmetMany, .ref ksunk, .ref ktrying, .int ksunkMany, .int ksending, .int kfleets, .ref ktext, .int ktexts, .int kseed, .ref kline, .ref kwritten, .int klineMany, .int khasWritten, .ref knode, .int knodes, .int konesMany, .int kwithin, .int ktop])), (know, .inl (ky 0, 373, .inl knowF)), (ksnaps, .inl (ky 0, 512, .inl ksnapsF))] sz) (va_Qi (fun (r : Int32) (_ : Unit) => r = nI 0) (BU dC dI ky (fun (_ : Unit) => []) (va_A [(o, .inr (12, [.int kthrown, .ref ktape, .int ktaped, .int ksize, .int klimit, .int kto, .int kfrom, .int kkind, .int knumber, .int ksign, .int kfault, .int kplace, .long kword, .int ktold, .ref know, .ref kread, .ref kkept, .ref ksnaps, .ref kaside, .ref kname, .ref kreadName, .ref kkeptName, .ref kisKept, .ref konces, .int (nI 0), .int khasCells, .ref kpoured, .ref kfar, .ref ksides, .int ksideMany, .int kwayDays, .int khasWay, .ref klines, .ref kmet, .int kmetMany, .ref ksunk, .ref ktrying, .int ksunkMany, .int ksending, .int kfleets, .ref ktext, .int ktexts, .int kseed, .ref kline, .ref kwritten, .int klineMany, .int khasWritten, .ref knode, .int knodes, .int konesMany, .int kwithin, .int ktop])), (know, .inl (ky 0, 373, .inl knowF)), (ksnaps, .inl (ky 0, 512, .inl ksnapsF))] sz)) (va_A [(o, .inr (12, [.int kthrown, .ref ktape, .int ktaped, .int ksize, .int klimit, .int kto, .int kfrom, .int kkind, .int knumber, .int ksign, .int kfault, .int kplace, .long kword, .int ktold, .ref know, .ref kread, .ref kkept, .ref ksnaps, .ref kaside, .ref kname, .ref kreadName, .ref kkeptName, .ref kisKept, .ref konces, .int (nI 0), .int khasCells, .ref kpoured, .ref kfar, .ref ksides, .int ksideMany, .int kwayDays, .int khasWay, .ref klines, .ref kmet, .int kmetMany, .ref ksunk, .ref ktrying, .int ksunkMany, .int ksending, .int kfleets, .ref ktext, .int ktexts, .int kseed, .ref kline, .ref kwritten, .int klineMany, .int khasWritten, .ref knode, .int knodes, .int konesMany, .int kwithin, .int ktop])), (know, .inl (ky 0, 373, .inl knowF)), (ksnaps, .inl (ky 0, 512, .inl ksnapsF))] sz)) 0 0 (va_A [(o, .inr (12, [.int kthrown, .ref ktape, .int ktaped, .int ksize, .int klimit, .int kto, .int kfrom, .int kkind, .int knumber, .int ksign, .int kfault, .int kplace, .long kword, .int ktold, .ref know, .ref kread, .ref kkept, .ref ksnaps, .ref kaside, .ref kname, .ref kreadName, .ref kkeptName, .ref kisKept, .ref konces, .int (nI 0), .int khasCells, .ref kpoured, .ref kfar, .ref ksides, .int ksideMany, .int kwayDays, .int khasWay, .ref klines, .ref kmet, .int kmetMany, .ref ksunk, .ref ktrying, .int ksunkMany, .int ksending, .int kfleets, .ref ktext, .int ktexts, .int kseed, .ref kline, .ref kwritten, .int klineMany, .int khasWritten, .ref knode, .int knodes, .int konesMany, .int kwithin, .int ktop])), (know, .inl (ky 0, 373, .inl knowF)), (ksnaps, .inl (ky 0, 512, .inl ksnapsF))] sz) := by
  refine Met.ofW (cc := cX12_act) (maxL := 6) (ret := (some .int)) (by decide) rfl ?_
  intro p e s m args below meth c s₁ B hml hv
  obtain ⟨rfl, hsz, hP, hK, hD0⟩ := hv
  have hx := B.exec
  have hb := B.bytes
  have hr := B.returns
  have hts := atoms_spec (ws := wsX12_act) B.pre
  have hown : s.vm.findClass RX12 = some m.cls := findClass_of_methodNamed B.named
  have hlocks := B.notSynchronized
  subst hsz
  have hD := hD0.self (sz := s.heap.size)
  generalize hAe : va_A [(o, .inr (12, [.int kthrown, .ref ktape, .int ktaped, .int ksize, .int klimit, .int kto, .int kfrom, .int kkind, .int knumber, .int ksign, .int kfault, .int kplace, .long kword, .int ktold, .ref know, .ref kread, .ref kkept, .ref ksnaps, .ref kaside, .ref kname, .ref kreadName, .ref kkeptName, .ref kisKept, .ref konces, .int (nI 0), .int khasCells, .ref kpoured, .ref kfar, .ref ksides, .int ksideMany, .int kwayDays, .int khasWay, .ref klines, .ref kmet, .int kmetMany, .ref ksunk, .ref ktrying, .int ksunkMany, .int ksending, .int kfleets, .ref ktext, .int ktexts, .int kseed, .ref kline, .ref kwritten, .int klineMany, .int khasWritten, .ref knode, .int knodes, .int konesMany, .int kwithin, .int ktop])), (know, .inl (ky 0, 373, .inl knowF)), (ksnaps, .inl (ky 0, 512, .inl ksnapsF))] s.heap.size = A at hD ⊢
  have hA : ∀ q : Nat, s.heap.size ≤ q → A q := fun q h => by rw [← hAe]; exact Or.inr h
  have hS : va_S A s.heap s.heap [] := va_S.rf
  have hP : va_P (dC, dI) vwCl [(o, .inr (12, [.int kthrown, .ref ktape, .int ktaped, .int ksize, .int klimit, .int kto, .int kfrom, .int kkind, .int knumber, .int ksign, .int kfault, .int kplace, .long kword, .int ktold, .ref know, .ref kread, .ref kkept, .ref ksnaps, .ref kaside, .ref kname, .ref kreadName, .ref kkeptName, .ref kisKept, .ref konces, .int (nI 0), .int khasCells, .ref kpoured, .ref kfar, .ref ksides, .int ksideMany, .int kwayDays, .int khasWay, .ref klines, .ref kmet, .int kmetMany, .ref ksunk, .ref ktrying, .int ksunkMany, .int ksending, .int kfleets, .ref ktext, .int ktexts, .int kseed, .ref kline, .ref kwritten, .int klineMany, .int khasWritten, .ref knode, .int knodes, .int konesMany, .int kwithin, .int ktop])), (know, .inl (ky 0, 373, .inl knowF)), (ksnaps, .inl (ky 0, 512, .inl ksnapsF))] s.heap := hP
  have hl := lv_entry ([.ref o, .int (nI 4), .int x, .int y, .int (nI 1)]) (n := 6) (Nat.le_of_ble_eq_true rfl)
  rw [lg_entry_eq]
  generalize (lg_sl ([.ref o, .int (nI 4), .int x, .int y, .int (nI 1)]) ++ List.replicate (6 - (lg_sl ([.ref o, .int (nI 4), .int x, .int y, .int (nI 1)])).length) Slot.unset).toArray = ls at hl ⊢
  have hl : lv_has ls 6 [(0, .ref o), (1, .int (nI 4)), (2, .int x), (3, .int y), (4, .int (nI 1))] := hl
  have hH0 : True := trivial
  refine lv_iload hx hb dX12_act_0 (lv_at hl 4 rfl) ?_
  refine lv_if_ne (tgt := 7) hx hb dX12_act_2 (by decide) (fun c1 => ?_) (fun c1 => absurd c1 (by decide))
  refine lv_aload_n hx hb dX12_act_7 rfl (lv_at hl 0 rfl) ?_
  refine lv_iload_n hx hb dX12_act_8 rfl (lv_at hl 1 rfl) ?_
  refine lv_iload_n hx hb dX12_act_9 rfl (lv_at hl 2 rfl) ?_
  refine lv_iload_n hx hb dX12_act_10 rfl (lv_at hl 3 rfl) ?_
  refine vp_callSi (W.runV (As := [.int (nI 4), .int x, .int y]) (rest := []) ⟨hx, hb, hml, hown, hts⟩ (c_m_why4 l dC dI ky o kthrown ktape ktaped ksize klimit kto kfrom kkind knumber ksign kfault kplace kword ktold know kread kkept ksnaps kaside kname kreadName kkeptName kisKept konces (nI 0) khasCells kpoured kfar ksides ksideMany kwayDays khasWay klines kmet kmetMany ksunk ktrying ksunkMany ksending kfleets ktext ktexts kseed kline kwritten klineMany khasWritten knode knodes konesMany kwithin ktop knowF x y hN) (cwV 3 hts gX12_act_X12_why rfl rfl rfl (by decide +kernel) ⟨(Nat.le_of_ble_eq_true rfl), (Nat.le_of_ble_eq_true rfl)⟩) (pre_PV hK hP [0, 1] rfl (ci := 12) (q0 := 0) rfl rfl) rfl rfl hl.1 rfl (lv_room (Nat.le_of_ble_eq_true rfl)) dX12_act_11 ⟨(Nat.le_of_ble_eq_true rfl), (Nat.le_of_ble_eq_true rfl)⟩) (fun r2 p3 => ?_)
  subst p3
  refine lv_istore (lv' := [(5, .int (nI 0)), (0, .ref o), (1, .int (nI 4)), (2, .int x), (3, .int y), (4, .int (nI 1))]) hx hb dX12_act_14 hl (by decide) rfl (fun ls hl => ?_)
  refine lv_iload hx hb dX12_act_16 (lv_at hl 0 rfl) ?_
  refine lv_if_eq (tgt := 24) hx hb dX12_act_18 (by decide) (fun c4 => ?_) (fun c4 => absurd (by decide) c4)
  refine lv_aload_n hx hb dX12_act_24 rfl (lv_at hl 1 rfl) ?_
  refine r_call_v (wr := []) (va_runV (As := []) (rest := []) ⟨hx, hb, hml, hown, hts⟩ (c_m_snap l dC dI ky s.heap.size o kthrown ktape ktaped ksize klimit kto kfrom kkind knumber ksign kfault kplace kword ktold know kread kkept ksnaps kaside kname kreadName kkeptName kisKept konces khasCells kpoured kfar ksides ksideMany kwayDays khasWay klines kmet kmetMany ksunk ktrying ksunkMany ksending kfleets ktext ktexts kseed kline kwritten klineMany khasWritten knode knodes konesMany kwithin ktop knowF ksnapsF) (cwV 0 hts gX12_act_X12_snap rfl rfl rfl (by decide +kernel) ⟨(Nat.le_of_ble_eq_true rfl), (Nat.le_of_ble_eq_true rfl)⟩) (pre_UV hK hP hD [0, 1, 2] (by decide) rfl (ci := 12) (q0 := 0) rfl rfl) rfl rfl hl.1 rfl (lv_room (Nat.le_of_ble_eq_true rfl)) dX12_act_25 ⟨(Nat.le_of_ble_eq_true rfl), (Nat.le_of_ble_eq_true rfl)⟩) hP hD hS hA [0, 1, 2] [] rfl rfl (by decide) (by decide) (fun  u5 H locs p6 hP hD hS => ?_)
  obtain ⟨ksnapsG_7, rfl⟩ : ∃ z, z = u5 := ⟨_, rfl⟩
  refine W.widen (k := 0) (n := 0) (Nat.le_of_ble_eq_true rfl) (Nat.le_of_ble_eq_true rfl) ?_
  have hP : va_P (dC, dI) vwCl [(o, .inr (12, [.int kthrown, .ref ktape, .int ktaped, .int ksize, .int klimit, .int kto, .int kfrom, .int kkind, .int knumber, .int ksign, .int kfault, .int kplace, .long kword, .int ktold, .ref know, .ref kread, .ref kkept, .ref ksnaps, .ref kaside, .ref kname, .ref kreadName, .ref kkeptName, .ref kisKept, .ref konces, .int (nI 1), .int khasCells, .ref kpoured, .ref kfar, .ref ksides, .int ksideMany, .int kwayDays, .int khasWay, .ref klines, .ref kmet, .int kmetMany, .ref ksunk, .ref ktrying, .int ksunkMany, .int ksending, .int kfleets, .ref ktext, .int ktexts, .int kseed, .ref kline, .ref kwritten, .int klineMany, .int khasWritten, .ref knode, .int knodes, .int konesMany, .int kwithin, .int ktop])), (know, .inl (ky 0, 373, .inl knowF)), (ksnaps, .inl (ky 0, 512, .inl ksnapsG_7))] H := hP
  have hD : va_D A [(o, .inr (12, [.int kthrown, .ref ktape, .int ktaped, .int ksize, .int klimit, .int kto, .int kfrom, .int kkind, .int knumber, .int ksign, .int kfault, .int kplace, .long kword, .int ktold, .ref know, .ref kread, .ref kkept, .ref ksnaps, .ref kaside, .ref kname, .ref kreadName, .ref kkeptName, .ref kisKept, .ref konces, .int (nI 1), .int khasCells, .ref kpoured, .ref kfar, .ref ksides, .int ksideMany, .int kwayDays, .int khasWay, .ref klines, .ref kmet, .int kmetMany, .ref ksunk, .ref ktrying, .int ksunkMany, .int ksending, .int kfleets, .ref ktext, .int ktexts, .int kseed, .ref kline, .ref kwritten, .int klineMany, .int khasWritten, .ref knode, .int knodes, .int konesMany, .int kwithin, .int ktop])), (know, .inl (ky 0, 373, .inl knowF)), (ksnaps, .inl (ky 0, 512, .inl ksnapsG_7))] := hD
  refine lv_aload_n hx hb dX12_act_28 rfl (lv_at hl 1 rfl) ?_
  refine lv_iload_n hx hb dX12_act_29 rfl (lv_at hl 2 rfl) ?_
  refine lv_iload_n hx hb dX12_act_30 rfl (lv_at hl 3 rfl) ?_
  refine lv_iload_n hx hb dX12_act_31 rfl (lv_at hl 4 rfl) ?_
  refine r_call_v (wr := [(ksnaps, .inl (ky 0, 512, .inl ksnapsG_7))]) (va_runV (As := [.int (nI 4), .int x, .int y]) (rest := []) ⟨hx, hb, hml, hown, hts⟩ (c_m_live4 l dC dI ky H.size o kthrown ktape ktaped ksize klimit kto kfrom kkind knumber ksign kfault kplace kword ktold know kread kkept ksnaps kaside kname kreadName kkeptName kisKept konces (nI 1) khasCells kpoured kfar ksides ksideMany kwayDays khasWay klines kmet kmetMany ksunk ktrying ksunkMany ksending kfleets ktext ktexts kseed kline kwritten klineMany khasWritten knode knodes konesMany kwithin ktop knowF x y) (cwV 3 hts gX12_act_X12_live rfl rfl rfl (by decide +kernel) ⟨(Nat.le_of_ble_eq_true rfl), (Nat.le_of_ble_eq_true rfl)⟩) (pre_UV hK hP hD [0, 1] (by decide) rfl (ci := 12) (q0 := 0) rfl rfl) rfl rfl hl.1 rfl (lv_room (Nat.le_of_ble_eq_true rfl)) dX12_act_32 ⟨(Nat.le_of_ble_eq_true rfl), (Nat.le_of_ble_eq_true rfl)⟩) hP hD hS hA [0, 1] [2] rfl rfl (by decide) (by decide) (fun  u8 H locs p9 hP hD hS => ?_)
  refine W.widen (k := 0) (n := 0) (Nat.le_of_ble_eq_true rfl) (Nat.le_of_ble_eq_true rfl) ?_
  have hP : va_P (dC, dI) vwCl [(ksnaps, .inl (ky 0, 512, .inl ksnapsG_7))] H := hP
  have hD : va_D A [(ksnaps, .inl (ky 0, 512, .inl ksnapsG_7))] := hD
  refine lv_iconst (v := nI 0) hx hb dX12_act_35 (by decide) ?_
  have hP9 := hP.sub (ws' := []) [] rfl
  have hD9 := hD.sub (ws' := []) [] (by decide) rfl
  refine W.widen (k := 0) (n := 0) (Nat.le_of_ble_eq_true rfl) (Nat.le_of_ble_eq_true rfl) ?_
  exact W.iret (v := nI 0) hx hb hr (fun t ht9 hW9 => ⟨⟨nI 0, (), rfl, rfl, by rw [ht9]; exact hP9, va_K.moved hW9.alike hK, hD9⟩, hS.F ht9⟩) hS.2.2 dX12_act_36
set_option maxRecDepth 20000 in
theorem lf_m_stir_1 (o : Nat) (ktape : Nat) (know : Nat) (kread : Nat) (kkept : Nat) (ksnaps : Nat) (kaside : Nat) (kname : Nat) (kreadName : Nat) (kkeptName : Nat) (kisKept : Nat) (konces : Nat) (kpoured : Nat) (kfar : Nat) (ksides : Nat) (klines : Nat) (kmet : Nat) (ksunk : Nat) (ktrying : Nat) (ktext : Nat) (kline : Nat) (kwritten : Nat) (knode : Nat) (knowF : Nat → Int32) (ksnapsF : Nat → Int32) (kpouredF : Nat → Int32) (x : Int32) (y : Int32) (n : Int32) (hN : NowOk knowF) (hok : (x.toInt = 0 ∨ x.toInt = 1) ∧ (n.toInt = 0 ∨ n.toInt = 1) ∧ 0 ≤ y.toInt ∧ y.toInt < 4) : 0 ≤ y.toInt ∧ y.toInt < ((4 : Nat) : Int) := by
  simp only [ia_lt, ia_le, ia_eq, ia_m1, ia_0, ia_1, ne_eq, true_and, and_true, false_and, and_false, or_false, false_or, or_true, true_or, not_true_eq_false, not_false_eq_true] at *
  all_goals omega
set_option maxRecDepth 20000 in
theorem lf_m_stir_2 (o : Nat) (ktape : Nat) (know : Nat) (kread : Nat) (kkept : Nat) (ksnaps : Nat) (kaside : Nat) (kname : Nat) (kreadName : Nat) (kkeptName : Nat) (kisKept : Nat) (konces : Nat) (kpoured : Nat) (kfar : Nat) (ksides : Nat) (klines : Nat) (kmet : Nat) (ksunk : Nat) (ktrying : Nat) (ktext : Nat) (kline : Nat) (kwritten : Nat) (knode : Nat) (knowF : Nat → Int32) (ksnapsF : Nat → Int32) (kpouredF : Nat → Int32) (x : Int32) (n : Int32) (yn : Nat) (hN : NowOk knowF) (hok : (x.toInt = 0 ∨ x.toInt = 1) ∧ (n.toInt = 0 ∨ n.toInt = 1) ∧ 0 ≤ (nI yn).toInt ∧ (nI yn).toInt < 4) (h1 : yn < 4) : x = nI 0 ∨ x = nI 1 := by
  have k_0 := ia_n yn (by omega)
  have k_1 := ia_n 0 (by decide)
  have k_2 := ia_n 1 (by decide)
  simp only [ia_lt, ia_le, ia_eq, ia_m1, ia_0, ia_1, ne_eq, true_and, and_true, false_and, and_false, or_false, false_or, or_true, true_or, not_true_eq_false, not_false_eq_true] at *
  all_goals omega
set_option maxRecDepth 20000 in
theorem lf_m_stir_3 (o : Nat) (ktape : Nat) (know : Nat) (kread : Nat) (kkept : Nat) (ksnaps : Nat) (kaside : Nat) (kname : Nat) (kreadName : Nat) (kkeptName : Nat) (kisKept : Nat) (konces : Nat) (kpoured : Nat) (kfar : Nat) (ksides : Nat) (klines : Nat) (kmet : Nat) (ksunk : Nat) (ktrying : Nat) (ktext : Nat) (kline : Nat) (kwritten : Nat) (knode : Nat) (knowF : Nat → Int32) (ksnapsF : Nat → Int32) (kpouredF : Nat → Int32) (n : Int32) (yn : Nat) (hN : NowOk knowF) (hok : ((nI 0).toInt = 0 ∨ (nI 0).toInt = 1) ∧ (n.toInt = 0 ∨ n.toInt = 1) ∧ 0 ≤ (nI yn).toInt ∧ (nI yn).toInt < 4) (h1 : yn < 4) : n = nI 0 ∨ n = nI 1 := by
  have k_0 := ia_n 0 (by decide)
  have k_1 := ia_n yn (by omega)
  have k_2 := ia_n 1 (by decide)
  simp only [ia_lt, ia_le, ia_eq, ia_m1, ia_0, ia_1, ne_eq, true_and, and_true, false_and, and_false, or_false, false_or, or_true, true_or, not_true_eq_false, not_false_eq_true] at *
  all_goals omega
set_option maxRecDepth 20000 in
theorem lf_m_stir_4 (o : Nat) (ktape : Nat) (know : Nat) (kread : Nat) (kkept : Nat) (ksnaps : Nat) (kaside : Nat) (kname : Nat) (kreadName : Nat) (kkeptName : Nat) (kisKept : Nat) (konces : Nat) (kpoured : Nat) (kfar : Nat) (ksides : Nat) (klines : Nat) (kmet : Nat) (ksunk : Nat) (ktrying : Nat) (ktext : Nat) (kline : Nat) (kwritten : Nat) (knode : Nat) (knowF : Nat → Int32) (ksnapsF : Nat → Int32) (kpouredF : Nat → Int32) (yn : Nat) (k4 : Nat) (r6 : Int32) (hN : NowOk knowF) (hok : ((nI 0).toInt = 0 ∨ (nI 0).toInt = 1) ∧ ((nI 0).toInt = 0 ∨ (nI 0).toInt = 1) ∧ 0 ≤ (nI yn).toInt ∧ (nI yn).toInt < 4) (h1 : yn < 4) (h5 : k4 < 24) (p7 : (r6 = nI 1 ∧ (nI 0).toInt ≤ (nI 0).toInt ∧ (nI 0).toInt ≤ (nI 1).toInt) ∨ (r6 = nI 0 ∧ ¬ ((nI 0).toInt ≤ (nI 0).toInt ∧ (nI 0).toInt ≤ (nI 1).toInt))) (c8 : r6 = 0) : ((-1 : Int32) = (-1 : Int32) ∧ ¬ (((nI 0).toInt = 0 ∨ (nI 0).toInt = 1) ∧ ((nI 0).toInt = 0 ∨ (nI 0).toInt = 1) ∧ 0 ≤ (nI yn).toInt ∧ (nI yn).toInt < 4)) ∨ ((-1 : Int32) = nI 0 ∧ (((nI 0).toInt = 0 ∨ (nI 0).toInt = 1) ∧ ((nI 0).toInt = 0 ∨ (nI 0).toInt = 1) ∧ 0 ≤ (nI yn).toInt ∧ (nI yn).toInt < 4)) := by
  have k_0 := ia_n 0 (by decide)
  have k_1 := ia_n yn (by omega)
  have k_2 := ia_n 1 (by decide)
  simp only [ia_lt, ia_le, ia_eq, ia_m1, ia_0, ia_1, ne_eq, true_and, and_true, false_and, and_false, or_false, false_or, or_true, true_or, not_true_eq_false, not_false_eq_true] at *
  all_goals omega
set_option maxRecDepth 20000 in
theorem lf_m_stir_5 (o : Nat) (ktape : Nat) (know : Nat) (kread : Nat) (kkept : Nat) (ksnaps : Nat) (kaside : Nat) (kname : Nat) (kreadName : Nat) (kkeptName : Nat) (kisKept : Nat) (konces : Nat) (kpoured : Nat) (kfar : Nat) (ksides : Nat) (klines : Nat) (kmet : Nat) (ksunk : Nat) (ktrying : Nat) (ktext : Nat) (kline : Nat) (kwritten : Nat) (knode : Nat) (knowF : Nat → Int32) (ksnapsF : Nat → Int32) (kpouredF : Nat → Int32) (yn : Nat) (k4 : Nat) (r6 : Int32) (r11 : Int32) (hN : NowOk knowF) (hok : ((nI 0).toInt = 0 ∨ (nI 0).toInt = 1) ∧ ((nI 0).toInt = 0 ∨ (nI 0).toInt = 1) ∧ 0 ≤ (nI yn).toInt ∧ (nI yn).toInt < 4) (h1 : yn < 4) (h5 : k4 < 24) (p7 : (r6 = nI 1 ∧ (nI 0).toInt ≤ (nI 0).toInt ∧ (nI 0).toInt ≤ (nI 1).toInt) ∨ (r6 = nI 0 ∧ ¬ ((nI 0).toInt ≤ (nI 0).toInt ∧ (nI 0).toInt ≤ (nI 1).toInt))) (c8 : ¬ r6 = 0) (p12 : (r11 = nI 1 ∧ (nI 0).toInt ≤ (nI 0).toInt ∧ (nI 0).toInt ≤ (nI 1).toInt) ∨ (r11 = nI 0 ∧ ¬ ((nI 0).toInt ≤ (nI 0).toInt ∧ (nI 0).toInt ≤ (nI 1).toInt))) (c13 : r11 = 0) : ((-1 : Int32) = (-1 : Int32) ∧ ¬ (((nI 0).toInt = 0 ∨ (nI 0).toInt = 1) ∧ ((nI 0).toInt = 0 ∨ (nI 0).toInt = 1) ∧ 0 ≤ (nI yn).toInt ∧ (nI yn).toInt < 4)) ∨ ((-1 : Int32) = nI 0 ∧ (((nI 0).toInt = 0 ∨ (nI 0).toInt = 1) ∧ ((nI 0).toInt = 0 ∨ (nI 0).toInt = 1) ∧ 0 ≤ (nI yn).toInt ∧ (nI yn).toInt < 4)) := by
  have k_0 := ia_n 0 (by decide)
  have k_1 := ia_n yn (by omega)
  have k_2 := ia_n 1 (by decide)
  simp only [ia_lt, ia_le, ia_eq, ia_m1, ia_0, ia_1, ne_eq, true_and, and_true, false_and, and_false, or_false, false_or, or_true, true_or, not_true_eq_false, not_false_eq_true] at *
  all_goals omega
set_option maxRecDepth 20000 in
theorem lf_m_stir_6 (o : Nat) (ktape : Nat) (know : Nat) (kread : Nat) (kkept : Nat) (ksnaps : Nat) (kaside : Nat) (kname : Nat) (kreadName : Nat) (kkeptName : Nat) (kisKept : Nat) (konces : Nat) (kpoured : Nat) (kfar : Nat) (ksides : Nat) (klines : Nat) (kmet : Nat) (ksunk : Nat) (ktrying : Nat) (ktext : Nat) (kline : Nat) (kwritten : Nat) (knode : Nat) (knowF : Nat → Int32) (ksnapsF : Nat → Int32) (kpouredF : Nat → Int32) (yn : Nat) (k4 : Nat) (r6 : Int32) (r11 : Int32) (r17 : Int32) (hN : NowOk knowF) (hok : ((nI 0).toInt = 0 ∨ (nI 0).toInt = 1) ∧ ((nI 0).toInt = 0 ∨ (nI 0).toInt = 1) ∧ 0 ≤ (nI yn).toInt ∧ (nI yn).toInt < 4) (h1 : yn < 4) (h5 : k4 < 24) (p7 : (r6 = nI 1 ∧ (nI 0).toInt ≤ (nI 0).toInt ∧ (nI 0).toInt ≤ (nI 1).toInt) ∨ (r6 = nI 0 ∧ ¬ ((nI 0).toInt ≤ (nI 0).toInt ∧ (nI 0).toInt ≤ (nI 1).toInt))) (c8 : ¬ r6 = 0) (p12 : (r11 = nI 1 ∧ (nI 0).toInt ≤ (nI 0).toInt ∧ (nI 0).toInt ≤ (nI 1).toInt) ∨ (r11 = nI 0 ∧ ¬ ((nI 0).toInt ≤ (nI 0).toInt ∧ (nI 0).toInt ≤ (nI 1).toInt))) (c13 : ¬ r11 = 0) (p18 : (r17 = nI 1 ∧ (nI 0).toInt ≤ (nI yn).toInt ∧ (nI yn).toInt ≤ (nI 3).toInt) ∨ (r17 = nI 0 ∧ ¬ ((nI 0).toInt ≤ (nI yn).toInt ∧ (nI yn).toInt ≤ (nI 3).toInt))) (c19 : r17 = 0) : ((-1 : Int32) = (-1 : Int32) ∧ ¬ (((nI 0).toInt = 0 ∨ (nI 0).toInt = 1) ∧ ((nI 0).toInt = 0 ∨ (nI 0).toInt = 1) ∧ 0 ≤ (nI yn).toInt ∧ (nI yn).toInt < 4)) ∨ ((-1 : Int32) = nI 0 ∧ (((nI 0).toInt = 0 ∨ (nI 0).toInt = 1) ∧ ((nI 0).toInt = 0 ∨ (nI 0).toInt = 1) ∧ 0 ≤ (nI yn).toInt ∧ (nI yn).toInt < 4)) := by
  have k_0 := ia_n 0 (by decide)
  have k_1 := ia_n yn (by omega)
  have k_2 := ia_n 1 (by decide)
  have k_3 := ia_n 3 (by decide)
  simp only [ia_lt, ia_le, ia_eq, ia_m1, ia_0, ia_1, ne_eq, true_and, and_true, false_and, and_false, or_false, false_or, or_true, true_or, not_true_eq_false, not_false_eq_true] at *
  all_goals omega
set_option maxRecDepth 20000 in
theorem lf_m_stir_7 (o : Nat) (ktape : Nat) (know : Nat) (kread : Nat) (kkept : Nat) (ksnaps : Nat) (kaside : Nat) (kname : Nat) (kreadName : Nat) (kkeptName : Nat) (kisKept : Nat) (konces : Nat) (kpoured : Nat) (kfar : Nat) (ksides : Nat) (klines : Nat) (kmet : Nat) (ksunk : Nat) (ktrying : Nat) (ktext : Nat) (kline : Nat) (kwritten : Nat) (knode : Nat) (knowF : Nat → Int32) (ksnapsF : Nat → Int32) (kpouredF : Nat → Int32) (yn : Nat) (k4 : Nat) (r6 : Int32) (r11 : Int32) (r17 : Int32) (hN : NowOk knowF) (hok : ((nI 0).toInt = 0 ∨ (nI 0).toInt = 1) ∧ ((nI 0).toInt = 0 ∨ (nI 0).toInt = 1) ∧ 0 ≤ (nI yn).toInt ∧ (nI yn).toInt < 4) (h1 : yn < 4) (h5 : k4 < 24) (p7 : (r6 = nI 1 ∧ (nI 0).toInt ≤ (nI 0).toInt ∧ (nI 0).toInt ≤ (nI 1).toInt) ∨ (r6 = nI 0 ∧ ¬ ((nI 0).toInt ≤ (nI 0).toInt ∧ (nI 0).toInt ≤ (nI 1).toInt))) (c8 : ¬ r6 = 0) (p12 : (r11 = nI 1 ∧ (nI 0).toInt ≤ (nI 0).toInt ∧ (nI 0).toInt ≤ (nI 1).toInt) ∨ (r11 = nI 0 ∧ ¬ ((nI 0).toInt ≤ (nI 0).toInt ∧ (nI 0).toInt ≤ (nI 1).toInt))) (c13 : ¬ r11 = 0) (p18 : (r17 = nI 1 ∧ (nI 0).toInt ≤ (nI yn).toInt ∧ (nI yn).toInt ≤ (nI 3).toInt) ∨ (r17 = nI 0 ∧ ¬ ((nI 0).toInt ≤ (nI yn).toInt ∧ (nI yn).toInt ≤ (nI 3).toInt))) (c19 : ¬ r17 = 0) : ((nI 0) = (-1 : Int32) ∧ ¬ (((nI 0).toInt = 0 ∨ (nI 0).toInt = 1) ∧ ((nI 0).toInt = 0 ∨ (nI 0).toInt = 1) ∧ 0 ≤ (nI yn).toInt ∧ (nI yn).toInt < 4)) ∨ ((nI 0) = nI 0 ∧ (((nI 0).toInt = 0 ∨ (nI 0).toInt = 1) ∧ ((nI 0).toInt = 0 ∨ (nI 0).toInt = 1) ∧ 0 ≤ (nI yn).toInt ∧ (nI yn).toInt < 4)) := by
  have k_0 := ia_n 0 (by decide)
  have k_1 := ia_n yn (by omega)
  have k_2 := ia_n 1 (by decide)
  have k_3 := ia_n 3 (by decide)
  simp only [ia_lt, ia_le, ia_eq, ia_m1, ia_0, ia_1, ne_eq, true_and, and_true, false_and, and_false, or_false, false_or, or_true, true_or, not_true_eq_false, not_false_eq_true] at *
  all_goals omega
set_option maxRecDepth 20000 in
theorem lf_m_stir_8 (o : Nat) (ktape : Nat) (know : Nat) (kread : Nat) (kkept : Nat) (ksnaps : Nat) (kaside : Nat) (kname : Nat) (kreadName : Nat) (kkeptName : Nat) (kisKept : Nat) (konces : Nat) (kpoured : Nat) (kfar : Nat) (ksides : Nat) (klines : Nat) (kmet : Nat) (ksunk : Nat) (ktrying : Nat) (ktext : Nat) (kline : Nat) (kwritten : Nat) (knode : Nat) (knowF : Nat → Int32) (ksnapsF : Nat → Int32) (kpouredF : Nat → Int32) (yn : Nat) (k28 : Nat) (r30 : Int32) (hN : NowOk knowF) (hok : ((nI 0).toInt = 0 ∨ (nI 0).toInt = 1) ∧ ((nI 1).toInt = 0 ∨ (nI 1).toInt = 1) ∧ 0 ≤ (nI yn).toInt ∧ (nI yn).toInt < 4) (h1 : yn < 4) (h29 : k28 < 24) (p31 : (r30 = nI 1 ∧ (nI 0).toInt ≤ (nI 0).toInt ∧ (nI 0).toInt ≤ (nI 1).toInt) ∨ (r30 = nI 0 ∧ ¬ ((nI 0).toInt ≤ (nI 0).toInt ∧ (nI 0).toInt ≤ (nI 1).toInt))) (c32 : r30 = 0) : ((-1 : Int32) = (-1 : Int32) ∧ ¬ (((nI 0).toInt = 0 ∨ (nI 0).toInt = 1) ∧ ((nI 1).toInt = 0 ∨ (nI 1).toInt = 1) ∧ 0 ≤ (nI yn).toInt ∧ (nI yn).toInt < 4)) ∨ ((-1 : Int32) = nI 0 ∧ (((nI 0).toInt = 0 ∨ (nI 0).toInt = 1) ∧ ((nI 1).toInt = 0 ∨ (nI 1).toInt = 1) ∧ 0 ≤ (nI yn).toInt ∧ (nI yn).toInt < 4)) := by
  have k_0 := ia_n 0 (by decide)
  have k_1 := ia_n 1 (by decide)
  have k_2 := ia_n yn (by omega)
  simp only [ia_lt, ia_le, ia_eq, ia_m1, ia_0, ia_1, ne_eq, true_and, and_true, false_and, and_false, or_false, false_or, or_true, true_or, not_true_eq_false, not_false_eq_true] at *
  all_goals omega
set_option maxRecDepth 20000 in
theorem lf_m_stir_9 (o : Nat) (ktape : Nat) (know : Nat) (kread : Nat) (kkept : Nat) (ksnaps : Nat) (kaside : Nat) (kname : Nat) (kreadName : Nat) (kkeptName : Nat) (kisKept : Nat) (konces : Nat) (kpoured : Nat) (kfar : Nat) (ksides : Nat) (klines : Nat) (kmet : Nat) (ksunk : Nat) (ktrying : Nat) (ktext : Nat) (kline : Nat) (kwritten : Nat) (knode : Nat) (knowF : Nat → Int32) (ksnapsF : Nat → Int32) (kpouredF : Nat → Int32) (yn : Nat) (k28 : Nat) (r30 : Int32) (r35 : Int32) (hN : NowOk knowF) (hok : ((nI 0).toInt = 0 ∨ (nI 0).toInt = 1) ∧ ((nI 1).toInt = 0 ∨ (nI 1).toInt = 1) ∧ 0 ≤ (nI yn).toInt ∧ (nI yn).toInt < 4) (h1 : yn < 4) (h29 : k28 < 24) (p31 : (r30 = nI 1 ∧ (nI 0).toInt ≤ (nI 0).toInt ∧ (nI 0).toInt ≤ (nI 1).toInt) ∨ (r30 = nI 0 ∧ ¬ ((nI 0).toInt ≤ (nI 0).toInt ∧ (nI 0).toInt ≤ (nI 1).toInt))) (c32 : ¬ r30 = 0) (p36 : (r35 = nI 1 ∧ (nI 0).toInt ≤ (nI 1).toInt ∧ (nI 1).toInt ≤ (nI 1).toInt) ∨ (r35 = nI 0 ∧ ¬ ((nI 0).toInt ≤ (nI 1).toInt ∧ (nI 1).toInt ≤ (nI 1).toInt))) (c37 : r35 = 0) : ((-1 : Int32) = (-1 : Int32) ∧ ¬ (((nI 0).toInt = 0 ∨ (nI 0).toInt = 1) ∧ ((nI 1).toInt = 0 ∨ (nI 1).toInt = 1) ∧ 0 ≤ (nI yn).toInt ∧ (nI yn).toInt < 4)) ∨ ((-1 : Int32) = nI 0 ∧ (((nI 0).toInt = 0 ∨ (nI 0).toInt = 1) ∧ ((nI 1).toInt = 0 ∨ (nI 1).toInt = 1) ∧ 0 ≤ (nI yn).toInt ∧ (nI yn).toInt < 4)) := by
  have k_0 := ia_n 0 (by decide)
  have k_1 := ia_n 1 (by decide)
  have k_2 := ia_n yn (by omega)
  simp only [ia_lt, ia_le, ia_eq, ia_m1, ia_0, ia_1, ne_eq, true_and, and_true, false_and, and_false, or_false, false_or, or_true, true_or, not_true_eq_false, not_false_eq_true] at *
  all_goals omega
set_option maxRecDepth 20000 in
theorem lf_m_stir_10 (o : Nat) (ktape : Nat) (know : Nat) (kread : Nat) (kkept : Nat) (ksnaps : Nat) (kaside : Nat) (kname : Nat) (kreadName : Nat) (kkeptName : Nat) (kisKept : Nat) (konces : Nat) (kpoured : Nat) (kfar : Nat) (ksides : Nat) (klines : Nat) (kmet : Nat) (ksunk : Nat) (ktrying : Nat) (ktext : Nat) (kline : Nat) (kwritten : Nat) (knode : Nat) (knowF : Nat → Int32) (ksnapsF : Nat → Int32) (kpouredF : Nat → Int32) (yn : Nat) (k28 : Nat) (r30 : Int32) (r35 : Int32) (r41 : Int32) (hN : NowOk knowF) (hok : ((nI 0).toInt = 0 ∨ (nI 0).toInt = 1) ∧ ((nI 1).toInt = 0 ∨ (nI 1).toInt = 1) ∧ 0 ≤ (nI yn).toInt ∧ (nI yn).toInt < 4) (h1 : yn < 4) (h29 : k28 < 24) (p31 : (r30 = nI 1 ∧ (nI 0).toInt ≤ (nI 0).toInt ∧ (nI 0).toInt ≤ (nI 1).toInt) ∨ (r30 = nI 0 ∧ ¬ ((nI 0).toInt ≤ (nI 0).toInt ∧ (nI 0).toInt ≤ (nI 1).toInt))) (c32 : ¬ r30 = 0) (p36 : (r35 = nI 1 ∧ (nI 0).toInt ≤ (nI 1).toInt ∧ (nI 1).toInt ≤ (nI 1).toInt) ∨ (r35 = nI 0 ∧ ¬ ((nI 0).toInt ≤ (nI 1).toInt ∧ (nI 1).toInt ≤ (nI 1).toInt))) (c37 : ¬ r35 = 0) (p42 : (r41 = nI 1 ∧ (nI 0).toInt ≤ (nI yn).toInt ∧ (nI yn).toInt ≤ (nI 3).toInt) ∨ (r41 = nI 0 ∧ ¬ ((nI 0).toInt ≤ (nI yn).toInt ∧ (nI yn).toInt ≤ (nI 3).toInt))) (c43 : r41 = 0) : ((-1 : Int32) = (-1 : Int32) ∧ ¬ (((nI 0).toInt = 0 ∨ (nI 0).toInt = 1) ∧ ((nI 1).toInt = 0 ∨ (nI 1).toInt = 1) ∧ 0 ≤ (nI yn).toInt ∧ (nI yn).toInt < 4)) ∨ ((-1 : Int32) = nI 0 ∧ (((nI 0).toInt = 0 ∨ (nI 0).toInt = 1) ∧ ((nI 1).toInt = 0 ∨ (nI 1).toInt = 1) ∧ 0 ≤ (nI yn).toInt ∧ (nI yn).toInt < 4)) := by
  have k_0 := ia_n 0 (by decide)
  have k_1 := ia_n 1 (by decide)
  have k_2 := ia_n yn (by omega)
  have k_3 := ia_n 3 (by decide)
  simp only [ia_lt, ia_le, ia_eq, ia_m1, ia_0, ia_1, ne_eq, true_and, and_true, false_and, and_false, or_false, false_or, or_true, true_or, not_true_eq_false, not_false_eq_true] at *
  all_goals omega
set_option maxRecDepth 20000 in
theorem lf_m_stir_11 (o : Nat) (ktape : Nat) (know : Nat) (kread : Nat) (kkept : Nat) (ksnaps : Nat) (kaside : Nat) (kname : Nat) (kreadName : Nat) (kkeptName : Nat) (kisKept : Nat) (konces : Nat) (kpoured : Nat) (kfar : Nat) (ksides : Nat) (klines : Nat) (kmet : Nat) (ksunk : Nat) (ktrying : Nat) (ktext : Nat) (kline : Nat) (kwritten : Nat) (knode : Nat) (knowF : Nat → Int32) (ksnapsF : Nat → Int32) (kpouredF : Nat → Int32) (yn : Nat) (k28 : Nat) (r30 : Int32) (r35 : Int32) (r41 : Int32) (hN : NowOk knowF) (hok : ((nI 0).toInt = 0 ∨ (nI 0).toInt = 1) ∧ ((nI 1).toInt = 0 ∨ (nI 1).toInt = 1) ∧ 0 ≤ (nI yn).toInt ∧ (nI yn).toInt < 4) (h1 : yn < 4) (h29 : k28 < 24) (p31 : (r30 = nI 1 ∧ (nI 0).toInt ≤ (nI 0).toInt ∧ (nI 0).toInt ≤ (nI 1).toInt) ∨ (r30 = nI 0 ∧ ¬ ((nI 0).toInt ≤ (nI 0).toInt ∧ (nI 0).toInt ≤ (nI 1).toInt))) (c32 : ¬ r30 = 0) (p36 : (r35 = nI 1 ∧ (nI 0).toInt ≤ (nI 1).toInt ∧ (nI 1).toInt ≤ (nI 1).toInt) ∨ (r35 = nI 0 ∧ ¬ ((nI 0).toInt ≤ (nI 1).toInt ∧ (nI 1).toInt ≤ (nI 1).toInt))) (c37 : ¬ r35 = 0) (p42 : (r41 = nI 1 ∧ (nI 0).toInt ≤ (nI yn).toInt ∧ (nI yn).toInt ≤ (nI 3).toInt) ∨ (r41 = nI 0 ∧ ¬ ((nI 0).toInt ≤ (nI yn).toInt ∧ (nI yn).toInt ≤ (nI 3).toInt))) (c43 : ¬ r41 = 0) : ((nI 0) = (-1 : Int32) ∧ ¬ (((nI 0).toInt = 0 ∨ (nI 0).toInt = 1) ∧ ((nI 1).toInt = 0 ∨ (nI 1).toInt = 1) ∧ 0 ≤ (nI yn).toInt ∧ (nI yn).toInt < 4)) ∨ ((nI 0) = nI 0 ∧ (((nI 0).toInt = 0 ∨ (nI 0).toInt = 1) ∧ ((nI 1).toInt = 0 ∨ (nI 1).toInt = 1) ∧ 0 ≤ (nI yn).toInt ∧ (nI yn).toInt < 4)) := by
  have k_0 := ia_n 0 (by decide)
  have k_1 := ia_n 1 (by decide)
  have k_2 := ia_n yn (by omega)
  have k_3 := ia_n 3 (by decide)
  simp only [ia_lt, ia_le, ia_eq, ia_m1, ia_0, ia_1, ne_eq, true_and, and_true, false_and, and_false, or_false, false_or, or_true, true_or, not_true_eq_false, not_false_eq_true] at *
  all_goals omega
set_option maxRecDepth 20000 in
theorem lf_m_stir_12 (o : Nat) (ktape : Nat) (know : Nat) (kread : Nat) (kkept : Nat) (ksnaps : Nat) (kaside : Nat) (kname : Nat) (kreadName : Nat) (kkeptName : Nat) (kisKept : Nat) (konces : Nat) (kpoured : Nat) (kfar : Nat) (ksides : Nat) (klines : Nat) (kmet : Nat) (ksunk : Nat) (ktrying : Nat) (ktext : Nat) (kline : Nat) (kwritten : Nat) (knode : Nat) (knowF : Nat → Int32) (ksnapsF : Nat → Int32) (kpouredF : Nat → Int32) (n : Int32) (yn : Nat) (hN : NowOk knowF) (hok : ((nI 1).toInt = 0 ∨ (nI 1).toInt = 1) ∧ (n.toInt = 0 ∨ n.toInt = 1) ∧ 0 ≤ (nI yn).toInt ∧ (nI yn).toInt < 4) (h1 : yn < 4) : n = nI 0 ∨ n = nI 1 := by
  have k_0 := ia_n 1 (by decide)
  have k_1 := ia_n yn (by omega)
  have k_2 := ia_n 0 (by decide)
  simp only [ia_lt, ia_le, ia_eq, ia_m1, ia_0, ia_1, ne_eq, true_and, and_true, false_and, and_false, or_false, false_or, or_true, true_or, not_true_eq_false, not_false_eq_true] at *
  all_goals omega
set_option maxRecDepth 20000 in
theorem lf_m_stir_13 (o : Nat) (ktape : Nat) (know : Nat) (kread : Nat) (kkept : Nat) (ksnaps : Nat) (kaside : Nat) (kname : Nat) (kreadName : Nat) (kkeptName : Nat) (kisKept : Nat) (konces : Nat) (kpoured : Nat) (kfar : Nat) (ksides : Nat) (klines : Nat) (kmet : Nat) (ksunk : Nat) (ktrying : Nat) (ktext : Nat) (kline : Nat) (kwritten : Nat) (knode : Nat) (knowF : Nat → Int32) (ksnapsF : Nat → Int32) (kpouredF : Nat → Int32) (yn : Nat) (k52 : Nat) (r54 : Int32) (hN : NowOk knowF) (hok : ((nI 1).toInt = 0 ∨ (nI 1).toInt = 1) ∧ ((nI 0).toInt = 0 ∨ (nI 0).toInt = 1) ∧ 0 ≤ (nI yn).toInt ∧ (nI yn).toInt < 4) (h1 : yn < 4) (h53 : k52 < 24) (p55 : (r54 = nI 1 ∧ (nI 0).toInt ≤ (nI 1).toInt ∧ (nI 1).toInt ≤ (nI 1).toInt) ∨ (r54 = nI 0 ∧ ¬ ((nI 0).toInt ≤ (nI 1).toInt ∧ (nI 1).toInt ≤ (nI 1).toInt))) (c56 : r54 = 0) : ((-1 : Int32) = (-1 : Int32) ∧ ¬ (((nI 1).toInt = 0 ∨ (nI 1).toInt = 1) ∧ ((nI 0).toInt = 0 ∨ (nI 0).toInt = 1) ∧ 0 ≤ (nI yn).toInt ∧ (nI yn).toInt < 4)) ∨ ((-1 : Int32) = nI 0 ∧ (((nI 1).toInt = 0 ∨ (nI 1).toInt = 1) ∧ ((nI 0).toInt = 0 ∨ (nI 0).toInt = 1) ∧ 0 ≤ (nI yn).toInt ∧ (nI yn).toInt < 4)) := by
  have k_0 := ia_n 1 (by decide)
  have k_1 := ia_n 0 (by decide)
  have k_2 := ia_n yn (by omega)
  simp only [ia_lt, ia_le, ia_eq, ia_m1, ia_0, ia_1, ne_eq, true_and, and_true, false_and, and_false, or_false, false_or, or_true, true_or, not_true_eq_false, not_false_eq_true] at *
  all_goals omega
set_option maxRecDepth 20000 in
theorem lf_m_stir_14 (o : Nat) (ktape : Nat) (know : Nat) (kread : Nat) (kkept : Nat) (ksnaps : Nat) (kaside : Nat) (kname : Nat) (kreadName : Nat) (kkeptName : Nat) (kisKept : Nat) (konces : Nat) (kpoured : Nat) (kfar : Nat) (ksides : Nat) (klines : Nat) (kmet : Nat) (ksunk : Nat) (ktrying : Nat) (ktext : Nat) (kline : Nat) (kwritten : Nat) (knode : Nat) (knowF : Nat → Int32) (ksnapsF : Nat → Int32) (kpouredF : Nat → Int32) (yn : Nat) (k52 : Nat) (r54 : Int32) (r59 : Int32) (hN : NowOk knowF) (hok : ((nI 1).toInt = 0 ∨ (nI 1).toInt = 1) ∧ ((nI 0).toInt = 0 ∨ (nI 0).toInt = 1) ∧ 0 ≤ (nI yn).toInt ∧ (nI yn).toInt < 4) (h1 : yn < 4) (h53 : k52 < 24) (p55 : (r54 = nI 1 ∧ (nI 0).toInt ≤ (nI 1).toInt ∧ (nI 1).toInt ≤ (nI 1).toInt) ∨ (r54 = nI 0 ∧ ¬ ((nI 0).toInt ≤ (nI 1).toInt ∧ (nI 1).toInt ≤ (nI 1).toInt))) (c56 : ¬ r54 = 0) (p60 : (r59 = nI 1 ∧ (nI 0).toInt ≤ (nI 0).toInt ∧ (nI 0).toInt ≤ (nI 1).toInt) ∨ (r59 = nI 0 ∧ ¬ ((nI 0).toInt ≤ (nI 0).toInt ∧ (nI 0).toInt ≤ (nI 1).toInt))) (c61 : r59 = 0) : ((-1 : Int32) = (-1 : Int32) ∧ ¬ (((nI 1).toInt = 0 ∨ (nI 1).toInt = 1) ∧ ((nI 0).toInt = 0 ∨ (nI 0).toInt = 1) ∧ 0 ≤ (nI yn).toInt ∧ (nI yn).toInt < 4)) ∨ ((-1 : Int32) = nI 0 ∧ (((nI 1).toInt = 0 ∨ (nI 1).toInt = 1) ∧ ((nI 0).toInt = 0 ∨ (nI 0).toInt = 1) ∧ 0 ≤ (nI yn).toInt ∧ (nI yn).toInt < 4)) := by
  have k_0 := ia_n 1 (by decide)
  have k_1 := ia_n 0 (by decide)
  have k_2 := ia_n yn (by omega)
  simp only [ia_lt, ia_le, ia_eq, ia_m1, ia_0, ia_1, ne_eq, true_and, and_true, false_and, and_false, or_false, false_or, or_true, true_or, not_true_eq_false, not_false_eq_true] at *
  all_goals omega
set_option maxRecDepth 20000 in
theorem lf_m_stir_15 (o : Nat) (ktape : Nat) (know : Nat) (kread : Nat) (kkept : Nat) (ksnaps : Nat) (kaside : Nat) (kname : Nat) (kreadName : Nat) (kkeptName : Nat) (kisKept : Nat) (konces : Nat) (kpoured : Nat) (kfar : Nat) (ksides : Nat) (klines : Nat) (kmet : Nat) (ksunk : Nat) (ktrying : Nat) (ktext : Nat) (kline : Nat) (kwritten : Nat) (knode : Nat) (knowF : Nat → Int32) (ksnapsF : Nat → Int32) (kpouredF : Nat → Int32) (yn : Nat) (k52 : Nat) (r54 : Int32) (r59 : Int32) (r65 : Int32) (hN : NowOk knowF) (hok : ((nI 1).toInt = 0 ∨ (nI 1).toInt = 1) ∧ ((nI 0).toInt = 0 ∨ (nI 0).toInt = 1) ∧ 0 ≤ (nI yn).toInt ∧ (nI yn).toInt < 4) (h1 : yn < 4) (h53 : k52 < 24) (p55 : (r54 = nI 1 ∧ (nI 0).toInt ≤ (nI 1).toInt ∧ (nI 1).toInt ≤ (nI 1).toInt) ∨ (r54 = nI 0 ∧ ¬ ((nI 0).toInt ≤ (nI 1).toInt ∧ (nI 1).toInt ≤ (nI 1).toInt))) (c56 : ¬ r54 = 0) (p60 : (r59 = nI 1 ∧ (nI 0).toInt ≤ (nI 0).toInt ∧ (nI 0).toInt ≤ (nI 1).toInt) ∨ (r59 = nI 0 ∧ ¬ ((nI 0).toInt ≤ (nI 0).toInt ∧ (nI 0).toInt ≤ (nI 1).toInt))) (c61 : ¬ r59 = 0) (p66 : (r65 = nI 1 ∧ (nI 0).toInt ≤ (nI yn).toInt ∧ (nI yn).toInt ≤ (nI 3).toInt) ∨ (r65 = nI 0 ∧ ¬ ((nI 0).toInt ≤ (nI yn).toInt ∧ (nI yn).toInt ≤ (nI 3).toInt))) (c67 : r65 = 0) : ((-1 : Int32) = (-1 : Int32) ∧ ¬ (((nI 1).toInt = 0 ∨ (nI 1).toInt = 1) ∧ ((nI 0).toInt = 0 ∨ (nI 0).toInt = 1) ∧ 0 ≤ (nI yn).toInt ∧ (nI yn).toInt < 4)) ∨ ((-1 : Int32) = nI 0 ∧ (((nI 1).toInt = 0 ∨ (nI 1).toInt = 1) ∧ ((nI 0).toInt = 0 ∨ (nI 0).toInt = 1) ∧ 0 ≤ (nI yn).toInt ∧ (nI yn).toInt < 4)) := by
  have k_0 := ia_n 1 (by decide)
  have k_1 := ia_n 0 (by decide)
  have k_2 := ia_n yn (by omega)
  have k_3 := ia_n 3 (by decide)
  simp only [ia_lt, ia_le, ia_eq, ia_m1, ia_0, ia_1, ne_eq, true_and, and_true, false_and, and_false, or_false, false_or, or_true, true_or, not_true_eq_false, not_false_eq_true] at *
  all_goals omega
set_option maxRecDepth 20000 in
theorem lf_m_stir_16 (o : Nat) (ktape : Nat) (know : Nat) (kread : Nat) (kkept : Nat) (ksnaps : Nat) (kaside : Nat) (kname : Nat) (kreadName : Nat) (kkeptName : Nat) (kisKept : Nat) (konces : Nat) (kpoured : Nat) (kfar : Nat) (ksides : Nat) (klines : Nat) (kmet : Nat) (ksunk : Nat) (ktrying : Nat) (ktext : Nat) (kline : Nat) (kwritten : Nat) (knode : Nat) (knowF : Nat → Int32) (ksnapsF : Nat → Int32) (kpouredF : Nat → Int32) (yn : Nat) (k52 : Nat) (r54 : Int32) (r59 : Int32) (r65 : Int32) (hN : NowOk knowF) (hok : ((nI 1).toInt = 0 ∨ (nI 1).toInt = 1) ∧ ((nI 0).toInt = 0 ∨ (nI 0).toInt = 1) ∧ 0 ≤ (nI yn).toInt ∧ (nI yn).toInt < 4) (h1 : yn < 4) (h53 : k52 < 24) (p55 : (r54 = nI 1 ∧ (nI 0).toInt ≤ (nI 1).toInt ∧ (nI 1).toInt ≤ (nI 1).toInt) ∨ (r54 = nI 0 ∧ ¬ ((nI 0).toInt ≤ (nI 1).toInt ∧ (nI 1).toInt ≤ (nI 1).toInt))) (c56 : ¬ r54 = 0) (p60 : (r59 = nI 1 ∧ (nI 0).toInt ≤ (nI 0).toInt ∧ (nI 0).toInt ≤ (nI 1).toInt) ∨ (r59 = nI 0 ∧ ¬ ((nI 0).toInt ≤ (nI 0).toInt ∧ (nI 0).toInt ≤ (nI 1).toInt))) (c61 : ¬ r59 = 0) (p66 : (r65 = nI 1 ∧ (nI 0).toInt ≤ (nI yn).toInt ∧ (nI yn).toInt ≤ (nI 3).toInt) ∨ (r65 = nI 0 ∧ ¬ ((nI 0).toInt ≤ (nI yn).toInt ∧ (nI yn).toInt ≤ (nI 3).toInt))) (c67 : ¬ r65 = 0) : ((nI 0) = (-1 : Int32) ∧ ¬ (((nI 1).toInt = 0 ∨ (nI 1).toInt = 1) ∧ ((nI 0).toInt = 0 ∨ (nI 0).toInt = 1) ∧ 0 ≤ (nI yn).toInt ∧ (nI yn).toInt < 4)) ∨ ((nI 0) = nI 0 ∧ (((nI 1).toInt = 0 ∨ (nI 1).toInt = 1) ∧ ((nI 0).toInt = 0 ∨ (nI 0).toInt = 1) ∧ 0 ≤ (nI yn).toInt ∧ (nI yn).toInt < 4)) := by
  have k_0 := ia_n 1 (by decide)
  have k_1 := ia_n 0 (by decide)
  have k_2 := ia_n yn (by omega)
  have k_3 := ia_n 3 (by decide)
  simp only [ia_lt, ia_le, ia_eq, ia_m1, ia_0, ia_1, ne_eq, true_and, and_true, false_and, and_false, or_false, false_or, or_true, true_or, not_true_eq_false, not_false_eq_true] at *
  all_goals omega
set_option maxRecDepth 20000 in
theorem lf_m_stir_17 (o : Nat) (ktape : Nat) (know : Nat) (kread : Nat) (kkept : Nat) (ksnaps : Nat) (kaside : Nat) (kname : Nat) (kreadName : Nat) (kkeptName : Nat) (kisKept : Nat) (konces : Nat) (kpoured : Nat) (kfar : Nat) (ksides : Nat) (klines : Nat) (kmet : Nat) (ksunk : Nat) (ktrying : Nat) (ktext : Nat) (kline : Nat) (kwritten : Nat) (knode : Nat) (knowF : Nat → Int32) (ksnapsF : Nat → Int32) (kpouredF : Nat → Int32) (yn : Nat) (k76 : Nat) (r78 : Int32) (hN : NowOk knowF) (hok : ((nI 1).toInt = 0 ∨ (nI 1).toInt = 1) ∧ ((nI 1).toInt = 0 ∨ (nI 1).toInt = 1) ∧ 0 ≤ (nI yn).toInt ∧ (nI yn).toInt < 4) (h1 : yn < 4) (h77 : k76 < 24) (p79 : (r78 = nI 1 ∧ (nI 0).toInt ≤ (nI 1).toInt ∧ (nI 1).toInt ≤ (nI 1).toInt) ∨ (r78 = nI 0 ∧ ¬ ((nI 0).toInt ≤ (nI 1).toInt ∧ (nI 1).toInt ≤ (nI 1).toInt))) (c80 : r78 = 0) : ((-1 : Int32) = (-1 : Int32) ∧ ¬ (((nI 1).toInt = 0 ∨ (nI 1).toInt = 1) ∧ ((nI 1).toInt = 0 ∨ (nI 1).toInt = 1) ∧ 0 ≤ (nI yn).toInt ∧ (nI yn).toInt < 4)) ∨ ((-1 : Int32) = nI 0 ∧ (((nI 1).toInt = 0 ∨ (nI 1).toInt = 1) ∧ ((nI 1).toInt = 0 ∨ (nI 1).toInt = 1) ∧ 0 ≤ (nI yn).toInt ∧ (nI yn).toInt < 4)) := by
  have k_0 := ia_n 1 (by decide)
  have k_1 := ia_n yn (by omega)
  have k_2 := ia_n 0 (by decide)
  simp only [ia_lt, ia_le, ia_eq, ia_m1, ia_0, ia_1, ne_eq, true_and, and_true, false_and, and_false, or_false, false_or, or_true, true_or, not_true_eq_false, not_false_eq_true] at *
  all_goals omega
set_option maxRecDepth 20000 in
theorem lf_m_stir_18 (o : Nat) (ktape : Nat) (know : Nat) (kread : Nat) (kkept : Nat) (ksnaps : Nat) (kaside : Nat) (kname : Nat) (kreadName : Nat) (kkeptName : Nat) (kisKept : Nat) (konces : Nat) (kpoured : Nat) (kfar : Nat) (ksides : Nat) (klines : Nat) (kmet : Nat) (ksunk : Nat) (ktrying : Nat) (ktext : Nat) (kline : Nat) (kwritten : Nat) (knode : Nat) (knowF : Nat → Int32) (ksnapsF : Nat → Int32) (kpouredF : Nat → Int32) (yn : Nat) (k76 : Nat) (r78 : Int32) (r83 : Int32) (hN : NowOk knowF) (hok : ((nI 1).toInt = 0 ∨ (nI 1).toInt = 1) ∧ ((nI 1).toInt = 0 ∨ (nI 1).toInt = 1) ∧ 0 ≤ (nI yn).toInt ∧ (nI yn).toInt < 4) (h1 : yn < 4) (h77 : k76 < 24) (p79 : (r78 = nI 1 ∧ (nI 0).toInt ≤ (nI 1).toInt ∧ (nI 1).toInt ≤ (nI 1).toInt) ∨ (r78 = nI 0 ∧ ¬ ((nI 0).toInt ≤ (nI 1).toInt ∧ (nI 1).toInt ≤ (nI 1).toInt))) (c80 : ¬ r78 = 0) (p84 : (r83 = nI 1 ∧ (nI 0).toInt ≤ (nI 1).toInt ∧ (nI 1).toInt ≤ (nI 1).toInt) ∨ (r83 = nI 0 ∧ ¬ ((nI 0).toInt ≤ (nI 1).toInt ∧ (nI 1).toInt ≤ (nI 1).toInt))) (c85 : r83 = 0) : ((-1 : Int32) = (-1 : Int32) ∧ ¬ (((nI 1).toInt = 0 ∨ (nI 1).toInt = 1) ∧ ((nI 1).toInt = 0 ∨ (nI 1).toInt = 1) ∧ 0 ≤ (nI yn).toInt ∧ (nI yn).toInt < 4)) ∨ ((-1 : Int32) = nI 0 ∧ (((nI 1).toInt = 0 ∨ (nI 1).toInt = 1) ∧ ((nI 1).toInt = 0 ∨ (nI 1).toInt = 1) ∧ 0 ≤ (nI yn).toInt ∧ (nI yn).toInt < 4)) := by
  have k_0 := ia_n 1 (by decide)
  have k_1 := ia_n yn (by omega)
  have k_2 := ia_n 0 (by decide)
  simp only [ia_lt, ia_le, ia_eq, ia_m1, ia_0, ia_1, ne_eq, true_and, and_true, false_and, and_false, or_false, false_or, or_true, true_or, not_true_eq_false, not_false_eq_true] at *
  all_goals omega
set_option maxRecDepth 20000 in
theorem lf_m_stir_19 (o : Nat) (ktape : Nat) (know : Nat) (kread : Nat) (kkept : Nat) (ksnaps : Nat) (kaside : Nat) (kname : Nat) (kreadName : Nat) (kkeptName : Nat) (kisKept : Nat) (konces : Nat) (kpoured : Nat) (kfar : Nat) (ksides : Nat) (klines : Nat) (kmet : Nat) (ksunk : Nat) (ktrying : Nat) (ktext : Nat) (kline : Nat) (kwritten : Nat) (knode : Nat) (knowF : Nat → Int32) (ksnapsF : Nat → Int32) (kpouredF : Nat → Int32) (yn : Nat) (k76 : Nat) (r78 : Int32) (r83 : Int32) (r89 : Int32) (hN : NowOk knowF) (hok : ((nI 1).toInt = 0 ∨ (nI 1).toInt = 1) ∧ ((nI 1).toInt = 0 ∨ (nI 1).toInt = 1) ∧ 0 ≤ (nI yn).toInt ∧ (nI yn).toInt < 4) (h1 : yn < 4) (h77 : k76 < 24) (p79 : (r78 = nI 1 ∧ (nI 0).toInt ≤ (nI 1).toInt ∧ (nI 1).toInt ≤ (nI 1).toInt) ∨ (r78 = nI 0 ∧ ¬ ((nI 0).toInt ≤ (nI 1).toInt ∧ (nI 1).toInt ≤ (nI 1).toInt))) (c80 : ¬ r78 = 0) (p84 : (r83 = nI 1 ∧ (nI 0).toInt ≤ (nI 1).toInt ∧ (nI 1).toInt ≤ (nI 1).toInt) ∨ (r83 = nI 0 ∧ ¬ ((nI 0).toInt ≤ (nI 1).toInt ∧ (nI 1).toInt ≤ (nI 1).toInt))) (c85 : ¬ r83 = 0) (p90 : (r89 = nI 1 ∧ (nI 0).toInt ≤ (nI yn).toInt ∧ (nI yn).toInt ≤ (nI 3).toInt) ∨ (r89 = nI 0 ∧ ¬ ((nI 0).toInt ≤ (nI yn).toInt ∧ (nI yn).toInt ≤ (nI 3).toInt))) (c91 : r89 = 0) : ((-1 : Int32) = (-1 : Int32) ∧ ¬ (((nI 1).toInt = 0 ∨ (nI 1).toInt = 1) ∧ ((nI 1).toInt = 0 ∨ (nI 1).toInt = 1) ∧ 0 ≤ (nI yn).toInt ∧ (nI yn).toInt < 4)) ∨ ((-1 : Int32) = nI 0 ∧ (((nI 1).toInt = 0 ∨ (nI 1).toInt = 1) ∧ ((nI 1).toInt = 0 ∨ (nI 1).toInt = 1) ∧ 0 ≤ (nI yn).toInt ∧ (nI yn).toInt < 4)) := by
  have k_0 := ia_n 1 (by decide)
  have k_1 := ia_n yn (by omega)
  have k_2 := ia_n 0 (by decide)
  have k_3 := ia_n 3 (by decide)
  simp only [ia_lt, ia_le, ia_eq, ia_m1, ia_0, ia_1, ne_eq, true_and, and_true, false_and, and_false, or_false, false_or, or_true, true_or, not_true_eq_false, not_false_eq_true] at *
  all_goals omega
set_option maxRecDepth 20000 in
theorem lf_m_stir_20 (o : Nat) (ktape : Nat) (know : Nat) (kread : Nat) (kkept : Nat) (ksnaps : Nat) (kaside : Nat) (kname : Nat) (kreadName : Nat) (kkeptName : Nat) (kisKept : Nat) (konces : Nat) (kpoured : Nat) (kfar : Nat) (ksides : Nat) (klines : Nat) (kmet : Nat) (ksunk : Nat) (ktrying : Nat) (ktext : Nat) (kline : Nat) (kwritten : Nat) (knode : Nat) (knowF : Nat → Int32) (ksnapsF : Nat → Int32) (kpouredF : Nat → Int32) (yn : Nat) (k76 : Nat) (r78 : Int32) (r83 : Int32) (r89 : Int32) (hN : NowOk knowF) (hok : ((nI 1).toInt = 0 ∨ (nI 1).toInt = 1) ∧ ((nI 1).toInt = 0 ∨ (nI 1).toInt = 1) ∧ 0 ≤ (nI yn).toInt ∧ (nI yn).toInt < 4) (h1 : yn < 4) (h77 : k76 < 24) (p79 : (r78 = nI 1 ∧ (nI 0).toInt ≤ (nI 1).toInt ∧ (nI 1).toInt ≤ (nI 1).toInt) ∨ (r78 = nI 0 ∧ ¬ ((nI 0).toInt ≤ (nI 1).toInt ∧ (nI 1).toInt ≤ (nI 1).toInt))) (c80 : ¬ r78 = 0) (p84 : (r83 = nI 1 ∧ (nI 0).toInt ≤ (nI 1).toInt ∧ (nI 1).toInt ≤ (nI 1).toInt) ∨ (r83 = nI 0 ∧ ¬ ((nI 0).toInt ≤ (nI 1).toInt ∧ (nI 1).toInt ≤ (nI 1).toInt))) (c85 : ¬ r83 = 0) (p90 : (r89 = nI 1 ∧ (nI 0).toInt ≤ (nI yn).toInt ∧ (nI yn).toInt ≤ (nI 3).toInt) ∨ (r89 = nI 0 ∧ ¬ ((nI 0).toInt ≤ (nI yn).toInt ∧ (nI yn).toInt ≤ (nI 3).toInt))) (c91 : ¬ r89 = 0) : ((nI 0) = (-1 : Int32) ∧ ¬ (((nI 1).toInt = 0 ∨ (nI 1).toInt = 1) ∧ ((nI 1).toInt = 0 ∨ (nI 1).toInt = 1) ∧ 0 ≤ (nI yn).toInt ∧ (nI yn).toInt < 4)) ∨ ((nI 0) = nI 0 ∧ (((nI 1).toInt = 0 ∨ (nI 1).toInt = 1) ∧ ((nI 1).toInt = 0 ∨ (nI 1).toInt = 1) ∧ 0 ≤ (nI yn).toInt ∧ (nI yn).toInt < 4)) := by
  have k_0 := ia_n 1 (by decide)
  have k_1 := ia_n yn (by omega)
  have k_2 := ia_n 0 (by decide)
  have k_3 := ia_n 3 (by decide)
  simp only [ia_lt, ia_le, ia_eq, ia_m1, ia_0, ia_1, ne_eq, true_and, and_true, false_and, and_false, or_false, false_or, or_true, true_or, not_true_eq_false, not_false_eq_true] at *
  all_goals omega
set_option maxRecDepth 20000 in
theorem lf_m_stir_21 (o : Nat) (ktape : Nat) (know : Nat) (kread : Nat) (kkept : Nat) (ksnaps : Nat) (kaside : Nat) (kname : Nat) (kreadName : Nat) (kkeptName : Nat) (kisKept : Nat) (konces : Nat) (kpoured : Nat) (kfar : Nat) (ksides : Nat) (klines : Nat) (kmet : Nat) (ksunk : Nat) (ktrying : Nat) (ktext : Nat) (kline : Nat) (kwritten : Nat) (knode : Nat) (knowF : Nat → Int32) (ksnapsF : Nat → Int32) (kpouredF : Nat → Int32) (x : Int32) (y : Int32) (n : Int32) (r98 : Int32) (r100 : Int32) (hN : NowOk knowF) (hnok : ¬ ((x.toInt = 0 ∨ x.toInt = 1) ∧ (n.toInt = 0 ∨ n.toInt = 1) ∧ 0 ≤ y.toInt ∧ y.toInt < 4)) (p99 : True) (p101 : (r100 = nI 1 ∧ (nI 0).toInt ≤ x.toInt ∧ x.toInt ≤ (nI 1).toInt) ∨ (r100 = nI 0 ∧ ¬ ((nI 0).toInt ≤ x.toInt ∧ x.toInt ≤ (nI 1).toInt))) (c102 : r100 = 0) : ((-1 : Int32) = (-1 : Int32) ∧ ¬ ((x.toInt = 0 ∨ x.toInt = 1) ∧ (n.toInt = 0 ∨ n.toInt = 1) ∧ 0 ≤ y.toInt ∧ y.toInt < 4)) ∨ ((-1 : Int32) = nI 0 ∧ ((x.toInt = 0 ∨ x.toInt = 1) ∧ (n.toInt = 0 ∨ n.toInt = 1) ∧ 0 ≤ y.toInt ∧ y.toInt < 4)) := by
  have k_0 := ia_n 1 (by decide)
  have k_1 := ia_n 0 (by decide)
  simp only [ia_lt, ia_le, ia_eq, ia_m1, ia_0, ia_1, ne_eq, true_and, and_true, false_and, and_false, or_false, false_or, or_true, true_or, not_true_eq_false, not_false_eq_true] at *
  all_goals omega
set_option maxRecDepth 20000 in
theorem lf_m_stir_22 (o : Nat) (ktape : Nat) (know : Nat) (kread : Nat) (kkept : Nat) (ksnaps : Nat) (kaside : Nat) (kname : Nat) (kreadName : Nat) (kkeptName : Nat) (kisKept : Nat) (konces : Nat) (kpoured : Nat) (kfar : Nat) (ksides : Nat) (klines : Nat) (kmet : Nat) (ksunk : Nat) (ktrying : Nat) (ktext : Nat) (kline : Nat) (kwritten : Nat) (knode : Nat) (knowF : Nat → Int32) (ksnapsF : Nat → Int32) (kpouredF : Nat → Int32) (x : Int32) (y : Int32) (n : Int32) (r98 : Int32) (r100 : Int32) (r105 : Int32) (hN : NowOk knowF) (hnok : ¬ ((x.toInt = 0 ∨ x.toInt = 1) ∧ (n.toInt = 0 ∨ n.toInt = 1) ∧ 0 ≤ y.toInt ∧ y.toInt < 4)) (p99 : True) (p101 : (r100 = nI 1 ∧ (nI 0).toInt ≤ x.toInt ∧ x.toInt ≤ (nI 1).toInt) ∨ (r100 = nI 0 ∧ ¬ ((nI 0).toInt ≤ x.toInt ∧ x.toInt ≤ (nI 1).toInt))) (c102 : ¬ r100 = 0) (p106 : (r105 = nI 1 ∧ (nI 0).toInt ≤ n.toInt ∧ n.toInt ≤ (nI 1).toInt) ∨ (r105 = nI 0 ∧ ¬ ((nI 0).toInt ≤ n.toInt ∧ n.toInt ≤ (nI 1).toInt))) (c107 : r105 = 0) : ((-1 : Int32) = (-1 : Int32) ∧ ¬ ((x.toInt = 0 ∨ x.toInt = 1) ∧ (n.toInt = 0 ∨ n.toInt = 1) ∧ 0 ≤ y.toInt ∧ y.toInt < 4)) ∨ ((-1 : Int32) = nI 0 ∧ ((x.toInt = 0 ∨ x.toInt = 1) ∧ (n.toInt = 0 ∨ n.toInt = 1) ∧ 0 ≤ y.toInt ∧ y.toInt < 4)) := by
  have k_0 := ia_n 1 (by decide)
  have k_1 := ia_n 0 (by decide)
  simp only [ia_lt, ia_le, ia_eq, ia_m1, ia_0, ia_1, ne_eq, true_and, and_true, false_and, and_false, or_false, false_or, or_true, true_or, not_true_eq_false, not_false_eq_true] at *
  all_goals omega
set_option maxRecDepth 20000 in
theorem lf_m_stir_23 (o : Nat) (ktape : Nat) (know : Nat) (kread : Nat) (kkept : Nat) (ksnaps : Nat) (kaside : Nat) (kname : Nat) (kreadName : Nat) (kkeptName : Nat) (kisKept : Nat) (konces : Nat) (kpoured : Nat) (kfar : Nat) (ksides : Nat) (klines : Nat) (kmet : Nat) (ksunk : Nat) (ktrying : Nat) (ktext : Nat) (kline : Nat) (kwritten : Nat) (knode : Nat) (knowF : Nat → Int32) (ksnapsF : Nat → Int32) (kpouredF : Nat → Int32) (x : Int32) (y : Int32) (n : Int32) (r98 : Int32) (r100 : Int32) (r105 : Int32) (r111 : Int32) (hN : NowOk knowF) (hnok : ¬ ((x.toInt = 0 ∨ x.toInt = 1) ∧ (n.toInt = 0 ∨ n.toInt = 1) ∧ 0 ≤ y.toInt ∧ y.toInt < 4)) (p99 : True) (p101 : (r100 = nI 1 ∧ (nI 0).toInt ≤ x.toInt ∧ x.toInt ≤ (nI 1).toInt) ∨ (r100 = nI 0 ∧ ¬ ((nI 0).toInt ≤ x.toInt ∧ x.toInt ≤ (nI 1).toInt))) (c102 : ¬ r100 = 0) (p106 : (r105 = nI 1 ∧ (nI 0).toInt ≤ n.toInt ∧ n.toInt ≤ (nI 1).toInt) ∨ (r105 = nI 0 ∧ ¬ ((nI 0).toInt ≤ n.toInt ∧ n.toInt ≤ (nI 1).toInt))) (c107 : ¬ r105 = 0) (c110 : x ≠ nI 1) (p112 : (r111 = nI 1 ∧ (nI 0).toInt ≤ y.toInt ∧ y.toInt ≤ (nI 3).toInt) ∨ (r111 = nI 0 ∧ ¬ ((nI 0).toInt ≤ y.toInt ∧ y.toInt ≤ (nI 3).toInt))) (c113 : r111 = 0) : ((-1 : Int32) = (-1 : Int32) ∧ ¬ ((x.toInt = 0 ∨ x.toInt = 1) ∧ (n.toInt = 0 ∨ n.toInt = 1) ∧ 0 ≤ y.toInt ∧ y.toInt < 4)) ∨ ((-1 : Int32) = nI 0 ∧ ((x.toInt = 0 ∨ x.toInt = 1) ∧ (n.toInt = 0 ∨ n.toInt = 1) ∧ 0 ≤ y.toInt ∧ y.toInt < 4)) := by
  have k_0 := ia_n 1 (by decide)
  have k_1 := ia_n 0 (by decide)
  have k_2 := ia_n 3 (by decide)
  simp only [ia_lt, ia_le, ia_eq, ia_m1, ia_0, ia_1, ne_eq, true_and, and_true, false_and, and_false, or_false, false_or, or_true, true_or, not_true_eq_false, not_false_eq_true] at *
  all_goals omega
set_option maxRecDepth 20000 in
theorem lf_m_stir_24 (o : Nat) (ktape : Nat) (know : Nat) (kread : Nat) (kkept : Nat) (ksnaps : Nat) (kaside : Nat) (kname : Nat) (kreadName : Nat) (kkeptName : Nat) (kisKept : Nat) (konces : Nat) (kpoured : Nat) (kfar : Nat) (ksides : Nat) (klines : Nat) (kmet : Nat) (ksunk : Nat) (ktrying : Nat) (ktext : Nat) (kline : Nat) (kwritten : Nat) (knode : Nat) (knowF : Nat → Int32) (ksnapsF : Nat → Int32) (kpouredF : Nat → Int32) (x : Int32) (y : Int32) (n : Int32) (r98 : Int32) (r100 : Int32) (r105 : Int32) (r111 : Int32) (hN : NowOk knowF) (hnok : ¬ ((x.toInt = 0 ∨ x.toInt = 1) ∧ (n.toInt = 0 ∨ n.toInt = 1) ∧ 0 ≤ y.toInt ∧ y.toInt < 4)) (p99 : True) (p101 : (r100 = nI 1 ∧ (nI 0).toInt ≤ x.toInt ∧ x.toInt ≤ (nI 1).toInt) ∨ (r100 = nI 0 ∧ ¬ ((nI 0).toInt ≤ x.toInt ∧ x.toInt ≤ (nI 1).toInt))) (c102 : ¬ r100 = 0) (p106 : (r105 = nI 1 ∧ (nI 0).toInt ≤ n.toInt ∧ n.toInt ≤ (nI 1).toInt) ∨ (r105 = nI 0 ∧ ¬ ((nI 0).toInt ≤ n.toInt ∧ n.toInt ≤ (nI 1).toInt))) (c107 : ¬ r105 = 0) (c110 : x ≠ nI 1) (p112 : (r111 = nI 1 ∧ (nI 0).toInt ≤ y.toInt ∧ y.toInt ≤ (nI 3).toInt) ∨ (r111 = nI 0 ∧ ¬ ((nI 0).toInt ≤ y.toInt ∧ y.toInt ≤ (nI 3).toInt))) (c113 : ¬ r111 = 0) : False := by
  have k_0 := ia_n 1 (by decide)
  have k_1 := ia_n 0 (by decide)
  have k_2 := ia_n 3 (by decide)
  simp only [ia_lt, ia_le, ia_eq, ia_m1, ia_0, ia_1, ne_eq, true_and, and_true, false_and, and_false, or_false, false_or, or_true, true_or, not_true_eq_false, not_false_eq_true] at *
  all_goals omega
set_option maxRecDepth 20000 in
theorem lf_m_stir_25 (o : Nat) (ktape : Nat) (know : Nat) (kread : Nat) (kkept : Nat) (ksnaps : Nat) (kaside : Nat) (kname : Nat) (kreadName : Nat) (kkeptName : Nat) (kisKept : Nat) (konces : Nat) (kpoured : Nat) (kfar : Nat) (ksides : Nat) (klines : Nat) (kmet : Nat) (ksunk : Nat) (ktrying : Nat) (ktext : Nat) (kline : Nat) (kwritten : Nat) (knode : Nat) (knowF : Nat → Int32) (ksnapsF : Nat → Int32) (kpouredF : Nat → Int32) (x : Int32) (y : Int32) (n : Int32) (r98 : Int32) (r100 : Int32) (r105 : Int32) (r116 : Int32) (hN : NowOk knowF) (hnok : ¬ ((x.toInt = 0 ∨ x.toInt = 1) ∧ (n.toInt = 0 ∨ n.toInt = 1) ∧ 0 ≤ y.toInt ∧ y.toInt < 4)) (p99 : True) (p101 : (r100 = nI 1 ∧ (nI 0).toInt ≤ x.toInt ∧ x.toInt ≤ (nI 1).toInt) ∨ (r100 = nI 0 ∧ ¬ ((nI 0).toInt ≤ x.toInt ∧ x.toInt ≤ (nI 1).toInt))) (c102 : ¬ r100 = 0) (p106 : (r105 = nI 1 ∧ (nI 0).toInt ≤ n.toInt ∧ n.toInt ≤ (nI 1).toInt) ∨ (r105 = nI 0 ∧ ¬ ((nI 0).toInt ≤ n.toInt ∧ n.toInt ≤ (nI 1).toInt))) (c107 : ¬ r105 = 0) (c110 : x = nI 1) (p117 : (r116 = nI 1 ∧ (nI 0).toInt ≤ y.toInt ∧ y.toInt ≤ (nI 3).toInt) ∨ (r116 = nI 0 ∧ ¬ ((nI 0).toInt ≤ y.toInt ∧ y.toInt ≤ (nI 3).toInt))) (c118 : r116 = 0) : ((-1 : Int32) = (-1 : Int32) ∧ ¬ ((x.toInt = 0 ∨ x.toInt = 1) ∧ (n.toInt = 0 ∨ n.toInt = 1) ∧ 0 ≤ y.toInt ∧ y.toInt < 4)) ∨ ((-1 : Int32) = nI 0 ∧ ((x.toInt = 0 ∨ x.toInt = 1) ∧ (n.toInt = 0 ∨ n.toInt = 1) ∧ 0 ≤ y.toInt ∧ y.toInt < 4)) := by
  have k_0 := ia_n 1 (by decide)
  have k_1 := ia_n 0 (by decide)
  have k_2 := ia_n 3 (by decide)
  simp only [ia_lt, ia_le, ia_eq, ia_m1, ia_0, ia_1, ne_eq, true_and, and_true, false_and, and_false, or_false, false_or, or_true, true_or, not_true_eq_false, not_false_eq_true] at *
  all_goals omega
set_option maxRecDepth 20000 in
theorem lf_m_stir_26 (o : Nat) (ktape : Nat) (know : Nat) (kread : Nat) (kkept : Nat) (ksnaps : Nat) (kaside : Nat) (kname : Nat) (kreadName : Nat) (kkeptName : Nat) (kisKept : Nat) (konces : Nat) (kpoured : Nat) (kfar : Nat) (ksides : Nat) (klines : Nat) (kmet : Nat) (ksunk : Nat) (ktrying : Nat) (ktext : Nat) (kline : Nat) (kwritten : Nat) (knode : Nat) (knowF : Nat → Int32) (ksnapsF : Nat → Int32) (kpouredF : Nat → Int32) (x : Int32) (y : Int32) (n : Int32) (r98 : Int32) (r100 : Int32) (r105 : Int32) (r116 : Int32) (hN : NowOk knowF) (hnok : ¬ ((x.toInt = 0 ∨ x.toInt = 1) ∧ (n.toInt = 0 ∨ n.toInt = 1) ∧ 0 ≤ y.toInt ∧ y.toInt < 4)) (p99 : True) (p101 : (r100 = nI 1 ∧ (nI 0).toInt ≤ x.toInt ∧ x.toInt ≤ (nI 1).toInt) ∨ (r100 = nI 0 ∧ ¬ ((nI 0).toInt ≤ x.toInt ∧ x.toInt ≤ (nI 1).toInt))) (c102 : ¬ r100 = 0) (p106 : (r105 = nI 1 ∧ (nI 0).toInt ≤ n.toInt ∧ n.toInt ≤ (nI 1).toInt) ∨ (r105 = nI 0 ∧ ¬ ((nI 0).toInt ≤ n.toInt ∧ n.toInt ≤ (nI 1).toInt))) (c107 : ¬ r105 = 0) (c110 : x = nI 1) (p117 : (r116 = nI 1 ∧ (nI 0).toInt ≤ y.toInt ∧ y.toInt ≤ (nI 3).toInt) ∨ (r116 = nI 0 ∧ ¬ ((nI 0).toInt ≤ y.toInt ∧ y.toInt ≤ (nI 3).toInt))) (c118 : ¬ r116 = 0) : False := by
  have k_0 := ia_n 1 (by decide)
  have k_1 := ia_n 0 (by decide)
  have k_2 := ia_n 3 (by decide)
  simp only [ia_lt, ia_le, ia_eq, ia_m1, ia_0, ia_1, ne_eq, true_and, and_true, false_and, and_false, or_false, false_or, or_true, true_or, not_true_eq_false, not_false_eq_true] at *
  all_goals omega
set_option maxHeartbeats 4000000 in
set_option maxRecDepth 100000 in
theorem c_m_stir (l : Launch) (dC : Nat → ClassId) (dI : Nat → Nat → Nat) (ky : Nat → ClassId) (sz : Nat) (o : Nat) (ktape : Nat) (know : Nat) (kread : Nat) (kkept : Nat) (ksnaps : Nat) (kaside : Nat) (kname : Nat) (kreadName : Nat) (kkeptName : Nat) (kisKept : Nat) (konces : Nat) (kpoured : Nat) (kfar : Nat) (ksides : Nat) (klines : Nat) (kmet : Nat) (ksunk : Nat) (ktrying : Nat) (ktext : Nat) (kline : Nat) (kwritten : Nat) (knode : Nat) (knowF : Nat → Int32) (ksnapsF : Nat → Int32) (kpouredF : Nat → Int32) (x : Int32) (y : Int32) (n : Int32) (hN : NowOk knowF) : Met l yX12_stir wsX12_stir ({ frames := 4, cells := 0, slots := 0, locals := 97 }) (PcU dC dI ky [.ref o, .int x, .int y, .int n] [(o, .inr (12, [.int (nI 0), .ref ktape, .int (nI 0), .int (nI 0), .int (nI 0), .int (nI 0), .int (nI 0), .int (nI 0), .int (nI 0), .int (nI 0), .int (nI 0), .int (nI 0), .long 0, .int (nI 0), .ref know, .ref kread, .ref kkept, .ref ksnaps, .ref kaside, .ref kname, .ref kreadName, .ref kkeptName, .ref kisKept, .ref konces, .int (nI 0), .int (nI 0), .ref kpoured, .ref kfar, .ref ksides, .int (nI 0), .int (-1 : Int32), .int (nI 0), .ref klines, .ref kmet, .int (nI 0), .ref ksunk, .ref ktrying, .int (nI 0), .int (-1 : Int32), .int (-1 : Int32), .ref ktext, .int (nI 0), .int (nI 0), .ref kline, .ref kwritten, .int (nI 0), .int (nI 0), .ref knode, .int (nI 0), .int (nI 0), .int (nI 0), .int (nI 0)])), (know, .inl (ky 0, 373, .inl knowF)), (ksnaps, .inl (ky 0, 512, .inl ksnapsF)), (kpoured, .inl (ky 0, 36, .inl kpouredF))] sz) (va_Qi (fun (r : Int32) (_ : Unit) => (r = (-1 : Int32) ∧ ¬ ((x.toInt = 0 ∨ x.toInt = 1) ∧ (n.toInt = 0 ∨ n.toInt = 1) ∧ 0 ≤ y.toInt ∧ y.toInt < 4)) ∨ (r = nI 0 ∧ ((x.toInt = 0 ∨ x.toInt = 1) ∧ (n.toInt = 0 ∨ n.toInt = 1) ∧ 0 ≤ y.toInt ∧ y.toInt < 4))) (BU dC dI ky (fun (_ : Unit) => []) (va_A [(o, .inr (12, [.int (nI 0), .ref ktape, .int (nI 0), .int (nI 0), .int (nI 0), .int (nI 0), .int (nI 0), .int (nI 0), .int (nI 0), .int (nI 0), .int (nI 0), .int (nI 0), .long 0, .int (nI 0), .ref know, .ref kread, .ref kkept, .ref ksnaps, .ref kaside, .ref kname, .ref kreadName, .ref kkeptName, .ref kisKept, .ref konces, .int (nI 0), .int (nI 0), .ref kpoured, .ref kfar, .ref ksides, .int (nI 0), .int (-1 : Int32), .int (nI 0), .ref klines, .ref kmet, .int (nI 0), .ref ksunk, .ref ktrying, .int (nI 0), .int (-1 : Int32), .int (-1 : Int32), .ref ktext, .int (nI 0), .int (nI 0), .ref kline, .ref kwritten, .int (nI 0), .int (nI 0), .ref knode, .int (nI 0), .int (nI 0), .int (nI 0), .int (nI 0)])), (know, .inl (ky 0, 373, .inl knowF)), (ksnaps, .inl (ky 0, 512, .inl ksnapsF)), (kpoured, .inl (ky 0, 36, .inl kpouredF))] sz)) (va_A [(o, .inr (12, [.int (nI 0), .ref ktape, .int (nI 0), .int (nI 0), .int (nI 0), .int (nI 0), .int (nI 0), .int (nI 0), .int (nI 0), .int (nI 0), .int (nI 0), .int (nI 0), .long 0, .int (nI 0), .ref know, .ref kread, .ref kkept, .ref ksnaps, .ref kaside, .ref kname, .ref kreadName, .ref kkeptName, .ref kisKept, .ref konces, .int (nI 0), .int (nI 0), .ref kpoured, .ref kfar, .ref ksides, .int (nI 0), .int (-1 : Int32), .int (nI 0), .ref klines, .ref kmet, .int (nI 0), .ref ksunk, .ref ktrying, .int (nI 0), .int (-1 : Int32), .int (-1 : Int32), .ref ktext, .int (nI 0), .int (nI 0), .ref kline, .ref kwritten, .int (nI 0), .int (nI 0), .ref knode, .int (nI 0), .int (nI 0), .int (nI 0), .int (nI 0)])), (know, .inl (ky 0, 373, .inl knowF)), (ksnaps, .inl (ky 0, 512, .inl ksnapsF)), (kpoured, .inl (ky 0, 36, .inl kpouredF))] sz)) 0 0 (va_A [(o, .inr (12, [.int (nI 0), .ref ktape, .int (nI 0), .int (nI 0), .int (nI 0), .int (nI 0), .int (nI 0), .int (nI 0), .int (nI 0), .int (nI 0), .int (nI 0), .int (nI 0), .long 0, .int (nI 0), .ref know, .ref kread, .ref kkept, .ref ksnaps, .ref kaside, .ref kname, .ref kreadName, .ref kkeptName, .ref kisKept, .ref konces, .int (nI 0), .int (nI 0), .ref kpoured, .ref kfar, .ref ksides, .int (nI 0), .int (-1 : Int32), .int (nI 0), .ref klines, .ref kmet, .int (nI 0), .ref ksunk, .ref ktrying, .int (nI 0), .int (-1 : Int32), .int (-1 : Int32), .ref ktext, .int (nI 0), .int (nI 0), .ref kline, .ref kwritten, .int (nI 0), .int (nI 0), .ref knode, .int (nI 0), .int (nI 0), .int (nI 0), .int (nI 0)])), (know, .inl (ky 0, 373, .inl knowF)), (ksnaps, .inl (ky 0, 512, .inl ksnapsF)), (kpoured, .inl (ky 0, 36, .inl kpouredF))] sz) := by
  refine Met.ofW (cc := cX12_stir) (maxL := 4) (ret := (some .int)) (by decide) rfl ?_
  intro p e s m args below meth c s₁ B hml hv
  obtain ⟨rfl, hsz, hP, hK, hD0⟩ := hv
  have hx := B.exec
  have hb := B.bytes
  have hr := B.returns
  have hts := atoms_spec (ws := wsX12_stir) B.pre
  have hown : s.vm.findClass RX12 = some m.cls := findClass_of_methodNamed B.named
  have hlocks := B.notSynchronized
  have hin12 : ∀ w ∈ u_ws RX12 TX12 52, w ∈ wsX12_stir := by decide +kernel
  subst hsz
  have hD := hD0.self (sz := s.heap.size)
  generalize hAe : va_A [(o, .inr (12, [.int (nI 0), .ref ktape, .int (nI 0), .int (nI 0), .int (nI 0), .int (nI 0), .int (nI 0), .int (nI 0), .int (nI 0), .int (nI 0), .int (nI 0), .int (nI 0), .long 0, .int (nI 0), .ref know, .ref kread, .ref kkept, .ref ksnaps, .ref kaside, .ref kname, .ref kreadName, .ref kkeptName, .ref kisKept, .ref konces, .int (nI 0), .int (nI 0), .ref kpoured, .ref kfar, .ref ksides, .int (nI 0), .int (-1 : Int32), .int (nI 0), .ref klines, .ref kmet, .int (nI 0), .ref ksunk, .ref ktrying, .int (nI 0), .int (-1 : Int32), .int (-1 : Int32), .ref ktext, .int (nI 0), .int (nI 0), .ref kline, .ref kwritten, .int (nI 0), .int (nI 0), .ref knode, .int (nI 0), .int (nI 0), .int (nI 0), .int (nI 0)])), (know, .inl (ky 0, 373, .inl knowF)), (ksnaps, .inl (ky 0, 512, .inl ksnapsF)), (kpoured, .inl (ky 0, 36, .inl kpouredF))] s.heap.size = A at hD ⊢
  have hA : ∀ q : Nat, s.heap.size ≤ q → A q := fun q h => by rw [← hAe]; exact Or.inr h
  have hS : va_S A s.heap s.heap [] := va_S.rf
  have hP : va_P (dC, dI) vwCl [(o, .inr (12, [.int (nI 0), .ref ktape, .int (nI 0), .int (nI 0), .int (nI 0), .int (nI 0), .int (nI 0), .int (nI 0), .int (nI 0), .int (nI 0), .int (nI 0), .int (nI 0), .long 0, .int (nI 0), .ref know, .ref kread, .ref kkept, .ref ksnaps, .ref kaside, .ref kname, .ref kreadName, .ref kkeptName, .ref kisKept, .ref konces, .int (nI 0), .int (nI 0), .ref kpoured, .ref kfar, .ref ksides, .int (nI 0), .int (-1 : Int32), .int (nI 0), .ref klines, .ref kmet, .int (nI 0), .ref ksunk, .ref ktrying, .int (nI 0), .int (-1 : Int32), .int (-1 : Int32), .ref ktext, .int (nI 0), .int (nI 0), .ref kline, .ref kwritten, .int (nI 0), .int (nI 0), .ref knode, .int (nI 0), .int (nI 0), .int (nI 0), .int (nI 0)])), (know, .inl (ky 0, 373, .inl knowF)), (ksnaps, .inl (ky 0, 512, .inl ksnapsF)), (kpoured, .inl (ky 0, 36, .inl kpouredF))] s.heap := hP
  have hl := lv_entry ([.ref o, .int x, .int y, .int n]) (n := 4) (Nat.le_of_ble_eq_true rfl)
  rw [lg_entry_eq]
  generalize (lg_sl ([.ref o, .int x, .int y, .int n]) ++ List.replicate (4 - (lg_sl ([.ref o, .int x, .int y, .int n])).length) Slot.unset).toArray = ls at hl ⊢
  have hl : lv_has ls 4 [(0, .ref o), (1, .int x), (2, .int y), (3, .int n)] := hl
  have hH0 : True := trivial
  rcases Classical.em ((x.toInt = 0 ∨ x.toInt = 1) ∧ (n.toInt = 0 ∨ n.toInt = 1) ∧ 0 ≤ y.toInt ∧ y.toInt < 4) with hok | hnok
  · obtain ⟨yn, h1, rfl⟩ := nat_of y 4 (by decide) (lf_m_stir_1 o ktape know kread kkept ksnaps kaside kname kreadName kkeptName kisKept konces kpoured kfar ksides klines kmet ksunk ktrying ktext kline kwritten knode knowF ksnapsF kpouredF x y n hN hok)
    rcases (lf_m_stir_2 o ktape know kread kkept ksnaps kaside kname kreadName kkeptName kisKept konces kpoured kfar ksides klines kmet ksunk ktrying ktext kline kwritten knode knowF ksnapsF kpouredF x n yn hN hok h1) with rfl | rfl
    · rcases (lf_m_stir_3 o ktape know kread kkept ksnaps kaside kname kreadName kkeptName kisKept konces kpoured kfar ksides klines kmet ksunk ktrying ktext kline kwritten knode knowF ksnapsF kpouredF n yn hN hok h1) with rfl | rfl
      · refine lv_aload_n hx hb dX12_stir_0 rfl (lv_at hl 0 rfl) ?_
        refine lv_iconst (v := nI 0) hx hb dX12_stir_1 (by decide) ?_
        refine va_put (D := (dC, dI)) (ci := 12) (v := .int (nI 0)) (ty := .int) (C := RX12) (T := TX12) (N := 52) hx hb hts hin12 tyX12 tyX12_ok nmX12 hown hK hP hD hS 0 rfl rfl 0 (by decide) (hts (.fieldLink RX12 1 "PorridgeSeaModel" "thrown" "I") (List.mem_of_getElem? (i := 1) rfl)) (fun _ h9 => h9) rfl (by decide +kernel) rfl rfl (Nat.le_of_ble_eq_true rfl) dX12_stir_2 (fun H locs hP hD hS => ?_)
        have hP : va_P (dC, dI) vwCl [(o, .inr (12, [.int (nI 0), .ref ktape, .int (nI 0), .int (nI 0), .int (nI 0), .int (nI 0), .int (nI 0), .int (nI 0), .int (nI 0), .int (nI 0), .int (nI 0), .int (nI 0), .long 0, .int (nI 0), .ref know, .ref kread, .ref kkept, .ref ksnaps, .ref kaside, .ref kname, .ref kreadName, .ref kkeptName, .ref kisKept, .ref konces, .int (nI 0), .int (nI 0), .ref kpoured, .ref kfar, .ref ksides, .int (nI 0), .int (-1 : Int32), .int (nI 0), .ref klines, .ref kmet, .int (nI 0), .ref ksunk, .ref ktrying, .int (nI 0), .int (-1 : Int32), .int (-1 : Int32), .ref ktext, .int (nI 0), .int (nI 0), .ref kline, .ref kwritten, .int (nI 0), .int (nI 0), .ref knode, .int (nI 0), .int (nI 0), .int (nI 0), .int (nI 0)])), (know, .inl (ky 0, 373, .inl knowF)), (ksnaps, .inl (ky 0, 512, .inl ksnapsF)), (kpoured, .inl (ky 0, 36, .inl kpouredF))] H := hP
        have hD : va_D A [(o, .inr (12, [.int (nI 0), .ref ktape, .int (nI 0), .int (nI 0), .int (nI 0), .int (nI 0), .int (nI 0), .int (nI 0), .int (nI 0), .int (nI 0), .int (nI 0), .int (nI 0), .long 0, .int (nI 0), .ref know, .ref kread, .ref kkept, .ref ksnaps, .ref kaside, .ref kname, .ref kreadName, .ref kkeptName, .ref kisKept, .ref konces, .int (nI 0), .int (nI 0), .ref kpoured, .ref kfar, .ref ksides, .int (nI 0), .int (-1 : Int32), .int (nI 0), .ref klines, .ref kmet, .int (nI 0), .ref ksunk, .ref ktrying, .int (nI 0), .int (-1 : Int32), .int (-1 : Int32), .ref ktext, .int (nI 0), .int (nI 0), .ref kline, .ref kwritten, .int (nI 0), .int (nI 0), .ref knode, .int (nI 0), .int (nI 0), .int (nI 0), .int (nI 0)])), (know, .inl (ky 0, 373, .inl knowF)), (ksnaps, .inl (ky 0, 512, .inl ksnapsF)), (kpoured, .inl (ky 0, 36, .inl kpouredF))] := hD
        refine lv_aload_n hx hb dX12_stir_5 rfl (lv_at hl 0 rfl) ?_
        refine lv_iconst (v := nI 0) hx hb dX12_stir_6 (by decide) ?_
        refine lv_iload_n hx hb dX12_stir_7 rfl (lv_at hl 1 rfl) ?_
        refine lv_iload_n hx hb dX12_stir_8 rfl (lv_at hl 2 rfl) ?_
        refine lv_iload_n hx hb dX12_stir_9 rfl (lv_at hl 3 rfl) ?_
        refine vp_callSi (W.runS (As := [.int (nI 0), .int (nI yn), .int (nI 0)]) (rest := [.int (nI 0), .ref o]) ⟨hx, hb, hml, hown, hts⟩ (c_m_lineOfN l dC dI ky 0 yn 0 (by omega) (by omega) (by omega)) (va_cwS 3 hts gX12_stir_X12_lineOf rfl rfl rfl (by decide +kernel) ⟨(Nat.le_of_ble_eq_true rfl), (Nat.le_of_ble_eq_true rfl)⟩) (pre_PS hK hP [] rfl) rfl rfl hl.1 rfl (lv_room (Nat.le_of_ble_eq_true rfl)) dX12_stir_10 ⟨(Nat.le_of_ble_eq_true rfl), (Nat.le_of_ble_eq_true rfl)⟩) (fun r2 p3 => ?_)
        obtain ⟨k4, h5, rfl⟩ := p3
        refine lv_iconst (v := nI 0) hx hb dX12_stir_13 (by decide) ?_
        refine lv_iload_n hx hb dX12_stir_14 rfl (lv_at hl 1 rfl) ?_
        refine lv_iconst (v := nI 0) hx hb dX12_stir_15 (by decide) ?_
        refine lv_iconst (v := nI 1) hx hb dX12_stir_16 (by decide) ?_
        refine vp_callSi (W.runS (As := [.int (nI 0), .int (nI 0), .int (nI 1)]) (rest := [.int (nI 0), .int (nI k4), .int (nI 0), .ref o]) ⟨hx, hb, hml, hown, hts⟩ (c_isIn l dC dI ky (nI 0) (nI 0) (nI 1)) (va_cwS 3 hts gX12_stir_X12_isIn rfl rfl rfl (by decide +kernel) ⟨(Nat.le_of_ble_eq_true rfl), (Nat.le_of_ble_eq_true rfl)⟩) (pre_PS hK hP [] rfl) rfl rfl hl.1 rfl (lv_room (Nat.le_of_ble_eq_true rfl)) dX12_stir_17 ⟨(Nat.le_of_ble_eq_true rfl), (Nat.le_of_ble_eq_true rfl)⟩) (fun r6 p7 => ?_)
        refine lv_if_eq (tgt := 61) hx hb dX12_stir_20 (by decide) (fun c8 => ?_) (fun c8 => ?_)
        · refine lv_iconst (v := nI 0) hx hb dX12_stir_61 (by decide) ?_
          refine vp_callSi (W.runV (As := [.int (nI 0), .int (nI k4), .int (nI 0), .int (nI 0)]) (rest := []) ⟨hx, hb, hml, hown, hts⟩ (c_m_actNo l dC dI ky o (nI 0) ktape (nI 0) (nI 0) (nI 0) (nI 0) (nI 0) (nI 0) (nI 0) (nI 0) (nI 0) (nI 0) 0 (nI 0) know kread kkept ksnaps kaside kname kreadName kkeptName kisKept konces (nI 0) (nI 0) kpoured kfar ksides (nI 0) (-1 : Int32) (nI 0) klines kmet (nI 0) ksunk ktrying (nI 0) (-1 : Int32) (-1 : Int32) ktext (nI 0) (nI 0) kline kwritten (nI 0) (nI 0) knode (nI 0) (nI 0) (nI 0) (nI 0) (nI 0) (nI k4) (nI 0)) (cwV 4 hts gX12_stir_X12_act rfl rfl rfl (by decide +kernel) ⟨(Nat.le_of_ble_eq_true rfl), (Nat.le_of_ble_eq_true rfl)⟩) (pre_PV hK hP [0] rfl (ci := 12) (q0 := 0) rfl rfl) rfl rfl hl.1 rfl (lv_room (Nat.le_of_ble_eq_true rfl)) dX12_stir_62 ⟨(Nat.le_of_ble_eq_true rfl), (Nat.le_of_ble_eq_true rfl)⟩) (fun r9 p10 => ?_)
          subst p10
          have hP9 := hP.sub (ws' := []) [] rfl
          have hD9 := hD.sub (ws' := []) [] (by decide) rfl
          refine W.widen (k := 0) (n := 0) (Nat.le_of_ble_eq_true rfl) (Nat.le_of_ble_eq_true rfl) ?_
          exact W.iret (v := (-1 : Int32)) hx hb hr (fun t ht9 hW9 => ⟨⟨(-1 : Int32), (), rfl, (lf_m_stir_4 o ktape know kread kkept ksnaps kaside kname kreadName kkeptName kisKept konces kpoured kfar ksides klines kmet ksunk ktrying ktext kline kwritten knode knowF ksnapsF kpouredF yn k4 r6 hN hok h1 h5 p7 c8), by rw [ht9]; exact hP9, va_K.moved hW9.alike hK, hD9⟩, hS.F ht9⟩) hS.2.2 dX12_stir_65
        · refine lv_iload_n hx hb dX12_stir_23 rfl (lv_at hl 3 rfl) ?_
          refine lv_iconst (v := nI 0) hx hb dX12_stir_24 (by decide) ?_
          refine lv_iconst (v := nI 1) hx hb dX12_stir_25 (by decide) ?_
          refine vp_callSi (W.runS (As := [.int (nI 0), .int (nI 0), .int (nI 1)]) (rest := [.int (nI 0), .int (nI k4), .int (nI 0), .ref o]) ⟨hx, hb, hml, hown, hts⟩ (c_isIn l dC dI ky (nI 0) (nI 0) (nI 1)) (va_cwS 3 hts gX12_stir_X12_isIn rfl rfl rfl (by decide +kernel) ⟨(Nat.le_of_ble_eq_true rfl), (Nat.le_of_ble_eq_true rfl)⟩) (pre_PS hK hP [] rfl) rfl rfl hl.1 rfl (lv_room (Nat.le_of_ble_eq_true rfl)) dX12_stir_26 ⟨(Nat.le_of_ble_eq_true rfl), (Nat.le_of_ble_eq_true rfl)⟩) (fun r11 p12 => ?_)
          refine lv_if_eq (tgt := 61) hx hb dX12_stir_29 (by decide) (fun c13 => ?_) (fun c13 => ?_)
          · refine lv_iconst (v := nI 0) hx hb dX12_stir_61 (by decide) ?_
            refine vp_callSi (W.runV (As := [.int (nI 0), .int (nI k4), .int (nI 0), .int (nI 0)]) (rest := []) ⟨hx, hb, hml, hown, hts⟩ (c_m_actNo l dC dI ky o (nI 0) ktape (nI 0) (nI 0) (nI 0) (nI 0) (nI 0) (nI 0) (nI 0) (nI 0) (nI 0) (nI 0) 0 (nI 0) know kread kkept ksnaps kaside kname kreadName kkeptName kisKept konces (nI 0) (nI 0) kpoured kfar ksides (nI 0) (-1 : Int32) (nI 0) klines kmet (nI 0) ksunk ktrying (nI 0) (-1 : Int32) (-1 : Int32) ktext (nI 0) (nI 0) kline kwritten (nI 0) (nI 0) knode (nI 0) (nI 0) (nI 0) (nI 0) (nI 0) (nI k4) (nI 0)) (cwV 4 hts gX12_stir_X12_act rfl rfl rfl (by decide +kernel) ⟨(Nat.le_of_ble_eq_true rfl), (Nat.le_of_ble_eq_true rfl)⟩) (pre_PV hK hP [0] rfl (ci := 12) (q0 := 0) rfl rfl) rfl rfl hl.1 rfl (lv_room (Nat.le_of_ble_eq_true rfl)) dX12_stir_62 ⟨(Nat.le_of_ble_eq_true rfl), (Nat.le_of_ble_eq_true rfl)⟩) (fun r14 p15 => ?_)
            subst p15
            have hP9 := hP.sub (ws' := []) [] rfl
            have hD9 := hD.sub (ws' := []) [] (by decide) rfl
            refine W.widen (k := 0) (n := 0) (Nat.le_of_ble_eq_true rfl) (Nat.le_of_ble_eq_true rfl) ?_
            exact W.iret (v := (-1 : Int32)) hx hb hr (fun t ht9 hW9 => ⟨⟨(-1 : Int32), (), rfl, (lf_m_stir_5 o ktape know kread kkept ksnaps kaside kname kreadName kkeptName kisKept konces kpoured kfar ksides klines kmet ksunk ktrying ktext kline kwritten knode knowF ksnapsF kpouredF yn k4 r6 r11 hN hok h1 h5 p7 c8 p12 c13), by rw [ht9]; exact hP9, va_K.moved hW9.alike hK, hD9⟩, hS.F ht9⟩) hS.2.2 dX12_stir_65
          · refine lv_iload_n hx hb dX12_stir_32 rfl (lv_at hl 2 rfl) ?_
            refine lv_iconst (v := nI 0) hx hb dX12_stir_33 (by decide) ?_
            refine lv_aload_n hx hb dX12_stir_34 rfl (lv_at hl 0 rfl) ?_
            refine va_get (D := (dC, dI)) (ci := 12) (v := .ref know) (C := RX12) (T := TX12) (N := 52) hx hb hts hin12 hown hK hP 0 rfl rfl 14 (by decide) (hts (.fieldLink RX12 98 "PorridgeSeaModel" "now" "[I") (List.mem_of_getElem? (i := 2) rfl)) (fun _ h9 => h9) rfl dX12_stir_35 ?_
            refine lv_iload_n hx hb dX12_stir_38 rfl (lv_at hl 1 rfl) ?_
            refine lv_iconst (v := nI 1) hx hb dX12_stir_39 (by decide) ?_
            refine lv_icmp_ne (tgt := 47) hx hb dX12_stir_40 (by decide) (fun c16 => ?_) (fun c16 => absurd c16 (by decide))
            refine lv_iconst (v := nI 1) hx hb dX12_stir_47 (by decide) ?_
            refine r_iald hx hb hK hP 1 rfl 1 (by decide) (by decide) (nI 4) (NowOk.b hN).2.1 dX12_stir_48 ?_
            refine lv_iconst (v := nI 1) hx hb dX12_stir_49 (by decide) ?_
            refine lv_isub hx hb dX12_stir_50 ?_
            refine r_ti (nI 3) (by decide) ?_
            refine vp_callSi (W.runS (As := [.int (nI yn), .int (nI 0), .int (nI 3)]) (rest := [.int (nI 0), .int (nI k4), .int (nI 0), .ref o]) ⟨hx, hb, hml, hown, hts⟩ (c_isIn l dC dI ky (nI yn) (nI 0) (nI 3)) (va_cwS 3 hts gX12_stir_X12_isIn rfl rfl rfl (by decide +kernel) ⟨(Nat.le_of_ble_eq_true rfl), (Nat.le_of_ble_eq_true rfl)⟩) (pre_PS hK hP [] rfl) rfl rfl hl.1 rfl (lv_room (Nat.le_of_ble_eq_true rfl)) dX12_stir_51 ⟨(Nat.le_of_ble_eq_true rfl), (Nat.le_of_ble_eq_true rfl)⟩) (fun r17 p18 => ?_)
            refine lv_if_eq (tgt := 61) hx hb dX12_stir_54 (by decide) (fun c19 => ?_) (fun c19 => ?_)
            · refine lv_iconst (v := nI 0) hx hb dX12_stir_61 (by decide) ?_
              refine vp_callSi (W.runV (As := [.int (nI 0), .int (nI k4), .int (nI 0), .int (nI 0)]) (rest := []) ⟨hx, hb, hml, hown, hts⟩ (c_m_actNo l dC dI ky o (nI 0) ktape (nI 0) (nI 0) (nI 0) (nI 0) (nI 0) (nI 0) (nI 0) (nI 0) (nI 0) (nI 0) 0 (nI 0) know kread kkept ksnaps kaside kname kreadName kkeptName kisKept konces (nI 0) (nI 0) kpoured kfar ksides (nI 0) (-1 : Int32) (nI 0) klines kmet (nI 0) ksunk ktrying (nI 0) (-1 : Int32) (-1 : Int32) ktext (nI 0) (nI 0) kline kwritten (nI 0) (nI 0) knode (nI 0) (nI 0) (nI 0) (nI 0) (nI 0) (nI k4) (nI 0)) (cwV 4 hts gX12_stir_X12_act rfl rfl rfl (by decide +kernel) ⟨(Nat.le_of_ble_eq_true rfl), (Nat.le_of_ble_eq_true rfl)⟩) (pre_PV hK hP [0] rfl (ci := 12) (q0 := 0) rfl rfl) rfl rfl hl.1 rfl (lv_room (Nat.le_of_ble_eq_true rfl)) dX12_stir_62 ⟨(Nat.le_of_ble_eq_true rfl), (Nat.le_of_ble_eq_true rfl)⟩) (fun r20 p21 => ?_)
              subst p21
              have hP9 := hP.sub (ws' := []) [] rfl
              have hD9 := hD.sub (ws' := []) [] (by decide) rfl
              refine W.widen (k := 0) (n := 0) (Nat.le_of_ble_eq_true rfl) (Nat.le_of_ble_eq_true rfl) ?_
              exact W.iret (v := (-1 : Int32)) hx hb hr (fun t ht9 hW9 => ⟨⟨(-1 : Int32), (), rfl, (lf_m_stir_6 o ktape know kread kkept ksnaps kaside kname kreadName kkeptName kisKept konces kpoured kfar ksides klines kmet ksunk ktrying ktext kline kwritten knode knowF ksnapsF kpouredF yn k4 r6 r11 r17 hN hok h1 h5 p7 c8 p12 c13 p18 c19), by rw [ht9]; exact hP9, va_K.moved hW9.alike hK, hD9⟩, hS.F ht9⟩) hS.2.2 dX12_stir_65
            · refine lv_iconst (v := nI 1) hx hb dX12_stir_57 (by decide) ?_
              refine lv_goto (tgt := 62) hx hb dX12_stir_58 (by decide) ?_
              refine r_call_i (wr := []) (va_runV (As := [.int (nI 0), .int (nI k4), .int (nI 0), .int (nI 1)]) (rest := []) ⟨hx, hb, hml, hown, hts⟩ (c_m_act0 l dC dI ky H.size o (nI 0) ktape (nI 0) (nI 0) (nI 0) (nI 0) (nI 0) (nI 0) (nI 0) (nI 0) (nI 0) (nI 0) 0 (nI 0) know kread kkept ksnaps kaside kname kreadName kkeptName kisKept konces (nI 0) kpoured kfar ksides (nI 0) (-1 : Int32) (nI 0) klines kmet (nI 0) ksunk ktrying (nI 0) (-1 : Int32) (-1 : Int32) ktext (nI 0) (nI 0) kline kwritten (nI 0) (nI 0) knode (nI 0) (nI 0) (nI 0) (nI 0) knowF ksnapsF kpouredF k4 (nI 0) hN (by omega)) (cwV 4 hts gX12_stir_X12_act rfl rfl rfl (by decide +kernel) ⟨(Nat.le_of_ble_eq_true rfl), (Nat.le_of_ble_eq_true rfl)⟩) (pre_UV hK hP hD [0, 1, 2, 3] (by decide) rfl (ci := 12) (q0 := 0) rfl rfl) rfl rfl hl.1 rfl (lv_room (Nat.le_of_ble_eq_true rfl)) dX12_stir_62 ⟨(Nat.le_of_ble_eq_true rfl), (Nat.le_of_ble_eq_true rfl)⟩) hP hD hS hA [0, 1, 2, 3] [] rfl rfl (by decide) (by decide) (fun r24 u22 H locs p23 hP hD hS => ?_)
              try dsimp only at p23
              have p25 := p23
              refine W.widen (k := 0) (n := 0) (Nat.le_of_ble_eq_true rfl) (Nat.le_of_ble_eq_true rfl) ?_
              have hP : va_P (dC, dI) vwCl [] H := hP
              have hD : va_D A [] := hD
              subst p25
              have hP9 := hP.sub (ws' := []) [] rfl
              have hD9 := hD.sub (ws' := []) [] (by decide) rfl
              refine W.widen (k := 0) (n := 0) (Nat.le_of_ble_eq_true rfl) (Nat.le_of_ble_eq_true rfl) ?_
              exact W.iret (v := nI 0) hx hb hr (fun t ht9 hW9 => ⟨⟨nI 0, (), rfl, (lf_m_stir_7 o ktape know kread kkept ksnaps kaside kname kreadName kkeptName kisKept konces kpoured kfar ksides klines kmet ksunk ktrying ktext kline kwritten knode knowF ksnapsF kpouredF yn k4 r6 r11 r17 hN hok h1 h5 p7 c8 p12 c13 p18 c19), by rw [ht9]; exact hP9, va_K.moved hW9.alike hK, hD9⟩, hS.F ht9⟩) hS.2.2 dX12_stir_65
      · refine lv_aload_n hx hb dX12_stir_0 rfl (lv_at hl 0 rfl) ?_
        refine lv_iconst (v := nI 0) hx hb dX12_stir_1 (by decide) ?_
        refine va_put (D := (dC, dI)) (ci := 12) (v := .int (nI 0)) (ty := .int) (C := RX12) (T := TX12) (N := 52) hx hb hts hin12 tyX12 tyX12_ok nmX12 hown hK hP hD hS 0 rfl rfl 0 (by decide) (hts (.fieldLink RX12 1 "PorridgeSeaModel" "thrown" "I") (List.mem_of_getElem? (i := 1) rfl)) (fun _ h9 => h9) rfl (by decide +kernel) rfl rfl (Nat.le_of_ble_eq_true rfl) dX12_stir_2 (fun H locs hP hD hS => ?_)
        have hP : va_P (dC, dI) vwCl [(o, .inr (12, [.int (nI 0), .ref ktape, .int (nI 0), .int (nI 0), .int (nI 0), .int (nI 0), .int (nI 0), .int (nI 0), .int (nI 0), .int (nI 0), .int (nI 0), .int (nI 0), .long 0, .int (nI 0), .ref know, .ref kread, .ref kkept, .ref ksnaps, .ref kaside, .ref kname, .ref kreadName, .ref kkeptName, .ref kisKept, .ref konces, .int (nI 0), .int (nI 0), .ref kpoured, .ref kfar, .ref ksides, .int (nI 0), .int (-1 : Int32), .int (nI 0), .ref klines, .ref kmet, .int (nI 0), .ref ksunk, .ref ktrying, .int (nI 0), .int (-1 : Int32), .int (-1 : Int32), .ref ktext, .int (nI 0), .int (nI 0), .ref kline, .ref kwritten, .int (nI 0), .int (nI 0), .ref knode, .int (nI 0), .int (nI 0), .int (nI 0), .int (nI 0)])), (know, .inl (ky 0, 373, .inl knowF)), (ksnaps, .inl (ky 0, 512, .inl ksnapsF)), (kpoured, .inl (ky 0, 36, .inl kpouredF))] H := hP
        have hD : va_D A [(o, .inr (12, [.int (nI 0), .ref ktape, .int (nI 0), .int (nI 0), .int (nI 0), .int (nI 0), .int (nI 0), .int (nI 0), .int (nI 0), .int (nI 0), .int (nI 0), .int (nI 0), .long 0, .int (nI 0), .ref know, .ref kread, .ref kkept, .ref ksnaps, .ref kaside, .ref kname, .ref kreadName, .ref kkeptName, .ref kisKept, .ref konces, .int (nI 0), .int (nI 0), .ref kpoured, .ref kfar, .ref ksides, .int (nI 0), .int (-1 : Int32), .int (nI 0), .ref klines, .ref kmet, .int (nI 0), .ref ksunk, .ref ktrying, .int (nI 0), .int (-1 : Int32), .int (-1 : Int32), .ref ktext, .int (nI 0), .int (nI 0), .ref kline, .ref kwritten, .int (nI 0), .int (nI 0), .ref knode, .int (nI 0), .int (nI 0), .int (nI 0), .int (nI 0)])), (know, .inl (ky 0, 373, .inl knowF)), (ksnaps, .inl (ky 0, 512, .inl ksnapsF)), (kpoured, .inl (ky 0, 36, .inl kpouredF))] := hD
        refine lv_aload_n hx hb dX12_stir_5 rfl (lv_at hl 0 rfl) ?_
        refine lv_iconst (v := nI 0) hx hb dX12_stir_6 (by decide) ?_
        refine lv_iload_n hx hb dX12_stir_7 rfl (lv_at hl 1 rfl) ?_
        refine lv_iload_n hx hb dX12_stir_8 rfl (lv_at hl 2 rfl) ?_
        refine lv_iload_n hx hb dX12_stir_9 rfl (lv_at hl 3 rfl) ?_
        refine vp_callSi (W.runS (As := [.int (nI 0), .int (nI yn), .int (nI 1)]) (rest := [.int (nI 0), .ref o]) ⟨hx, hb, hml, hown, hts⟩ (c_m_lineOfN l dC dI ky 0 yn 1 (by omega) (by omega) (by omega)) (va_cwS 3 hts gX12_stir_X12_lineOf rfl rfl rfl (by decide +kernel) ⟨(Nat.le_of_ble_eq_true rfl), (Nat.le_of_ble_eq_true rfl)⟩) (pre_PS hK hP [] rfl) rfl rfl hl.1 rfl (lv_room (Nat.le_of_ble_eq_true rfl)) dX12_stir_10 ⟨(Nat.le_of_ble_eq_true rfl), (Nat.le_of_ble_eq_true rfl)⟩) (fun r26 p27 => ?_)
        obtain ⟨k28, h29, rfl⟩ := p27
        refine lv_iconst (v := nI 0) hx hb dX12_stir_13 (by decide) ?_
        refine lv_iload_n hx hb dX12_stir_14 rfl (lv_at hl 1 rfl) ?_
        refine lv_iconst (v := nI 0) hx hb dX12_stir_15 (by decide) ?_
        refine lv_iconst (v := nI 1) hx hb dX12_stir_16 (by decide) ?_
        refine vp_callSi (W.runS (As := [.int (nI 0), .int (nI 0), .int (nI 1)]) (rest := [.int (nI 0), .int (nI k28), .int (nI 0), .ref o]) ⟨hx, hb, hml, hown, hts⟩ (c_isIn l dC dI ky (nI 0) (nI 0) (nI 1)) (va_cwS 3 hts gX12_stir_X12_isIn rfl rfl rfl (by decide +kernel) ⟨(Nat.le_of_ble_eq_true rfl), (Nat.le_of_ble_eq_true rfl)⟩) (pre_PS hK hP [] rfl) rfl rfl hl.1 rfl (lv_room (Nat.le_of_ble_eq_true rfl)) dX12_stir_17 ⟨(Nat.le_of_ble_eq_true rfl), (Nat.le_of_ble_eq_true rfl)⟩) (fun r30 p31 => ?_)
        refine lv_if_eq (tgt := 61) hx hb dX12_stir_20 (by decide) (fun c32 => ?_) (fun c32 => ?_)
        · refine lv_iconst (v := nI 0) hx hb dX12_stir_61 (by decide) ?_
          refine vp_callSi (W.runV (As := [.int (nI 0), .int (nI k28), .int (nI 0), .int (nI 0)]) (rest := []) ⟨hx, hb, hml, hown, hts⟩ (c_m_actNo l dC dI ky o (nI 0) ktape (nI 0) (nI 0) (nI 0) (nI 0) (nI 0) (nI 0) (nI 0) (nI 0) (nI 0) (nI 0) 0 (nI 0) know kread kkept ksnaps kaside kname kreadName kkeptName kisKept konces (nI 0) (nI 0) kpoured kfar ksides (nI 0) (-1 : Int32) (nI 0) klines kmet (nI 0) ksunk ktrying (nI 0) (-1 : Int32) (-1 : Int32) ktext (nI 0) (nI 0) kline kwritten (nI 0) (nI 0) knode (nI 0) (nI 0) (nI 0) (nI 0) (nI 0) (nI k28) (nI 0)) (cwV 4 hts gX12_stir_X12_act rfl rfl rfl (by decide +kernel) ⟨(Nat.le_of_ble_eq_true rfl), (Nat.le_of_ble_eq_true rfl)⟩) (pre_PV hK hP [0] rfl (ci := 12) (q0 := 0) rfl rfl) rfl rfl hl.1 rfl (lv_room (Nat.le_of_ble_eq_true rfl)) dX12_stir_62 ⟨(Nat.le_of_ble_eq_true rfl), (Nat.le_of_ble_eq_true rfl)⟩) (fun r33 p34 => ?_)
          subst p34
          have hP9 := hP.sub (ws' := []) [] rfl
          have hD9 := hD.sub (ws' := []) [] (by decide) rfl
          refine W.widen (k := 0) (n := 0) (Nat.le_of_ble_eq_true rfl) (Nat.le_of_ble_eq_true rfl) ?_
          exact W.iret (v := (-1 : Int32)) hx hb hr (fun t ht9 hW9 => ⟨⟨(-1 : Int32), (), rfl, (lf_m_stir_8 o ktape know kread kkept ksnaps kaside kname kreadName kkeptName kisKept konces kpoured kfar ksides klines kmet ksunk ktrying ktext kline kwritten knode knowF ksnapsF kpouredF yn k28 r30 hN hok h1 h29 p31 c32), by rw [ht9]; exact hP9, va_K.moved hW9.alike hK, hD9⟩, hS.F ht9⟩) hS.2.2 dX12_stir_65
        · refine lv_iload_n hx hb dX12_stir_23 rfl (lv_at hl 3 rfl) ?_
          refine lv_iconst (v := nI 0) hx hb dX12_stir_24 (by decide) ?_
          refine lv_iconst (v := nI 1) hx hb dX12_stir_25 (by decide) ?_
          refine vp_callSi (W.runS (As := [.int (nI 1), .int (nI 0), .int (nI 1)]) (rest := [.int (nI 0), .int (nI k28), .int (nI 0), .ref o]) ⟨hx, hb, hml, hown, hts⟩ (c_isIn l dC dI ky (nI 1) (nI 0) (nI 1)) (va_cwS 3 hts gX12_stir_X12_isIn rfl rfl rfl (by decide +kernel) ⟨(Nat.le_of_ble_eq_true rfl), (Nat.le_of_ble_eq_true rfl)⟩) (pre_PS hK hP [] rfl) rfl rfl hl.1 rfl (lv_room (Nat.le_of_ble_eq_true rfl)) dX12_stir_26 ⟨(Nat.le_of_ble_eq_true rfl), (Nat.le_of_ble_eq_true rfl)⟩) (fun r35 p36 => ?_)
          refine lv_if_eq (tgt := 61) hx hb dX12_stir_29 (by decide) (fun c37 => ?_) (fun c37 => ?_)
          · refine lv_iconst (v := nI 0) hx hb dX12_stir_61 (by decide) ?_
            refine vp_callSi (W.runV (As := [.int (nI 0), .int (nI k28), .int (nI 0), .int (nI 0)]) (rest := []) ⟨hx, hb, hml, hown, hts⟩ (c_m_actNo l dC dI ky o (nI 0) ktape (nI 0) (nI 0) (nI 0) (nI 0) (nI 0) (nI 0) (nI 0) (nI 0) (nI 0) (nI 0) 0 (nI 0) know kread kkept ksnaps kaside kname kreadName kkeptName kisKept konces (nI 0) (nI 0) kpoured kfar ksides (nI 0) (-1 : Int32) (nI 0) klines kmet (nI 0) ksunk ktrying (nI 0) (-1 : Int32) (-1 : Int32) ktext (nI 0) (nI 0) kline kwritten (nI 0) (nI 0) knode (nI 0) (nI 0) (nI 0) (nI 0) (nI 0) (nI k28) (nI 0)) (cwV 4 hts gX12_stir_X12_act rfl rfl rfl (by decide +kernel) ⟨(Nat.le_of_ble_eq_true rfl), (Nat.le_of_ble_eq_true rfl)⟩) (pre_PV hK hP [0] rfl (ci := 12) (q0 := 0) rfl rfl) rfl rfl hl.1 rfl (lv_room (Nat.le_of_ble_eq_true rfl)) dX12_stir_62 ⟨(Nat.le_of_ble_eq_true rfl), (Nat.le_of_ble_eq_true rfl)⟩) (fun r38 p39 => ?_)
            subst p39
            have hP9 := hP.sub (ws' := []) [] rfl
            have hD9 := hD.sub (ws' := []) [] (by decide) rfl
            refine W.widen (k := 0) (n := 0) (Nat.le_of_ble_eq_true rfl) (Nat.le_of_ble_eq_true rfl) ?_
            exact W.iret (v := (-1 : Int32)) hx hb hr (fun t ht9 hW9 => ⟨⟨(-1 : Int32), (), rfl, (lf_m_stir_9 o ktape know kread kkept ksnaps kaside kname kreadName kkeptName kisKept konces kpoured kfar ksides klines kmet ksunk ktrying ktext kline kwritten knode knowF ksnapsF kpouredF yn k28 r30 r35 hN hok h1 h29 p31 c32 p36 c37), by rw [ht9]; exact hP9, va_K.moved hW9.alike hK, hD9⟩, hS.F ht9⟩) hS.2.2 dX12_stir_65
          · refine lv_iload_n hx hb dX12_stir_32 rfl (lv_at hl 2 rfl) ?_
            refine lv_iconst (v := nI 0) hx hb dX12_stir_33 (by decide) ?_
            refine lv_aload_n hx hb dX12_stir_34 rfl (lv_at hl 0 rfl) ?_
            refine va_get (D := (dC, dI)) (ci := 12) (v := .ref know) (C := RX12) (T := TX12) (N := 52) hx hb hts hin12 hown hK hP 0 rfl rfl 14 (by decide) (hts (.fieldLink RX12 98 "PorridgeSeaModel" "now" "[I") (List.mem_of_getElem? (i := 2) rfl)) (fun _ h9 => h9) rfl dX12_stir_35 ?_
            refine lv_iload_n hx hb dX12_stir_38 rfl (lv_at hl 1 rfl) ?_
            refine lv_iconst (v := nI 1) hx hb dX12_stir_39 (by decide) ?_
            refine lv_icmp_ne (tgt := 47) hx hb dX12_stir_40 (by decide) (fun c40 => ?_) (fun c40 => absurd c40 (by decide))
            refine lv_iconst (v := nI 1) hx hb dX12_stir_47 (by decide) ?_
            refine r_iald hx hb hK hP 1 rfl 1 (by decide) (by decide) (nI 4) (NowOk.b hN).2.1 dX12_stir_48 ?_
            refine lv_iconst (v := nI 1) hx hb dX12_stir_49 (by decide) ?_
            refine lv_isub hx hb dX12_stir_50 ?_
            refine r_ti (nI 3) (by decide) ?_
            refine vp_callSi (W.runS (As := [.int (nI yn), .int (nI 0), .int (nI 3)]) (rest := [.int (nI 0), .int (nI k28), .int (nI 0), .ref o]) ⟨hx, hb, hml, hown, hts⟩ (c_isIn l dC dI ky (nI yn) (nI 0) (nI 3)) (va_cwS 3 hts gX12_stir_X12_isIn rfl rfl rfl (by decide +kernel) ⟨(Nat.le_of_ble_eq_true rfl), (Nat.le_of_ble_eq_true rfl)⟩) (pre_PS hK hP [] rfl) rfl rfl hl.1 rfl (lv_room (Nat.le_of_ble_eq_true rfl)) dX12_stir_51 ⟨(Nat.le_of_ble_eq_true rfl), (Nat.le_of_ble_eq_true rfl)⟩) (fun r41 p42 => ?_)
            refine lv_if_eq (tgt := 61) hx hb dX12_stir_54 (by decide) (fun c43 => ?_) (fun c43 => ?_)
            · refine lv_iconst (v := nI 0) hx hb dX12_stir_61 (by decide) ?_
              refine vp_callSi (W.runV (As := [.int (nI 0), .int (nI k28), .int (nI 0), .int (nI 0)]) (rest := []) ⟨hx, hb, hml, hown, hts⟩ (c_m_actNo l dC dI ky o (nI 0) ktape (nI 0) (nI 0) (nI 0) (nI 0) (nI 0) (nI 0) (nI 0) (nI 0) (nI 0) (nI 0) 0 (nI 0) know kread kkept ksnaps kaside kname kreadName kkeptName kisKept konces (nI 0) (nI 0) kpoured kfar ksides (nI 0) (-1 : Int32) (nI 0) klines kmet (nI 0) ksunk ktrying (nI 0) (-1 : Int32) (-1 : Int32) ktext (nI 0) (nI 0) kline kwritten (nI 0) (nI 0) knode (nI 0) (nI 0) (nI 0) (nI 0) (nI 0) (nI k28) (nI 0)) (cwV 4 hts gX12_stir_X12_act rfl rfl rfl (by decide +kernel) ⟨(Nat.le_of_ble_eq_true rfl), (Nat.le_of_ble_eq_true rfl)⟩) (pre_PV hK hP [0] rfl (ci := 12) (q0 := 0) rfl rfl) rfl rfl hl.1 rfl (lv_room (Nat.le_of_ble_eq_true rfl)) dX12_stir_62 ⟨(Nat.le_of_ble_eq_true rfl), (Nat.le_of_ble_eq_true rfl)⟩) (fun r44 p45 => ?_)
              subst p45
              have hP9 := hP.sub (ws' := []) [] rfl
              have hD9 := hD.sub (ws' := []) [] (by decide) rfl
              refine W.widen (k := 0) (n := 0) (Nat.le_of_ble_eq_true rfl) (Nat.le_of_ble_eq_true rfl) ?_
              exact W.iret (v := (-1 : Int32)) hx hb hr (fun t ht9 hW9 => ⟨⟨(-1 : Int32), (), rfl, (lf_m_stir_10 o ktape know kread kkept ksnaps kaside kname kreadName kkeptName kisKept konces kpoured kfar ksides klines kmet ksunk ktrying ktext kline kwritten knode knowF ksnapsF kpouredF yn k28 r30 r35 r41 hN hok h1 h29 p31 c32 p36 c37 p42 c43), by rw [ht9]; exact hP9, va_K.moved hW9.alike hK, hD9⟩, hS.F ht9⟩) hS.2.2 dX12_stir_65
            · refine lv_iconst (v := nI 1) hx hb dX12_stir_57 (by decide) ?_
              refine lv_goto (tgt := 62) hx hb dX12_stir_58 (by decide) ?_
              refine r_call_i (wr := []) (va_runV (As := [.int (nI 0), .int (nI k28), .int (nI 0), .int (nI 1)]) (rest := []) ⟨hx, hb, hml, hown, hts⟩ (c_m_act0 l dC dI ky H.size o (nI 0) ktape (nI 0) (nI 0) (nI 0) (nI 0) (nI 0) (nI 0) (nI 0) (nI 0) (nI 0) (nI 0) 0 (nI 0) know kread kkept ksnaps kaside kname kreadName kkeptName kisKept konces (nI 0) kpoured kfar ksides (nI 0) (-1 : Int32) (nI 0) klines kmet (nI 0) ksunk ktrying (nI 0) (-1 : Int32) (-1 : Int32) ktext (nI 0) (nI 0) kline kwritten (nI 0) (nI 0) knode (nI 0) (nI 0) (nI 0) (nI 0) knowF ksnapsF kpouredF k28 (nI 0) hN (by omega)) (cwV 4 hts gX12_stir_X12_act rfl rfl rfl (by decide +kernel) ⟨(Nat.le_of_ble_eq_true rfl), (Nat.le_of_ble_eq_true rfl)⟩) (pre_UV hK hP hD [0, 1, 2, 3] (by decide) rfl (ci := 12) (q0 := 0) rfl rfl) rfl rfl hl.1 rfl (lv_room (Nat.le_of_ble_eq_true rfl)) dX12_stir_62 ⟨(Nat.le_of_ble_eq_true rfl), (Nat.le_of_ble_eq_true rfl)⟩) hP hD hS hA [0, 1, 2, 3] [] rfl rfl (by decide) (by decide) (fun r48 u46 H locs p47 hP hD hS => ?_)
              try dsimp only at p47
              have p49 := p47
              refine W.widen (k := 0) (n := 0) (Nat.le_of_ble_eq_true rfl) (Nat.le_of_ble_eq_true rfl) ?_
              have hP : va_P (dC, dI) vwCl [] H := hP
              have hD : va_D A [] := hD
              subst p49
              have hP9 := hP.sub (ws' := []) [] rfl
              have hD9 := hD.sub (ws' := []) [] (by decide) rfl
              refine W.widen (k := 0) (n := 0) (Nat.le_of_ble_eq_true rfl) (Nat.le_of_ble_eq_true rfl) ?_
              exact W.iret (v := nI 0) hx hb hr (fun t ht9 hW9 => ⟨⟨nI 0, (), rfl, (lf_m_stir_11 o ktape know kread kkept ksnaps kaside kname kreadName kkeptName kisKept konces kpoured kfar ksides klines kmet ksunk ktrying ktext kline kwritten knode knowF ksnapsF kpouredF yn k28 r30 r35 r41 hN hok h1 h29 p31 c32 p36 c37 p42 c43), by rw [ht9]; exact hP9, va_K.moved hW9.alike hK, hD9⟩, hS.F ht9⟩) hS.2.2 dX12_stir_65
    · rcases (lf_m_stir_12 o ktape know kread kkept ksnaps kaside kname kreadName kkeptName kisKept konces kpoured kfar ksides klines kmet ksunk ktrying ktext kline kwritten knode knowF ksnapsF kpouredF n yn hN hok h1) with rfl | rfl
      · refine lv_aload_n hx hb dX12_stir_0 rfl (lv_at hl 0 rfl) ?_
        refine lv_iconst (v := nI 0) hx hb dX12_stir_1 (by decide) ?_
        refine va_put (D := (dC, dI)) (ci := 12) (v := .int (nI 0)) (ty := .int) (C := RX12) (T := TX12) (N := 52) hx hb hts hin12 tyX12 tyX12_ok nmX12 hown hK hP hD hS 0 rfl rfl 0 (by decide) (hts (.fieldLink RX12 1 "PorridgeSeaModel" "thrown" "I") (List.mem_of_getElem? (i := 1) rfl)) (fun _ h9 => h9) rfl (by decide +kernel) rfl rfl (Nat.le_of_ble_eq_true rfl) dX12_stir_2 (fun H locs hP hD hS => ?_)
        have hP : va_P (dC, dI) vwCl [(o, .inr (12, [.int (nI 0), .ref ktape, .int (nI 0), .int (nI 0), .int (nI 0), .int (nI 0), .int (nI 0), .int (nI 0), .int (nI 0), .int (nI 0), .int (nI 0), .int (nI 0), .long 0, .int (nI 0), .ref know, .ref kread, .ref kkept, .ref ksnaps, .ref kaside, .ref kname, .ref kreadName, .ref kkeptName, .ref kisKept, .ref konces, .int (nI 0), .int (nI 0), .ref kpoured, .ref kfar, .ref ksides, .int (nI 0), .int (-1 : Int32), .int (nI 0), .ref klines, .ref kmet, .int (nI 0), .ref ksunk, .ref ktrying, .int (nI 0), .int (-1 : Int32), .int (-1 : Int32), .ref ktext, .int (nI 0), .int (nI 0), .ref kline, .ref kwritten, .int (nI 0), .int (nI 0), .ref knode, .int (nI 0), .int (nI 0), .int (nI 0), .int (nI 0)])), (know, .inl (ky 0, 373, .inl knowF)), (ksnaps, .inl (ky 0, 512, .inl ksnapsF)), (kpoured, .inl (ky 0, 36, .inl kpouredF))] H := hP
        have hD : va_D A [(o, .inr (12, [.int (nI 0), .ref ktape, .int (nI 0), .int (nI 0), .int (nI 0), .int (nI 0), .int (nI 0), .int (nI 0), .int (nI 0), .int (nI 0), .int (nI 0), .int (nI 0), .long 0, .int (nI 0), .ref know, .ref kread, .ref kkept, .ref ksnaps, .ref kaside, .ref kname, .ref kreadName, .ref kkeptName, .ref kisKept, .ref konces, .int (nI 0), .int (nI 0), .ref kpoured, .ref kfar, .ref ksides, .int (nI 0), .int (-1 : Int32), .int (nI 0), .ref klines, .ref kmet, .int (nI 0), .ref ksunk, .ref ktrying, .int (nI 0), .int (-1 : Int32), .int (-1 : Int32), .ref ktext, .int (nI 0), .int (nI 0), .ref kline, .ref kwritten, .int (nI 0), .int (nI 0), .ref knode, .int (nI 0), .int (nI 0), .int (nI 0), .int (nI 0)])), (know, .inl (ky 0, 373, .inl knowF)), (ksnaps, .inl (ky 0, 512, .inl ksnapsF)), (kpoured, .inl (ky 0, 36, .inl kpouredF))] := hD
        refine lv_aload_n hx hb dX12_stir_5 rfl (lv_at hl 0 rfl) ?_
        refine lv_iconst (v := nI 0) hx hb dX12_stir_6 (by decide) ?_
        refine lv_iload_n hx hb dX12_stir_7 rfl (lv_at hl 1 rfl) ?_
        refine lv_iload_n hx hb dX12_stir_8 rfl (lv_at hl 2 rfl) ?_
        refine lv_iload_n hx hb dX12_stir_9 rfl (lv_at hl 3 rfl) ?_
        refine vp_callSi (W.runS (As := [.int (nI 1), .int (nI yn), .int (nI 0)]) (rest := [.int (nI 0), .ref o]) ⟨hx, hb, hml, hown, hts⟩ (c_m_lineOfN l dC dI ky 1 yn 0 (by omega) (by omega) (by omega)) (va_cwS 3 hts gX12_stir_X12_lineOf rfl rfl rfl (by decide +kernel) ⟨(Nat.le_of_ble_eq_true rfl), (Nat.le_of_ble_eq_true rfl)⟩) (pre_PS hK hP [] rfl) rfl rfl hl.1 rfl (lv_room (Nat.le_of_ble_eq_true rfl)) dX12_stir_10 ⟨(Nat.le_of_ble_eq_true rfl), (Nat.le_of_ble_eq_true rfl)⟩) (fun r50 p51 => ?_)
        obtain ⟨k52, h53, rfl⟩ := p51
        refine lv_iconst (v := nI 0) hx hb dX12_stir_13 (by decide) ?_
        refine lv_iload_n hx hb dX12_stir_14 rfl (lv_at hl 1 rfl) ?_
        refine lv_iconst (v := nI 0) hx hb dX12_stir_15 (by decide) ?_
        refine lv_iconst (v := nI 1) hx hb dX12_stir_16 (by decide) ?_
        refine vp_callSi (W.runS (As := [.int (nI 1), .int (nI 0), .int (nI 1)]) (rest := [.int (nI 0), .int (nI k52), .int (nI 0), .ref o]) ⟨hx, hb, hml, hown, hts⟩ (c_isIn l dC dI ky (nI 1) (nI 0) (nI 1)) (va_cwS 3 hts gX12_stir_X12_isIn rfl rfl rfl (by decide +kernel) ⟨(Nat.le_of_ble_eq_true rfl), (Nat.le_of_ble_eq_true rfl)⟩) (pre_PS hK hP [] rfl) rfl rfl hl.1 rfl (lv_room (Nat.le_of_ble_eq_true rfl)) dX12_stir_17 ⟨(Nat.le_of_ble_eq_true rfl), (Nat.le_of_ble_eq_true rfl)⟩) (fun r54 p55 => ?_)
        refine lv_if_eq (tgt := 61) hx hb dX12_stir_20 (by decide) (fun c56 => ?_) (fun c56 => ?_)
        · refine lv_iconst (v := nI 0) hx hb dX12_stir_61 (by decide) ?_
          refine vp_callSi (W.runV (As := [.int (nI 0), .int (nI k52), .int (nI 0), .int (nI 0)]) (rest := []) ⟨hx, hb, hml, hown, hts⟩ (c_m_actNo l dC dI ky o (nI 0) ktape (nI 0) (nI 0) (nI 0) (nI 0) (nI 0) (nI 0) (nI 0) (nI 0) (nI 0) (nI 0) 0 (nI 0) know kread kkept ksnaps kaside kname kreadName kkeptName kisKept konces (nI 0) (nI 0) kpoured kfar ksides (nI 0) (-1 : Int32) (nI 0) klines kmet (nI 0) ksunk ktrying (nI 0) (-1 : Int32) (-1 : Int32) ktext (nI 0) (nI 0) kline kwritten (nI 0) (nI 0) knode (nI 0) (nI 0) (nI 0) (nI 0) (nI 0) (nI k52) (nI 0)) (cwV 4 hts gX12_stir_X12_act rfl rfl rfl (by decide +kernel) ⟨(Nat.le_of_ble_eq_true rfl), (Nat.le_of_ble_eq_true rfl)⟩) (pre_PV hK hP [0] rfl (ci := 12) (q0 := 0) rfl rfl) rfl rfl hl.1 rfl (lv_room (Nat.le_of_ble_eq_true rfl)) dX12_stir_62 ⟨(Nat.le_of_ble_eq_true rfl), (Nat.le_of_ble_eq_true rfl)⟩) (fun r57 p58 => ?_)
          subst p58
          have hP9 := hP.sub (ws' := []) [] rfl
          have hD9 := hD.sub (ws' := []) [] (by decide) rfl
          refine W.widen (k := 0) (n := 0) (Nat.le_of_ble_eq_true rfl) (Nat.le_of_ble_eq_true rfl) ?_
          exact W.iret (v := (-1 : Int32)) hx hb hr (fun t ht9 hW9 => ⟨⟨(-1 : Int32), (), rfl, (lf_m_stir_13 o ktape know kread kkept ksnaps kaside kname kreadName kkeptName kisKept konces kpoured kfar ksides klines kmet ksunk ktrying ktext kline kwritten knode knowF ksnapsF kpouredF yn k52 r54 hN hok h1 h53 p55 c56), by rw [ht9]; exact hP9, va_K.moved hW9.alike hK, hD9⟩, hS.F ht9⟩) hS.2.2 dX12_stir_65
        · refine lv_iload_n hx hb dX12_stir_23 rfl (lv_at hl 3 rfl) ?_
          refine lv_iconst (v := nI 0) hx hb dX12_stir_24 (by decide) ?_
          refine lv_iconst (v := nI 1) hx hb dX12_stir_25 (by decide) ?_
          refine vp_callSi (W.runS (As := [.int (nI 0), .int (nI 0), .int (nI 1)]) (rest := [.int (nI 0), .int (nI k52), .int (nI 0), .ref o]) ⟨hx, hb, hml, hown, hts⟩ (c_isIn l dC dI ky (nI 0) (nI 0) (nI 1)) (va_cwS 3 hts gX12_stir_X12_isIn rfl rfl rfl (by decide +kernel) ⟨(Nat.le_of_ble_eq_true rfl), (Nat.le_of_ble_eq_true rfl)⟩) (pre_PS hK hP [] rfl) rfl rfl hl.1 rfl (lv_room (Nat.le_of_ble_eq_true rfl)) dX12_stir_26 ⟨(Nat.le_of_ble_eq_true rfl), (Nat.le_of_ble_eq_true rfl)⟩) (fun r59 p60 => ?_)
          refine lv_if_eq (tgt := 61) hx hb dX12_stir_29 (by decide) (fun c61 => ?_) (fun c61 => ?_)
          · refine lv_iconst (v := nI 0) hx hb dX12_stir_61 (by decide) ?_
            refine vp_callSi (W.runV (As := [.int (nI 0), .int (nI k52), .int (nI 0), .int (nI 0)]) (rest := []) ⟨hx, hb, hml, hown, hts⟩ (c_m_actNo l dC dI ky o (nI 0) ktape (nI 0) (nI 0) (nI 0) (nI 0) (nI 0) (nI 0) (nI 0) (nI 0) (nI 0) (nI 0) 0 (nI 0) know kread kkept ksnaps kaside kname kreadName kkeptName kisKept konces (nI 0) (nI 0) kpoured kfar ksides (nI 0) (-1 : Int32) (nI 0) klines kmet (nI 0) ksunk ktrying (nI 0) (-1 : Int32) (-1 : Int32) ktext (nI 0) (nI 0) kline kwritten (nI 0) (nI 0) knode (nI 0) (nI 0) (nI 0) (nI 0) (nI 0) (nI k52) (nI 0)) (cwV 4 hts gX12_stir_X12_act rfl rfl rfl (by decide +kernel) ⟨(Nat.le_of_ble_eq_true rfl), (Nat.le_of_ble_eq_true rfl)⟩) (pre_PV hK hP [0] rfl (ci := 12) (q0 := 0) rfl rfl) rfl rfl hl.1 rfl (lv_room (Nat.le_of_ble_eq_true rfl)) dX12_stir_62 ⟨(Nat.le_of_ble_eq_true rfl), (Nat.le_of_ble_eq_true rfl)⟩) (fun r62 p63 => ?_)
            subst p63
            have hP9 := hP.sub (ws' := []) [] rfl
            have hD9 := hD.sub (ws' := []) [] (by decide) rfl
            refine W.widen (k := 0) (n := 0) (Nat.le_of_ble_eq_true rfl) (Nat.le_of_ble_eq_true rfl) ?_
            exact W.iret (v := (-1 : Int32)) hx hb hr (fun t ht9 hW9 => ⟨⟨(-1 : Int32), (), rfl, (lf_m_stir_14 o ktape know kread kkept ksnaps kaside kname kreadName kkeptName kisKept konces kpoured kfar ksides klines kmet ksunk ktrying ktext kline kwritten knode knowF ksnapsF kpouredF yn k52 r54 r59 hN hok h1 h53 p55 c56 p60 c61), by rw [ht9]; exact hP9, va_K.moved hW9.alike hK, hD9⟩, hS.F ht9⟩) hS.2.2 dX12_stir_65
          · refine lv_iload_n hx hb dX12_stir_32 rfl (lv_at hl 2 rfl) ?_
            refine lv_iconst (v := nI 0) hx hb dX12_stir_33 (by decide) ?_
            refine lv_aload_n hx hb dX12_stir_34 rfl (lv_at hl 0 rfl) ?_
            refine va_get (D := (dC, dI)) (ci := 12) (v := .ref know) (C := RX12) (T := TX12) (N := 52) hx hb hts hin12 hown hK hP 0 rfl rfl 14 (by decide) (hts (.fieldLink RX12 98 "PorridgeSeaModel" "now" "[I") (List.mem_of_getElem? (i := 2) rfl)) (fun _ h9 => h9) rfl dX12_stir_35 ?_
            refine lv_iload_n hx hb dX12_stir_38 rfl (lv_at hl 1 rfl) ?_
            refine lv_iconst (v := nI 1) hx hb dX12_stir_39 (by decide) ?_
            refine lv_icmp_ne (tgt := 47) hx hb dX12_stir_40 (by decide) (fun c64 => absurd c64 (by decide)) (fun c64 => ?_)
            refine lv_iconst (v := nI 0) hx hb dX12_stir_43 (by decide) ?_
            refine lv_goto (tgt := 48) hx hb dX12_stir_44 (by decide) ?_
            refine r_iald hx hb hK hP 1 rfl 0 (by decide) (by decide) (nI 4) (NowOk.b hN).1 dX12_stir_48 ?_
            refine lv_iconst (v := nI 1) hx hb dX12_stir_49 (by decide) ?_
            refine lv_isub hx hb dX12_stir_50 ?_
            refine r_ti (nI 3) (by decide) ?_
            refine vp_callSi (W.runS (As := [.int (nI yn), .int (nI 0), .int (nI 3)]) (rest := [.int (nI 0), .int (nI k52), .int (nI 0), .ref o]) ⟨hx, hb, hml, hown, hts⟩ (c_isIn l dC dI ky (nI yn) (nI 0) (nI 3)) (va_cwS 3 hts gX12_stir_X12_isIn rfl rfl rfl (by decide +kernel) ⟨(Nat.le_of_ble_eq_true rfl), (Nat.le_of_ble_eq_true rfl)⟩) (pre_PS hK hP [] rfl) rfl rfl hl.1 rfl (lv_room (Nat.le_of_ble_eq_true rfl)) dX12_stir_51 ⟨(Nat.le_of_ble_eq_true rfl), (Nat.le_of_ble_eq_true rfl)⟩) (fun r65 p66 => ?_)
            refine lv_if_eq (tgt := 61) hx hb dX12_stir_54 (by decide) (fun c67 => ?_) (fun c67 => ?_)
            · refine lv_iconst (v := nI 0) hx hb dX12_stir_61 (by decide) ?_
              refine vp_callSi (W.runV (As := [.int (nI 0), .int (nI k52), .int (nI 0), .int (nI 0)]) (rest := []) ⟨hx, hb, hml, hown, hts⟩ (c_m_actNo l dC dI ky o (nI 0) ktape (nI 0) (nI 0) (nI 0) (nI 0) (nI 0) (nI 0) (nI 0) (nI 0) (nI 0) (nI 0) 0 (nI 0) know kread kkept ksnaps kaside kname kreadName kkeptName kisKept konces (nI 0) (nI 0) kpoured kfar ksides (nI 0) (-1 : Int32) (nI 0) klines kmet (nI 0) ksunk ktrying (nI 0) (-1 : Int32) (-1 : Int32) ktext (nI 0) (nI 0) kline kwritten (nI 0) (nI 0) knode (nI 0) (nI 0) (nI 0) (nI 0) (nI 0) (nI k52) (nI 0)) (cwV 4 hts gX12_stir_X12_act rfl rfl rfl (by decide +kernel) ⟨(Nat.le_of_ble_eq_true rfl), (Nat.le_of_ble_eq_true rfl)⟩) (pre_PV hK hP [0] rfl (ci := 12) (q0 := 0) rfl rfl) rfl rfl hl.1 rfl (lv_room (Nat.le_of_ble_eq_true rfl)) dX12_stir_62 ⟨(Nat.le_of_ble_eq_true rfl), (Nat.le_of_ble_eq_true rfl)⟩) (fun r68 p69 => ?_)
              subst p69
              have hP9 := hP.sub (ws' := []) [] rfl
              have hD9 := hD.sub (ws' := []) [] (by decide) rfl
              refine W.widen (k := 0) (n := 0) (Nat.le_of_ble_eq_true rfl) (Nat.le_of_ble_eq_true rfl) ?_
              exact W.iret (v := (-1 : Int32)) hx hb hr (fun t ht9 hW9 => ⟨⟨(-1 : Int32), (), rfl, (lf_m_stir_15 o ktape know kread kkept ksnaps kaside kname kreadName kkeptName kisKept konces kpoured kfar ksides klines kmet ksunk ktrying ktext kline kwritten knode knowF ksnapsF kpouredF yn k52 r54 r59 r65 hN hok h1 h53 p55 c56 p60 c61 p66 c67), by rw [ht9]; exact hP9, va_K.moved hW9.alike hK, hD9⟩, hS.F ht9⟩) hS.2.2 dX12_stir_65
            · refine lv_iconst (v := nI 1) hx hb dX12_stir_57 (by decide) ?_
              refine lv_goto (tgt := 62) hx hb dX12_stir_58 (by decide) ?_
              refine r_call_i (wr := []) (va_runV (As := [.int (nI 0), .int (nI k52), .int (nI 0), .int (nI 1)]) (rest := []) ⟨hx, hb, hml, hown, hts⟩ (c_m_act0 l dC dI ky H.size o (nI 0) ktape (nI 0) (nI 0) (nI 0) (nI 0) (nI 0) (nI 0) (nI 0) (nI 0) (nI 0) (nI 0) 0 (nI 0) know kread kkept ksnaps kaside kname kreadName kkeptName kisKept konces (nI 0) kpoured kfar ksides (nI 0) (-1 : Int32) (nI 0) klines kmet (nI 0) ksunk ktrying (nI 0) (-1 : Int32) (-1 : Int32) ktext (nI 0) (nI 0) kline kwritten (nI 0) (nI 0) knode (nI 0) (nI 0) (nI 0) (nI 0) knowF ksnapsF kpouredF k52 (nI 0) hN (by omega)) (cwV 4 hts gX12_stir_X12_act rfl rfl rfl (by decide +kernel) ⟨(Nat.le_of_ble_eq_true rfl), (Nat.le_of_ble_eq_true rfl)⟩) (pre_UV hK hP hD [0, 1, 2, 3] (by decide) rfl (ci := 12) (q0 := 0) rfl rfl) rfl rfl hl.1 rfl (lv_room (Nat.le_of_ble_eq_true rfl)) dX12_stir_62 ⟨(Nat.le_of_ble_eq_true rfl), (Nat.le_of_ble_eq_true rfl)⟩) hP hD hS hA [0, 1, 2, 3] [] rfl rfl (by decide) (by decide) (fun r72 u70 H locs p71 hP hD hS => ?_)
              try dsimp only at p71
              have p73 := p71
              refine W.widen (k := 0) (n := 0) (Nat.le_of_ble_eq_true rfl) (Nat.le_of_ble_eq_true rfl) ?_
              have hP : va_P (dC, dI) vwCl [] H := hP
              have hD : va_D A [] := hD
              subst p73
              have hP9 := hP.sub (ws' := []) [] rfl
              have hD9 := hD.sub (ws' := []) [] (by decide) rfl
              refine W.widen (k := 0) (n := 0) (Nat.le_of_ble_eq_true rfl) (Nat.le_of_ble_eq_true rfl) ?_
              exact W.iret (v := nI 0) hx hb hr (fun t ht9 hW9 => ⟨⟨nI 0, (), rfl, (lf_m_stir_16 o ktape know kread kkept ksnaps kaside kname kreadName kkeptName kisKept konces kpoured kfar ksides klines kmet ksunk ktrying ktext kline kwritten knode knowF ksnapsF kpouredF yn k52 r54 r59 r65 hN hok h1 h53 p55 c56 p60 c61 p66 c67), by rw [ht9]; exact hP9, va_K.moved hW9.alike hK, hD9⟩, hS.F ht9⟩) hS.2.2 dX12_stir_65
      · refine lv_aload_n hx hb dX12_stir_0 rfl (lv_at hl 0 rfl) ?_
        refine lv_iconst (v := nI 0) hx hb dX12_stir_1 (by decide) ?_
        refine va_put (D := (dC, dI)) (ci := 12) (v := .int (nI 0)) (ty := .int) (C := RX12) (T := TX12) (N := 52) hx hb hts hin12 tyX12 tyX12_ok nmX12 hown hK hP hD hS 0 rfl rfl 0 (by decide) (hts (.fieldLink RX12 1 "PorridgeSeaModel" "thrown" "I") (List.mem_of_getElem? (i := 1) rfl)) (fun _ h9 => h9) rfl (by decide +kernel) rfl rfl (Nat.le_of_ble_eq_true rfl) dX12_stir_2 (fun H locs hP hD hS => ?_)
        have hP : va_P (dC, dI) vwCl [(o, .inr (12, [.int (nI 0), .ref ktape, .int (nI 0), .int (nI 0), .int (nI 0), .int (nI 0), .int (nI 0), .int (nI 0), .int (nI 0), .int (nI 0), .int (nI 0), .int (nI 0), .long 0, .int (nI 0), .ref know, .ref kread, .ref kkept, .ref ksnaps, .ref kaside, .ref kname, .ref kreadName, .ref kkeptName, .ref kisKept, .ref konces, .int (nI 0), .int (nI 0), .ref kpoured, .ref kfar, .ref ksides, .int (nI 0), .int (-1 : Int32), .int (nI 0), .ref klines, .ref kmet, .int (nI 0), .ref ksunk, .ref ktrying, .int (nI 0), .int (-1 : Int32), .int (-1 : Int32), .ref ktext, .int (nI 0), .int (nI 0), .ref kline, .ref kwritten, .int (nI 0), .int (nI 0), .ref knode, .int (nI 0), .int (nI 0), .int (nI 0), .int (nI 0)])), (know, .inl (ky 0, 373, .inl knowF)), (ksnaps, .inl (ky 0, 512, .inl ksnapsF)), (kpoured, .inl (ky 0, 36, .inl kpouredF))] H := hP
        have hD : va_D A [(o, .inr (12, [.int (nI 0), .ref ktape, .int (nI 0), .int (nI 0), .int (nI 0), .int (nI 0), .int (nI 0), .int (nI 0), .int (nI 0), .int (nI 0), .int (nI 0), .int (nI 0), .long 0, .int (nI 0), .ref know, .ref kread, .ref kkept, .ref ksnaps, .ref kaside, .ref kname, .ref kreadName, .ref kkeptName, .ref kisKept, .ref konces, .int (nI 0), .int (nI 0), .ref kpoured, .ref kfar, .ref ksides, .int (nI 0), .int (-1 : Int32), .int (nI 0), .ref klines, .ref kmet, .int (nI 0), .ref ksunk, .ref ktrying, .int (nI 0), .int (-1 : Int32), .int (-1 : Int32), .ref ktext, .int (nI 0), .int (nI 0), .ref kline, .ref kwritten, .int (nI 0), .int (nI 0), .ref knode, .int (nI 0), .int (nI 0), .int (nI 0), .int (nI 0)])), (know, .inl (ky 0, 373, .inl knowF)), (ksnaps, .inl (ky 0, 512, .inl ksnapsF)), (kpoured, .inl (ky 0, 36, .inl kpouredF))] := hD
        refine lv_aload_n hx hb dX12_stir_5 rfl (lv_at hl 0 rfl) ?_
        refine lv_iconst (v := nI 0) hx hb dX12_stir_6 (by decide) ?_
        refine lv_iload_n hx hb dX12_stir_7 rfl (lv_at hl 1 rfl) ?_
        refine lv_iload_n hx hb dX12_stir_8 rfl (lv_at hl 2 rfl) ?_
        refine lv_iload_n hx hb dX12_stir_9 rfl (lv_at hl 3 rfl) ?_
        refine vp_callSi (W.runS (As := [.int (nI 1), .int (nI yn), .int (nI 1)]) (rest := [.int (nI 0), .ref o]) ⟨hx, hb, hml, hown, hts⟩ (c_m_lineOfN l dC dI ky 1 yn 1 (by omega) (by omega) (by omega)) (va_cwS 3 hts gX12_stir_X12_lineOf rfl rfl rfl (by decide +kernel) ⟨(Nat.le_of_ble_eq_true rfl), (Nat.le_of_ble_eq_true rfl)⟩) (pre_PS hK hP [] rfl) rfl rfl hl.1 rfl (lv_room (Nat.le_of_ble_eq_true rfl)) dX12_stir_10 ⟨(Nat.le_of_ble_eq_true rfl), (Nat.le_of_ble_eq_true rfl)⟩) (fun r74 p75 => ?_)
        obtain ⟨k76, h77, rfl⟩ := p75
        refine lv_iconst (v := nI 0) hx hb dX12_stir_13 (by decide) ?_
        refine lv_iload_n hx hb dX12_stir_14 rfl (lv_at hl 1 rfl) ?_
        refine lv_iconst (v := nI 0) hx hb dX12_stir_15 (by decide) ?_
        refine lv_iconst (v := nI 1) hx hb dX12_stir_16 (by decide) ?_
        refine vp_callSi (W.runS (As := [.int (nI 1), .int (nI 0), .int (nI 1)]) (rest := [.int (nI 0), .int (nI k76), .int (nI 0), .ref o]) ⟨hx, hb, hml, hown, hts⟩ (c_isIn l dC dI ky (nI 1) (nI 0) (nI 1)) (va_cwS 3 hts gX12_stir_X12_isIn rfl rfl rfl (by decide +kernel) ⟨(Nat.le_of_ble_eq_true rfl), (Nat.le_of_ble_eq_true rfl)⟩) (pre_PS hK hP [] rfl) rfl rfl hl.1 rfl (lv_room (Nat.le_of_ble_eq_true rfl)) dX12_stir_17 ⟨(Nat.le_of_ble_eq_true rfl), (Nat.le_of_ble_eq_true rfl)⟩) (fun r78 p79 => ?_)
        refine lv_if_eq (tgt := 61) hx hb dX12_stir_20 (by decide) (fun c80 => ?_) (fun c80 => ?_)
        · refine lv_iconst (v := nI 0) hx hb dX12_stir_61 (by decide) ?_
          refine vp_callSi (W.runV (As := [.int (nI 0), .int (nI k76), .int (nI 0), .int (nI 0)]) (rest := []) ⟨hx, hb, hml, hown, hts⟩ (c_m_actNo l dC dI ky o (nI 0) ktape (nI 0) (nI 0) (nI 0) (nI 0) (nI 0) (nI 0) (nI 0) (nI 0) (nI 0) (nI 0) 0 (nI 0) know kread kkept ksnaps kaside kname kreadName kkeptName kisKept konces (nI 0) (nI 0) kpoured kfar ksides (nI 0) (-1 : Int32) (nI 0) klines kmet (nI 0) ksunk ktrying (nI 0) (-1 : Int32) (-1 : Int32) ktext (nI 0) (nI 0) kline kwritten (nI 0) (nI 0) knode (nI 0) (nI 0) (nI 0) (nI 0) (nI 0) (nI k76) (nI 0)) (cwV 4 hts gX12_stir_X12_act rfl rfl rfl (by decide +kernel) ⟨(Nat.le_of_ble_eq_true rfl), (Nat.le_of_ble_eq_true rfl)⟩) (pre_PV hK hP [0] rfl (ci := 12) (q0 := 0) rfl rfl) rfl rfl hl.1 rfl (lv_room (Nat.le_of_ble_eq_true rfl)) dX12_stir_62 ⟨(Nat.le_of_ble_eq_true rfl), (Nat.le_of_ble_eq_true rfl)⟩) (fun r81 p82 => ?_)
          subst p82
          have hP9 := hP.sub (ws' := []) [] rfl
          have hD9 := hD.sub (ws' := []) [] (by decide) rfl
          refine W.widen (k := 0) (n := 0) (Nat.le_of_ble_eq_true rfl) (Nat.le_of_ble_eq_true rfl) ?_
          exact W.iret (v := (-1 : Int32)) hx hb hr (fun t ht9 hW9 => ⟨⟨(-1 : Int32), (), rfl, (lf_m_stir_17 o ktape know kread kkept ksnaps kaside kname kreadName kkeptName kisKept konces kpoured kfar ksides klines kmet ksunk ktrying ktext kline kwritten knode knowF ksnapsF kpouredF yn k76 r78 hN hok h1 h77 p79 c80), by rw [ht9]; exact hP9, va_K.moved hW9.alike hK, hD9⟩, hS.F ht9⟩) hS.2.2 dX12_stir_65
        · refine lv_iload_n hx hb dX12_stir_23 rfl (lv_at hl 3 rfl) ?_
          refine lv_iconst (v := nI 0) hx hb dX12_stir_24 (by decide) ?_
          refine lv_iconst (v := nI 1) hx hb dX12_stir_25 (by decide) ?_
          refine vp_callSi (W.runS (As := [.int (nI 1), .int (nI 0), .int (nI 1)]) (rest := [.int (nI 0), .int (nI k76), .int (nI 0), .ref o]) ⟨hx, hb, hml, hown, hts⟩ (c_isIn l dC dI ky (nI 1) (nI 0) (nI 1)) (va_cwS 3 hts gX12_stir_X12_isIn rfl rfl rfl (by decide +kernel) ⟨(Nat.le_of_ble_eq_true rfl), (Nat.le_of_ble_eq_true rfl)⟩) (pre_PS hK hP [] rfl) rfl rfl hl.1 rfl (lv_room (Nat.le_of_ble_eq_true rfl)) dX12_stir_26 ⟨(Nat.le_of_ble_eq_true rfl), (Nat.le_of_ble_eq_true rfl)⟩) (fun r83 p84 => ?_)
          refine lv_if_eq (tgt := 61) hx hb dX12_stir_29 (by decide) (fun c85 => ?_) (fun c85 => ?_)
          · refine lv_iconst (v := nI 0) hx hb dX12_stir_61 (by decide) ?_
            refine vp_callSi (W.runV (As := [.int (nI 0), .int (nI k76), .int (nI 0), .int (nI 0)]) (rest := []) ⟨hx, hb, hml, hown, hts⟩ (c_m_actNo l dC dI ky o (nI 0) ktape (nI 0) (nI 0) (nI 0) (nI 0) (nI 0) (nI 0) (nI 0) (nI 0) (nI 0) (nI 0) 0 (nI 0) know kread kkept ksnaps kaside kname kreadName kkeptName kisKept konces (nI 0) (nI 0) kpoured kfar ksides (nI 0) (-1 : Int32) (nI 0) klines kmet (nI 0) ksunk ktrying (nI 0) (-1 : Int32) (-1 : Int32) ktext (nI 0) (nI 0) kline kwritten (nI 0) (nI 0) knode (nI 0) (nI 0) (nI 0) (nI 0) (nI 0) (nI k76) (nI 0)) (cwV 4 hts gX12_stir_X12_act rfl rfl rfl (by decide +kernel) ⟨(Nat.le_of_ble_eq_true rfl), (Nat.le_of_ble_eq_true rfl)⟩) (pre_PV hK hP [0] rfl (ci := 12) (q0 := 0) rfl rfl) rfl rfl hl.1 rfl (lv_room (Nat.le_of_ble_eq_true rfl)) dX12_stir_62 ⟨(Nat.le_of_ble_eq_true rfl), (Nat.le_of_ble_eq_true rfl)⟩) (fun r86 p87 => ?_)
            subst p87
            have hP9 := hP.sub (ws' := []) [] rfl
            have hD9 := hD.sub (ws' := []) [] (by decide) rfl
            refine W.widen (k := 0) (n := 0) (Nat.le_of_ble_eq_true rfl) (Nat.le_of_ble_eq_true rfl) ?_
            exact W.iret (v := (-1 : Int32)) hx hb hr (fun t ht9 hW9 => ⟨⟨(-1 : Int32), (), rfl, (lf_m_stir_18 o ktape know kread kkept ksnaps kaside kname kreadName kkeptName kisKept konces kpoured kfar ksides klines kmet ksunk ktrying ktext kline kwritten knode knowF ksnapsF kpouredF yn k76 r78 r83 hN hok h1 h77 p79 c80 p84 c85), by rw [ht9]; exact hP9, va_K.moved hW9.alike hK, hD9⟩, hS.F ht9⟩) hS.2.2 dX12_stir_65
          · refine lv_iload_n hx hb dX12_stir_32 rfl (lv_at hl 2 rfl) ?_
            refine lv_iconst (v := nI 0) hx hb dX12_stir_33 (by decide) ?_
            refine lv_aload_n hx hb dX12_stir_34 rfl (lv_at hl 0 rfl) ?_
            refine va_get (D := (dC, dI)) (ci := 12) (v := .ref know) (C := RX12) (T := TX12) (N := 52) hx hb hts hin12 hown hK hP 0 rfl rfl 14 (by decide) (hts (.fieldLink RX12 98 "PorridgeSeaModel" "now" "[I") (List.mem_of_getElem? (i := 2) rfl)) (fun _ h9 => h9) rfl dX12_stir_35 ?_
            refine lv_iload_n hx hb dX12_stir_38 rfl (lv_at hl 1 rfl) ?_
            refine lv_iconst (v := nI 1) hx hb dX12_stir_39 (by decide) ?_
            refine lv_icmp_ne (tgt := 47) hx hb dX12_stir_40 (by decide) (fun c88 => absurd c88 (by decide)) (fun c88 => ?_)
            refine lv_iconst (v := nI 0) hx hb dX12_stir_43 (by decide) ?_
            refine lv_goto (tgt := 48) hx hb dX12_stir_44 (by decide) ?_
            refine r_iald hx hb hK hP 1 rfl 0 (by decide) (by decide) (nI 4) (NowOk.b hN).1 dX12_stir_48 ?_
            refine lv_iconst (v := nI 1) hx hb dX12_stir_49 (by decide) ?_
            refine lv_isub hx hb dX12_stir_50 ?_
            refine r_ti (nI 3) (by decide) ?_
            refine vp_callSi (W.runS (As := [.int (nI yn), .int (nI 0), .int (nI 3)]) (rest := [.int (nI 0), .int (nI k76), .int (nI 0), .ref o]) ⟨hx, hb, hml, hown, hts⟩ (c_isIn l dC dI ky (nI yn) (nI 0) (nI 3)) (va_cwS 3 hts gX12_stir_X12_isIn rfl rfl rfl (by decide +kernel) ⟨(Nat.le_of_ble_eq_true rfl), (Nat.le_of_ble_eq_true rfl)⟩) (pre_PS hK hP [] rfl) rfl rfl hl.1 rfl (lv_room (Nat.le_of_ble_eq_true rfl)) dX12_stir_51 ⟨(Nat.le_of_ble_eq_true rfl), (Nat.le_of_ble_eq_true rfl)⟩) (fun r89 p90 => ?_)
            refine lv_if_eq (tgt := 61) hx hb dX12_stir_54 (by decide) (fun c91 => ?_) (fun c91 => ?_)
            · refine lv_iconst (v := nI 0) hx hb dX12_stir_61 (by decide) ?_
              refine vp_callSi (W.runV (As := [.int (nI 0), .int (nI k76), .int (nI 0), .int (nI 0)]) (rest := []) ⟨hx, hb, hml, hown, hts⟩ (c_m_actNo l dC dI ky o (nI 0) ktape (nI 0) (nI 0) (nI 0) (nI 0) (nI 0) (nI 0) (nI 0) (nI 0) (nI 0) (nI 0) 0 (nI 0) know kread kkept ksnaps kaside kname kreadName kkeptName kisKept konces (nI 0) (nI 0) kpoured kfar ksides (nI 0) (-1 : Int32) (nI 0) klines kmet (nI 0) ksunk ktrying (nI 0) (-1 : Int32) (-1 : Int32) ktext (nI 0) (nI 0) kline kwritten (nI 0) (nI 0) knode (nI 0) (nI 0) (nI 0) (nI 0) (nI 0) (nI k76) (nI 0)) (cwV 4 hts gX12_stir_X12_act rfl rfl rfl (by decide +kernel) ⟨(Nat.le_of_ble_eq_true rfl), (Nat.le_of_ble_eq_true rfl)⟩) (pre_PV hK hP [0] rfl (ci := 12) (q0 := 0) rfl rfl) rfl rfl hl.1 rfl (lv_room (Nat.le_of_ble_eq_true rfl)) dX12_stir_62 ⟨(Nat.le_of_ble_eq_true rfl), (Nat.le_of_ble_eq_true rfl)⟩) (fun r92 p93 => ?_)
              subst p93
              have hP9 := hP.sub (ws' := []) [] rfl
              have hD9 := hD.sub (ws' := []) [] (by decide) rfl
              refine W.widen (k := 0) (n := 0) (Nat.le_of_ble_eq_true rfl) (Nat.le_of_ble_eq_true rfl) ?_
              exact W.iret (v := (-1 : Int32)) hx hb hr (fun t ht9 hW9 => ⟨⟨(-1 : Int32), (), rfl, (lf_m_stir_19 o ktape know kread kkept ksnaps kaside kname kreadName kkeptName kisKept konces kpoured kfar ksides klines kmet ksunk ktrying ktext kline kwritten knode knowF ksnapsF kpouredF yn k76 r78 r83 r89 hN hok h1 h77 p79 c80 p84 c85 p90 c91), by rw [ht9]; exact hP9, va_K.moved hW9.alike hK, hD9⟩, hS.F ht9⟩) hS.2.2 dX12_stir_65
            · refine lv_iconst (v := nI 1) hx hb dX12_stir_57 (by decide) ?_
              refine lv_goto (tgt := 62) hx hb dX12_stir_58 (by decide) ?_
              refine r_call_i (wr := []) (va_runV (As := [.int (nI 0), .int (nI k76), .int (nI 0), .int (nI 1)]) (rest := []) ⟨hx, hb, hml, hown, hts⟩ (c_m_act0 l dC dI ky H.size o (nI 0) ktape (nI 0) (nI 0) (nI 0) (nI 0) (nI 0) (nI 0) (nI 0) (nI 0) (nI 0) (nI 0) 0 (nI 0) know kread kkept ksnaps kaside kname kreadName kkeptName kisKept konces (nI 0) kpoured kfar ksides (nI 0) (-1 : Int32) (nI 0) klines kmet (nI 0) ksunk ktrying (nI 0) (-1 : Int32) (-1 : Int32) ktext (nI 0) (nI 0) kline kwritten (nI 0) (nI 0) knode (nI 0) (nI 0) (nI 0) (nI 0) knowF ksnapsF kpouredF k76 (nI 0) hN (by omega)) (cwV 4 hts gX12_stir_X12_act rfl rfl rfl (by decide +kernel) ⟨(Nat.le_of_ble_eq_true rfl), (Nat.le_of_ble_eq_true rfl)⟩) (pre_UV hK hP hD [0, 1, 2, 3] (by decide) rfl (ci := 12) (q0 := 0) rfl rfl) rfl rfl hl.1 rfl (lv_room (Nat.le_of_ble_eq_true rfl)) dX12_stir_62 ⟨(Nat.le_of_ble_eq_true rfl), (Nat.le_of_ble_eq_true rfl)⟩) hP hD hS hA [0, 1, 2, 3] [] rfl rfl (by decide) (by decide) (fun r96 u94 H locs p95 hP hD hS => ?_)
              try dsimp only at p95
              have p97 := p95
              refine W.widen (k := 0) (n := 0) (Nat.le_of_ble_eq_true rfl) (Nat.le_of_ble_eq_true rfl) ?_
              have hP : va_P (dC, dI) vwCl [] H := hP
              have hD : va_D A [] := hD
              subst p97
              have hP9 := hP.sub (ws' := []) [] rfl
              have hD9 := hD.sub (ws' := []) [] (by decide) rfl
              refine W.widen (k := 0) (n := 0) (Nat.le_of_ble_eq_true rfl) (Nat.le_of_ble_eq_true rfl) ?_
              exact W.iret (v := nI 0) hx hb hr (fun t ht9 hW9 => ⟨⟨nI 0, (), rfl, (lf_m_stir_20 o ktape know kread kkept ksnaps kaside kname kreadName kkeptName kisKept konces kpoured kfar ksides klines kmet ksunk ktrying ktext kline kwritten knode knowF ksnapsF kpouredF yn k76 r78 r83 r89 hN hok h1 h77 p79 c80 p84 c85 p90 c91), by rw [ht9]; exact hP9, va_K.moved hW9.alike hK, hD9⟩, hS.F ht9⟩) hS.2.2 dX12_stir_65
  · refine lv_aload_n hx hb dX12_stir_0 rfl (lv_at hl 0 rfl) ?_
    refine lv_iconst (v := nI 0) hx hb dX12_stir_1 (by decide) ?_
    refine va_put (D := (dC, dI)) (ci := 12) (v := .int (nI 0)) (ty := .int) (C := RX12) (T := TX12) (N := 52) hx hb hts hin12 tyX12 tyX12_ok nmX12 hown hK hP hD hS 0 rfl rfl 0 (by decide) (hts (.fieldLink RX12 1 "PorridgeSeaModel" "thrown" "I") (List.mem_of_getElem? (i := 1) rfl)) (fun _ h9 => h9) rfl (by decide +kernel) rfl rfl (Nat.le_of_ble_eq_true rfl) dX12_stir_2 (fun H locs hP hD hS => ?_)
    have hP : va_P (dC, dI) vwCl [(o, .inr (12, [.int (nI 0), .ref ktape, .int (nI 0), .int (nI 0), .int (nI 0), .int (nI 0), .int (nI 0), .int (nI 0), .int (nI 0), .int (nI 0), .int (nI 0), .int (nI 0), .long 0, .int (nI 0), .ref know, .ref kread, .ref kkept, .ref ksnaps, .ref kaside, .ref kname, .ref kreadName, .ref kkeptName, .ref kisKept, .ref konces, .int (nI 0), .int (nI 0), .ref kpoured, .ref kfar, .ref ksides, .int (nI 0), .int (-1 : Int32), .int (nI 0), .ref klines, .ref kmet, .int (nI 0), .ref ksunk, .ref ktrying, .int (nI 0), .int (-1 : Int32), .int (-1 : Int32), .ref ktext, .int (nI 0), .int (nI 0), .ref kline, .ref kwritten, .int (nI 0), .int (nI 0), .ref knode, .int (nI 0), .int (nI 0), .int (nI 0), .int (nI 0)])), (know, .inl (ky 0, 373, .inl knowF)), (ksnaps, .inl (ky 0, 512, .inl ksnapsF)), (kpoured, .inl (ky 0, 36, .inl kpouredF))] H := hP
    have hD : va_D A [(o, .inr (12, [.int (nI 0), .ref ktape, .int (nI 0), .int (nI 0), .int (nI 0), .int (nI 0), .int (nI 0), .int (nI 0), .int (nI 0), .int (nI 0), .int (nI 0), .int (nI 0), .long 0, .int (nI 0), .ref know, .ref kread, .ref kkept, .ref ksnaps, .ref kaside, .ref kname, .ref kreadName, .ref kkeptName, .ref kisKept, .ref konces, .int (nI 0), .int (nI 0), .ref kpoured, .ref kfar, .ref ksides, .int (nI 0), .int (-1 : Int32), .int (nI 0), .ref klines, .ref kmet, .int (nI 0), .ref ksunk, .ref ktrying, .int (nI 0), .int (-1 : Int32), .int (-1 : Int32), .ref ktext, .int (nI 0), .int (nI 0), .ref kline, .ref kwritten, .int (nI 0), .int (nI 0), .ref knode, .int (nI 0), .int (nI 0), .int (nI 0), .int (nI 0)])), (know, .inl (ky 0, 373, .inl knowF)), (ksnaps, .inl (ky 0, 512, .inl ksnapsF)), (kpoured, .inl (ky 0, 36, .inl kpouredF))] := hD
    refine lv_aload_n hx hb dX12_stir_5 rfl (lv_at hl 0 rfl) ?_
    refine lv_iconst (v := nI 0) hx hb dX12_stir_6 (by decide) ?_
    refine lv_iload_n hx hb dX12_stir_7 rfl (lv_at hl 1 rfl) ?_
    refine lv_iload_n hx hb dX12_stir_8 rfl (lv_at hl 2 rfl) ?_
    refine lv_iload_n hx hb dX12_stir_9 rfl (lv_at hl 3 rfl) ?_
    refine vp_callSi (W.runS (As := [.int x, .int y, .int n]) (rest := [.int (nI 0), .ref o]) ⟨hx, hb, hml, hown, hts⟩ (c_m_lineOf l dC dI ky x y n) (va_cwS 3 hts gX12_stir_X12_lineOf rfl rfl rfl (by decide +kernel) ⟨(Nat.le_of_ble_eq_true rfl), (Nat.le_of_ble_eq_true rfl)⟩) (pre_PS hK hP [] rfl) rfl rfl hl.1 rfl (lv_room (Nat.le_of_ble_eq_true rfl)) dX12_stir_10 ⟨(Nat.le_of_ble_eq_true rfl), (Nat.le_of_ble_eq_true rfl)⟩) (fun r98 p99 => ?_)
    refine lv_iconst (v := nI 0) hx hb dX12_stir_13 (by decide) ?_
    refine lv_iload_n hx hb dX12_stir_14 rfl (lv_at hl 1 rfl) ?_
    refine lv_iconst (v := nI 0) hx hb dX12_stir_15 (by decide) ?_
    refine lv_iconst (v := nI 1) hx hb dX12_stir_16 (by decide) ?_
    refine vp_callSi (W.runS (As := [.int x, .int (nI 0), .int (nI 1)]) (rest := [.int (nI 0), .int r98, .int (nI 0), .ref o]) ⟨hx, hb, hml, hown, hts⟩ (c_isIn l dC dI ky x (nI 0) (nI 1)) (va_cwS 3 hts gX12_stir_X12_isIn rfl rfl rfl (by decide +kernel) ⟨(Nat.le_of_ble_eq_true rfl), (Nat.le_of_ble_eq_true rfl)⟩) (pre_PS hK hP [] rfl) rfl rfl hl.1 rfl (lv_room (Nat.le_of_ble_eq_true rfl)) dX12_stir_17 ⟨(Nat.le_of_ble_eq_true rfl), (Nat.le_of_ble_eq_true rfl)⟩) (fun r100 p101 => ?_)
    refine lv_if_eq (tgt := 61) hx hb dX12_stir_20 (by decide) (fun c102 => ?_) (fun c102 => ?_)
    · refine lv_iconst (v := nI 0) hx hb dX12_stir_61 (by decide) ?_
      refine vp_callSi (W.runV (As := [.int (nI 0), .int r98, .int (nI 0), .int (nI 0)]) (rest := []) ⟨hx, hb, hml, hown, hts⟩ (c_m_actNo l dC dI ky o (nI 0) ktape (nI 0) (nI 0) (nI 0) (nI 0) (nI 0) (nI 0) (nI 0) (nI 0) (nI 0) (nI 0) 0 (nI 0) know kread kkept ksnaps kaside kname kreadName kkeptName kisKept konces (nI 0) (nI 0) kpoured kfar ksides (nI 0) (-1 : Int32) (nI 0) klines kmet (nI 0) ksunk ktrying (nI 0) (-1 : Int32) (-1 : Int32) ktext (nI 0) (nI 0) kline kwritten (nI 0) (nI 0) knode (nI 0) (nI 0) (nI 0) (nI 0) (nI 0) r98 (nI 0)) (cwV 4 hts gX12_stir_X12_act rfl rfl rfl (by decide +kernel) ⟨(Nat.le_of_ble_eq_true rfl), (Nat.le_of_ble_eq_true rfl)⟩) (pre_PV hK hP [0] rfl (ci := 12) (q0 := 0) rfl rfl) rfl rfl hl.1 rfl (lv_room (Nat.le_of_ble_eq_true rfl)) dX12_stir_62 ⟨(Nat.le_of_ble_eq_true rfl), (Nat.le_of_ble_eq_true rfl)⟩) (fun r103 p104 => ?_)
      subst p104
      have hP9 := hP.sub (ws' := []) [] rfl
      have hD9 := hD.sub (ws' := []) [] (by decide) rfl
      refine W.widen (k := 0) (n := 0) (Nat.le_of_ble_eq_true rfl) (Nat.le_of_ble_eq_true rfl) ?_
      exact W.iret (v := (-1 : Int32)) hx hb hr (fun t ht9 hW9 => ⟨⟨(-1 : Int32), (), rfl, (lf_m_stir_21 o ktape know kread kkept ksnaps kaside kname kreadName kkeptName kisKept konces kpoured kfar ksides klines kmet ksunk ktrying ktext kline kwritten knode knowF ksnapsF kpouredF x y n r98 r100 hN hnok p99 p101 c102), by rw [ht9]; exact hP9, va_K.moved hW9.alike hK, hD9⟩, hS.F ht9⟩) hS.2.2 dX12_stir_65
    · refine lv_iload_n hx hb dX12_stir_23 rfl (lv_at hl 3 rfl) ?_
      refine lv_iconst (v := nI 0) hx hb dX12_stir_24 (by decide) ?_
      refine lv_iconst (v := nI 1) hx hb dX12_stir_25 (by decide) ?_
      refine vp_callSi (W.runS (As := [.int n, .int (nI 0), .int (nI 1)]) (rest := [.int (nI 0), .int r98, .int (nI 0), .ref o]) ⟨hx, hb, hml, hown, hts⟩ (c_isIn l dC dI ky n (nI 0) (nI 1)) (va_cwS 3 hts gX12_stir_X12_isIn rfl rfl rfl (by decide +kernel) ⟨(Nat.le_of_ble_eq_true rfl), (Nat.le_of_ble_eq_true rfl)⟩) (pre_PS hK hP [] rfl) rfl rfl hl.1 rfl (lv_room (Nat.le_of_ble_eq_true rfl)) dX12_stir_26 ⟨(Nat.le_of_ble_eq_true rfl), (Nat.le_of_ble_eq_true rfl)⟩) (fun r105 p106 => ?_)
      refine lv_if_eq (tgt := 61) hx hb dX12_stir_29 (by decide) (fun c107 => ?_) (fun c107 => ?_)
      · refine lv_iconst (v := nI 0) hx hb dX12_stir_61 (by decide) ?_
        refine vp_callSi (W.runV (As := [.int (nI 0), .int r98, .int (nI 0), .int (nI 0)]) (rest := []) ⟨hx, hb, hml, hown, hts⟩ (c_m_actNo l dC dI ky o (nI 0) ktape (nI 0) (nI 0) (nI 0) (nI 0) (nI 0) (nI 0) (nI 0) (nI 0) (nI 0) (nI 0) 0 (nI 0) know kread kkept ksnaps kaside kname kreadName kkeptName kisKept konces (nI 0) (nI 0) kpoured kfar ksides (nI 0) (-1 : Int32) (nI 0) klines kmet (nI 0) ksunk ktrying (nI 0) (-1 : Int32) (-1 : Int32) ktext (nI 0) (nI 0) kline kwritten (nI 0) (nI 0) knode (nI 0) (nI 0) (nI 0) (nI 0) (nI 0) r98 (nI 0)) (cwV 4 hts gX12_stir_X12_act rfl rfl rfl (by decide +kernel) ⟨(Nat.le_of_ble_eq_true rfl), (Nat.le_of_ble_eq_true rfl)⟩) (pre_PV hK hP [0] rfl (ci := 12) (q0 := 0) rfl rfl) rfl rfl hl.1 rfl (lv_room (Nat.le_of_ble_eq_true rfl)) dX12_stir_62 ⟨(Nat.le_of_ble_eq_true rfl), (Nat.le_of_ble_eq_true rfl)⟩) (fun r108 p109 => ?_)
        subst p109
        have hP9 := hP.sub (ws' := []) [] rfl
        have hD9 := hD.sub (ws' := []) [] (by decide) rfl
        refine W.widen (k := 0) (n := 0) (Nat.le_of_ble_eq_true rfl) (Nat.le_of_ble_eq_true rfl) ?_
        exact W.iret (v := (-1 : Int32)) hx hb hr (fun t ht9 hW9 => ⟨⟨(-1 : Int32), (), rfl, (lf_m_stir_22 o ktape know kread kkept ksnaps kaside kname kreadName kkeptName kisKept konces kpoured kfar ksides klines kmet ksunk ktrying ktext kline kwritten knode knowF ksnapsF kpouredF x y n r98 r100 r105 hN hnok p99 p101 c102 p106 c107), by rw [ht9]; exact hP9, va_K.moved hW9.alike hK, hD9⟩, hS.F ht9⟩) hS.2.2 dX12_stir_65
      · refine lv_iload_n hx hb dX12_stir_32 rfl (lv_at hl 2 rfl) ?_
        refine lv_iconst (v := nI 0) hx hb dX12_stir_33 (by decide) ?_
        refine lv_aload_n hx hb dX12_stir_34 rfl (lv_at hl 0 rfl) ?_
        refine va_get (D := (dC, dI)) (ci := 12) (v := .ref know) (C := RX12) (T := TX12) (N := 52) hx hb hts hin12 hown hK hP 0 rfl rfl 14 (by decide) (hts (.fieldLink RX12 98 "PorridgeSeaModel" "now" "[I") (List.mem_of_getElem? (i := 2) rfl)) (fun _ h9 => h9) rfl dX12_stir_35 ?_
        refine lv_iload_n hx hb dX12_stir_38 rfl (lv_at hl 1 rfl) ?_
        refine lv_iconst (v := nI 1) hx hb dX12_stir_39 (by decide) ?_
        refine lv_icmp_ne (tgt := 47) hx hb dX12_stir_40 (by decide) (fun c110 => ?_) (fun c110 => ?_)
        · refine lv_iconst (v := nI 1) hx hb dX12_stir_47 (by decide) ?_
          refine r_iald hx hb hK hP 1 rfl 1 (by decide) (by decide) (nI 4) (NowOk.b hN).2.1 dX12_stir_48 ?_
          refine lv_iconst (v := nI 1) hx hb dX12_stir_49 (by decide) ?_
          refine lv_isub hx hb dX12_stir_50 ?_
          refine r_ti (nI 3) (by decide) ?_
          refine vp_callSi (W.runS (As := [.int y, .int (nI 0), .int (nI 3)]) (rest := [.int (nI 0), .int r98, .int (nI 0), .ref o]) ⟨hx, hb, hml, hown, hts⟩ (c_isIn l dC dI ky y (nI 0) (nI 3)) (va_cwS 3 hts gX12_stir_X12_isIn rfl rfl rfl (by decide +kernel) ⟨(Nat.le_of_ble_eq_true rfl), (Nat.le_of_ble_eq_true rfl)⟩) (pre_PS hK hP [] rfl) rfl rfl hl.1 rfl (lv_room (Nat.le_of_ble_eq_true rfl)) dX12_stir_51 ⟨(Nat.le_of_ble_eq_true rfl), (Nat.le_of_ble_eq_true rfl)⟩) (fun r111 p112 => ?_)
          refine lv_if_eq (tgt := 61) hx hb dX12_stir_54 (by decide) (fun c113 => ?_) (fun c113 => ?_)
          · refine lv_iconst (v := nI 0) hx hb dX12_stir_61 (by decide) ?_
            refine vp_callSi (W.runV (As := [.int (nI 0), .int r98, .int (nI 0), .int (nI 0)]) (rest := []) ⟨hx, hb, hml, hown, hts⟩ (c_m_actNo l dC dI ky o (nI 0) ktape (nI 0) (nI 0) (nI 0) (nI 0) (nI 0) (nI 0) (nI 0) (nI 0) (nI 0) (nI 0) 0 (nI 0) know kread kkept ksnaps kaside kname kreadName kkeptName kisKept konces (nI 0) (nI 0) kpoured kfar ksides (nI 0) (-1 : Int32) (nI 0) klines kmet (nI 0) ksunk ktrying (nI 0) (-1 : Int32) (-1 : Int32) ktext (nI 0) (nI 0) kline kwritten (nI 0) (nI 0) knode (nI 0) (nI 0) (nI 0) (nI 0) (nI 0) r98 (nI 0)) (cwV 4 hts gX12_stir_X12_act rfl rfl rfl (by decide +kernel) ⟨(Nat.le_of_ble_eq_true rfl), (Nat.le_of_ble_eq_true rfl)⟩) (pre_PV hK hP [0] rfl (ci := 12) (q0 := 0) rfl rfl) rfl rfl hl.1 rfl (lv_room (Nat.le_of_ble_eq_true rfl)) dX12_stir_62 ⟨(Nat.le_of_ble_eq_true rfl), (Nat.le_of_ble_eq_true rfl)⟩) (fun r114 p115 => ?_)
            subst p115
            have hP9 := hP.sub (ws' := []) [] rfl
            have hD9 := hD.sub (ws' := []) [] (by decide) rfl
            refine W.widen (k := 0) (n := 0) (Nat.le_of_ble_eq_true rfl) (Nat.le_of_ble_eq_true rfl) ?_
            exact W.iret (v := (-1 : Int32)) hx hb hr (fun t ht9 hW9 => ⟨⟨(-1 : Int32), (), rfl, (lf_m_stir_23 o ktape know kread kkept ksnaps kaside kname kreadName kkeptName kisKept konces kpoured kfar ksides klines kmet ksunk ktrying ktext kline kwritten knode knowF ksnapsF kpouredF x y n r98 r100 r105 r111 hN hnok p99 p101 c102 p106 c107 c110 p112 c113), by rw [ht9]; exact hP9, va_K.moved hW9.alike hK, hD9⟩, hS.F ht9⟩) hS.2.2 dX12_stir_65
          · exact ((lf_m_stir_24 o ktape know kread kkept ksnaps kaside kname kreadName kkeptName kisKept konces kpoured kfar ksides klines kmet ksunk ktrying ktext kline kwritten knode knowF ksnapsF kpouredF x y n r98 r100 r105 r111 hN hnok p99 p101 c102 p106 c107 c110 p112 c113)).elim
        · refine lv_iconst (v := nI 0) hx hb dX12_stir_43 (by decide) ?_
          refine lv_goto (tgt := 48) hx hb dX12_stir_44 (by decide) ?_
          refine r_iald hx hb hK hP 1 rfl 0 (by decide) (by decide) (nI 4) (NowOk.b hN).1 dX12_stir_48 ?_
          refine lv_iconst (v := nI 1) hx hb dX12_stir_49 (by decide) ?_
          refine lv_isub hx hb dX12_stir_50 ?_
          refine r_ti (nI 3) (by decide) ?_
          refine vp_callSi (W.runS (As := [.int y, .int (nI 0), .int (nI 3)]) (rest := [.int (nI 0), .int r98, .int (nI 0), .ref o]) ⟨hx, hb, hml, hown, hts⟩ (c_isIn l dC dI ky y (nI 0) (nI 3)) (va_cwS 3 hts gX12_stir_X12_isIn rfl rfl rfl (by decide +kernel) ⟨(Nat.le_of_ble_eq_true rfl), (Nat.le_of_ble_eq_true rfl)⟩) (pre_PS hK hP [] rfl) rfl rfl hl.1 rfl (lv_room (Nat.le_of_ble_eq_true rfl)) dX12_stir_51 ⟨(Nat.le_of_ble_eq_true rfl), (Nat.le_of_ble_eq_true rfl)⟩) (fun r116 p117 => ?_)
          refine lv_if_eq (tgt := 61) hx hb dX12_stir_54 (by decide) (fun c118 => ?_) (fun c118 => ?_)
          · refine lv_iconst (v := nI 0) hx hb dX12_stir_61 (by decide) ?_
            refine vp_callSi (W.runV (As := [.int (nI 0), .int r98, .int (nI 0), .int (nI 0)]) (rest := []) ⟨hx, hb, hml, hown, hts⟩ (c_m_actNo l dC dI ky o (nI 0) ktape (nI 0) (nI 0) (nI 0) (nI 0) (nI 0) (nI 0) (nI 0) (nI 0) (nI 0) (nI 0) 0 (nI 0) know kread kkept ksnaps kaside kname kreadName kkeptName kisKept konces (nI 0) (nI 0) kpoured kfar ksides (nI 0) (-1 : Int32) (nI 0) klines kmet (nI 0) ksunk ktrying (nI 0) (-1 : Int32) (-1 : Int32) ktext (nI 0) (nI 0) kline kwritten (nI 0) (nI 0) knode (nI 0) (nI 0) (nI 0) (nI 0) (nI 0) r98 (nI 0)) (cwV 4 hts gX12_stir_X12_act rfl rfl rfl (by decide +kernel) ⟨(Nat.le_of_ble_eq_true rfl), (Nat.le_of_ble_eq_true rfl)⟩) (pre_PV hK hP [0] rfl (ci := 12) (q0 := 0) rfl rfl) rfl rfl hl.1 rfl (lv_room (Nat.le_of_ble_eq_true rfl)) dX12_stir_62 ⟨(Nat.le_of_ble_eq_true rfl), (Nat.le_of_ble_eq_true rfl)⟩) (fun r119 p120 => ?_)
            subst p120
            have hP9 := hP.sub (ws' := []) [] rfl
            have hD9 := hD.sub (ws' := []) [] (by decide) rfl
            refine W.widen (k := 0) (n := 0) (Nat.le_of_ble_eq_true rfl) (Nat.le_of_ble_eq_true rfl) ?_
            exact W.iret (v := (-1 : Int32)) hx hb hr (fun t ht9 hW9 => ⟨⟨(-1 : Int32), (), rfl, (lf_m_stir_25 o ktape know kread kkept ksnaps kaside kname kreadName kkeptName kisKept konces kpoured kfar ksides klines kmet ksunk ktrying ktext kline kwritten knode knowF ksnapsF kpouredF x y n r98 r100 r105 r116 hN hnok p99 p101 c102 p106 c107 c110 p117 c118), by rw [ht9]; exact hP9, va_K.moved hW9.alike hK, hD9⟩, hS.F ht9⟩) hS.2.2 dX12_stir_65
          · exact ((lf_m_stir_26 o ktape know kread kkept ksnaps kaside kname kreadName kkeptName kisKept konces kpoured kfar ksides klines kmet ksunk ktrying ktext kline kwritten knode knowF ksnapsF kpouredF x y n r98 r100 r105 r116 hN hnok p99 p101 c102 p106 c107 c110 p117 c118)).elim
set_option maxHeartbeats 4000000 in
set_option maxRecDepth 100000 in
theorem c_m_row (l : Launch) (dC : Nat → ClassId) (dI : Nat → Nat → Nat) (ky : Nat → ClassId) (sz : Nat) (o : Nat) (ktape : Nat) (know : Nat) (kread : Nat) (kkept : Nat) (ksnaps : Nat) (kaside : Nat) (kname : Nat) (kreadName : Nat) (kkeptName : Nat) (kisKept : Nat) (konces : Nat) (kpoured : Nat) (kfar : Nat) (ksides : Nat) (klines : Nat) (kmet : Nat) (ksunk : Nat) (ktrying : Nat) (ktext : Nat) (kline : Nat) (kwritten : Nat) (knode : Nat) (knowF : Nat → Int32) (x : Int32) (y : Int32) (hN : NowOk knowF) : Met l yX12_row wsX12_row ({ frames := 2, cells := 0, slots := 0, locals := 43 }) (PcU dC dI ky [.ref o, .int x, .int y] [(o, .inr (12, [.int (nI 0), .ref ktape, .int (nI 0), .int (nI 0), .int (nI 0), .int (nI 0), .int (nI 0), .int (nI 0), .int (nI 0), .int (nI 0), .int (nI 0), .int (nI 0), .long 0, .int (nI 0), .ref know, .ref kread, .ref kkept, .ref ksnaps, .ref kaside, .ref kname, .ref kreadName, .ref kkeptName, .ref kisKept, .ref konces, .int (nI 0), .int (nI 0), .ref kpoured, .ref kfar, .ref ksides, .int (nI 0), .int (-1 : Int32), .int (nI 0), .ref klines, .ref kmet, .int (nI 0), .ref ksunk, .ref ktrying, .int (nI 0), .int (-1 : Int32), .int (-1 : Int32), .ref ktext, .int (nI 0), .int (nI 0), .ref kline, .ref kwritten, .int (nI 0), .int (nI 0), .ref knode, .int (nI 0), .int (nI 0), .int (nI 0), .int (nI 0)])), (know, .inl (ky 0, 373, .inl knowF))] sz) (va_Qi (fun (r : Int32) (_ : Unit) => r = (-1 : Int32)) (BU dC dI ky (fun (_ : Unit) => []) (va_A [(o, .inr (12, [.int (nI 0), .ref ktape, .int (nI 0), .int (nI 0), .int (nI 0), .int (nI 0), .int (nI 0), .int (nI 0), .int (nI 0), .int (nI 0), .int (nI 0), .int (nI 0), .long 0, .int (nI 0), .ref know, .ref kread, .ref kkept, .ref ksnaps, .ref kaside, .ref kname, .ref kreadName, .ref kkeptName, .ref kisKept, .ref konces, .int (nI 0), .int (nI 0), .ref kpoured, .ref kfar, .ref ksides, .int (nI 0), .int (-1 : Int32), .int (nI 0), .ref klines, .ref kmet, .int (nI 0), .ref ksunk, .ref ktrying, .int (nI 0), .int (-1 : Int32), .int (-1 : Int32), .ref ktext, .int (nI 0), .int (nI 0), .ref kline, .ref kwritten, .int (nI 0), .int (nI 0), .ref knode, .int (nI 0), .int (nI 0), .int (nI 0), .int (nI 0)])), (know, .inl (ky 0, 373, .inl knowF))] sz)) (va_A [(o, .inr (12, [.int (nI 0), .ref ktape, .int (nI 0), .int (nI 0), .int (nI 0), .int (nI 0), .int (nI 0), .int (nI 0), .int (nI 0), .int (nI 0), .int (nI 0), .int (nI 0), .long 0, .int (nI 0), .ref know, .ref kread, .ref kkept, .ref ksnaps, .ref kaside, .ref kname, .ref kreadName, .ref kkeptName, .ref kisKept, .ref konces, .int (nI 0), .int (nI 0), .ref kpoured, .ref kfar, .ref ksides, .int (nI 0), .int (-1 : Int32), .int (nI 0), .ref klines, .ref kmet, .int (nI 0), .ref ksunk, .ref ktrying, .int (nI 0), .int (-1 : Int32), .int (-1 : Int32), .ref ktext, .int (nI 0), .int (nI 0), .ref kline, .ref kwritten, .int (nI 0), .int (nI 0), .ref knode, .int (nI 0), .int (nI 0), .int (nI 0), .int (nI 0)])), (know, .inl (ky 0, 373, .inl knowF))] sz)) 0 0 (va_A [(o, .inr (12, [.int (nI 0), .ref ktape, .int (nI 0), .int (nI 0), .int (nI 0), .int (nI 0), .int (nI 0), .int (nI 0), .int (nI 0), .int (nI 0), .int (nI 0), .int (nI 0), .long 0, .int (nI 0), .ref know, .ref kread, .ref kkept, .ref ksnaps, .ref kaside, .ref kname, .ref kreadName, .ref kkeptName, .ref kisKept, .ref konces, .int (nI 0), .int (nI 0), .ref kpoured, .ref kfar, .ref ksides, .int (nI 0), .int (-1 : Int32), .int (nI 0), .ref klines, .ref kmet, .int (nI 0), .ref ksunk, .ref ktrying, .int (nI 0), .int (-1 : Int32), .int (-1 : Int32), .ref ktext, .int (nI 0), .int (nI 0), .ref kline, .ref kwritten, .int (nI 0), .int (nI 0), .ref knode, .int (nI 0), .int (nI 0), .int (nI 0), .int (nI 0)])), (know, .inl (ky 0, 373, .inl knowF))] sz) := by
  refine Met.ofW (cc := cX12_row) (maxL := 3) (ret := (some .int)) (by decide) rfl ?_
  intro p e s m args below meth c s₁ B hml hv
  obtain ⟨rfl, hsz, hP, hK, hD0⟩ := hv
  have hx := B.exec
  have hb := B.bytes
  have hr := B.returns
  have hts := atoms_spec (ws := wsX12_row) B.pre
  have hown : s.vm.findClass RX12 = some m.cls := findClass_of_methodNamed B.named
  have hlocks := B.notSynchronized
  have hin12 : ∀ w ∈ u_ws RX12 TX12 52, w ∈ wsX12_row := by decide +kernel
  subst hsz
  have hD := hD0.self (sz := s.heap.size)
  generalize hAe : va_A [(o, .inr (12, [.int (nI 0), .ref ktape, .int (nI 0), .int (nI 0), .int (nI 0), .int (nI 0), .int (nI 0), .int (nI 0), .int (nI 0), .int (nI 0), .int (nI 0), .int (nI 0), .long 0, .int (nI 0), .ref know, .ref kread, .ref kkept, .ref ksnaps, .ref kaside, .ref kname, .ref kreadName, .ref kkeptName, .ref kisKept, .ref konces, .int (nI 0), .int (nI 0), .ref kpoured, .ref kfar, .ref ksides, .int (nI 0), .int (-1 : Int32), .int (nI 0), .ref klines, .ref kmet, .int (nI 0), .ref ksunk, .ref ktrying, .int (nI 0), .int (-1 : Int32), .int (-1 : Int32), .ref ktext, .int (nI 0), .int (nI 0), .ref kline, .ref kwritten, .int (nI 0), .int (nI 0), .ref knode, .int (nI 0), .int (nI 0), .int (nI 0), .int (nI 0)])), (know, .inl (ky 0, 373, .inl knowF))] s.heap.size = A at hD ⊢
  have hA : ∀ q : Nat, s.heap.size ≤ q → A q := fun q h => by rw [← hAe]; exact Or.inr h
  have hS : va_S A s.heap s.heap [] := va_S.rf
  have hP : va_P (dC, dI) vwCl [(o, .inr (12, [.int (nI 0), .ref ktape, .int (nI 0), .int (nI 0), .int (nI 0), .int (nI 0), .int (nI 0), .int (nI 0), .int (nI 0), .int (nI 0), .int (nI 0), .int (nI 0), .long 0, .int (nI 0), .ref know, .ref kread, .ref kkept, .ref ksnaps, .ref kaside, .ref kname, .ref kreadName, .ref kkeptName, .ref kisKept, .ref konces, .int (nI 0), .int (nI 0), .ref kpoured, .ref kfar, .ref ksides, .int (nI 0), .int (-1 : Int32), .int (nI 0), .ref klines, .ref kmet, .int (nI 0), .ref ksunk, .ref ktrying, .int (nI 0), .int (-1 : Int32), .int (-1 : Int32), .ref ktext, .int (nI 0), .int (nI 0), .ref kline, .ref kwritten, .int (nI 0), .int (nI 0), .ref knode, .int (nI 0), .int (nI 0), .int (nI 0), .int (nI 0)])), (know, .inl (ky 0, 373, .inl knowF))] s.heap := hP
  have hl := lv_entry ([.ref o, .int x, .int y]) (n := 3) (Nat.le_of_ble_eq_true rfl)
  rw [lg_entry_eq]
  generalize (lg_sl ([.ref o, .int x, .int y]) ++ List.replicate (3 - (lg_sl ([.ref o, .int x, .int y])).length) Slot.unset).toArray = ls at hl ⊢
  have hl : lv_has ls 3 [(0, .ref o), (1, .int x), (2, .int y)] := hl
  have hH0 : True := trivial
  refine lv_aload_n hx hb dX12_row_0 rfl (lv_at hl 0 rfl) ?_
  refine lv_iconst (v := nI 0) hx hb dX12_row_1 (by decide) ?_
  refine va_put (D := (dC, dI)) (ci := 12) (v := .int (nI 0)) (ty := .int) (C := RX12) (T := TX12) (N := 52) hx hb hts hin12 tyX12 tyX12_ok nmX12 hown hK hP hD hS 0 rfl rfl 0 (by decide) (hts (.fieldLink RX12 1 "PorridgeSeaModel" "thrown" "I") (List.mem_of_getElem? (i := 1) rfl)) (fun _ h9 => h9) rfl (by decide +kernel) rfl rfl (Nat.le_of_ble_eq_true rfl) dX12_row_2 (fun H locs hP hD hS => ?_)
  have hP : va_P (dC, dI) vwCl [(o, .inr (12, [.int (nI 0), .ref ktape, .int (nI 0), .int (nI 0), .int (nI 0), .int (nI 0), .int (nI 0), .int (nI 0), .int (nI 0), .int (nI 0), .int (nI 0), .int (nI 0), .long 0, .int (nI 0), .ref know, .ref kread, .ref kkept, .ref ksnaps, .ref kaside, .ref kname, .ref kreadName, .ref kkeptName, .ref kisKept, .ref konces, .int (nI 0), .int (nI 0), .ref kpoured, .ref kfar, .ref ksides, .int (nI 0), .int (-1 : Int32), .int (nI 0), .ref klines, .ref kmet, .int (nI 0), .ref ksunk, .ref ktrying, .int (nI 0), .int (-1 : Int32), .int (-1 : Int32), .ref ktext, .int (nI 0), .int (nI 0), .ref kline, .ref kwritten, .int (nI 0), .int (nI 0), .ref knode, .int (nI 0), .int (nI 0), .int (nI 0), .int (nI 0)])), (know, .inl (ky 0, 373, .inl knowF))] H := hP
  have hD : va_D A [(o, .inr (12, [.int (nI 0), .ref ktape, .int (nI 0), .int (nI 0), .int (nI 0), .int (nI 0), .int (nI 0), .int (nI 0), .int (nI 0), .int (nI 0), .int (nI 0), .int (nI 0), .long 0, .int (nI 0), .ref know, .ref kread, .ref kkept, .ref ksnaps, .ref kaside, .ref kname, .ref kreadName, .ref kkeptName, .ref kisKept, .ref konces, .int (nI 0), .int (nI 0), .ref kpoured, .ref kfar, .ref ksides, .int (nI 0), .int (-1 : Int32), .int (nI 0), .ref klines, .ref kmet, .int (nI 0), .ref ksunk, .ref ktrying, .int (nI 0), .int (-1 : Int32), .int (-1 : Int32), .ref ktext, .int (nI 0), .int (nI 0), .ref kline, .ref kwritten, .int (nI 0), .int (nI 0), .ref knode, .int (nI 0), .int (nI 0), .int (nI 0), .int (nI 0)])), (know, .inl (ky 0, 373, .inl knowF))] := hD
  refine lv_aload_n hx hb dX12_row_5 rfl (lv_at hl 0 rfl) ?_
  refine lv_iconst (v := nI 1) hx hb dX12_row_6 (by decide) ?_
  refine lv_iload_n hx hb dX12_row_7 rfl (lv_at hl 1 rfl) ?_
  refine lv_iload_n hx hb dX12_row_8 rfl (lv_at hl 2 rfl) ?_
  refine lv_aload_n hx hb dX12_row_9 rfl (lv_at hl 0 rfl) ?_
  refine lv_iload_n hx hb dX12_row_10 rfl (lv_at hl 1 rfl) ?_
  refine vp_callSi (W.runV (As := [.int x]) (rest := [.int y, .int x, .int (nI 1), .ref o]) ⟨hx, hb, hml, hown, hts⟩ (c_m_isBoat l dC dI ky o (nI 0) ktape (nI 0) (nI 0) (nI 0) (nI 0) (nI 0) (nI 0) (nI 0) (nI 0) (nI 0) (nI 0) 0 (nI 0) know kread kkept ksnaps kaside kname kreadName kkeptName kisKept konces (nI 0) (nI 0) kpoured kfar ksides (nI 0) (-1 : Int32) (nI 0) klines kmet (nI 0) ksunk ktrying (nI 0) (-1 : Int32) (-1 : Int32) ktext (nI 0) (nI 0) kline kwritten (nI 0) (nI 0) knode (nI 0) (nI 0) (nI 0) (nI 0) knowF x (NowOk.b hN)) (cwV 1 hts gX12_row_X12_isBoat rfl rfl rfl (by decide +kernel) ⟨(Nat.le_of_ble_eq_true rfl), (Nat.le_of_ble_eq_true rfl)⟩) (pre_PV hK hP [0, 1] rfl (ci := 12) (q0 := 0) rfl rfl) rfl rfl hl.1 rfl (lv_room (Nat.le_of_ble_eq_true rfl)) dX12_row_11 ⟨(Nat.le_of_ble_eq_true rfl), (Nat.le_of_ble_eq_true rfl)⟩) (fun r1 p2 => ?_)
  subst p2
  refine lv_if_eq (tgt := 30) hx hb dX12_row_14 (by decide) (fun c3 => ?_) (fun c3 => absurd (by decide) c3)
  refine lv_iconst (v := nI 0) hx hb dX12_row_30 (by decide) ?_
  refine vp_callSi (W.runV (As := [.int (nI 1), .int x, .int y, .int (nI 0)]) (rest := []) ⟨hx, hb, hml, hown, hts⟩ (c_m_actNo l dC dI ky o (nI 0) ktape (nI 0) (nI 0) (nI 0) (nI 0) (nI 0) (nI 0) (nI 0) (nI 0) (nI 0) (nI 0) 0 (nI 0) know kread kkept ksnaps kaside kname kreadName kkeptName kisKept konces (nI 0) (nI 0) kpoured kfar ksides (nI 0) (-1 : Int32) (nI 0) klines kmet (nI 0) ksunk ktrying (nI 0) (-1 : Int32) (-1 : Int32) ktext (nI 0) (nI 0) kline kwritten (nI 0) (nI 0) knode (nI 0) (nI 0) (nI 0) (nI 0) (nI 1) x y) (cwV 4 hts gX12_row_X12_act rfl rfl rfl (by decide +kernel) ⟨(Nat.le_of_ble_eq_true rfl), (Nat.le_of_ble_eq_true rfl)⟩) (pre_PV hK hP [0] rfl (ci := 12) (q0 := 0) rfl rfl) rfl rfl hl.1 rfl (lv_room (Nat.le_of_ble_eq_true rfl)) dX12_row_31 ⟨(Nat.le_of_ble_eq_true rfl), (Nat.le_of_ble_eq_true rfl)⟩) (fun r4 p5 => ?_)
  subst p5
  have hP9 := hP.sub (ws' := []) [] rfl
  have hD9 := hD.sub (ws' := []) [] (by decide) rfl
  refine W.widen (k := 0) (n := 0) (Nat.le_of_ble_eq_true rfl) (Nat.le_of_ble_eq_true rfl) ?_
  exact W.iret (v := (-1 : Int32)) hx hb hr (fun t ht9 hW9 => ⟨⟨(-1 : Int32), (), rfl, rfl, by rw [ht9]; exact hP9, va_K.moved hW9.alike hK, hD9⟩, hS.F ht9⟩) hS.2.2 dX12_row_34
set_option maxRecDepth 20000 in
theorem lf_m_flour_1 (o : Nat) (ktape : Nat) (know : Nat) (kread : Nat) (kkept : Nat) (ksnaps : Nat) (kaside : Nat) (kname : Nat) (kreadName : Nat) (kkeptName : Nat) (kisKept : Nat) (konces : Nat) (kpoured : Nat) (kfar : Nat) (ksides : Nat) (klines : Nat) (kmet : Nat) (ksunk : Nat) (ktrying : Nat) (ktext : Nat) (kline : Nat) (kwritten : Nat) (knode : Nat) (knowF : Nat → Int32) (ksnapsF : Nat → Int32) (x : Int32) (y : Int32) (n : Int32) (hN : NowOk knowF) (hok : 0 ≤ x.toInt ∧ x.toInt < 4 ∧ 0 ≤ y.toInt ∧ y.toInt < 4 ∧ 1 ≤ n.toInt ∧ n.toInt ≤ 9) : 0 ≤ x.toInt ∧ x.toInt < ((4 : Nat) : Int) := by
  simp only [ia_lt, ia_le, ia_eq, ia_m1, ia_0, ia_1, ne_eq, true_and, and_true, false_and, and_false, or_false, false_or, or_true, true_or, not_true_eq_false, not_false_eq_true] at *
  all_goals omega
set_option maxRecDepth 20000 in
theorem lf_m_flour_2 (o : Nat) (ktape : Nat) (know : Nat) (kread : Nat) (kkept : Nat) (ksnaps : Nat) (kaside : Nat) (kname : Nat) (kreadName : Nat) (kkeptName : Nat) (kisKept : Nat) (konces : Nat) (kpoured : Nat) (kfar : Nat) (ksides : Nat) (klines : Nat) (kmet : Nat) (ksunk : Nat) (ktrying : Nat) (ktext : Nat) (kline : Nat) (kwritten : Nat) (knode : Nat) (knowF : Nat → Int32) (ksnapsF : Nat → Int32) (y : Int32) (n : Int32) (xn : Nat) (hN : NowOk knowF) (hok : 0 ≤ (nI xn).toInt ∧ (nI xn).toInt < 4 ∧ 0 ≤ y.toInt ∧ y.toInt < 4 ∧ 1 ≤ n.toInt ∧ n.toInt ≤ 9) (h1 : xn < 4) : 0 ≤ y.toInt ∧ y.toInt < ((4 : Nat) : Int) := by
  have k_0 := ia_n xn (by omega)
  simp only [ia_lt, ia_le, ia_eq, ia_m1, ia_0, ia_1, ne_eq, true_and, and_true, false_and, and_false, or_false, false_or, or_true, true_or, not_true_eq_false, not_false_eq_true] at *
  all_goals omega
set_option maxRecDepth 20000 in
theorem lf_m_flour_3 (o : Nat) (ktape : Nat) (know : Nat) (kread : Nat) (kkept : Nat) (ksnaps : Nat) (kaside : Nat) (kname : Nat) (kreadName : Nat) (kkeptName : Nat) (kisKept : Nat) (konces : Nat) (kpoured : Nat) (kfar : Nat) (ksides : Nat) (klines : Nat) (kmet : Nat) (ksunk : Nat) (ktrying : Nat) (ktext : Nat) (kline : Nat) (kwritten : Nat) (knode : Nat) (knowF : Nat → Int32) (ksnapsF : Nat → Int32) (n : Int32) (xn : Nat) (yn : Nat) (r3 : Int32) (hN : NowOk knowF) (hok : 0 ≤ (nI xn).toInt ∧ (nI xn).toInt < 4 ∧ 0 ≤ (nI yn).toInt ∧ (nI yn).toInt < 4 ∧ 1 ≤ n.toInt ∧ n.toInt ≤ 9) (h1 : xn < 4) (h2 : yn < 4) (p4 : (r3 = nI 1 ∧ (0 ≤ (nI xn).toInt ∧ (nI xn).toInt < 4 ∧ 0 ≤ (nI yn).toInt ∧ (nI yn).toInt < 4)) ∨ (r3 = nI 0 ∧ ¬ (0 ≤ (nI xn).toInt ∧ (nI xn).toInt < 4 ∧ 0 ≤ (nI yn).toInt ∧ (nI yn).toInt < 4))) (c5 : r3 = 0) : ((-1 : Int32) = (-1 : Int32) ∧ ¬ (0 ≤ (nI xn).toInt ∧ (nI xn).toInt < 4 ∧ 0 ≤ (nI yn).toInt ∧ (nI yn).toInt < 4 ∧ 1 ≤ n.toInt ∧ n.toInt ≤ 9)) ∨ ((-1 : Int32) = nI 0 ∧ (0 ≤ (nI xn).toInt ∧ (nI xn).toInt < 4 ∧ 0 ≤ (nI yn).toInt ∧ (nI yn).toInt < 4 ∧ 1 ≤ n.toInt ∧ n.toInt ≤ 9)) := by
  have k_0 := ia_n xn (by omega)
  have k_1 := ia_n yn (by omega)
  have k_2 := ia_n 1 (by decide)
  have k_3 := ia_n 0 (by decide)
  simp only [ia_lt, ia_le, ia_eq, ia_m1, ia_0, ia_1, ne_eq, true_and, and_true, false_and, and_false, or_false, false_or, or_true, true_or, not_true_eq_false, not_false_eq_true] at *
  all_goals omega
set_option maxRecDepth 20000 in
theorem lf_m_flour_4 (o : Nat) (ktape : Nat) (know : Nat) (kread : Nat) (kkept : Nat) (ksnaps : Nat) (kaside : Nat) (kname : Nat) (kreadName : Nat) (kkeptName : Nat) (kisKept : Nat) (konces : Nat) (kpoured : Nat) (kfar : Nat) (ksides : Nat) (klines : Nat) (kmet : Nat) (ksunk : Nat) (ktrying : Nat) (ktext : Nat) (kline : Nat) (kwritten : Nat) (knode : Nat) (knowF : Nat → Int32) (ksnapsF : Nat → Int32) (n : Int32) (xn : Nat) (yn : Nat) (r3 : Int32) (r8 : Int32) (hN : NowOk knowF) (hok : 0 ≤ (nI xn).toInt ∧ (nI xn).toInt < 4 ∧ 0 ≤ (nI yn).toInt ∧ (nI yn).toInt < 4 ∧ 1 ≤ n.toInt ∧ n.toInt ≤ 9) (h1 : xn < 4) (h2 : yn < 4) (p4 : (r3 = nI 1 ∧ (0 ≤ (nI xn).toInt ∧ (nI xn).toInt < 4 ∧ 0 ≤ (nI yn).toInt ∧ (nI yn).toInt < 4)) ∨ (r3 = nI 0 ∧ ¬ (0 ≤ (nI xn).toInt ∧ (nI xn).toInt < 4 ∧ 0 ≤ (nI yn).toInt ∧ (nI yn).toInt < 4))) (c5 : ¬ r3 = 0) (p9 : (r8 = nI 1 ∧ (nI 1).toInt ≤ n.toInt ∧ n.toInt ≤ (nI 9).toInt) ∨ (r8 = nI 0 ∧ ¬ ((nI 1).toInt ≤ n.toInt ∧ n.toInt ≤ (nI 9).toInt))) (c10 : r8 = 0) : ((-1 : Int32) = (-1 : Int32) ∧ ¬ (0 ≤ (nI xn).toInt ∧ (nI xn).toInt < 4 ∧ 0 ≤ (nI yn).toInt ∧ (nI yn).toInt < 4 ∧ 1 ≤ n.toInt ∧ n.toInt ≤ 9)) ∨ ((-1 : Int32) = nI 0 ∧ (0 ≤ (nI xn).toInt ∧ (nI xn).toInt < 4 ∧ 0 ≤ (nI yn).toInt ∧ (nI yn).toInt < 4 ∧ 1 ≤ n.toInt ∧ n.toInt ≤ 9)) := by
  have k_0 := ia_n xn (by omega)
  have k_1 := ia_n yn (by omega)
  have k_2 := ia_n 1 (by decide)
  have k_3 := ia_n 0 (by decide)
  have k_4 := ia_n 9 (by decide)
  simp only [ia_lt, ia_le, ia_eq, ia_m1, ia_0, ia_1, ne_eq, true_and, and_true, false_and, and_false, or_false, false_or, or_true, true_or, not_true_eq_false, not_false_eq_true] at *
  all_goals omega
set_option maxRecDepth 20000 in
theorem lf_m_flour_5 (o : Nat) (ktape : Nat) (know : Nat) (kread : Nat) (kkept : Nat) (ksnaps : Nat) (kaside : Nat) (kname : Nat) (kreadName : Nat) (kkeptName : Nat) (kisKept : Nat) (konces : Nat) (kpoured : Nat) (kfar : Nat) (ksides : Nat) (klines : Nat) (kmet : Nat) (ksunk : Nat) (ktrying : Nat) (ktext : Nat) (kline : Nat) (kwritten : Nat) (knode : Nat) (knowF : Nat → Int32) (ksnapsF : Nat → Int32) (n : Int32) (xn : Nat) (yn : Nat) (r3 : Int32) (r8 : Int32) (hN : NowOk knowF) (hok : 0 ≤ (nI xn).toInt ∧ (nI xn).toInt < 4 ∧ 0 ≤ (nI yn).toInt ∧ (nI yn).toInt < 4 ∧ 1 ≤ n.toInt ∧ n.toInt ≤ 9) (h1 : xn < 4) (h2 : yn < 4) (p4 : (r3 = nI 1 ∧ (0 ≤ (nI xn).toInt ∧ (nI xn).toInt < 4 ∧ 0 ≤ (nI yn).toInt ∧ (nI yn).toInt < 4)) ∨ (r3 = nI 0 ∧ ¬ (0 ≤ (nI xn).toInt ∧ (nI xn).toInt < 4 ∧ 0 ≤ (nI yn).toInt ∧ (nI yn).toInt < 4))) (c5 : ¬ r3 = 0) (p9 : (r8 = nI 1 ∧ (nI 1).toInt ≤ n.toInt ∧ n.toInt ≤ (nI 9).toInt) ∨ (r8 = nI 0 ∧ ¬ ((nI 1).toInt ≤ n.toInt ∧ n.toInt ≤ (nI 9).toInt))) (c10 : ¬ r8 = 0) : ((nI 0) = (-1 : Int32) ∧ ¬ (0 ≤ (nI xn).toInt ∧ (nI xn).toInt < 4 ∧ 0 ≤ (nI yn).toInt ∧ (nI yn).toInt < 4 ∧ 1 ≤ n.toInt ∧ n.toInt ≤ 9)) ∨ ((nI 0) = nI 0 ∧ (0 ≤ (nI xn).toInt ∧ (nI xn).toInt < 4 ∧ 0 ≤ (nI yn).toInt ∧ (nI yn).toInt < 4 ∧ 1 ≤ n.toInt ∧ n.toInt ≤ 9)) := by
  have k_0 := ia_n xn (by omega)
  have k_1 := ia_n yn (by omega)
  have k_2 := ia_n 1 (by decide)
  have k_3 := ia_n 0 (by decide)
  have k_4 := ia_n 9 (by decide)
  simp only [ia_lt, ia_le, ia_eq, ia_m1, ia_0, ia_1, ne_eq, true_and, and_true, false_and, and_false, or_false, false_or, or_true, true_or, not_true_eq_false, not_false_eq_true] at *
  all_goals omega
set_option maxRecDepth 20000 in
theorem lf_m_flour_6 (o : Nat) (ktape : Nat) (know : Nat) (kread : Nat) (kkept : Nat) (ksnaps : Nat) (kaside : Nat) (kname : Nat) (kreadName : Nat) (kkeptName : Nat) (kisKept : Nat) (konces : Nat) (kpoured : Nat) (kfar : Nat) (ksides : Nat) (klines : Nat) (kmet : Nat) (ksunk : Nat) (ktrying : Nat) (ktext : Nat) (kline : Nat) (kwritten : Nat) (knode : Nat) (knowF : Nat → Int32) (ksnapsF : Nat → Int32) (x : Int32) (y : Int32) (n : Int32) (y17 : Int32) (y19 : Int32) (r21 : Int32) (hN : NowOk knowF) (hnok : ¬ (0 ≤ x.toInt ∧ x.toInt < 4 ∧ 0 ≤ y.toInt ∧ y.toInt < 4 ∧ 1 ≤ n.toInt ∧ n.toInt ≤ 9)) (e18 : y17 = (nI 6) * y) (e20 : y19 = y17 + x) (p22 : (r21 = nI 1 ∧ (0 ≤ x.toInt ∧ x.toInt < 4 ∧ 0 ≤ y.toInt ∧ y.toInt < 4)) ∨ (r21 = nI 0 ∧ ¬ (0 ≤ x.toInt ∧ x.toInt < 4 ∧ 0 ≤ y.toInt ∧ y.toInt < 4))) (c23 : r21 = 0) : ((-1 : Int32) = (-1 : Int32) ∧ ¬ (0 ≤ x.toInt ∧ x.toInt < 4 ∧ 0 ≤ y.toInt ∧ y.toInt < 4 ∧ 1 ≤ n.toInt ∧ n.toInt ≤ 9)) ∨ ((-1 : Int32) = nI 0 ∧ (0 ≤ x.toInt ∧ x.toInt < 4 ∧ 0 ≤ y.toInt ∧ y.toInt < 4 ∧ 1 ≤ n.toInt ∧ n.toInt ≤ 9)) := by
  have k_0 := ia_n 6 (by decide)
  have k_1 := ia_n 1 (by decide)
  have k_2 := ia_n 0 (by decide)
  simp only [ia_lt, ia_le, ia_eq, ia_m1, ia_0, ia_1, ne_eq, true_and, and_true, false_and, and_false, or_false, false_or, or_true, true_or, not_true_eq_false, not_false_eq_true] at *
  all_goals omega
set_option maxRecDepth 20000 in
theorem lf_m_flour_7 (o : Nat) (ktape : Nat) (know : Nat) (kread : Nat) (kkept : Nat) (ksnaps : Nat) (kaside : Nat) (kname : Nat) (kreadName : Nat) (kkeptName : Nat) (kisKept : Nat) (konces : Nat) (kpoured : Nat) (kfar : Nat) (ksides : Nat) (klines : Nat) (kmet : Nat) (ksunk : Nat) (ktrying : Nat) (ktext : Nat) (kline : Nat) (kwritten : Nat) (knode : Nat) (knowF : Nat → Int32) (ksnapsF : Nat → Int32) (x : Int32) (y : Int32) (n : Int32) (y17 : Int32) (y19 : Int32) (r21 : Int32) (r26 : Int32) (hN : NowOk knowF) (hnok : ¬ (0 ≤ x.toInt ∧ x.toInt < 4 ∧ 0 ≤ y.toInt ∧ y.toInt < 4 ∧ 1 ≤ n.toInt ∧ n.toInt ≤ 9)) (e18 : y17 = (nI 6) * y) (e20 : y19 = y17 + x) (p22 : (r21 = nI 1 ∧ (0 ≤ x.toInt ∧ x.toInt < 4 ∧ 0 ≤ y.toInt ∧ y.toInt < 4)) ∨ (r21 = nI 0 ∧ ¬ (0 ≤ x.toInt ∧ x.toInt < 4 ∧ 0 ≤ y.toInt ∧ y.toInt < 4))) (c23 : ¬ r21 = 0) (p27 : (r26 = nI 1 ∧ (nI 1).toInt ≤ n.toInt ∧ n.toInt ≤ (nI 9).toInt) ∨ (r26 = nI 0 ∧ ¬ ((nI 1).toInt ≤ n.toInt ∧ n.toInt ≤ (nI 9).toInt))) (c28 : r26 = 0) : ((-1 : Int32) = (-1 : Int32) ∧ ¬ (0 ≤ x.toInt ∧ x.toInt < 4 ∧ 0 ≤ y.toInt ∧ y.toInt < 4 ∧ 1 ≤ n.toInt ∧ n.toInt ≤ 9)) ∨ ((-1 : Int32) = nI 0 ∧ (0 ≤ x.toInt ∧ x.toInt < 4 ∧ 0 ≤ y.toInt ∧ y.toInt < 4 ∧ 1 ≤ n.toInt ∧ n.toInt ≤ 9)) := by
  have k_0 := ia_n 6 (by decide)
  have k_1 := ia_n 1 (by decide)
  have k_2 := ia_n 0 (by decide)
  have k_3 := ia_n 9 (by decide)
  simp only [ia_lt, ia_le, ia_eq, ia_m1, ia_0, ia_1, ne_eq, true_and, and_true, false_and, and_false, or_false, false_or, or_true, true_or, not_true_eq_false, not_false_eq_true] at *
  all_goals omega
set_option maxRecDepth 20000 in
theorem lf_m_flour_8 (o : Nat) (ktape : Nat) (know : Nat) (kread : Nat) (kkept : Nat) (ksnaps : Nat) (kaside : Nat) (kname : Nat) (kreadName : Nat) (kkeptName : Nat) (kisKept : Nat) (konces : Nat) (kpoured : Nat) (kfar : Nat) (ksides : Nat) (klines : Nat) (kmet : Nat) (ksunk : Nat) (ktrying : Nat) (ktext : Nat) (kline : Nat) (kwritten : Nat) (knode : Nat) (knowF : Nat → Int32) (ksnapsF : Nat → Int32) (x : Int32) (y : Int32) (n : Int32) (y17 : Int32) (y19 : Int32) (r21 : Int32) (r26 : Int32) (hN : NowOk knowF) (hnok : ¬ (0 ≤ x.toInt ∧ x.toInt < 4 ∧ 0 ≤ y.toInt ∧ y.toInt < 4 ∧ 1 ≤ n.toInt ∧ n.toInt ≤ 9)) (e18 : y17 = (nI 6) * y) (e20 : y19 = y17 + x) (p22 : (r21 = nI 1 ∧ (0 ≤ x.toInt ∧ x.toInt < 4 ∧ 0 ≤ y.toInt ∧ y.toInt < 4)) ∨ (r21 = nI 0 ∧ ¬ (0 ≤ x.toInt ∧ x.toInt < 4 ∧ 0 ≤ y.toInt ∧ y.toInt < 4))) (c23 : ¬ r21 = 0) (p27 : (r26 = nI 1 ∧ (nI 1).toInt ≤ n.toInt ∧ n.toInt ≤ (nI 9).toInt) ∨ (r26 = nI 0 ∧ ¬ ((nI 1).toInt ≤ n.toInt ∧ n.toInt ≤ (nI 9).toInt))) (c28 : ¬ r26 = 0) : False := by
  have k_0 := ia_n 6 (by decide)
  have k_1 := ia_n 1 (by decide)
  have k_2 := ia_n 0 (by decide)
  have k_3 := ia_n 9 (by decide)
  simp only [ia_lt, ia_le, ia_eq, ia_m1, ia_0, ia_1, ne_eq, true_and, and_true, false_and, and_false, or_false, false_or, or_true, true_or, not_true_eq_false, not_false_eq_true] at *
  all_goals omega
set_option maxHeartbeats 4000000 in
set_option maxRecDepth 100000 in
theorem c_m_flour (l : Launch) (dC : Nat → ClassId) (dI : Nat → Nat → Nat) (ky : Nat → ClassId) (sz : Nat) (o : Nat) (ktape : Nat) (know : Nat) (kread : Nat) (kkept : Nat) (ksnaps : Nat) (kaside : Nat) (kname : Nat) (kreadName : Nat) (kkeptName : Nat) (kisKept : Nat) (konces : Nat) (kpoured : Nat) (kfar : Nat) (ksides : Nat) (klines : Nat) (kmet : Nat) (ksunk : Nat) (ktrying : Nat) (ktext : Nat) (kline : Nat) (kwritten : Nat) (knode : Nat) (knowF : Nat → Int32) (ksnapsF : Nat → Int32) (x : Int32) (y : Int32) (n : Int32) (hN : NowOk knowF) : Met l yX12_flour wsX12_flour ({ frames := 3, cells := 0, slots := 0, locals := 69 }) (PcU dC dI ky [.ref o, .int x, .int y, .int n] [(o, .inr (12, [.int (nI 0), .ref ktape, .int (nI 0), .int (nI 0), .int (nI 0), .int (nI 0), .int (nI 0), .int (nI 0), .int (nI 0), .int (nI 0), .int (nI 0), .int (nI 0), .long 0, .int (nI 0), .ref know, .ref kread, .ref kkept, .ref ksnaps, .ref kaside, .ref kname, .ref kreadName, .ref kkeptName, .ref kisKept, .ref konces, .int (nI 0), .int (nI 0), .ref kpoured, .ref kfar, .ref ksides, .int (nI 0), .int (-1 : Int32), .int (nI 0), .ref klines, .ref kmet, .int (nI 0), .ref ksunk, .ref ktrying, .int (nI 0), .int (-1 : Int32), .int (-1 : Int32), .ref ktext, .int (nI 0), .int (nI 0), .ref kline, .ref kwritten, .int (nI 0), .int (nI 0), .ref knode, .int (nI 0), .int (nI 0), .int (nI 0), .int (nI 0)])), (know, .inl (ky 0, 373, .inl knowF)), (ksnaps, .inl (ky 0, 512, .inl ksnapsF))] sz) (va_Qi (fun (r : Int32) (_ : Unit) => (r = (-1 : Int32) ∧ ¬ (0 ≤ x.toInt ∧ x.toInt < 4 ∧ 0 ≤ y.toInt ∧ y.toInt < 4 ∧ 1 ≤ n.toInt ∧ n.toInt ≤ 9)) ∨ (r = nI 0 ∧ (0 ≤ x.toInt ∧ x.toInt < 4 ∧ 0 ≤ y.toInt ∧ y.toInt < 4 ∧ 1 ≤ n.toInt ∧ n.toInt ≤ 9))) (BU dC dI ky (fun (_ : Unit) => []) (va_A [(o, .inr (12, [.int (nI 0), .ref ktape, .int (nI 0), .int (nI 0), .int (nI 0), .int (nI 0), .int (nI 0), .int (nI 0), .int (nI 0), .int (nI 0), .int (nI 0), .int (nI 0), .long 0, .int (nI 0), .ref know, .ref kread, .ref kkept, .ref ksnaps, .ref kaside, .ref kname, .ref kreadName, .ref kkeptName, .ref kisKept, .ref konces, .int (nI 0), .int (nI 0), .ref kpoured, .ref kfar, .ref ksides, .int (nI 0), .int (-1 : Int32), .int (nI 0), .ref klines, .ref kmet, .int (nI 0), .ref ksunk, .ref ktrying, .int (nI 0), .int (-1 : Int32), .int (-1 : Int32), .ref ktext, .int (nI 0), .int (nI 0), .ref kline, .ref kwritten, .int (nI 0), .int (nI 0), .ref knode, .int (nI 0), .int (nI 0), .int (nI 0), .int (nI 0)])), (know, .inl (ky 0, 373, .inl knowF)), (ksnaps, .inl (ky 0, 512, .inl ksnapsF))] sz)) (va_A [(o, .inr (12, [.int (nI 0), .ref ktape, .int (nI 0), .int (nI 0), .int (nI 0), .int (nI 0), .int (nI 0), .int (nI 0), .int (nI 0), .int (nI 0), .int (nI 0), .int (nI 0), .long 0, .int (nI 0), .ref know, .ref kread, .ref kkept, .ref ksnaps, .ref kaside, .ref kname, .ref kreadName, .ref kkeptName, .ref kisKept, .ref konces, .int (nI 0), .int (nI 0), .ref kpoured, .ref kfar, .ref ksides, .int (nI 0), .int (-1 : Int32), .int (nI 0), .ref klines, .ref kmet, .int (nI 0), .ref ksunk, .ref ktrying, .int (nI 0), .int (-1 : Int32), .int (-1 : Int32), .ref ktext, .int (nI 0), .int (nI 0), .ref kline, .ref kwritten, .int (nI 0), .int (nI 0), .ref knode, .int (nI 0), .int (nI 0), .int (nI 0), .int (nI 0)])), (know, .inl (ky 0, 373, .inl knowF)), (ksnaps, .inl (ky 0, 512, .inl ksnapsF))] sz)) 0 0 (va_A [(o, .inr (12, [.int (nI 0), .ref ktape, .int (nI 0), .int (nI 0), .int (nI 0), .int (nI 0), .int (nI 0), .int (nI 0), .int (nI 0), .int (nI 0), .int (nI 0), .int (nI 0), .long 0, .int (nI 0), .ref know, .ref kread, .ref kkept, .ref ksnaps, .ref kaside, .ref kname, .ref kreadName, .ref kkeptName, .ref kisKept, .ref konces, .int (nI 0), .int (nI 0), .ref kpoured, .ref kfar, .ref ksides, .int (nI 0), .int (-1 : Int32), .int (nI 0), .ref klines, .ref kmet, .int (nI 0), .ref ksunk, .ref ktrying, .int (nI 0), .int (-1 : Int32), .int (-1 : Int32), .ref ktext, .int (nI 0), .int (nI 0), .ref kline, .ref kwritten, .int (nI 0), .int (nI 0), .ref knode, .int (nI 0), .int (nI 0), .int (nI 0), .int (nI 0)])), (know, .inl (ky 0, 373, .inl knowF)), (ksnaps, .inl (ky 0, 512, .inl ksnapsF))] sz) := by
  refine Met.ofW (cc := cX12_flour) (maxL := 4) (ret := (some .int)) (by decide) rfl ?_
  intro p e s m args below meth c s₁ B hml hv
  obtain ⟨rfl, hsz, hP, hK, hD0⟩ := hv
  have hx := B.exec
  have hb := B.bytes
  have hr := B.returns
  have hts := atoms_spec (ws := wsX12_flour) B.pre
  have hown : s.vm.findClass RX12 = some m.cls := findClass_of_methodNamed B.named
  have hlocks := B.notSynchronized
  have hin12 : ∀ w ∈ u_ws RX12 TX12 52, w ∈ wsX12_flour := by decide +kernel
  subst hsz
  have hD := hD0.self (sz := s.heap.size)
  generalize hAe : va_A [(o, .inr (12, [.int (nI 0), .ref ktape, .int (nI 0), .int (nI 0), .int (nI 0), .int (nI 0), .int (nI 0), .int (nI 0), .int (nI 0), .int (nI 0), .int (nI 0), .int (nI 0), .long 0, .int (nI 0), .ref know, .ref kread, .ref kkept, .ref ksnaps, .ref kaside, .ref kname, .ref kreadName, .ref kkeptName, .ref kisKept, .ref konces, .int (nI 0), .int (nI 0), .ref kpoured, .ref kfar, .ref ksides, .int (nI 0), .int (-1 : Int32), .int (nI 0), .ref klines, .ref kmet, .int (nI 0), .ref ksunk, .ref ktrying, .int (nI 0), .int (-1 : Int32), .int (-1 : Int32), .ref ktext, .int (nI 0), .int (nI 0), .ref kline, .ref kwritten, .int (nI 0), .int (nI 0), .ref knode, .int (nI 0), .int (nI 0), .int (nI 0), .int (nI 0)])), (know, .inl (ky 0, 373, .inl knowF)), (ksnaps, .inl (ky 0, 512, .inl ksnapsF))] s.heap.size = A at hD ⊢
  have hA : ∀ q : Nat, s.heap.size ≤ q → A q := fun q h => by rw [← hAe]; exact Or.inr h
  have hS : va_S A s.heap s.heap [] := va_S.rf
  have hP : va_P (dC, dI) vwCl [(o, .inr (12, [.int (nI 0), .ref ktape, .int (nI 0), .int (nI 0), .int (nI 0), .int (nI 0), .int (nI 0), .int (nI 0), .int (nI 0), .int (nI 0), .int (nI 0), .int (nI 0), .long 0, .int (nI 0), .ref know, .ref kread, .ref kkept, .ref ksnaps, .ref kaside, .ref kname, .ref kreadName, .ref kkeptName, .ref kisKept, .ref konces, .int (nI 0), .int (nI 0), .ref kpoured, .ref kfar, .ref ksides, .int (nI 0), .int (-1 : Int32), .int (nI 0), .ref klines, .ref kmet, .int (nI 0), .ref ksunk, .ref ktrying, .int (nI 0), .int (-1 : Int32), .int (-1 : Int32), .ref ktext, .int (nI 0), .int (nI 0), .ref kline, .ref kwritten, .int (nI 0), .int (nI 0), .ref knode, .int (nI 0), .int (nI 0), .int (nI 0), .int (nI 0)])), (know, .inl (ky 0, 373, .inl knowF)), (ksnaps, .inl (ky 0, 512, .inl ksnapsF))] s.heap := hP
  have hl := lv_entry ([.ref o, .int x, .int y, .int n]) (n := 4) (Nat.le_of_ble_eq_true rfl)
  rw [lg_entry_eq]
  generalize (lg_sl ([.ref o, .int x, .int y, .int n]) ++ List.replicate (4 - (lg_sl ([.ref o, .int x, .int y, .int n])).length) Slot.unset).toArray = ls at hl ⊢
  have hl : lv_has ls 4 [(0, .ref o), (1, .int x), (2, .int y), (3, .int n)] := hl
  have hH0 : True := trivial
  rcases Classical.em (0 ≤ x.toInt ∧ x.toInt < 4 ∧ 0 ≤ y.toInt ∧ y.toInt < 4 ∧ 1 ≤ n.toInt ∧ n.toInt ≤ 9) with hok | hnok
  · obtain ⟨xn, h1, rfl⟩ := nat_of x 4 (by decide) (lf_m_flour_1 o ktape know kread kkept ksnaps kaside kname kreadName kkeptName kisKept konces kpoured kfar ksides klines kmet ksunk ktrying ktext kline kwritten knode knowF ksnapsF x y n hN hok)
    obtain ⟨yn, h2, rfl⟩ := nat_of y 4 (by decide) (lf_m_flour_2 o ktape know kread kkept ksnaps kaside kname kreadName kkeptName kisKept konces kpoured kfar ksides klines kmet ksunk ktrying ktext kline kwritten knode knowF ksnapsF y n xn hN hok h1)
    refine lv_aload_n hx hb dX12_flour_0 rfl (lv_at hl 0 rfl) ?_
    refine lv_iconst (v := nI 0) hx hb dX12_flour_1 (by decide) ?_
    refine va_put (D := (dC, dI)) (ci := 12) (v := .int (nI 0)) (ty := .int) (C := RX12) (T := TX12) (N := 52) hx hb hts hin12 tyX12 tyX12_ok nmX12 hown hK hP hD hS 0 rfl rfl 0 (by decide) (hts (.fieldLink RX12 1 "PorridgeSeaModel" "thrown" "I") (List.mem_of_getElem? (i := 1) rfl)) (fun _ h9 => h9) rfl (by decide +kernel) rfl rfl (Nat.le_of_ble_eq_true rfl) dX12_flour_2 (fun H locs hP hD hS => ?_)
    have hP : va_P (dC, dI) vwCl [(o, .inr (12, [.int (nI 0), .ref ktape, .int (nI 0), .int (nI 0), .int (nI 0), .int (nI 0), .int (nI 0), .int (nI 0), .int (nI 0), .int (nI 0), .int (nI 0), .int (nI 0), .long 0, .int (nI 0), .ref know, .ref kread, .ref kkept, .ref ksnaps, .ref kaside, .ref kname, .ref kreadName, .ref kkeptName, .ref kisKept, .ref konces, .int (nI 0), .int (nI 0), .ref kpoured, .ref kfar, .ref ksides, .int (nI 0), .int (-1 : Int32), .int (nI 0), .ref klines, .ref kmet, .int (nI 0), .ref ksunk, .ref ktrying, .int (nI 0), .int (-1 : Int32), .int (-1 : Int32), .ref ktext, .int (nI 0), .int (nI 0), .ref kline, .ref kwritten, .int (nI 0), .int (nI 0), .ref knode, .int (nI 0), .int (nI 0), .int (nI 0), .int (nI 0)])), (know, .inl (ky 0, 373, .inl knowF)), (ksnaps, .inl (ky 0, 512, .inl ksnapsF))] H := hP
    have hD : va_D A [(o, .inr (12, [.int (nI 0), .ref ktape, .int (nI 0), .int (nI 0), .int (nI 0), .int (nI 0), .int (nI 0), .int (nI 0), .int (nI 0), .int (nI 0), .int (nI 0), .int (nI 0), .long 0, .int (nI 0), .ref know, .ref kread, .ref kkept, .ref ksnaps, .ref kaside, .ref kname, .ref kreadName, .ref kkeptName, .ref kisKept, .ref konces, .int (nI 0), .int (nI 0), .ref kpoured, .ref kfar, .ref ksides, .int (nI 0), .int (-1 : Int32), .int (nI 0), .ref klines, .ref kmet, .int (nI 0), .ref ksunk, .ref ktrying, .int (nI 0), .int (-1 : Int32), .int (-1 : Int32), .ref ktext, .int (nI 0), .int (nI 0), .ref kline, .ref kwritten, .int (nI 0), .int (nI 0), .ref knode, .int (nI 0), .int (nI 0), .int (nI 0), .int (nI 0)])), (know, .inl (ky 0, 373, .inl knowF)), (ksnaps, .inl (ky 0, 512, .inl ksnapsF))] := hD
    refine lv_aload_n hx hb dX12_flour_5 rfl (lv_at hl 0 rfl) ?_
    refine lv_iconst (v := nI 2) hx hb dX12_flour_6 (by decide) ?_
    refine lv_bipush (v := nI 6) hx hb dX12_flour_7 (by decide) ?_
    refine lv_iload_n hx hb dX12_flour_9 rfl (lv_at hl 2 rfl) ?_
    refine lv_imul hx hb dX12_flour_10 ?_
    refine r_ti (nI (6 * yn)) (pk_mul _ _) ?_
    refine lv_iload_n hx hb dX12_flour_11 rfl (lv_at hl 1 rfl) ?_
    refine lv_iadd hx hb dX12_flour_12 ?_
    refine r_ti (nI ((6 * yn) + xn)) (nI_add _ _) ?_
    refine lv_iload_n hx hb dX12_flour_13 rfl (lv_at hl 3 rfl) ?_
    refine lv_aload_n hx hb dX12_flour_14 rfl (lv_at hl 0 rfl) ?_
    refine lv_iload_n hx hb dX12_flour_15 rfl (lv_at hl 1 rfl) ?_
    refine lv_iload_n hx hb dX12_flour_16 rfl (lv_at hl 2 rfl) ?_
    refine vp_callSi (W.runV (As := [.int (nI xn), .int (nI yn)]) (rest := [.int n, .int (nI ((6 * yn) + xn)), .int (nI 2), .ref o]) ⟨hx, hb, hml, hown, hts⟩ (c_m_isCell l dC dI ky o (nI 0) ktape (nI 0) (nI 0) (nI 0) (nI 0) (nI 0) (nI 0) (nI 0) (nI 0) (nI 0) (nI 0) 0 (nI 0) know kread kkept ksnaps kaside kname kreadName kkeptName kisKept konces (nI 0) (nI 0) kpoured kfar ksides (nI 0) (-1 : Int32) (nI 0) klines kmet (nI 0) ksunk ktrying (nI 0) (-1 : Int32) (-1 : Int32) ktext (nI 0) (nI 0) kline kwritten (nI 0) (nI 0) knode (nI 0) (nI 0) (nI 0) (nI 0) knowF (nI xn) (nI yn) (NowOk.b hN)) (cwV 2 hts gX12_flour_X12_isCell rfl rfl rfl (by decide +kernel) ⟨(Nat.le_of_ble_eq_true rfl), (Nat.le_of_ble_eq_true rfl)⟩) (pre_PV hK hP [0, 1] rfl (ci := 12) (q0 := 0) rfl rfl) rfl rfl hl.1 rfl (lv_room (Nat.le_of_ble_eq_true rfl)) dX12_flour_17 ⟨(Nat.le_of_ble_eq_true rfl), (Nat.le_of_ble_eq_true rfl)⟩) (fun r3 p4 => ?_)
    refine lv_if_eq (tgt := 37) hx hb dX12_flour_20 (by decide) (fun c5 => ?_) (fun c5 => ?_)
    · refine lv_iconst (v := nI 0) hx hb dX12_flour_37 (by decide) ?_
      refine vp_callSi (W.runV (As := [.int (nI 2), .int (nI ((6 * yn) + xn)), .int n, .int (nI 0)]) (rest := []) ⟨hx, hb, hml, hown, hts⟩ (c_m_actNo l dC dI ky o (nI 0) ktape (nI 0) (nI 0) (nI 0) (nI 0) (nI 0) (nI 0) (nI 0) (nI 0) (nI 0) (nI 0) 0 (nI 0) know kread kkept ksnaps kaside kname kreadName kkeptName kisKept konces (nI 0) (nI 0) kpoured kfar ksides (nI 0) (-1 : Int32) (nI 0) klines kmet (nI 0) ksunk ktrying (nI 0) (-1 : Int32) (-1 : Int32) ktext (nI 0) (nI 0) kline kwritten (nI 0) (nI 0) knode (nI 0) (nI 0) (nI 0) (nI 0) (nI 2) (nI ((6 * yn) + xn)) n) (cwV 4 hts gX12_flour_X12_act rfl rfl rfl (by decide +kernel) ⟨(Nat.le_of_ble_eq_true rfl), (Nat.le_of_ble_eq_true rfl)⟩) (pre_PV hK hP [0] rfl (ci := 12) (q0 := 0) rfl rfl) rfl rfl hl.1 rfl (lv_room (Nat.le_of_ble_eq_true rfl)) dX12_flour_38 ⟨(Nat.le_of_ble_eq_true rfl), (Nat.le_of_ble_eq_true rfl)⟩) (fun r6 p7 => ?_)
      subst p7
      have hP9 := hP.sub (ws' := []) [] rfl
      have hD9 := hD.sub (ws' := []) [] (by decide) rfl
      refine W.widen (k := 0) (n := 0) (Nat.le_of_ble_eq_true rfl) (Nat.le_of_ble_eq_true rfl) ?_
      exact W.iret (v := (-1 : Int32)) hx hb hr (fun t ht9 hW9 => ⟨⟨(-1 : Int32), (), rfl, (lf_m_flour_3 o ktape know kread kkept ksnaps kaside kname kreadName kkeptName kisKept konces kpoured kfar ksides klines kmet ksunk ktrying ktext kline kwritten knode knowF ksnapsF n xn yn r3 hN hok h1 h2 p4 c5), by rw [ht9]; exact hP9, va_K.moved hW9.alike hK, hD9⟩, hS.F ht9⟩) hS.2.2 dX12_flour_41
    · refine lv_iload_n hx hb dX12_flour_23 rfl (lv_at hl 3 rfl) ?_
      refine lv_iconst (v := nI 1) hx hb dX12_flour_24 (by decide) ?_
      refine lv_bipush (v := nI 9) hx hb dX12_flour_25 (by decide) ?_
      refine vp_callSi (W.runS (As := [.int n, .int (nI 1), .int (nI 9)]) (rest := [.int n, .int (nI ((6 * yn) + xn)), .int (nI 2), .ref o]) ⟨hx, hb, hml, hown, hts⟩ (c_isIn l dC dI ky n (nI 1) (nI 9)) (va_cwS 3 hts gX12_flour_X12_isIn rfl rfl rfl (by decide +kernel) ⟨(Nat.le_of_ble_eq_true rfl), (Nat.le_of_ble_eq_true rfl)⟩) (pre_PS hK hP [] rfl) rfl rfl hl.1 rfl (lv_room (Nat.le_of_ble_eq_true rfl)) dX12_flour_27 ⟨(Nat.le_of_ble_eq_true rfl), (Nat.le_of_ble_eq_true rfl)⟩) (fun r8 p9 => ?_)
      refine lv_if_eq (tgt := 37) hx hb dX12_flour_30 (by decide) (fun c10 => ?_) (fun c10 => ?_)
      · refine lv_iconst (v := nI 0) hx hb dX12_flour_37 (by decide) ?_
        refine vp_callSi (W.runV (As := [.int (nI 2), .int (nI ((6 * yn) + xn)), .int n, .int (nI 0)]) (rest := []) ⟨hx, hb, hml, hown, hts⟩ (c_m_actNo l dC dI ky o (nI 0) ktape (nI 0) (nI 0) (nI 0) (nI 0) (nI 0) (nI 0) (nI 0) (nI 0) (nI 0) (nI 0) 0 (nI 0) know kread kkept ksnaps kaside kname kreadName kkeptName kisKept konces (nI 0) (nI 0) kpoured kfar ksides (nI 0) (-1 : Int32) (nI 0) klines kmet (nI 0) ksunk ktrying (nI 0) (-1 : Int32) (-1 : Int32) ktext (nI 0) (nI 0) kline kwritten (nI 0) (nI 0) knode (nI 0) (nI 0) (nI 0) (nI 0) (nI 2) (nI ((6 * yn) + xn)) n) (cwV 4 hts gX12_flour_X12_act rfl rfl rfl (by decide +kernel) ⟨(Nat.le_of_ble_eq_true rfl), (Nat.le_of_ble_eq_true rfl)⟩) (pre_PV hK hP [0] rfl (ci := 12) (q0 := 0) rfl rfl) rfl rfl hl.1 rfl (lv_room (Nat.le_of_ble_eq_true rfl)) dX12_flour_38 ⟨(Nat.le_of_ble_eq_true rfl), (Nat.le_of_ble_eq_true rfl)⟩) (fun r11 p12 => ?_)
        subst p12
        have hP9 := hP.sub (ws' := []) [] rfl
        have hD9 := hD.sub (ws' := []) [] (by decide) rfl
        refine W.widen (k := 0) (n := 0) (Nat.le_of_ble_eq_true rfl) (Nat.le_of_ble_eq_true rfl) ?_
        exact W.iret (v := (-1 : Int32)) hx hb hr (fun t ht9 hW9 => ⟨⟨(-1 : Int32), (), rfl, (lf_m_flour_4 o ktape know kread kkept ksnaps kaside kname kreadName kkeptName kisKept konces kpoured kfar ksides klines kmet ksunk ktrying ktext kline kwritten knode knowF ksnapsF n xn yn r3 r8 hN hok h1 h2 p4 c5 p9 c10), by rw [ht9]; exact hP9, va_K.moved hW9.alike hK, hD9⟩, hS.F ht9⟩) hS.2.2 dX12_flour_41
      · refine lv_iconst (v := nI 1) hx hb dX12_flour_33 (by decide) ?_
        refine lv_goto (tgt := 38) hx hb dX12_flour_34 (by decide) ?_
        refine r_call_i (wr := []) (va_runV (As := [.int (nI 2), .int (nI ((6 * yn) + xn)), .int n, .int (nI 1)]) (rest := []) ⟨hx, hb, hml, hown, hts⟩ (c_m_act2 l dC dI ky H.size o (nI 0) ktape (nI 0) (nI 0) (nI 0) (nI 0) (nI 0) (nI 0) (nI 0) (nI 0) (nI 0) (nI 0) 0 (nI 0) know kread kkept ksnaps kaside kname kreadName kkeptName kisKept konces (nI 0) kpoured kfar ksides (nI 0) (-1 : Int32) (nI 0) klines kmet (nI 0) ksunk ktrying (nI 0) (-1 : Int32) (-1 : Int32) ktext (nI 0) (nI 0) kline kwritten (nI 0) (nI 0) knode (nI 0) (nI 0) (nI 0) (nI 0) knowF ksnapsF ((6 * yn) + xn) n hN (by omega)) (cwV 4 hts gX12_flour_X12_act rfl rfl rfl (by decide +kernel) ⟨(Nat.le_of_ble_eq_true rfl), (Nat.le_of_ble_eq_true rfl)⟩) (pre_UV hK hP hD [0, 1, 2] (by decide) rfl (ci := 12) (q0 := 0) rfl rfl) rfl rfl hl.1 rfl (lv_room (Nat.le_of_ble_eq_true rfl)) dX12_flour_38 ⟨(Nat.le_of_ble_eq_true rfl), (Nat.le_of_ble_eq_true rfl)⟩) hP hD hS hA [0, 1, 2] [] rfl rfl (by decide) (by decide) (fun r15 u13 H locs p14 hP hD hS => ?_)
        try dsimp only at p14
        have p16 := p14
        refine W.widen (k := 0) (n := 0) (Nat.le_of_ble_eq_true rfl) (Nat.le_of_ble_eq_true rfl) ?_
        have hP : va_P (dC, dI) vwCl [] H := hP
        have hD : va_D A [] := hD
        subst p16
        have hP9 := hP.sub (ws' := []) [] rfl
        have hD9 := hD.sub (ws' := []) [] (by decide) rfl
        refine W.widen (k := 0) (n := 0) (Nat.le_of_ble_eq_true rfl) (Nat.le_of_ble_eq_true rfl) ?_
        exact W.iret (v := nI 0) hx hb hr (fun t ht9 hW9 => ⟨⟨nI 0, (), rfl, (lf_m_flour_5 o ktape know kread kkept ksnaps kaside kname kreadName kkeptName kisKept konces kpoured kfar ksides klines kmet ksunk ktrying ktext kline kwritten knode knowF ksnapsF n xn yn r3 r8 hN hok h1 h2 p4 c5 p9 c10), by rw [ht9]; exact hP9, va_K.moved hW9.alike hK, hD9⟩, hS.F ht9⟩) hS.2.2 dX12_flour_41
  · refine lv_aload_n hx hb dX12_flour_0 rfl (lv_at hl 0 rfl) ?_
    refine lv_iconst (v := nI 0) hx hb dX12_flour_1 (by decide) ?_
    refine va_put (D := (dC, dI)) (ci := 12) (v := .int (nI 0)) (ty := .int) (C := RX12) (T := TX12) (N := 52) hx hb hts hin12 tyX12 tyX12_ok nmX12 hown hK hP hD hS 0 rfl rfl 0 (by decide) (hts (.fieldLink RX12 1 "PorridgeSeaModel" "thrown" "I") (List.mem_of_getElem? (i := 1) rfl)) (fun _ h9 => h9) rfl (by decide +kernel) rfl rfl (Nat.le_of_ble_eq_true rfl) dX12_flour_2 (fun H locs hP hD hS => ?_)
    have hP : va_P (dC, dI) vwCl [(o, .inr (12, [.int (nI 0), .ref ktape, .int (nI 0), .int (nI 0), .int (nI 0), .int (nI 0), .int (nI 0), .int (nI 0), .int (nI 0), .int (nI 0), .int (nI 0), .int (nI 0), .long 0, .int (nI 0), .ref know, .ref kread, .ref kkept, .ref ksnaps, .ref kaside, .ref kname, .ref kreadName, .ref kkeptName, .ref kisKept, .ref konces, .int (nI 0), .int (nI 0), .ref kpoured, .ref kfar, .ref ksides, .int (nI 0), .int (-1 : Int32), .int (nI 0), .ref klines, .ref kmet, .int (nI 0), .ref ksunk, .ref ktrying, .int (nI 0), .int (-1 : Int32), .int (-1 : Int32), .ref ktext, .int (nI 0), .int (nI 0), .ref kline, .ref kwritten, .int (nI 0), .int (nI 0), .ref knode, .int (nI 0), .int (nI 0), .int (nI 0), .int (nI 0)])), (know, .inl (ky 0, 373, .inl knowF)), (ksnaps, .inl (ky 0, 512, .inl ksnapsF))] H := hP
    have hD : va_D A [(o, .inr (12, [.int (nI 0), .ref ktape, .int (nI 0), .int (nI 0), .int (nI 0), .int (nI 0), .int (nI 0), .int (nI 0), .int (nI 0), .int (nI 0), .int (nI 0), .int (nI 0), .long 0, .int (nI 0), .ref know, .ref kread, .ref kkept, .ref ksnaps, .ref kaside, .ref kname, .ref kreadName, .ref kkeptName, .ref kisKept, .ref konces, .int (nI 0), .int (nI 0), .ref kpoured, .ref kfar, .ref ksides, .int (nI 0), .int (-1 : Int32), .int (nI 0), .ref klines, .ref kmet, .int (nI 0), .ref ksunk, .ref ktrying, .int (nI 0), .int (-1 : Int32), .int (-1 : Int32), .ref ktext, .int (nI 0), .int (nI 0), .ref kline, .ref kwritten, .int (nI 0), .int (nI 0), .ref knode, .int (nI 0), .int (nI 0), .int (nI 0), .int (nI 0)])), (know, .inl (ky 0, 373, .inl knowF)), (ksnaps, .inl (ky 0, 512, .inl ksnapsF))] := hD
    refine lv_aload_n hx hb dX12_flour_5 rfl (lv_at hl 0 rfl) ?_
    refine lv_iconst (v := nI 2) hx hb dX12_flour_6 (by decide) ?_
    refine lv_bipush (v := nI 6) hx hb dX12_flour_7 (by decide) ?_
    refine lv_iload_n hx hb dX12_flour_9 rfl (lv_at hl 2 rfl) ?_
    refine lv_imul hx hb dX12_flour_10 ?_
    refine lv_topi (fun y17 e18 => ?_)
    refine lv_iload_n hx hb dX12_flour_11 rfl (lv_at hl 1 rfl) ?_
    refine lv_iadd hx hb dX12_flour_12 ?_
    refine lv_topi (fun y19 e20 => ?_)
    refine lv_iload_n hx hb dX12_flour_13 rfl (lv_at hl 3 rfl) ?_
    refine lv_aload_n hx hb dX12_flour_14 rfl (lv_at hl 0 rfl) ?_
    refine lv_iload_n hx hb dX12_flour_15 rfl (lv_at hl 1 rfl) ?_
    refine lv_iload_n hx hb dX12_flour_16 rfl (lv_at hl 2 rfl) ?_
    refine vp_callSi (W.runV (As := [.int x, .int y]) (rest := [.int n, .int y19, .int (nI 2), .ref o]) ⟨hx, hb, hml, hown, hts⟩ (c_m_isCell l dC dI ky o (nI 0) ktape (nI 0) (nI 0) (nI 0) (nI 0) (nI 0) (nI 0) (nI 0) (nI 0) (nI 0) (nI 0) 0 (nI 0) know kread kkept ksnaps kaside kname kreadName kkeptName kisKept konces (nI 0) (nI 0) kpoured kfar ksides (nI 0) (-1 : Int32) (nI 0) klines kmet (nI 0) ksunk ktrying (nI 0) (-1 : Int32) (-1 : Int32) ktext (nI 0) (nI 0) kline kwritten (nI 0) (nI 0) knode (nI 0) (nI 0) (nI 0) (nI 0) knowF x y (NowOk.b hN)) (cwV 2 hts gX12_flour_X12_isCell rfl rfl rfl (by decide +kernel) ⟨(Nat.le_of_ble_eq_true rfl), (Nat.le_of_ble_eq_true rfl)⟩) (pre_PV hK hP [0, 1] rfl (ci := 12) (q0 := 0) rfl rfl) rfl rfl hl.1 rfl (lv_room (Nat.le_of_ble_eq_true rfl)) dX12_flour_17 ⟨(Nat.le_of_ble_eq_true rfl), (Nat.le_of_ble_eq_true rfl)⟩) (fun r21 p22 => ?_)
    refine lv_if_eq (tgt := 37) hx hb dX12_flour_20 (by decide) (fun c23 => ?_) (fun c23 => ?_)
    · refine lv_iconst (v := nI 0) hx hb dX12_flour_37 (by decide) ?_
      refine vp_callSi (W.runV (As := [.int (nI 2), .int y19, .int n, .int (nI 0)]) (rest := []) ⟨hx, hb, hml, hown, hts⟩ (c_m_actNo l dC dI ky o (nI 0) ktape (nI 0) (nI 0) (nI 0) (nI 0) (nI 0) (nI 0) (nI 0) (nI 0) (nI 0) (nI 0) 0 (nI 0) know kread kkept ksnaps kaside kname kreadName kkeptName kisKept konces (nI 0) (nI 0) kpoured kfar ksides (nI 0) (-1 : Int32) (nI 0) klines kmet (nI 0) ksunk ktrying (nI 0) (-1 : Int32) (-1 : Int32) ktext (nI 0) (nI 0) kline kwritten (nI 0) (nI 0) knode (nI 0) (nI 0) (nI 0) (nI 0) (nI 2) y19 n) (cwV 4 hts gX12_flour_X12_act rfl rfl rfl (by decide +kernel) ⟨(Nat.le_of_ble_eq_true rfl), (Nat.le_of_ble_eq_true rfl)⟩) (pre_PV hK hP [0] rfl (ci := 12) (q0 := 0) rfl rfl) rfl rfl hl.1 rfl (lv_room (Nat.le_of_ble_eq_true rfl)) dX12_flour_38 ⟨(Nat.le_of_ble_eq_true rfl), (Nat.le_of_ble_eq_true rfl)⟩) (fun r24 p25 => ?_)
      subst p25
      have hP9 := hP.sub (ws' := []) [] rfl
      have hD9 := hD.sub (ws' := []) [] (by decide) rfl
      refine W.widen (k := 0) (n := 0) (Nat.le_of_ble_eq_true rfl) (Nat.le_of_ble_eq_true rfl) ?_
      exact W.iret (v := (-1 : Int32)) hx hb hr (fun t ht9 hW9 => ⟨⟨(-1 : Int32), (), rfl, (lf_m_flour_6 o ktape know kread kkept ksnaps kaside kname kreadName kkeptName kisKept konces kpoured kfar ksides klines kmet ksunk ktrying ktext kline kwritten knode knowF ksnapsF x y n y17 y19 r21 hN hnok e18 e20 p22 c23), by rw [ht9]; exact hP9, va_K.moved hW9.alike hK, hD9⟩, hS.F ht9⟩) hS.2.2 dX12_flour_41
    · refine lv_iload_n hx hb dX12_flour_23 rfl (lv_at hl 3 rfl) ?_
      refine lv_iconst (v := nI 1) hx hb dX12_flour_24 (by decide) ?_
      refine lv_bipush (v := nI 9) hx hb dX12_flour_25 (by decide) ?_
      refine vp_callSi (W.runS (As := [.int n, .int (nI 1), .int (nI 9)]) (rest := [.int n, .int y19, .int (nI 2), .ref o]) ⟨hx, hb, hml, hown, hts⟩ (c_isIn l dC dI ky n (nI 1) (nI 9)) (va_cwS 3 hts gX12_flour_X12_isIn rfl rfl rfl (by decide +kernel) ⟨(Nat.le_of_ble_eq_true rfl), (Nat.le_of_ble_eq_true rfl)⟩) (pre_PS hK hP [] rfl) rfl rfl hl.1 rfl (lv_room (Nat.le_of_ble_eq_true rfl)) dX12_flour_27 ⟨(Nat.le_of_ble_eq_true rfl), (Nat.le_of_ble_eq_true rfl)⟩) (fun r26 p27 => ?_)
      refine lv_if_eq (tgt := 37) hx hb dX12_flour_30 (by decide) (fun c28 => ?_) (fun c28 => ?_)
      · refine lv_iconst (v := nI 0) hx hb dX12_flour_37 (by decide) ?_
        refine vp_callSi (W.runV (As := [.int (nI 2), .int y19, .int n, .int (nI 0)]) (rest := []) ⟨hx, hb, hml, hown, hts⟩ (c_m_actNo l dC dI ky o (nI 0) ktape (nI 0) (nI 0) (nI 0) (nI 0) (nI 0) (nI 0) (nI 0) (nI 0) (nI 0) (nI 0) 0 (nI 0) know kread kkept ksnaps kaside kname kreadName kkeptName kisKept konces (nI 0) (nI 0) kpoured kfar ksides (nI 0) (-1 : Int32) (nI 0) klines kmet (nI 0) ksunk ktrying (nI 0) (-1 : Int32) (-1 : Int32) ktext (nI 0) (nI 0) kline kwritten (nI 0) (nI 0) knode (nI 0) (nI 0) (nI 0) (nI 0) (nI 2) y19 n) (cwV 4 hts gX12_flour_X12_act rfl rfl rfl (by decide +kernel) ⟨(Nat.le_of_ble_eq_true rfl), (Nat.le_of_ble_eq_true rfl)⟩) (pre_PV hK hP [0] rfl (ci := 12) (q0 := 0) rfl rfl) rfl rfl hl.1 rfl (lv_room (Nat.le_of_ble_eq_true rfl)) dX12_flour_38 ⟨(Nat.le_of_ble_eq_true rfl), (Nat.le_of_ble_eq_true rfl)⟩) (fun r29 p30 => ?_)
        subst p30
        have hP9 := hP.sub (ws' := []) [] rfl
        have hD9 := hD.sub (ws' := []) [] (by decide) rfl
        refine W.widen (k := 0) (n := 0) (Nat.le_of_ble_eq_true rfl) (Nat.le_of_ble_eq_true rfl) ?_
        exact W.iret (v := (-1 : Int32)) hx hb hr (fun t ht9 hW9 => ⟨⟨(-1 : Int32), (), rfl, (lf_m_flour_7 o ktape know kread kkept ksnaps kaside kname kreadName kkeptName kisKept konces kpoured kfar ksides klines kmet ksunk ktrying ktext kline kwritten knode knowF ksnapsF x y n y17 y19 r21 r26 hN hnok e18 e20 p22 c23 p27 c28), by rw [ht9]; exact hP9, va_K.moved hW9.alike hK, hD9⟩, hS.F ht9⟩) hS.2.2 dX12_flour_41
      · exact ((lf_m_flour_8 o ktape know kread kkept ksnaps kaside kname kreadName kkeptName kisKept konces kpoured kfar ksides klines kmet ksunk ktrying ktext kline kwritten knode knowF ksnapsF x y n y17 y19 r21 r26 hN hnok e18 e20 p22 c23 p27 c28)).elim
set_option maxRecDepth 20000 in
theorem lf_m_milk_1 (o : Nat) (ktape : Nat) (know : Nat) (kread : Nat) (kkept : Nat) (ksnaps : Nat) (kaside : Nat) (kname : Nat) (kreadName : Nat) (kkeptName : Nat) (kisKept : Nat) (konces : Nat) (kpoured : Nat) (kfar : Nat) (ksides : Nat) (klines : Nat) (kmet : Nat) (ksunk : Nat) (ktrying : Nat) (ktext : Nat) (kline : Nat) (kwritten : Nat) (knode : Nat) (knowF : Nat → Int32) (x : Int32) (y : Int32) (n : Int32) (hN : NowOk knowF) (hok : 0 ≤ x.toInt ∧ x.toInt < 4 ∧ 0 ≤ y.toInt ∧ y.toInt < 4 ∧ 1 ≤ n.toInt ∧ n.toInt ≤ 9) : 0 ≤ x.toInt ∧ x.toInt < ((4 : Nat) : Int) := by
  simp only [ia_lt, ia_le, ia_eq, ia_m1, ia_0, ia_1, ne_eq, true_and, and_true, false_and, and_false, or_false, false_or, or_true, true_or, not_true_eq_false, not_false_eq_true] at *
  all_goals omega
set_option maxRecDepth 20000 in
theorem lf_m_milk_2 (o : Nat) (ktape : Nat) (know : Nat) (kread : Nat) (kkept : Nat) (ksnaps : Nat) (kaside : Nat) (kname : Nat) (kreadName : Nat) (kkeptName : Nat) (kisKept : Nat) (konces : Nat) (kpoured : Nat) (kfar : Nat) (ksides : Nat) (klines : Nat) (kmet : Nat) (ksunk : Nat) (ktrying : Nat) (ktext : Nat) (kline : Nat) (kwritten : Nat) (knode : Nat) (knowF : Nat → Int32) (y : Int32) (n : Int32) (xn : Nat) (hN : NowOk knowF) (hok : 0 ≤ (nI xn).toInt ∧ (nI xn).toInt < 4 ∧ 0 ≤ y.toInt ∧ y.toInt < 4 ∧ 1 ≤ n.toInt ∧ n.toInt ≤ 9) (h1 : xn < 4) : 0 ≤ y.toInt ∧ y.toInt < ((4 : Nat) : Int) := by
  have k_0 := ia_n xn (by omega)
  simp only [ia_lt, ia_le, ia_eq, ia_m1, ia_0, ia_1, ne_eq, true_and, and_true, false_and, and_false, or_false, false_or, or_true, true_or, not_true_eq_false, not_false_eq_true] at *
  all_goals omega
set_option maxRecDepth 20000 in
theorem lf_m_milk_3 (o : Nat) (ktape : Nat) (know : Nat) (kread : Nat) (kkept : Nat) (ksnaps : Nat) (kaside : Nat) (kname : Nat) (kreadName : Nat) (kkeptName : Nat) (kisKept : Nat) (konces : Nat) (kpoured : Nat) (kfar : Nat) (ksides : Nat) (klines : Nat) (kmet : Nat) (ksunk : Nat) (ktrying : Nat) (ktext : Nat) (kline : Nat) (kwritten : Nat) (knode : Nat) (knowF : Nat → Int32) (n : Int32) (xn : Nat) (yn : Nat) (r3 : Int32) (hN : NowOk knowF) (hok : 0 ≤ (nI xn).toInt ∧ (nI xn).toInt < 4 ∧ 0 ≤ (nI yn).toInt ∧ (nI yn).toInt < 4 ∧ 1 ≤ n.toInt ∧ n.toInt ≤ 9) (h1 : xn < 4) (h2 : yn < 4) (p4 : (r3 = nI 1 ∧ (0 ≤ (nI xn).toInt ∧ (nI xn).toInt < 4 ∧ 0 ≤ (nI yn).toInt ∧ (nI yn).toInt < 4)) ∨ (r3 = nI 0 ∧ ¬ (0 ≤ (nI xn).toInt ∧ (nI xn).toInt < 4 ∧ 0 ≤ (nI yn).toInt ∧ (nI yn).toInt < 4))) (c5 : r3 = 0) : ((-1 : Int32) = (-1 : Int32) ∧ ¬ (0 ≤ (nI xn).toInt ∧ (nI xn).toInt < 4 ∧ 0 ≤ (nI yn).toInt ∧ (nI yn).toInt < 4 ∧ 1 ≤ n.toInt ∧ n.toInt ≤ 9)) ∨ ((-1 : Int32) = nI 1 ∧ (0 ≤ (nI xn).toInt ∧ (nI xn).toInt < 4 ∧ 0 ≤ (nI yn).toInt ∧ (nI yn).toInt < 4 ∧ 1 ≤ n.toInt ∧ n.toInt ≤ 9)) := by
  have k_0 := ia_n xn (by omega)
  have k_1 := ia_n yn (by omega)
  have k_2 := ia_n 1 (by decide)
  have k_3 := ia_n 0 (by decide)
  simp only [ia_lt, ia_le, ia_eq, ia_m1, ia_0, ia_1, ne_eq, true_and, and_true, false_and, and_false, or_false, false_or, or_true, true_or, not_true_eq_false, not_false_eq_true] at *
  all_goals omega
set_option maxRecDepth 20000 in
theorem lf_m_milk_4 (o : Nat) (ktape : Nat) (know : Nat) (kread : Nat) (kkept : Nat) (ksnaps : Nat) (kaside : Nat) (kname : Nat) (kreadName : Nat) (kkeptName : Nat) (kisKept : Nat) (konces : Nat) (kpoured : Nat) (kfar : Nat) (ksides : Nat) (klines : Nat) (kmet : Nat) (ksunk : Nat) (ktrying : Nat) (ktext : Nat) (kline : Nat) (kwritten : Nat) (knode : Nat) (knowF : Nat → Int32) (n : Int32) (xn : Nat) (yn : Nat) (r3 : Int32) (r8 : Int32) (hN : NowOk knowF) (hok : 0 ≤ (nI xn).toInt ∧ (nI xn).toInt < 4 ∧ 0 ≤ (nI yn).toInt ∧ (nI yn).toInt < 4 ∧ 1 ≤ n.toInt ∧ n.toInt ≤ 9) (h1 : xn < 4) (h2 : yn < 4) (p4 : (r3 = nI 1 ∧ (0 ≤ (nI xn).toInt ∧ (nI xn).toInt < 4 ∧ 0 ≤ (nI yn).toInt ∧ (nI yn).toInt < 4)) ∨ (r3 = nI 0 ∧ ¬ (0 ≤ (nI xn).toInt ∧ (nI xn).toInt < 4 ∧ 0 ≤ (nI yn).toInt ∧ (nI yn).toInt < 4))) (c5 : ¬ r3 = 0) (p9 : (r8 = nI 1 ∧ (nI 1).toInt ≤ n.toInt ∧ n.toInt ≤ (nI 9).toInt) ∨ (r8 = nI 0 ∧ ¬ ((nI 1).toInt ≤ n.toInt ∧ n.toInt ≤ (nI 9).toInt))) (c10 : r8 = 0) : ((-1 : Int32) = (-1 : Int32) ∧ ¬ (0 ≤ (nI xn).toInt ∧ (nI xn).toInt < 4 ∧ 0 ≤ (nI yn).toInt ∧ (nI yn).toInt < 4 ∧ 1 ≤ n.toInt ∧ n.toInt ≤ 9)) ∨ ((-1 : Int32) = nI 1 ∧ (0 ≤ (nI xn).toInt ∧ (nI xn).toInt < 4 ∧ 0 ≤ (nI yn).toInt ∧ (nI yn).toInt < 4 ∧ 1 ≤ n.toInt ∧ n.toInt ≤ 9)) := by
  have k_0 := ia_n xn (by omega)
  have k_1 := ia_n yn (by omega)
  have k_2 := ia_n 1 (by decide)
  have k_3 := ia_n 0 (by decide)
  have k_4 := ia_n 9 (by decide)
  simp only [ia_lt, ia_le, ia_eq, ia_m1, ia_0, ia_1, ne_eq, true_and, and_true, false_and, and_false, or_false, false_or, or_true, true_or, not_true_eq_false, not_false_eq_true] at *
  all_goals omega
set_option maxRecDepth 20000 in
theorem lf_m_milk_5 (o : Nat) (ktape : Nat) (know : Nat) (kread : Nat) (kkept : Nat) (ksnaps : Nat) (kaside : Nat) (kname : Nat) (kreadName : Nat) (kkeptName : Nat) (kisKept : Nat) (konces : Nat) (kpoured : Nat) (kfar : Nat) (ksides : Nat) (klines : Nat) (kmet : Nat) (ksunk : Nat) (ktrying : Nat) (ktext : Nat) (kline : Nat) (kwritten : Nat) (knode : Nat) (knowF : Nat → Int32) (n : Int32) (xn : Nat) (yn : Nat) (r3 : Int32) (r8 : Int32) (hN : NowOk knowF) (hok : 0 ≤ (nI xn).toInt ∧ (nI xn).toInt < 4 ∧ 0 ≤ (nI yn).toInt ∧ (nI yn).toInt < 4 ∧ 1 ≤ n.toInt ∧ n.toInt ≤ 9) (h1 : xn < 4) (h2 : yn < 4) (p4 : (r3 = nI 1 ∧ (0 ≤ (nI xn).toInt ∧ (nI xn).toInt < 4 ∧ 0 ≤ (nI yn).toInt ∧ (nI yn).toInt < 4)) ∨ (r3 = nI 0 ∧ ¬ (0 ≤ (nI xn).toInt ∧ (nI xn).toInt < 4 ∧ 0 ≤ (nI yn).toInt ∧ (nI yn).toInt < 4))) (c5 : ¬ r3 = 0) (p9 : (r8 = nI 1 ∧ (nI 1).toInt ≤ n.toInt ∧ n.toInt ≤ (nI 9).toInt) ∨ (r8 = nI 0 ∧ ¬ ((nI 1).toInt ≤ n.toInt ∧ n.toInt ≤ (nI 9).toInt))) (c10 : ¬ r8 = 0) : ((nI 1) = (-1 : Int32) ∧ ¬ (0 ≤ (nI xn).toInt ∧ (nI xn).toInt < 4 ∧ 0 ≤ (nI yn).toInt ∧ (nI yn).toInt < 4 ∧ 1 ≤ n.toInt ∧ n.toInt ≤ 9)) ∨ ((nI 1) = nI 1 ∧ (0 ≤ (nI xn).toInt ∧ (nI xn).toInt < 4 ∧ 0 ≤ (nI yn).toInt ∧ (nI yn).toInt < 4 ∧ 1 ≤ n.toInt ∧ n.toInt ≤ 9)) := by
  have k_0 := ia_n xn (by omega)
  have k_1 := ia_n yn (by omega)
  have k_2 := ia_n 1 (by decide)
  have k_3 := ia_n 0 (by decide)
  have k_4 := ia_n 9 (by decide)
  simp only [ia_lt, ia_le, ia_eq, ia_m1, ia_0, ia_1, ne_eq, true_and, and_true, false_and, and_false, or_false, false_or, or_true, true_or, not_true_eq_false, not_false_eq_true] at *
  all_goals omega
set_option maxRecDepth 20000 in
theorem lf_m_milk_6 (o : Nat) (ktape : Nat) (know : Nat) (kread : Nat) (kkept : Nat) (ksnaps : Nat) (kaside : Nat) (kname : Nat) (kreadName : Nat) (kkeptName : Nat) (kisKept : Nat) (konces : Nat) (kpoured : Nat) (kfar : Nat) (ksides : Nat) (klines : Nat) (kmet : Nat) (ksunk : Nat) (ktrying : Nat) (ktext : Nat) (kline : Nat) (kwritten : Nat) (knode : Nat) (knowF : Nat → Int32) (x : Int32) (y : Int32) (n : Int32) (y15 : Int32) (y17 : Int32) (r19 : Int32) (hN : NowOk knowF) (hnok : ¬ (0 ≤ x.toInt ∧ x.toInt < 4 ∧ 0 ≤ y.toInt ∧ y.toInt < 4 ∧ 1 ≤ n.toInt ∧ n.toInt ≤ 9)) (e16 : y15 = (nI 6) * y) (e18 : y17 = y15 + x) (p20 : (r19 = nI 1 ∧ (0 ≤ x.toInt ∧ x.toInt < 4 ∧ 0 ≤ y.toInt ∧ y.toInt < 4)) ∨ (r19 = nI 0 ∧ ¬ (0 ≤ x.toInt ∧ x.toInt < 4 ∧ 0 ≤ y.toInt ∧ y.toInt < 4))) (c21 : r19 = 0) : ((-1 : Int32) = (-1 : Int32) ∧ ¬ (0 ≤ x.toInt ∧ x.toInt < 4 ∧ 0 ≤ y.toInt ∧ y.toInt < 4 ∧ 1 ≤ n.toInt ∧ n.toInt ≤ 9)) ∨ ((-1 : Int32) = nI 1 ∧ (0 ≤ x.toInt ∧ x.toInt < 4 ∧ 0 ≤ y.toInt ∧ y.toInt < 4 ∧ 1 ≤ n.toInt ∧ n.toInt ≤ 9)) := by
  have k_0 := ia_n 6 (by decide)
  have k_1 := ia_n 1 (by decide)
  have k_2 := ia_n 0 (by decide)
  simp only [ia_lt, ia_le, ia_eq, ia_m1, ia_0, ia_1, ne_eq, true_and, and_true, false_and, and_false, or_false, false_or, or_true, true_or, not_true_eq_false, not_false_eq_true] at *
  all_goals omega
set_option maxRecDepth 20000 in
theorem lf_m_milk_7 (o : Nat) (ktape : Nat) (know : Nat) (kread : Nat) (kkept : Nat) (ksnaps : Nat) (kaside : Nat) (kname : Nat) (kreadName : Nat) (kkeptName : Nat) (kisKept : Nat) (konces : Nat) (kpoured : Nat) (kfar : Nat) (ksides : Nat) (klines : Nat) (kmet : Nat) (ksunk : Nat) (ktrying : Nat) (ktext : Nat) (kline : Nat) (kwritten : Nat) (knode : Nat) (knowF : Nat → Int32) (x : Int32) (y : Int32) (n : Int32) (y15 : Int32) (y17 : Int32) (r19 : Int32) (r24 : Int32) (hN : NowOk knowF) (hnok : ¬ (0 ≤ x.toInt ∧ x.toInt < 4 ∧ 0 ≤ y.toInt ∧ y.toInt < 4 ∧ 1 ≤ n.toInt ∧ n.toInt ≤ 9)) (e16 : y15 = (nI 6) * y) (e18 : y17 = y15 + x) (p20 : (r19 = nI 1 ∧ (0 ≤ x.toInt ∧ x.toInt < 4 ∧ 0 ≤ y.toInt ∧ y.toInt < 4)) ∨ (r19 = nI 0 ∧ ¬ (0 ≤ x.toInt ∧ x.toInt < 4 ∧ 0 ≤ y.toInt ∧ y.toInt < 4))) (c21 : ¬ r19 = 0) (p25 : (r24 = nI 1 ∧ (nI 1).toInt ≤ n.toInt ∧ n.toInt ≤ (nI 9).toInt) ∨ (r24 = nI 0 ∧ ¬ ((nI 1).toInt ≤ n.toInt ∧ n.toInt ≤ (nI 9).toInt))) (c26 : r24 = 0) : ((-1 : Int32) = (-1 : Int32) ∧ ¬ (0 ≤ x.toInt ∧ x.toInt < 4 ∧ 0 ≤ y.toInt ∧ y.toInt < 4 ∧ 1 ≤ n.toInt ∧ n.toInt ≤ 9)) ∨ ((-1 : Int32) = nI 1 ∧ (0 ≤ x.toInt ∧ x.toInt < 4 ∧ 0 ≤ y.toInt ∧ y.toInt < 4 ∧ 1 ≤ n.toInt ∧ n.toInt ≤ 9)) := by
  have k_0 := ia_n 6 (by decide)
  have k_1 := ia_n 1 (by decide)
  have k_2 := ia_n 0 (by decide)
  have k_3 := ia_n 9 (by decide)
  simp only [ia_lt, ia_le, ia_eq, ia_m1, ia_0, ia_1, ne_eq, true_and, and_true, false_and, and_false, or_false, false_or, or_true, true_or, not_true_eq_false, not_false_eq_true] at *
  all_goals omega
set_option maxRecDepth 20000 in
theorem lf_m_milk_8 (o : Nat) (ktape : Nat) (know : Nat) (kread : Nat) (kkept : Nat) (ksnaps : Nat) (kaside : Nat) (kname : Nat) (kreadName : Nat) (kkeptName : Nat) (kisKept : Nat) (konces : Nat) (kpoured : Nat) (kfar : Nat) (ksides : Nat) (klines : Nat) (kmet : Nat) (ksunk : Nat) (ktrying : Nat) (ktext : Nat) (kline : Nat) (kwritten : Nat) (knode : Nat) (knowF : Nat → Int32) (x : Int32) (y : Int32) (n : Int32) (y15 : Int32) (y17 : Int32) (r19 : Int32) (r24 : Int32) (hN : NowOk knowF) (hnok : ¬ (0 ≤ x.toInt ∧ x.toInt < 4 ∧ 0 ≤ y.toInt ∧ y.toInt < 4 ∧ 1 ≤ n.toInt ∧ n.toInt ≤ 9)) (e16 : y15 = (nI 6) * y) (e18 : y17 = y15 + x) (p20 : (r19 = nI 1 ∧ (0 ≤ x.toInt ∧ x.toInt < 4 ∧ 0 ≤ y.toInt ∧ y.toInt < 4)) ∨ (r19 = nI 0 ∧ ¬ (0 ≤ x.toInt ∧ x.toInt < 4 ∧ 0 ≤ y.toInt ∧ y.toInt < 4))) (c21 : ¬ r19 = 0) (p25 : (r24 = nI 1 ∧ (nI 1).toInt ≤ n.toInt ∧ n.toInt ≤ (nI 9).toInt) ∨ (r24 = nI 0 ∧ ¬ ((nI 1).toInt ≤ n.toInt ∧ n.toInt ≤ (nI 9).toInt))) (c26 : ¬ r24 = 0) : False := by
  have k_0 := ia_n 6 (by decide)
  have k_1 := ia_n 1 (by decide)
  have k_2 := ia_n 0 (by decide)
  have k_3 := ia_n 9 (by decide)
  simp only [ia_lt, ia_le, ia_eq, ia_m1, ia_0, ia_1, ne_eq, true_and, and_true, false_and, and_false, or_false, false_or, or_true, true_or, not_true_eq_false, not_false_eq_true] at *
  all_goals omega
set_option maxHeartbeats 4000000 in
set_option maxRecDepth 100000 in
theorem c_m_milk (l : Launch) (dC : Nat → ClassId) (dI : Nat → Nat → Nat) (ky : Nat → ClassId) (sz : Nat) (o : Nat) (ktape : Nat) (know : Nat) (kread : Nat) (kkept : Nat) (ksnaps : Nat) (kaside : Nat) (kname : Nat) (kreadName : Nat) (kkeptName : Nat) (kisKept : Nat) (konces : Nat) (kpoured : Nat) (kfar : Nat) (ksides : Nat) (klines : Nat) (kmet : Nat) (ksunk : Nat) (ktrying : Nat) (ktext : Nat) (kline : Nat) (kwritten : Nat) (knode : Nat) (knowF : Nat → Int32) (x : Int32) (y : Int32) (n : Int32) (hN : NowOk knowF) : Met l yX12_milk wsX12_milk ({ frames := 2, cells := 0, slots := 0, locals := 48 }) (PcU dC dI ky [.ref o, .int x, .int y, .int n] [(o, .inr (12, [.int (nI 0), .ref ktape, .int (nI 0), .int (nI 0), .int (nI 0), .int (nI 0), .int (nI 0), .int (nI 0), .int (nI 0), .int (nI 0), .int (nI 0), .int (nI 0), .long 0, .int (nI 0), .ref know, .ref kread, .ref kkept, .ref ksnaps, .ref kaside, .ref kname, .ref kreadName, .ref kkeptName, .ref kisKept, .ref konces, .int (nI 0), .int (nI 0), .ref kpoured, .ref kfar, .ref ksides, .int (nI 0), .int (-1 : Int32), .int (nI 0), .ref klines, .ref kmet, .int (nI 0), .ref ksunk, .ref ktrying, .int (nI 0), .int (-1 : Int32), .int (-1 : Int32), .ref ktext, .int (nI 0), .int (nI 0), .ref kline, .ref kwritten, .int (nI 0), .int (nI 0), .ref knode, .int (nI 0), .int (nI 0), .int (nI 0), .int (nI 0)])), (know, .inl (ky 0, 373, .inl knowF))] sz) (va_Qi (fun (r : Int32) (_ : Unit) => (r = (-1 : Int32) ∧ ¬ (0 ≤ x.toInt ∧ x.toInt < 4 ∧ 0 ≤ y.toInt ∧ y.toInt < 4 ∧ 1 ≤ n.toInt ∧ n.toInt ≤ 9)) ∨ (r = nI 1 ∧ (0 ≤ x.toInt ∧ x.toInt < 4 ∧ 0 ≤ y.toInt ∧ y.toInt < 4 ∧ 1 ≤ n.toInt ∧ n.toInt ≤ 9))) (BU dC dI ky (fun (_ : Unit) => []) (va_A [(o, .inr (12, [.int (nI 0), .ref ktape, .int (nI 0), .int (nI 0), .int (nI 0), .int (nI 0), .int (nI 0), .int (nI 0), .int (nI 0), .int (nI 0), .int (nI 0), .int (nI 0), .long 0, .int (nI 0), .ref know, .ref kread, .ref kkept, .ref ksnaps, .ref kaside, .ref kname, .ref kreadName, .ref kkeptName, .ref kisKept, .ref konces, .int (nI 0), .int (nI 0), .ref kpoured, .ref kfar, .ref ksides, .int (nI 0), .int (-1 : Int32), .int (nI 0), .ref klines, .ref kmet, .int (nI 0), .ref ksunk, .ref ktrying, .int (nI 0), .int (-1 : Int32), .int (-1 : Int32), .ref ktext, .int (nI 0), .int (nI 0), .ref kline, .ref kwritten, .int (nI 0), .int (nI 0), .ref knode, .int (nI 0), .int (nI 0), .int (nI 0), .int (nI 0)])), (know, .inl (ky 0, 373, .inl knowF))] sz)) (va_A [(o, .inr (12, [.int (nI 0), .ref ktape, .int (nI 0), .int (nI 0), .int (nI 0), .int (nI 0), .int (nI 0), .int (nI 0), .int (nI 0), .int (nI 0), .int (nI 0), .int (nI 0), .long 0, .int (nI 0), .ref know, .ref kread, .ref kkept, .ref ksnaps, .ref kaside, .ref kname, .ref kreadName, .ref kkeptName, .ref kisKept, .ref konces, .int (nI 0), .int (nI 0), .ref kpoured, .ref kfar, .ref ksides, .int (nI 0), .int (-1 : Int32), .int (nI 0), .ref klines, .ref kmet, .int (nI 0), .ref ksunk, .ref ktrying, .int (nI 0), .int (-1 : Int32), .int (-1 : Int32), .ref ktext, .int (nI 0), .int (nI 0), .ref kline, .ref kwritten, .int (nI 0), .int (nI 0), .ref knode, .int (nI 0), .int (nI 0), .int (nI 0), .int (nI 0)])), (know, .inl (ky 0, 373, .inl knowF))] sz)) 0 0 (va_A [(o, .inr (12, [.int (nI 0), .ref ktape, .int (nI 0), .int (nI 0), .int (nI 0), .int (nI 0), .int (nI 0), .int (nI 0), .int (nI 0), .int (nI 0), .int (nI 0), .int (nI 0), .long 0, .int (nI 0), .ref know, .ref kread, .ref kkept, .ref ksnaps, .ref kaside, .ref kname, .ref kreadName, .ref kkeptName, .ref kisKept, .ref konces, .int (nI 0), .int (nI 0), .ref kpoured, .ref kfar, .ref ksides, .int (nI 0), .int (-1 : Int32), .int (nI 0), .ref klines, .ref kmet, .int (nI 0), .ref ksunk, .ref ktrying, .int (nI 0), .int (-1 : Int32), .int (-1 : Int32), .ref ktext, .int (nI 0), .int (nI 0), .ref kline, .ref kwritten, .int (nI 0), .int (nI 0), .ref knode, .int (nI 0), .int (nI 0), .int (nI 0), .int (nI 0)])), (know, .inl (ky 0, 373, .inl knowF))] sz) := by
  refine Met.ofW (cc := cX12_milk) (maxL := 4) (ret := (some .int)) (by decide) rfl ?_
  intro p e s m args below meth c s₁ B hml hv
  obtain ⟨rfl, hsz, hP, hK, hD0⟩ := hv
  have hx := B.exec
  have hb := B.bytes
  have hr := B.returns
  have hts := atoms_spec (ws := wsX12_milk) B.pre
  have hown : s.vm.findClass RX12 = some m.cls := findClass_of_methodNamed B.named
  have hlocks := B.notSynchronized
  have hin12 : ∀ w ∈ u_ws RX12 TX12 52, w ∈ wsX12_milk := by decide +kernel
  subst hsz
  have hD := hD0.self (sz := s.heap.size)
  generalize hAe : va_A [(o, .inr (12, [.int (nI 0), .ref ktape, .int (nI 0), .int (nI 0), .int (nI 0), .int (nI 0), .int (nI 0), .int (nI 0), .int (nI 0), .int (nI 0), .int (nI 0), .int (nI 0), .long 0, .int (nI 0), .ref know, .ref kread, .ref kkept, .ref ksnaps, .ref kaside, .ref kname, .ref kreadName, .ref kkeptName, .ref kisKept, .ref konces, .int (nI 0), .int (nI 0), .ref kpoured, .ref kfar, .ref ksides, .int (nI 0), .int (-1 : Int32), .int (nI 0), .ref klines, .ref kmet, .int (nI 0), .ref ksunk, .ref ktrying, .int (nI 0), .int (-1 : Int32), .int (-1 : Int32), .ref ktext, .int (nI 0), .int (nI 0), .ref kline, .ref kwritten, .int (nI 0), .int (nI 0), .ref knode, .int (nI 0), .int (nI 0), .int (nI 0), .int (nI 0)])), (know, .inl (ky 0, 373, .inl knowF))] s.heap.size = A at hD ⊢
  have hA : ∀ q : Nat, s.heap.size ≤ q → A q := fun q h => by rw [← hAe]; exact Or.inr h
  have hS : va_S A s.heap s.heap [] := va_S.rf
  have hP : va_P (dC, dI) vwCl [(o, .inr (12, [.int (nI 0), .ref ktape, .int (nI 0), .int (nI 0), .int (nI 0), .int (nI 0), .int (nI 0), .int (nI 0), .int (nI 0), .int (nI 0), .int (nI 0), .int (nI 0), .long 0, .int (nI 0), .ref know, .ref kread, .ref kkept, .ref ksnaps, .ref kaside, .ref kname, .ref kreadName, .ref kkeptName, .ref kisKept, .ref konces, .int (nI 0), .int (nI 0), .ref kpoured, .ref kfar, .ref ksides, .int (nI 0), .int (-1 : Int32), .int (nI 0), .ref klines, .ref kmet, .int (nI 0), .ref ksunk, .ref ktrying, .int (nI 0), .int (-1 : Int32), .int (-1 : Int32), .ref ktext, .int (nI 0), .int (nI 0), .ref kline, .ref kwritten, .int (nI 0), .int (nI 0), .ref knode, .int (nI 0), .int (nI 0), .int (nI 0), .int (nI 0)])), (know, .inl (ky 0, 373, .inl knowF))] s.heap := hP
  have hl := lv_entry ([.ref o, .int x, .int y, .int n]) (n := 4) (Nat.le_of_ble_eq_true rfl)
  rw [lg_entry_eq]
  generalize (lg_sl ([.ref o, .int x, .int y, .int n]) ++ List.replicate (4 - (lg_sl ([.ref o, .int x, .int y, .int n])).length) Slot.unset).toArray = ls at hl ⊢
  have hl : lv_has ls 4 [(0, .ref o), (1, .int x), (2, .int y), (3, .int n)] := hl
  have hH0 : True := trivial
  rcases Classical.em (0 ≤ x.toInt ∧ x.toInt < 4 ∧ 0 ≤ y.toInt ∧ y.toInt < 4 ∧ 1 ≤ n.toInt ∧ n.toInt ≤ 9) with hok | hnok
  · obtain ⟨xn, h1, rfl⟩ := nat_of x 4 (by decide) (lf_m_milk_1 o ktape know kread kkept ksnaps kaside kname kreadName kkeptName kisKept konces kpoured kfar ksides klines kmet ksunk ktrying ktext kline kwritten knode knowF x y n hN hok)
    obtain ⟨yn, h2, rfl⟩ := nat_of y 4 (by decide) (lf_m_milk_2 o ktape know kread kkept ksnaps kaside kname kreadName kkeptName kisKept konces kpoured kfar ksides klines kmet ksunk ktrying ktext kline kwritten knode knowF y n xn hN hok h1)
    refine lv_aload_n hx hb dX12_milk_0 rfl (lv_at hl 0 rfl) ?_
    refine lv_iconst (v := nI 0) hx hb dX12_milk_1 (by decide) ?_
    refine va_put (D := (dC, dI)) (ci := 12) (v := .int (nI 0)) (ty := .int) (C := RX12) (T := TX12) (N := 52) hx hb hts hin12 tyX12 tyX12_ok nmX12 hown hK hP hD hS 0 rfl rfl 0 (by decide) (hts (.fieldLink RX12 1 "PorridgeSeaModel" "thrown" "I") (List.mem_of_getElem? (i := 1) rfl)) (fun _ h9 => h9) rfl (by decide +kernel) rfl rfl (Nat.le_of_ble_eq_true rfl) dX12_milk_2 (fun H locs hP hD hS => ?_)
    have hP : va_P (dC, dI) vwCl [(o, .inr (12, [.int (nI 0), .ref ktape, .int (nI 0), .int (nI 0), .int (nI 0), .int (nI 0), .int (nI 0), .int (nI 0), .int (nI 0), .int (nI 0), .int (nI 0), .int (nI 0), .long 0, .int (nI 0), .ref know, .ref kread, .ref kkept, .ref ksnaps, .ref kaside, .ref kname, .ref kreadName, .ref kkeptName, .ref kisKept, .ref konces, .int (nI 0), .int (nI 0), .ref kpoured, .ref kfar, .ref ksides, .int (nI 0), .int (-1 : Int32), .int (nI 0), .ref klines, .ref kmet, .int (nI 0), .ref ksunk, .ref ktrying, .int (nI 0), .int (-1 : Int32), .int (-1 : Int32), .ref ktext, .int (nI 0), .int (nI 0), .ref kline, .ref kwritten, .int (nI 0), .int (nI 0), .ref knode, .int (nI 0), .int (nI 0), .int (nI 0), .int (nI 0)])), (know, .inl (ky 0, 373, .inl knowF))] H := hP
    have hD : va_D A [(o, .inr (12, [.int (nI 0), .ref ktape, .int (nI 0), .int (nI 0), .int (nI 0), .int (nI 0), .int (nI 0), .int (nI 0), .int (nI 0), .int (nI 0), .int (nI 0), .int (nI 0), .long 0, .int (nI 0), .ref know, .ref kread, .ref kkept, .ref ksnaps, .ref kaside, .ref kname, .ref kreadName, .ref kkeptName, .ref kisKept, .ref konces, .int (nI 0), .int (nI 0), .ref kpoured, .ref kfar, .ref ksides, .int (nI 0), .int (-1 : Int32), .int (nI 0), .ref klines, .ref kmet, .int (nI 0), .ref ksunk, .ref ktrying, .int (nI 0), .int (-1 : Int32), .int (-1 : Int32), .ref ktext, .int (nI 0), .int (nI 0), .ref kline, .ref kwritten, .int (nI 0), .int (nI 0), .ref knode, .int (nI 0), .int (nI 0), .int (nI 0), .int (nI 0)])), (know, .inl (ky 0, 373, .inl knowF))] := hD
    refine lv_aload_n hx hb dX12_milk_5 rfl (lv_at hl 0 rfl) ?_
    refine lv_iconst (v := nI 3) hx hb dX12_milk_6 (by decide) ?_
    refine lv_bipush (v := nI 6) hx hb dX12_milk_7 (by decide) ?_
    refine lv_iload_n hx hb dX12_milk_9 rfl (lv_at hl 2 rfl) ?_
    refine lv_imul hx hb dX12_milk_10 ?_
    refine r_ti (nI (6 * yn)) (pk_mul _ _) ?_
    refine lv_iload_n hx hb dX12_milk_11 rfl (lv_at hl 1 rfl) ?_
    refine lv_iadd hx hb dX12_milk_12 ?_
    refine r_ti (nI ((6 * yn) + xn)) (nI_add _ _) ?_
    refine lv_iload_n hx hb dX12_milk_13 rfl (lv_at hl 3 rfl) ?_
    refine lv_aload_n hx hb dX12_milk_14 rfl (lv_at hl 0 rfl) ?_
    refine lv_iload_n hx hb dX12_milk_15 rfl (lv_at hl 1 rfl) ?_
    refine lv_iload_n hx hb dX12_milk_16 rfl (lv_at hl 2 rfl) ?_
    refine vp_callSi (W.runV (As := [.int (nI xn), .int (nI yn)]) (rest := [.int n, .int (nI ((6 * yn) + xn)), .int (nI 3), .ref o]) ⟨hx, hb, hml, hown, hts⟩ (c_m_isCell l dC dI ky o (nI 0) ktape (nI 0) (nI 0) (nI 0) (nI 0) (nI 0) (nI 0) (nI 0) (nI 0) (nI 0) (nI 0) 0 (nI 0) know kread kkept ksnaps kaside kname kreadName kkeptName kisKept konces (nI 0) (nI 0) kpoured kfar ksides (nI 0) (-1 : Int32) (nI 0) klines kmet (nI 0) ksunk ktrying (nI 0) (-1 : Int32) (-1 : Int32) ktext (nI 0) (nI 0) kline kwritten (nI 0) (nI 0) knode (nI 0) (nI 0) (nI 0) (nI 0) knowF (nI xn) (nI yn) (NowOk.b hN)) (cwV 2 hts gX12_milk_X12_isCell rfl rfl rfl (by decide +kernel) ⟨(Nat.le_of_ble_eq_true rfl), (Nat.le_of_ble_eq_true rfl)⟩) (pre_PV hK hP [0, 1] rfl (ci := 12) (q0 := 0) rfl rfl) rfl rfl hl.1 rfl (lv_room (Nat.le_of_ble_eq_true rfl)) dX12_milk_17 ⟨(Nat.le_of_ble_eq_true rfl), (Nat.le_of_ble_eq_true rfl)⟩) (fun r3 p4 => ?_)
    refine lv_if_eq (tgt := 37) hx hb dX12_milk_20 (by decide) (fun c5 => ?_) (fun c5 => ?_)
    · refine lv_iconst (v := nI 0) hx hb dX12_milk_37 (by decide) ?_
      refine vp_callSi (W.runV (As := [.int (nI 3), .int (nI ((6 * yn) + xn)), .int n, .int (nI 0)]) (rest := []) ⟨hx, hb, hml, hown, hts⟩ (c_m_actNo l dC dI ky o (nI 0) ktape (nI 0) (nI 0) (nI 0) (nI 0) (nI 0) (nI 0) (nI 0) (nI 0) (nI 0) (nI 0) 0 (nI 0) know kread kkept ksnaps kaside kname kreadName kkeptName kisKept konces (nI 0) (nI 0) kpoured kfar ksides (nI 0) (-1 : Int32) (nI 0) klines kmet (nI 0) ksunk ktrying (nI 0) (-1 : Int32) (-1 : Int32) ktext (nI 0) (nI 0) kline kwritten (nI 0) (nI 0) knode (nI 0) (nI 0) (nI 0) (nI 0) (nI 3) (nI ((6 * yn) + xn)) n) (cwV 4 hts gX12_milk_X12_act rfl rfl rfl (by decide +kernel) ⟨(Nat.le_of_ble_eq_true rfl), (Nat.le_of_ble_eq_true rfl)⟩) (pre_PV hK hP [0] rfl (ci := 12) (q0 := 0) rfl rfl) rfl rfl hl.1 rfl (lv_room (Nat.le_of_ble_eq_true rfl)) dX12_milk_38 ⟨(Nat.le_of_ble_eq_true rfl), (Nat.le_of_ble_eq_true rfl)⟩) (fun r6 p7 => ?_)
      subst p7
      have hP9 := hP.sub (ws' := []) [] rfl
      have hD9 := hD.sub (ws' := []) [] (by decide) rfl
      refine W.widen (k := 0) (n := 0) (Nat.le_of_ble_eq_true rfl) (Nat.le_of_ble_eq_true rfl) ?_
      exact W.iret (v := (-1 : Int32)) hx hb hr (fun t ht9 hW9 => ⟨⟨(-1 : Int32), (), rfl, (lf_m_milk_3 o ktape know kread kkept ksnaps kaside kname kreadName kkeptName kisKept konces kpoured kfar ksides klines kmet ksunk ktrying ktext kline kwritten knode knowF n xn yn r3 hN hok h1 h2 p4 c5), by rw [ht9]; exact hP9, va_K.moved hW9.alike hK, hD9⟩, hS.F ht9⟩) hS.2.2 dX12_milk_41
    · refine lv_iload_n hx hb dX12_milk_23 rfl (lv_at hl 3 rfl) ?_
      refine lv_iconst (v := nI 1) hx hb dX12_milk_24 (by decide) ?_
      refine lv_bipush (v := nI 9) hx hb dX12_milk_25 (by decide) ?_
      refine vp_callSi (W.runS (As := [.int n, .int (nI 1), .int (nI 9)]) (rest := [.int n, .int (nI ((6 * yn) + xn)), .int (nI 3), .ref o]) ⟨hx, hb, hml, hown, hts⟩ (c_isIn l dC dI ky n (nI 1) (nI 9)) (va_cwS 3 hts gX12_milk_X12_isIn rfl rfl rfl (by decide +kernel) ⟨(Nat.le_of_ble_eq_true rfl), (Nat.le_of_ble_eq_true rfl)⟩) (pre_PS hK hP [] rfl) rfl rfl hl.1 rfl (lv_room (Nat.le_of_ble_eq_true rfl)) dX12_milk_27 ⟨(Nat.le_of_ble_eq_true rfl), (Nat.le_of_ble_eq_true rfl)⟩) (fun r8 p9 => ?_)
      refine lv_if_eq (tgt := 37) hx hb dX12_milk_30 (by decide) (fun c10 => ?_) (fun c10 => ?_)
      · refine lv_iconst (v := nI 0) hx hb dX12_milk_37 (by decide) ?_
        refine vp_callSi (W.runV (As := [.int (nI 3), .int (nI ((6 * yn) + xn)), .int n, .int (nI 0)]) (rest := []) ⟨hx, hb, hml, hown, hts⟩ (c_m_actNo l dC dI ky o (nI 0) ktape (nI 0) (nI 0) (nI 0) (nI 0) (nI 0) (nI 0) (nI 0) (nI 0) (nI 0) (nI 0) 0 (nI 0) know kread kkept ksnaps kaside kname kreadName kkeptName kisKept konces (nI 0) (nI 0) kpoured kfar ksides (nI 0) (-1 : Int32) (nI 0) klines kmet (nI 0) ksunk ktrying (nI 0) (-1 : Int32) (-1 : Int32) ktext (nI 0) (nI 0) kline kwritten (nI 0) (nI 0) knode (nI 0) (nI 0) (nI 0) (nI 0) (nI 3) (nI ((6 * yn) + xn)) n) (cwV 4 hts gX12_milk_X12_act rfl rfl rfl (by decide +kernel) ⟨(Nat.le_of_ble_eq_true rfl), (Nat.le_of_ble_eq_true rfl)⟩) (pre_PV hK hP [0] rfl (ci := 12) (q0 := 0) rfl rfl) rfl rfl hl.1 rfl (lv_room (Nat.le_of_ble_eq_true rfl)) dX12_milk_38 ⟨(Nat.le_of_ble_eq_true rfl), (Nat.le_of_ble_eq_true rfl)⟩) (fun r11 p12 => ?_)
        subst p12
        have hP9 := hP.sub (ws' := []) [] rfl
        have hD9 := hD.sub (ws' := []) [] (by decide) rfl
        refine W.widen (k := 0) (n := 0) (Nat.le_of_ble_eq_true rfl) (Nat.le_of_ble_eq_true rfl) ?_
        exact W.iret (v := (-1 : Int32)) hx hb hr (fun t ht9 hW9 => ⟨⟨(-1 : Int32), (), rfl, (lf_m_milk_4 o ktape know kread kkept ksnaps kaside kname kreadName kkeptName kisKept konces kpoured kfar ksides klines kmet ksunk ktrying ktext kline kwritten knode knowF n xn yn r3 r8 hN hok h1 h2 p4 c5 p9 c10), by rw [ht9]; exact hP9, va_K.moved hW9.alike hK, hD9⟩, hS.F ht9⟩) hS.2.2 dX12_milk_41
      · refine lv_iconst (v := nI 1) hx hb dX12_milk_33 (by decide) ?_
        refine lv_goto (tgt := 38) hx hb dX12_milk_34 (by decide) ?_
        refine vp_callSi (W.runV (As := [.int (nI 3), .int (nI ((6 * yn) + xn)), .int n, .int (nI 1)]) (rest := []) ⟨hx, hb, hml, hown, hts⟩ (c_m_act3 l dC dI ky o (nI 0) ktape (nI 0) (nI 0) (nI 0) (nI 0) (nI 0) (nI 0) (nI 0) (nI 0) (nI 0) (nI 0) 0 (nI 0) know kread kkept ksnaps kaside kname kreadName kkeptName kisKept konces (nI 0) (nI 0) kpoured kfar ksides (nI 0) (-1 : Int32) (nI 0) klines kmet (nI 0) ksunk ktrying (nI 0) (-1 : Int32) (-1 : Int32) ktext (nI 0) (nI 0) kline kwritten (nI 0) (nI 0) knode (nI 0) (nI 0) (nI 0) (nI 0) knowF ((6 * yn) + xn) n hN (by omega)) (cwV 4 hts gX12_milk_X12_act rfl rfl rfl (by decide +kernel) ⟨(Nat.le_of_ble_eq_true rfl), (Nat.le_of_ble_eq_true rfl)⟩) (pre_PV hK hP [0, 1] rfl (ci := 12) (q0 := 0) rfl rfl) rfl rfl hl.1 rfl (lv_room (Nat.le_of_ble_eq_true rfl)) dX12_milk_38 ⟨(Nat.le_of_ble_eq_true rfl), (Nat.le_of_ble_eq_true rfl)⟩) (fun r13 p14 => ?_)
        subst p14
        have hP9 := hP.sub (ws' := []) [] rfl
        have hD9 := hD.sub (ws' := []) [] (by decide) rfl
        refine W.widen (k := 0) (n := 0) (Nat.le_of_ble_eq_true rfl) (Nat.le_of_ble_eq_true rfl) ?_
        exact W.iret (v := nI 1) hx hb hr (fun t ht9 hW9 => ⟨⟨nI 1, (), rfl, (lf_m_milk_5 o ktape know kread kkept ksnaps kaside kname kreadName kkeptName kisKept konces kpoured kfar ksides klines kmet ksunk ktrying ktext kline kwritten knode knowF n xn yn r3 r8 hN hok h1 h2 p4 c5 p9 c10), by rw [ht9]; exact hP9, va_K.moved hW9.alike hK, hD9⟩, hS.F ht9⟩) hS.2.2 dX12_milk_41
  · refine lv_aload_n hx hb dX12_milk_0 rfl (lv_at hl 0 rfl) ?_
    refine lv_iconst (v := nI 0) hx hb dX12_milk_1 (by decide) ?_
    refine va_put (D := (dC, dI)) (ci := 12) (v := .int (nI 0)) (ty := .int) (C := RX12) (T := TX12) (N := 52) hx hb hts hin12 tyX12 tyX12_ok nmX12 hown hK hP hD hS 0 rfl rfl 0 (by decide) (hts (.fieldLink RX12 1 "PorridgeSeaModel" "thrown" "I") (List.mem_of_getElem? (i := 1) rfl)) (fun _ h9 => h9) rfl (by decide +kernel) rfl rfl (Nat.le_of_ble_eq_true rfl) dX12_milk_2 (fun H locs hP hD hS => ?_)
    have hP : va_P (dC, dI) vwCl [(o, .inr (12, [.int (nI 0), .ref ktape, .int (nI 0), .int (nI 0), .int (nI 0), .int (nI 0), .int (nI 0), .int (nI 0), .int (nI 0), .int (nI 0), .int (nI 0), .int (nI 0), .long 0, .int (nI 0), .ref know, .ref kread, .ref kkept, .ref ksnaps, .ref kaside, .ref kname, .ref kreadName, .ref kkeptName, .ref kisKept, .ref konces, .int (nI 0), .int (nI 0), .ref kpoured, .ref kfar, .ref ksides, .int (nI 0), .int (-1 : Int32), .int (nI 0), .ref klines, .ref kmet, .int (nI 0), .ref ksunk, .ref ktrying, .int (nI 0), .int (-1 : Int32), .int (-1 : Int32), .ref ktext, .int (nI 0), .int (nI 0), .ref kline, .ref kwritten, .int (nI 0), .int (nI 0), .ref knode, .int (nI 0), .int (nI 0), .int (nI 0), .int (nI 0)])), (know, .inl (ky 0, 373, .inl knowF))] H := hP
    have hD : va_D A [(o, .inr (12, [.int (nI 0), .ref ktape, .int (nI 0), .int (nI 0), .int (nI 0), .int (nI 0), .int (nI 0), .int (nI 0), .int (nI 0), .int (nI 0), .int (nI 0), .int (nI 0), .long 0, .int (nI 0), .ref know, .ref kread, .ref kkept, .ref ksnaps, .ref kaside, .ref kname, .ref kreadName, .ref kkeptName, .ref kisKept, .ref konces, .int (nI 0), .int (nI 0), .ref kpoured, .ref kfar, .ref ksides, .int (nI 0), .int (-1 : Int32), .int (nI 0), .ref klines, .ref kmet, .int (nI 0), .ref ksunk, .ref ktrying, .int (nI 0), .int (-1 : Int32), .int (-1 : Int32), .ref ktext, .int (nI 0), .int (nI 0), .ref kline, .ref kwritten, .int (nI 0), .int (nI 0), .ref knode, .int (nI 0), .int (nI 0), .int (nI 0), .int (nI 0)])), (know, .inl (ky 0, 373, .inl knowF))] := hD
    refine lv_aload_n hx hb dX12_milk_5 rfl (lv_at hl 0 rfl) ?_
    refine lv_iconst (v := nI 3) hx hb dX12_milk_6 (by decide) ?_
    refine lv_bipush (v := nI 6) hx hb dX12_milk_7 (by decide) ?_
    refine lv_iload_n hx hb dX12_milk_9 rfl (lv_at hl 2 rfl) ?_
    refine lv_imul hx hb dX12_milk_10 ?_
    refine lv_topi (fun y15 e16 => ?_)
    refine lv_iload_n hx hb dX12_milk_11 rfl (lv_at hl 1 rfl) ?_
    refine lv_iadd hx hb dX12_milk_12 ?_
    refine lv_topi (fun y17 e18 => ?_)
    refine lv_iload_n hx hb dX12_milk_13 rfl (lv_at hl 3 rfl) ?_
    refine lv_aload_n hx hb dX12_milk_14 rfl (lv_at hl 0 rfl) ?_
    refine lv_iload_n hx hb dX12_milk_15 rfl (lv_at hl 1 rfl) ?_
    refine lv_iload_n hx hb dX12_milk_16 rfl (lv_at hl 2 rfl) ?_
    refine vp_callSi (W.runV (As := [.int x, .int y]) (rest := [.int n, .int y17, .int (nI 3), .ref o]) ⟨hx, hb, hml, hown, hts⟩ (c_m_isCell l dC dI ky o (nI 0) ktape (nI 0) (nI 0) (nI 0) (nI 0) (nI 0) (nI 0) (nI 0) (nI 0) (nI 0) (nI 0) 0 (nI 0) know kread kkept ksnaps kaside kname kreadName kkeptName kisKept konces (nI 0) (nI 0) kpoured kfar ksides (nI 0) (-1 : Int32) (nI 0) klines kmet (nI 0) ksunk ktrying (nI 0) (-1 : Int32) (-1 : Int32) ktext (nI 0) (nI 0) kline kwritten (nI 0) (nI 0) knode (nI 0) (nI 0) (nI 0) (nI 0) knowF x y (NowOk.b hN)) (cwV 2 hts gX12_milk_X12_isCell rfl rfl rfl (by decide +kernel) ⟨(Nat.le_of_ble_eq_true rfl), (Nat.le_of_ble_eq_true rfl)⟩) (pre_PV hK hP [0, 1] rfl (ci := 12) (q0 := 0) rfl rfl) rfl rfl hl.1 rfl (lv_room (Nat.le_of_ble_eq_true rfl)) dX12_milk_17 ⟨(Nat.le_of_ble_eq_true rfl), (Nat.le_of_ble_eq_true rfl)⟩) (fun r19 p20 => ?_)
    refine lv_if_eq (tgt := 37) hx hb dX12_milk_20 (by decide) (fun c21 => ?_) (fun c21 => ?_)
    · refine lv_iconst (v := nI 0) hx hb dX12_milk_37 (by decide) ?_
      refine vp_callSi (W.runV (As := [.int (nI 3), .int y17, .int n, .int (nI 0)]) (rest := []) ⟨hx, hb, hml, hown, hts⟩ (c_m_actNo l dC dI ky o (nI 0) ktape (nI 0) (nI 0) (nI 0) (nI 0) (nI 0) (nI 0) (nI 0) (nI 0) (nI 0) (nI 0) 0 (nI 0) know kread kkept ksnaps kaside kname kreadName kkeptName kisKept konces (nI 0) (nI 0) kpoured kfar ksides (nI 0) (-1 : Int32) (nI 0) klines kmet (nI 0) ksunk ktrying (nI 0) (-1 : Int32) (-1 : Int32) ktext (nI 0) (nI 0) kline kwritten (nI 0) (nI 0) knode (nI 0) (nI 0) (nI 0) (nI 0) (nI 3) y17 n) (cwV 4 hts gX12_milk_X12_act rfl rfl rfl (by decide +kernel) ⟨(Nat.le_of_ble_eq_true rfl), (Nat.le_of_ble_eq_true rfl)⟩) (pre_PV hK hP [0] rfl (ci := 12) (q0 := 0) rfl rfl) rfl rfl hl.1 rfl (lv_room (Nat.le_of_ble_eq_true rfl)) dX12_milk_38 ⟨(Nat.le_of_ble_eq_true rfl), (Nat.le_of_ble_eq_true rfl)⟩) (fun r22 p23 => ?_)
      subst p23
      have hP9 := hP.sub (ws' := []) [] rfl
      have hD9 := hD.sub (ws' := []) [] (by decide) rfl
      refine W.widen (k := 0) (n := 0) (Nat.le_of_ble_eq_true rfl) (Nat.le_of_ble_eq_true rfl) ?_
      exact W.iret (v := (-1 : Int32)) hx hb hr (fun t ht9 hW9 => ⟨⟨(-1 : Int32), (), rfl, (lf_m_milk_6 o ktape know kread kkept ksnaps kaside kname kreadName kkeptName kisKept konces kpoured kfar ksides klines kmet ksunk ktrying ktext kline kwritten knode knowF x y n y15 y17 r19 hN hnok e16 e18 p20 c21), by rw [ht9]; exact hP9, va_K.moved hW9.alike hK, hD9⟩, hS.F ht9⟩) hS.2.2 dX12_milk_41
    · refine lv_iload_n hx hb dX12_milk_23 rfl (lv_at hl 3 rfl) ?_
      refine lv_iconst (v := nI 1) hx hb dX12_milk_24 (by decide) ?_
      refine lv_bipush (v := nI 9) hx hb dX12_milk_25 (by decide) ?_
      refine vp_callSi (W.runS (As := [.int n, .int (nI 1), .int (nI 9)]) (rest := [.int n, .int y17, .int (nI 3), .ref o]) ⟨hx, hb, hml, hown, hts⟩ (c_isIn l dC dI ky n (nI 1) (nI 9)) (va_cwS 3 hts gX12_milk_X12_isIn rfl rfl rfl (by decide +kernel) ⟨(Nat.le_of_ble_eq_true rfl), (Nat.le_of_ble_eq_true rfl)⟩) (pre_PS hK hP [] rfl) rfl rfl hl.1 rfl (lv_room (Nat.le_of_ble_eq_true rfl)) dX12_milk_27 ⟨(Nat.le_of_ble_eq_true rfl), (Nat.le_of_ble_eq_true rfl)⟩) (fun r24 p25 => ?_)
      refine lv_if_eq (tgt := 37) hx hb dX12_milk_30 (by decide) (fun c26 => ?_) (fun c26 => ?_)
      · refine lv_iconst (v := nI 0) hx hb dX12_milk_37 (by decide) ?_
        refine vp_callSi (W.runV (As := [.int (nI 3), .int y17, .int n, .int (nI 0)]) (rest := []) ⟨hx, hb, hml, hown, hts⟩ (c_m_actNo l dC dI ky o (nI 0) ktape (nI 0) (nI 0) (nI 0) (nI 0) (nI 0) (nI 0) (nI 0) (nI 0) (nI 0) (nI 0) 0 (nI 0) know kread kkept ksnaps kaside kname kreadName kkeptName kisKept konces (nI 0) (nI 0) kpoured kfar ksides (nI 0) (-1 : Int32) (nI 0) klines kmet (nI 0) ksunk ktrying (nI 0) (-1 : Int32) (-1 : Int32) ktext (nI 0) (nI 0) kline kwritten (nI 0) (nI 0) knode (nI 0) (nI 0) (nI 0) (nI 0) (nI 3) y17 n) (cwV 4 hts gX12_milk_X12_act rfl rfl rfl (by decide +kernel) ⟨(Nat.le_of_ble_eq_true rfl), (Nat.le_of_ble_eq_true rfl)⟩) (pre_PV hK hP [0] rfl (ci := 12) (q0 := 0) rfl rfl) rfl rfl hl.1 rfl (lv_room (Nat.le_of_ble_eq_true rfl)) dX12_milk_38 ⟨(Nat.le_of_ble_eq_true rfl), (Nat.le_of_ble_eq_true rfl)⟩) (fun r27 p28 => ?_)
        subst p28
        have hP9 := hP.sub (ws' := []) [] rfl
        have hD9 := hD.sub (ws' := []) [] (by decide) rfl
        refine W.widen (k := 0) (n := 0) (Nat.le_of_ble_eq_true rfl) (Nat.le_of_ble_eq_true rfl) ?_
        exact W.iret (v := (-1 : Int32)) hx hb hr (fun t ht9 hW9 => ⟨⟨(-1 : Int32), (), rfl, (lf_m_milk_7 o ktape know kread kkept ksnaps kaside kname kreadName kkeptName kisKept konces kpoured kfar ksides klines kmet ksunk ktrying ktext kline kwritten knode knowF x y n y15 y17 r19 r24 hN hnok e16 e18 p20 c21 p25 c26), by rw [ht9]; exact hP9, va_K.moved hW9.alike hK, hD9⟩, hS.F ht9⟩) hS.2.2 dX12_milk_41
      · exact ((lf_m_milk_8 o ktape know kread kkept ksnaps kaside kname kreadName kkeptName kisKept konces kpoured kfar ksides klines kmet ksunk ktrying ktext kline kwritten knode knowF x y n y15 y17 r19 r24 hN hnok e16 e18 p20 c21 p25 c26)).elim
set_option maxRecDepth 20000 in
theorem lf_m_stove_1 (o : Nat) (ktape : Nat) (know : Nat) (kread : Nat) (kkept : Nat) (ksnaps : Nat) (kaside : Nat) (kname : Nat) (kreadName : Nat) (kkeptName : Nat) (kisKept : Nat) (konces : Nat) (kpoured : Nat) (kfar : Nat) (ksides : Nat) (klines : Nat) (kmet : Nat) (ksunk : Nat) (ktrying : Nat) (ktext : Nat) (kline : Nat) (kwritten : Nat) (knode : Nat) (knowF : Nat → Int32) (ksnapsF : Nat → Int32) (x : Int32) (r1 : Int32) (hN : NowOk knowF) (p2 : (r1 = nI 1 ∧ (nI 1).toInt ≤ x.toInt ∧ x.toInt ≤ (nI 20).toInt) ∨ (r1 = nI 0 ∧ ¬ ((nI 1).toInt ≤ x.toInt ∧ x.toInt ≤ (nI 20).toInt))) : r1 = nI 0 ∨ r1 = nI 1 := by
  have k_0 := ia_n 1 (by decide)
  have k_1 := ia_n 20 (by decide)
  have k_2 := ia_n 0 (by decide)
  simp only [ia_lt, ia_le, ia_eq, ia_m1, ia_0, ia_1, ne_eq, true_and, and_true, false_and, and_false, or_false, false_or, or_true, true_or, not_true_eq_false, not_false_eq_true] at *
  all_goals omega
set_option maxRecDepth 20000 in
theorem lf_m_stove_2 (o : Nat) (ktape : Nat) (know : Nat) (kread : Nat) (kkept : Nat) (ksnaps : Nat) (kaside : Nat) (kname : Nat) (kreadName : Nat) (kkeptName : Nat) (kisKept : Nat) (konces : Nat) (kpoured : Nat) (kfar : Nat) (ksides : Nat) (klines : Nat) (kmet : Nat) (ksunk : Nat) (ktrying : Nat) (ktext : Nat) (kline : Nat) (kwritten : Nat) (knode : Nat) (knowF : Nat → Int32) (ksnapsF : Nat → Int32) (x : Int32) (hN : NowOk knowF) (p2 : ((nI 0) = nI 1 ∧ (nI 1).toInt ≤ x.toInt ∧ x.toInt ≤ (nI 20).toInt) ∨ ((nI 0) = nI 0 ∧ ¬ ((nI 1).toInt ≤ x.toInt ∧ x.toInt ≤ (nI 20).toInt))) : ((-1 : Int32) = (-1 : Int32) ∧ ¬ (1 ≤ x.toInt ∧ x.toInt ≤ 20)) ∨ ((-1 : Int32) = nI 0 ∧ 1 ≤ x.toInt ∧ x.toInt ≤ 20) := by
  have k_0 := ia_n 0 (by decide)
  have k_1 := ia_n 1 (by decide)
  have k_2 := ia_n 20 (by decide)
  simp only [ia_lt, ia_le, ia_eq, ia_m1, ia_0, ia_1, ne_eq, true_and, and_true, false_and, and_false, or_false, false_or, or_true, true_or, not_true_eq_false, not_false_eq_true] at *
  all_goals omega
set_option maxRecDepth 20000 in
theorem lf_m_stove_3 (o : Nat) (ktape : Nat) (know : Nat) (kread : Nat) (kkept : Nat) (ksnaps : Nat) (kaside : Nat) (kname : Nat) (kreadName : Nat) (kkeptName : Nat) (kisKept : Nat) (konces : Nat) (kpoured : Nat) (kfar : Nat) (ksides : Nat) (klines : Nat) (kmet : Nat) (ksunk : Nat) (ktrying : Nat) (ktext : Nat) (kline : Nat) (kwritten : Nat) (knode : Nat) (knowF : Nat → Int32) (ksnapsF : Nat → Int32) (x : Int32) (hN : NowOk knowF) (p2 : ((nI 1) = nI 1 ∧ (nI 1).toInt ≤ x.toInt ∧ x.toInt ≤ (nI 20).toInt) ∨ ((nI 1) = nI 0 ∧ ¬ ((nI 1).toInt ≤ x.toInt ∧ x.toInt ≤ (nI 20).toInt))) : ((nI 0) = (-1 : Int32) ∧ ¬ (1 ≤ x.toInt ∧ x.toInt ≤ 20)) ∨ ((nI 0) = nI 0 ∧ 1 ≤ x.toInt ∧ x.toInt ≤ 20) := by
  have k_0 := ia_n 1 (by decide)
  have k_1 := ia_n 20 (by decide)
  have k_2 := ia_n 0 (by decide)
  simp only [ia_lt, ia_le, ia_eq, ia_m1, ia_0, ia_1, ne_eq, true_and, and_true, false_and, and_false, or_false, false_or, or_true, true_or, not_true_eq_false, not_false_eq_true] at *
  all_goals omega
set_option maxHeartbeats 4000000 in
set_option maxRecDepth 100000 in
theorem c_m_stove (l : Launch) (dC : Nat → ClassId) (dI : Nat → Nat → Nat) (ky : Nat → ClassId) (sz : Nat) (o : Nat) (ktape : Nat) (know : Nat) (kread : Nat) (kkept : Nat) (ksnaps : Nat) (kaside : Nat) (kname : Nat) (kreadName : Nat) (kkeptName : Nat) (kisKept : Nat) (konces : Nat) (kpoured : Nat) (kfar : Nat) (ksides : Nat) (klines : Nat) (kmet : Nat) (ksunk : Nat) (ktrying : Nat) (ktext : Nat) (kline : Nat) (kwritten : Nat) (knode : Nat) (knowF : Nat → Int32) (ksnapsF : Nat → Int32) (x : Int32) (hN : NowOk knowF) : Met l yX12_stove wsX12_stove ({ frames := 3, cells := 0, slots := 0, locals := 69 }) (PcU dC dI ky [.ref o, .int x] [(o, .inr (12, [.int (nI 0), .ref ktape, .int (nI 0), .int (nI 0), .int (nI 0), .int (nI 0), .int (nI 0), .int (nI 0), .int (nI 0), .int (nI 0), .int (nI 0), .int (nI 0), .long 0, .int (nI 0), .ref know, .ref kread, .ref kkept, .ref ksnaps, .ref kaside, .ref kname, .ref kreadName, .ref kkeptName, .ref kisKept, .ref konces, .int (nI 0), .int (nI 0), .ref kpoured, .ref kfar, .ref ksides, .int (nI 0), .int (-1 : Int32), .int (nI 0), .ref klines, .ref kmet, .int (nI 0), .ref ksunk, .ref ktrying, .int (nI 0), .int (-1 : Int32), .int (-1 : Int32), .ref ktext, .int (nI 0), .int (nI 0), .ref kline, .ref kwritten, .int (nI 0), .int (nI 0), .ref knode, .int (nI 0), .int (nI 0), .int (nI 0), .int (nI 0)])), (know, .inl (ky 0, 373, .inl knowF)), (ksnaps, .inl (ky 0, 512, .inl ksnapsF))] sz) (va_Qi (fun (r : Int32) (_ : Unit) => (r = (-1 : Int32) ∧ ¬ (1 ≤ x.toInt ∧ x.toInt ≤ 20)) ∨ (r = nI 0 ∧ 1 ≤ x.toInt ∧ x.toInt ≤ 20)) (BU dC dI ky (fun (_ : Unit) => []) (va_A [(o, .inr (12, [.int (nI 0), .ref ktape, .int (nI 0), .int (nI 0), .int (nI 0), .int (nI 0), .int (nI 0), .int (nI 0), .int (nI 0), .int (nI 0), .int (nI 0), .int (nI 0), .long 0, .int (nI 0), .ref know, .ref kread, .ref kkept, .ref ksnaps, .ref kaside, .ref kname, .ref kreadName, .ref kkeptName, .ref kisKept, .ref konces, .int (nI 0), .int (nI 0), .ref kpoured, .ref kfar, .ref ksides, .int (nI 0), .int (-1 : Int32), .int (nI 0), .ref klines, .ref kmet, .int (nI 0), .ref ksunk, .ref ktrying, .int (nI 0), .int (-1 : Int32), .int (-1 : Int32), .ref ktext, .int (nI 0), .int (nI 0), .ref kline, .ref kwritten, .int (nI 0), .int (nI 0), .ref knode, .int (nI 0), .int (nI 0), .int (nI 0), .int (nI 0)])), (know, .inl (ky 0, 373, .inl knowF)), (ksnaps, .inl (ky 0, 512, .inl ksnapsF))] sz)) (va_A [(o, .inr (12, [.int (nI 0), .ref ktape, .int (nI 0), .int (nI 0), .int (nI 0), .int (nI 0), .int (nI 0), .int (nI 0), .int (nI 0), .int (nI 0), .int (nI 0), .int (nI 0), .long 0, .int (nI 0), .ref know, .ref kread, .ref kkept, .ref ksnaps, .ref kaside, .ref kname, .ref kreadName, .ref kkeptName, .ref kisKept, .ref konces, .int (nI 0), .int (nI 0), .ref kpoured, .ref kfar, .ref ksides, .int (nI 0), .int (-1 : Int32), .int (nI 0), .ref klines, .ref kmet, .int (nI 0), .ref ksunk, .ref ktrying, .int (nI 0), .int (-1 : Int32), .int (-1 : Int32), .ref ktext, .int (nI 0), .int (nI 0), .ref kline, .ref kwritten, .int (nI 0), .int (nI 0), .ref knode, .int (nI 0), .int (nI 0), .int (nI 0), .int (nI 0)])), (know, .inl (ky 0, 373, .inl knowF)), (ksnaps, .inl (ky 0, 512, .inl ksnapsF))] sz)) 0 0 (va_A [(o, .inr (12, [.int (nI 0), .ref ktape, .int (nI 0), .int (nI 0), .int (nI 0), .int (nI 0), .int (nI 0), .int (nI 0), .int (nI 0), .int (nI 0), .int (nI 0), .int (nI 0), .long 0, .int (nI 0), .ref know, .ref kread, .ref kkept, .ref ksnaps, .ref kaside, .ref kname, .ref kreadName, .ref kkeptName, .ref kisKept, .ref konces, .int (nI 0), .int (nI 0), .ref kpoured, .ref kfar, .ref ksides, .int (nI 0), .int (-1 : Int32), .int (nI 0), .ref klines, .ref kmet, .int (nI 0), .ref ksunk, .ref ktrying, .int (nI 0), .int (-1 : Int32), .int (-1 : Int32), .ref ktext, .int (nI 0), .int (nI 0), .ref kline, .ref kwritten, .int (nI 0), .int (nI 0), .ref knode, .int (nI 0), .int (nI 0), .int (nI 0), .int (nI 0)])), (know, .inl (ky 0, 373, .inl knowF)), (ksnaps, .inl (ky 0, 512, .inl ksnapsF))] sz) := by
  refine Met.ofW (cc := cX12_stove) (maxL := 2) (ret := (some .int)) (by decide) rfl ?_
  intro p e s m args below meth c s₁ B hml hv
  obtain ⟨rfl, hsz, hP, hK, hD0⟩ := hv
  have hx := B.exec
  have hb := B.bytes
  have hr := B.returns
  have hts := atoms_spec (ws := wsX12_stove) B.pre
  have hown : s.vm.findClass RX12 = some m.cls := findClass_of_methodNamed B.named
  have hlocks := B.notSynchronized
  have hin12 : ∀ w ∈ u_ws RX12 TX12 52, w ∈ wsX12_stove := by decide +kernel
  subst hsz
  have hD := hD0.self (sz := s.heap.size)
  generalize hAe : va_A [(o, .inr (12, [.int (nI 0), .ref ktape, .int (nI 0), .int (nI 0), .int (nI 0), .int (nI 0), .int (nI 0), .int (nI 0), .int (nI 0), .int (nI 0), .int (nI 0), .int (nI 0), .long 0, .int (nI 0), .ref know, .ref kread, .ref kkept, .ref ksnaps, .ref kaside, .ref kname, .ref kreadName, .ref kkeptName, .ref kisKept, .ref konces, .int (nI 0), .int (nI 0), .ref kpoured, .ref kfar, .ref ksides, .int (nI 0), .int (-1 : Int32), .int (nI 0), .ref klines, .ref kmet, .int (nI 0), .ref ksunk, .ref ktrying, .int (nI 0), .int (-1 : Int32), .int (-1 : Int32), .ref ktext, .int (nI 0), .int (nI 0), .ref kline, .ref kwritten, .int (nI 0), .int (nI 0), .ref knode, .int (nI 0), .int (nI 0), .int (nI 0), .int (nI 0)])), (know, .inl (ky 0, 373, .inl knowF)), (ksnaps, .inl (ky 0, 512, .inl ksnapsF))] s.heap.size = A at hD ⊢
  have hA : ∀ q : Nat, s.heap.size ≤ q → A q := fun q h => by rw [← hAe]; exact Or.inr h
  have hS : va_S A s.heap s.heap [] := va_S.rf
  have hP : va_P (dC, dI) vwCl [(o, .inr (12, [.int (nI 0), .ref ktape, .int (nI 0), .int (nI 0), .int (nI 0), .int (nI 0), .int (nI 0), .int (nI 0), .int (nI 0), .int (nI 0), .int (nI 0), .int (nI 0), .long 0, .int (nI 0), .ref know, .ref kread, .ref kkept, .ref ksnaps, .ref kaside, .ref kname, .ref kreadName, .ref kkeptName, .ref kisKept, .ref konces, .int (nI 0), .int (nI 0), .ref kpoured, .ref kfar, .ref ksides, .int (nI 0), .int (-1 : Int32), .int (nI 0), .ref klines, .ref kmet, .int (nI 0), .ref ksunk, .ref ktrying, .int (nI 0), .int (-1 : Int32), .int (-1 : Int32), .ref ktext, .int (nI 0), .int (nI 0), .ref kline, .ref kwritten, .int (nI 0), .int (nI 0), .ref knode, .int (nI 0), .int (nI 0), .int (nI 0), .int (nI 0)])), (know, .inl (ky 0, 373, .inl knowF)), (ksnaps, .inl (ky 0, 512, .inl ksnapsF))] s.heap := hP
  have hl := lv_entry ([.ref o, .int x]) (n := 2) (Nat.le_of_ble_eq_true rfl)
  rw [lg_entry_eq]
  generalize (lg_sl ([.ref o, .int x]) ++ List.replicate (2 - (lg_sl ([.ref o, .int x])).length) Slot.unset).toArray = ls at hl ⊢
  have hl : lv_has ls 2 [(0, .ref o), (1, .int x)] := hl
  have hH0 : True := trivial
  refine lv_aload_n hx hb dX12_stove_0 rfl (lv_at hl 0 rfl) ?_
  refine lv_iconst (v := nI 0) hx hb dX12_stove_1 (by decide) ?_
  refine va_put (D := (dC, dI)) (ci := 12) (v := .int (nI 0)) (ty := .int) (C := RX12) (T := TX12) (N := 52) hx hb hts hin12 tyX12 tyX12_ok nmX12 hown hK hP hD hS 0 rfl rfl 0 (by decide) (hts (.fieldLink RX12 1 "PorridgeSeaModel" "thrown" "I") (List.mem_of_getElem? (i := 1) rfl)) (fun _ h9 => h9) rfl (by decide +kernel) rfl rfl (Nat.le_of_ble_eq_true rfl) dX12_stove_2 (fun H locs hP hD hS => ?_)
  have hP : va_P (dC, dI) vwCl [(o, .inr (12, [.int (nI 0), .ref ktape, .int (nI 0), .int (nI 0), .int (nI 0), .int (nI 0), .int (nI 0), .int (nI 0), .int (nI 0), .int (nI 0), .int (nI 0), .int (nI 0), .long 0, .int (nI 0), .ref know, .ref kread, .ref kkept, .ref ksnaps, .ref kaside, .ref kname, .ref kreadName, .ref kkeptName, .ref kisKept, .ref konces, .int (nI 0), .int (nI 0), .ref kpoured, .ref kfar, .ref ksides, .int (nI 0), .int (-1 : Int32), .int (nI 0), .ref klines, .ref kmet, .int (nI 0), .ref ksunk, .ref ktrying, .int (nI 0), .int (-1 : Int32), .int (-1 : Int32), .ref ktext, .int (nI 0), .int (nI 0), .ref kline, .ref kwritten, .int (nI 0), .int (nI 0), .ref knode, .int (nI 0), .int (nI 0), .int (nI 0), .int (nI 0)])), (know, .inl (ky 0, 373, .inl knowF)), (ksnaps, .inl (ky 0, 512, .inl ksnapsF))] H := hP
  have hD : va_D A [(o, .inr (12, [.int (nI 0), .ref ktape, .int (nI 0), .int (nI 0), .int (nI 0), .int (nI 0), .int (nI 0), .int (nI 0), .int (nI 0), .int (nI 0), .int (nI 0), .int (nI 0), .long 0, .int (nI 0), .ref know, .ref kread, .ref kkept, .ref ksnaps, .ref kaside, .ref kname, .ref kreadName, .ref kkeptName, .ref kisKept, .ref konces, .int (nI 0), .int (nI 0), .ref kpoured, .ref kfar, .ref ksides, .int (nI 0), .int (-1 : Int32), .int (nI 0), .ref klines, .ref kmet, .int (nI 0), .ref ksunk, .ref ktrying, .int (nI 0), .int (-1 : Int32), .int (-1 : Int32), .ref ktext, .int (nI 0), .int (nI 0), .ref kline, .ref kwritten, .int (nI 0), .int (nI 0), .ref knode, .int (nI 0), .int (nI 0), .int (nI 0), .int (nI 0)])), (know, .inl (ky 0, 373, .inl knowF)), (ksnaps, .inl (ky 0, 512, .inl ksnapsF))] := hD
  refine lv_aload_n hx hb dX12_stove_5 rfl (lv_at hl 0 rfl) ?_
  refine lv_iconst (v := nI 4) hx hb dX12_stove_6 (by decide) ?_
  refine lv_iload_n hx hb dX12_stove_7 rfl (lv_at hl 1 rfl) ?_
  refine lv_iconst (v := nI 0) hx hb dX12_stove_8 (by decide) ?_
  refine lv_iload_n hx hb dX12_stove_9 rfl (lv_at hl 1 rfl) ?_
  refine lv_iconst (v := nI 1) hx hb dX12_stove_10 (by decide) ?_
  refine lv_bipush (v := nI 20) hx hb dX12_stove_11 (by decide) ?_
  refine vp_callSi (W.runS (As := [.int x, .int (nI 1), .int (nI 20)]) (rest := [.int (nI 0), .int x, .int (nI 4), .ref o]) ⟨hx, hb, hml, hown, hts⟩ (c_isIn l dC dI ky x (nI 1) (nI 20)) (va_cwS 3 hts gX12_stove_X12_isIn rfl rfl rfl (by decide +kernel) ⟨(Nat.le_of_ble_eq_true rfl), (Nat.le_of_ble_eq_true rfl)⟩) (pre_PS hK hP [] rfl) rfl rfl hl.1 rfl (lv_room (Nat.le_of_ble_eq_true rfl)) dX12_stove_13 ⟨(Nat.le_of_ble_eq_true rfl), (Nat.le_of_ble_eq_true rfl)⟩) (fun r1 p2 => ?_)
  rcases (lf_m_stove_1 o ktape know kread kkept ksnaps kaside kname kreadName kkeptName kisKept konces kpoured kfar ksides klines kmet ksunk ktrying ktext kline kwritten knode knowF ksnapsF x r1 hN p2) with rfl | rfl
  · refine vp_callSi (W.runV (As := [.int (nI 4), .int x, .int (nI 0), .int (nI 0)]) (rest := []) ⟨hx, hb, hml, hown, hts⟩ (c_m_actNo l dC dI ky o (nI 0) ktape (nI 0) (nI 0) (nI 0) (nI 0) (nI 0) (nI 0) (nI 0) (nI 0) (nI 0) (nI 0) 0 (nI 0) know kread kkept ksnaps kaside kname kreadName kkeptName kisKept konces (nI 0) (nI 0) kpoured kfar ksides (nI 0) (-1 : Int32) (nI 0) klines kmet (nI 0) ksunk ktrying (nI 0) (-1 : Int32) (-1 : Int32) ktext (nI 0) (nI 0) kline kwritten (nI 0) (nI 0) knode (nI 0) (nI 0) (nI 0) (nI 0) (nI 4) x (nI 0)) (cwV 4 hts gX12_stove_X12_act rfl rfl rfl (by decide +kernel) ⟨(Nat.le_of_ble_eq_true rfl), (Nat.le_of_ble_eq_true rfl)⟩) (pre_PV hK hP [0] rfl (ci := 12) (q0 := 0) rfl rfl) rfl rfl hl.1 rfl (lv_room (Nat.le_of_ble_eq_true rfl)) dX12_stove_16 ⟨(Nat.le_of_ble_eq_true rfl), (Nat.le_of_ble_eq_true rfl)⟩) (fun r3 p4 => ?_)
    subst p4
    have hP9 := hP.sub (ws' := []) [] rfl
    have hD9 := hD.sub (ws' := []) [] (by decide) rfl
    refine W.widen (k := 0) (n := 0) (Nat.le_of_ble_eq_true rfl) (Nat.le_of_ble_eq_true rfl) ?_
    exact W.iret (v := (-1 : Int32)) hx hb hr (fun t ht9 hW9 => ⟨⟨(-1 : Int32), (), rfl, (lf_m_stove_2 o ktape know kread kkept ksnaps kaside kname kreadName kkeptName kisKept konces kpoured kfar ksides klines kmet ksunk ktrying ktext kline kwritten knode knowF ksnapsF x hN p2), by rw [ht9]; exact hP9, va_K.moved hW9.alike hK, hD9⟩, hS.F ht9⟩) hS.2.2 dX12_stove_19
  · refine r_call_i (wr := []) (va_runV (As := [.int (nI 4), .int x, .int (nI 0), .int (nI 1)]) (rest := []) ⟨hx, hb, hml, hown, hts⟩ (c_m_act4 l dC dI ky H.size o (nI 0) ktape (nI 0) (nI 0) (nI 0) (nI 0) (nI 0) (nI 0) (nI 0) (nI 0) (nI 0) (nI 0) 0 (nI 0) know kread kkept ksnaps kaside kname kreadName kkeptName kisKept konces (nI 0) kpoured kfar ksides (nI 0) (-1 : Int32) (nI 0) klines kmet (nI 0) ksunk ktrying (nI 0) (-1 : Int32) (-1 : Int32) ktext (nI 0) (nI 0) kline kwritten (nI 0) (nI 0) knode (nI 0) (nI 0) (nI 0) (nI 0) knowF ksnapsF x (nI 0) hN) (cwV 4 hts gX12_stove_X12_act rfl rfl rfl (by decide +kernel) ⟨(Nat.le_of_ble_eq_true rfl), (Nat.le_of_ble_eq_true rfl)⟩) (pre_UV hK hP hD [0, 1, 2] (by decide) rfl (ci := 12) (q0 := 0) rfl rfl) rfl rfl hl.1 rfl (lv_room (Nat.le_of_ble_eq_true rfl)) dX12_stove_16 ⟨(Nat.le_of_ble_eq_true rfl), (Nat.le_of_ble_eq_true rfl)⟩) hP hD hS hA [0, 1, 2] [] rfl rfl (by decide) (by decide) (fun r7 u5 H locs p6 hP hD hS => ?_)
    try dsimp only at p6
    have p8 := p6
    refine W.widen (k := 0) (n := 0) (Nat.le_of_ble_eq_true rfl) (Nat.le_of_ble_eq_true rfl) ?_
    have hP : va_P (dC, dI) vwCl [] H := hP
    have hD : va_D A [] := hD
    subst p8
    have hP9 := hP.sub (ws' := []) [] rfl
    have hD9 := hD.sub (ws' := []) [] (by decide) rfl
    refine W.widen (k := 0) (n := 0) (Nat.le_of_ble_eq_true rfl) (Nat.le_of_ble_eq_true rfl) ?_
    exact W.iret (v := nI 0) hx hb hr (fun t ht9 hW9 => ⟨⟨nI 0, (), rfl, (lf_m_stove_3 o ktape know kread kkept ksnaps kaside kname kreadName kkeptName kisKept konces kpoured kfar ksides klines kmet ksunk ktrying ktext kline kwritten knode knowF ksnapsF x hN p2), by rw [ht9]; exact hP9, va_K.moved hW9.alike hK, hD9⟩, hS.F ht9⟩) hS.2.2 dX12_stove_19
set_option maxRecDepth 20000 in
theorem lf_m_oneDay_1 (o : Nat) (kthrown : Int32) (ktape : Nat) (ktaped : Int32) (ksize : Int32) (klimit : Int32) (kto : Int32) (kfrom : Int32) (kkind : Int32) (knumber : Int32) (ksign : Int32) (kfault : Int32) (kplace : Int32) (kword : Int64) (ktold : Int32) (know : Nat) (kread : Nat) (kkept : Nat) (ksnaps : Nat) (kaside : Nat) (kname : Nat) (kreadName : Nat) (kkeptName : Nat) (kisKept : Nat) (konces : Nat) (ksnapMany : Int32) (khasCells : Int32) (kpoured : Nat) (kfar : Nat) (ksides : Nat) (ksideMany : Int32) (kwayDays : Int32) (khasWay : Int32) (klines : Nat) (kmet : Nat) (kmetMany : Int32) (ksunk : Nat) (ktrying : Nat) (ksunkMany : Int32) (ksending : Int32) (kfleets : Int32) (ktext : Nat) (ktexts : Int32) (kseed : Int32) (kline : Nat) (kwritten : Nat) (klineMany : Int32) (khasWritten : Int32) (knode : Nat) (knodes : Int32) (konesMany : Int32) (kwithin : Int32) (ktop : Int32) (knowF : Nat → Int32) (y2 : Int32) (y4 : Int32) (y6 : Int32) (r8 : Int32) (y10 : Int32) (g12 : Nat → Int32) (y15 : Int32) (y17 : Int32) (g19 : Nat → Int32) (hB : NowB knowF) (e3 : y2 = knowF 68) (e5 : y4 = knowF 5) (e7 : y6 = knowF 68) (p9 : True) (e11 : y10 = y2 - r8) (hB14 : NowB g12) (e16 : y15 = g12 67) (e18 : y17 = y15 + (nI 1)) (hB21 : NowB g19) : NowB g19 := by
  assumption
set_option maxHeartbeats 4000000 in
set_option maxRecDepth 100000 in
theorem c_m_oneDay (l : Launch) (dC : Nat → ClassId) (dI : Nat → Nat → Nat) (ky : Nat → ClassId) (sz : Nat) (o : Nat) (kthrown : Int32) (ktape : Nat) (ktaped : Int32) (ksize : Int32) (klimit : Int32) (kto : Int32) (kfrom : Int32) (kkind : Int32) (knumber : Int32) (ksign : Int32) (kfault : Int32) (kplace : Int32) (kword : Int64) (ktold : Int32) (know : Nat) (kread : Nat) (kkept : Nat) (ksnaps : Nat) (kaside : Nat) (kname : Nat) (kreadName : Nat) (kkeptName : Nat) (kisKept : Nat) (konces : Nat) (ksnapMany : Int32) (khasCells : Int32) (kpoured : Nat) (kfar : Nat) (ksides : Nat) (ksideMany : Int32) (kwayDays : Int32) (khasWay : Int32) (klines : Nat) (kmet : Nat) (kmetMany : Int32) (ksunk : Nat) (ktrying : Nat) (ksunkMany : Int32) (ksending : Int32) (kfleets : Int32) (ktext : Nat) (ktexts : Int32) (kseed : Int32) (kline : Nat) (kwritten : Nat) (klineMany : Int32) (khasWritten : Int32) (knode : Nat) (knodes : Int32) (konesMany : Int32) (kwithin : Int32) (ktop : Int32) (knowF : Nat → Int32) (hB : NowB knowF) : Met l yX12_oneDay wsX12_oneDay ({ frames := 1, cells := 0, slots := 0, locals := 21 }) (PcU dC dI ky [.ref o] [(o, .inr (12, [.int kthrown, .ref ktape, .int ktaped, .int ksize, .int klimit, .int kto, .int kfrom, .int kkind, .int knumber, .int ksign, .int kfault, .int kplace, .long kword, .int ktold, .ref know, .ref kread, .ref kkept, .ref ksnaps, .ref kaside, .ref kname, .ref kreadName, .ref kkeptName, .ref kisKept, .ref konces, .int ksnapMany, .int khasCells, .ref kpoured, .ref kfar, .ref ksides, .int ksideMany, .int kwayDays, .int khasWay, .ref klines, .ref kmet, .int kmetMany, .ref ksunk, .ref ktrying, .int ksunkMany, .int ksending, .int kfleets, .ref ktext, .int ktexts, .int kseed, .ref kline, .ref kwritten, .int klineMany, .int khasWritten, .ref knode, .int knodes, .int konesMany, .int kwithin, .int ktop])), (know, .inl (ky 0, 373, .inl knowF))] sz) (va_Qv (fun (knowG : (Nat → Int32)) => NowB knowG) (BU dC dI ky (fun (knowG : (Nat → Int32)) => [(o, .inr (12, [.int kthrown, .ref ktape, .int ktaped, .int ksize, .int klimit, .int kto, .int kfrom, .int kkind, .int knumber, .int ksign, .int kfault, .int kplace, .long kword, .int ktold, .ref know, .ref kread, .ref kkept, .ref ksnaps, .ref kaside, .ref kname, .ref kreadName, .ref kkeptName, .ref kisKept, .ref konces, .int ksnapMany, .int khasCells, .ref kpoured, .ref kfar, .ref ksides, .int ksideMany, .int kwayDays, .int khasWay, .ref klines, .ref kmet, .int kmetMany, .ref ksunk, .ref ktrying, .int ksunkMany, .int ksending, .int kfleets, .ref ktext, .int ktexts, .int kseed, .ref kline, .ref kwritten, .int klineMany, .int khasWritten, .ref knode, .int knodes, .int konesMany, .int kwithin, .int ktop])), (know, .inl (ky 0, 373, .inl knowG))]) (va_A [(o, .inr (12, [.int kthrown, .ref ktape, .int ktaped, .int ksize, .int klimit, .int kto, .int kfrom, .int kkind, .int knumber, .int ksign, .int kfault, .int kplace, .long kword, .int ktold, .ref know, .ref kread, .ref kkept, .ref ksnaps, .ref kaside, .ref kname, .ref kreadName, .ref kkeptName, .ref kisKept, .ref konces, .int ksnapMany, .int khasCells, .ref kpoured, .ref kfar, .ref ksides, .int ksideMany, .int kwayDays, .int khasWay, .ref klines, .ref kmet, .int kmetMany, .ref ksunk, .ref ktrying, .int ksunkMany, .int ksending, .int kfleets, .ref ktext, .int ktexts, .int kseed, .ref kline, .ref kwritten, .int klineMany, .int khasWritten, .ref knode, .int knodes, .int konesMany, .int kwithin, .int ktop])), (know, .inl (ky 0, 373, .inl knowF))] sz)) (va_A [(o, .inr (12, [.int kthrown, .ref ktape, .int ktaped, .int ksize, .int klimit, .int kto, .int kfrom, .int kkind, .int knumber, .int ksign, .int kfault, .int kplace, .long kword, .int ktold, .ref know, .ref kread, .ref kkept, .ref ksnaps, .ref kaside, .ref kname, .ref kreadName, .ref kkeptName, .ref kisKept, .ref konces, .int ksnapMany, .int khasCells, .ref kpoured, .ref kfar, .ref ksides, .int ksideMany, .int kwayDays, .int khasWay, .ref klines, .ref kmet, .int kmetMany, .ref ksunk, .ref ktrying, .int ksunkMany, .int ksending, .int kfleets, .ref ktext, .int ktexts, .int kseed, .ref kline, .ref kwritten, .int klineMany, .int khasWritten, .ref knode, .int knodes, .int konesMany, .int kwithin, .int ktop])), (know, .inl (ky 0, 373, .inl knowF))] sz)) 0 0 (va_A [(o, .inr (12, [.int kthrown, .ref ktape, .int ktaped, .int ksize, .int klimit, .int kto, .int kfrom, .int kkind, .int knumber, .int ksign, .int kfault, .int kplace, .long kword, .int ktold, .ref know, .ref kread, .ref kkept, .ref ksnaps, .ref kaside, .ref kname, .ref kreadName, .ref kkeptName, .ref kisKept, .ref konces, .int ksnapMany, .int khasCells, .ref kpoured, .ref kfar, .ref ksides, .int ksideMany, .int kwayDays, .int khasWay, .ref klines, .ref kmet, .int kmetMany, .ref ksunk, .ref ktrying, .int ksunkMany, .int ksending, .int kfleets, .ref ktext, .int ktexts, .int kseed, .ref kline, .ref kwritten, .int klineMany, .int khasWritten, .ref knode, .int knodes, .int konesMany, .int kwithin, .int ktop])), (know, .inl (ky 0, 373, .inl knowF))] sz) := by
  refine Met.ofW (cc := cX12_oneDay) (maxL := 2) (ret := none) (by decide) rfl ?_
  intro p e s m args below meth c s₁ B hml hv
  obtain ⟨rfl, hsz, hP, hK, hD0⟩ := hv
  have hx := B.exec
  have hb := B.bytes
  have hr := B.returns
  have hts := atoms_spec (ws := wsX12_oneDay) B.pre
  have hown : s.vm.findClass RX12 = some m.cls := findClass_of_methodNamed B.named
  have hlocks := B.notSynchronized
  have hin12 : ∀ w ∈ u_ws RX12 TX12 52, w ∈ wsX12_oneDay := by decide +kernel
  subst hsz
  have hD := hD0.self (sz := s.heap.size)
  generalize hAe : va_A [(o, .inr (12, [.int kthrown, .ref ktape, .int ktaped, .int ksize, .int klimit, .int kto, .int kfrom, .int kkind, .int knumber, .int ksign, .int kfault, .int kplace, .long kword, .int ktold, .ref know, .ref kread, .ref kkept, .ref ksnaps, .ref kaside, .ref kname, .ref kreadName, .ref kkeptName, .ref kisKept, .ref konces, .int ksnapMany, .int khasCells, .ref kpoured, .ref kfar, .ref ksides, .int ksideMany, .int kwayDays, .int khasWay, .ref klines, .ref kmet, .int kmetMany, .ref ksunk, .ref ktrying, .int ksunkMany, .int ksending, .int kfleets, .ref ktext, .int ktexts, .int kseed, .ref kline, .ref kwritten, .int klineMany, .int khasWritten, .ref knode, .int knodes, .int konesMany, .int kwithin, .int ktop])), (know, .inl (ky 0, 373, .inl knowF))] s.heap.size = A at hD ⊢
  have hA : ∀ q : Nat, s.heap.size ≤ q → A q := fun q h => by rw [← hAe]; exact Or.inr h
  have hS : va_S A s.heap s.heap [] := va_S.rf
  have hP : va_P (dC, dI) vwCl [(o, .inr (12, [.int kthrown, .ref ktape, .int ktaped, .int ksize, .int klimit, .int kto, .int kfrom, .int kkind, .int knumber, .int ksign, .int kfault, .int kplace, .long kword, .int ktold, .ref know, .ref kread, .ref kkept, .ref ksnaps, .ref kaside, .ref kname, .ref kreadName, .ref kkeptName, .ref kisKept, .ref konces, .int ksnapMany, .int khasCells, .ref kpoured, .ref kfar, .ref ksides, .int ksideMany, .int kwayDays, .int khasWay, .ref klines, .ref kmet, .int kmetMany, .ref ksunk, .ref ktrying, .int ksunkMany, .int ksending, .int kfleets, .ref ktext, .int ktexts, .int kseed, .ref kline, .ref kwritten, .int klineMany, .int khasWritten, .ref knode, .int knodes, .int konesMany, .int kwithin, .int ktop])), (know, .inl (ky 0, 373, .inl knowF))] s.heap := hP
  have hl := lv_entry ([.ref o]) (n := 2) (Nat.le_of_ble_eq_true rfl)
  rw [lg_entry_eq]
  generalize (lg_sl ([.ref o]) ++ List.replicate (2 - (lg_sl ([.ref o])).length) Slot.unset).toArray = ls at hl ⊢
  have hl : lv_has ls 2 [(0, .ref o)] := hl
  have hH0 : True := trivial
  refine lv_iconst (v := nI 0) hx hb dX12_oneDay_0 (by decide) ?_
  refine lv_istore_n (lv' := [(1, .int (nI 0)), (0, .ref o)]) hx hb dX12_oneDay_1 rfl hl (by decide) rfl (fun ls hl => ?_)
  refine lv_iload_n hx hb dX12_oneDay_2 rfl (lv_at hl 0 rfl) ?_
  refine lv_aload_n hx hb dX12_oneDay_3 rfl (lv_at hl 1 rfl) ?_
  refine va_get (D := (dC, dI)) (ci := 12) (v := .ref know) (C := RX12) (T := TX12) (N := 52) hx hb hts hin12 hown hK hP 0 rfl rfl 14 (by decide) (hts (.fieldLink RX12 98 "PorridgeSeaModel" "now" "[I") (List.mem_of_getElem? (i := 1) rfl)) (fun _ h9 => h9) rfl dX12_oneDay_4 ?_
  refine lv_iconst (v := nI 3) hx hb dX12_oneDay_7 (by decide) ?_
  refine r_iald hx hb hK hP 1 rfl 3 (by decide) (by decide) (nI 0) hB.2.2.2 dX12_oneDay_8 ?_
  refine lv_icmp_ge (tgt := 78) hx hb dX12_oneDay_9 (by decide) (fun c1 => ?_) (fun c1 => absurd (by decide) c1)
  refine lv_aload_n hx hb dX12_oneDay_78 rfl (lv_at hl 1 rfl) ?_
  refine va_get (D := (dC, dI)) (ci := 12) (v := .ref know) (C := RX12) (T := TX12) (N := 52) hx hb hts hin12 hown hK hP 0 rfl rfl 14 (by decide) (hts (.fieldLink RX12 98 "PorridgeSeaModel" "now" "[I") (List.mem_of_getElem? (i := 1) rfl)) (fun _ h9 => h9) rfl dX12_oneDay_79 ?_
  refine lv_bipush (v := nI 68) hx hb dX12_oneDay_82 (by decide) ?_
  refine lv_dup2_11 hx hb dX12_oneDay_84 rfl rfl ?_
  obtain ⟨y2, e3⟩ : ∃ z9, z9 = knowF 68 := ⟨_, rfl⟩
  refine r_iald hx hb hK hP 1 rfl 68 (by decide) (by decide) y2 e3.symm dX12_oneDay_85 ?_
  refine lv_aload_n hx hb dX12_oneDay_86 rfl (lv_at hl 1 rfl) ?_
  refine va_get (D := (dC, dI)) (ci := 12) (v := .ref know) (C := RX12) (T := TX12) (N := 52) hx hb hts hin12 hown hK hP 0 rfl rfl 14 (by decide) (hts (.fieldLink RX12 98 "PorridgeSeaModel" "now" "[I") (List.mem_of_getElem? (i := 1) rfl)) (fun _ h9 => h9) rfl dX12_oneDay_87 ?_
  refine lv_iconst (v := nI 5) hx hb dX12_oneDay_90 (by decide) ?_
  obtain ⟨y4, e5⟩ : ∃ z9, z9 = knowF 5 := ⟨_, rfl⟩
  refine r_iald hx hb hK hP 1 rfl 5 (by decide) (by decide) y4 e5.symm dX12_oneDay_91 ?_
  refine lv_aload_n hx hb dX12_oneDay_92 rfl (lv_at hl 1 rfl) ?_
  refine va_get (D := (dC, dI)) (ci := 12) (v := .ref know) (C := RX12) (T := TX12) (N := 52) hx hb hts hin12 hown hK hP 0 rfl rfl 14 (by decide) (hts (.fieldLink RX12 98 "PorridgeSeaModel" "now" "[I") (List.mem_of_getElem? (i := 1) rfl)) (fun _ h9 => h9) rfl dX12_oneDay_93 ?_
  refine lv_bipush (v := nI 68) hx hb dX12_oneDay_96 (by decide) ?_
  obtain ⟨y6, e7⟩ : ∃ z9, z9 = knowF 68 := ⟨_, rfl⟩
  refine r_iald hx hb hK hP 1 rfl 68 (by decide) (by decide) y6 e7.symm dX12_oneDay_98 ?_
  refine vp_callSi (W.runS (As := [.int y4, .int y6]) (rest := [.int y2, .int (nI 68), .ref know]) ⟨hx, hb, hml, hown, hts⟩ (c_m_least l dC dI ky y4 y6) (va_cwS 2 hts gX12_oneDay_X12_least rfl rfl rfl (by decide +kernel) ⟨(Nat.le_of_ble_eq_true rfl), (Nat.le_of_ble_eq_true rfl)⟩) (pre_PS hK hP [] rfl) rfl rfl hl.1 rfl (lv_room (Nat.le_of_ble_eq_true rfl)) dX12_oneDay_99 ⟨(Nat.le_of_ble_eq_true rfl), (Nat.le_of_ble_eq_true rfl)⟩) (fun r8 p9 => ?_)
  refine lv_isub hx hb dX12_oneDay_102 ?_
  refine lv_topi (fun y10 e11 => ?_)
  refine r_iast (x := y10) hx hb hK hP hD hS 1 rfl 68 (by decide) (by decide) dX12_oneDay_103 (fun H locs hP hD hS => ?_)
  obtain ⟨g12, e13⟩ : ∃ z9, z9 = upd knowF 68 y10 := ⟨_, rfl⟩
  rw [← e13] at hP hD
  have hB14 : NowB g12 := by rw [e13]; exact NowB.up hB (by omega)
  have hP : va_P (dC, dI) vwCl [(o, .inr (12, [.int kthrown, .ref ktape, .int ktaped, .int ksize, .int klimit, .int kto, .int kfrom, .int kkind, .int knumber, .int ksign, .int kfault, .int kplace, .long kword, .int ktold, .ref know, .ref kread, .ref kkept, .ref ksnaps, .ref kaside, .ref kname, .ref kreadName, .ref kkeptName, .ref kisKept, .ref konces, .int ksnapMany, .int khasCells, .ref kpoured, .ref kfar, .ref ksides, .int ksideMany, .int kwayDays, .int khasWay, .ref klines, .ref kmet, .int kmetMany, .ref ksunk, .ref ktrying, .int ksunkMany, .int ksending, .int kfleets, .ref ktext, .int ktexts, .int kseed, .ref kline, .ref kwritten, .int klineMany, .int khasWritten, .ref knode, .int knodes, .int konesMany, .int kwithin, .int ktop])), (know, .inl (ky 0, 373, .inl g12))] H := hP
  have hD : va_D A [(o, .inr (12, [.int kthrown, .ref ktape, .int ktaped, .int ksize, .int klimit, .int kto, .int kfrom, .int kkind, .int knumber, .int ksign, .int kfault, .int kplace, .long kword, .int ktold, .ref know, .ref kread, .ref kkept, .ref ksnaps, .ref kaside, .ref kname, .ref kreadName, .ref kkeptName, .ref kisKept, .ref konces, .int ksnapMany, .int khasCells, .ref kpoured, .ref kfar, .ref ksides, .int ksideMany, .int kwayDays, .int khasWay, .ref klines, .ref kmet, .int kmetMany, .ref ksunk, .ref ktrying, .int ksunkMany, .int ksending, .int kfleets, .ref ktext, .int ktexts, .int kseed, .ref kline, .ref kwritten, .int klineMany, .int khasWritten, .ref knode, .int knodes, .int konesMany, .int kwithin, .int ktop])), (know, .inl (ky 0, 373, .inl g12))] := hD
  refine lv_aload_n hx hb dX12_oneDay_104 rfl (lv_at hl 1 rfl) ?_
  refine va_get (D := (dC, dI)) (ci := 12) (v := .ref know) (C := RX12) (T := TX12) (N := 52) hx hb hts hin12 hown hK hP 0 rfl rfl 14 (by decide) (hts (.fieldLink RX12 98 "PorridgeSeaModel" "now" "[I") (List.mem_of_getElem? (i := 1) rfl)) (fun _ h9 => h9) rfl dX12_oneDay_105 ?_
  refine lv_bipush (v := nI 67) hx hb dX12_oneDay_108 (by decide) ?_
  refine lv_dup2_11 hx hb dX12_oneDay_110 rfl rfl ?_
  obtain ⟨y15, e16⟩ : ∃ z9, z9 = g12 67 := ⟨_, rfl⟩
  refine r_iald hx hb hK hP 1 rfl 67 (by decide) (by decide) y15 e16.symm dX12_oneDay_111 ?_
  refine lv_iconst (v := nI 1) hx hb dX12_oneDay_112 (by decide) ?_
  refine lv_iadd hx hb dX12_oneDay_113 ?_
  refine lv_topi (fun y17 e18 => ?_)
  refine r_iast (x := y17) hx hb hK hP hD hS 1 rfl 67 (by decide) (by decide) dX12_oneDay_114 (fun H locs hP hD hS => ?_)
  obtain ⟨g19, e20⟩ : ∃ z9, z9 = upd g12 67 y17 := ⟨_, rfl⟩
  rw [← e20] at hP hD
  have hB21 : NowB g19 := by rw [e20]; exact NowB.up hB14 (by omega)
  have hP : va_P (dC, dI) vwCl [(o, .inr (12, [.int kthrown, .ref ktape, .int ktaped, .int ksize, .int klimit, .int kto, .int kfrom, .int kkind, .int knumber, .int ksign, .int kfault, .int kplace, .long kword, .int ktold, .ref know, .ref kread, .ref kkept, .ref ksnaps, .ref kaside, .ref kname, .ref kreadName, .ref kkeptName, .ref kisKept, .ref konces, .int ksnapMany, .int khasCells, .ref kpoured, .ref kfar, .ref ksides, .int ksideMany, .int kwayDays, .int khasWay, .ref klines, .ref kmet, .int kmetMany, .ref ksunk, .ref ktrying, .int ksunkMany, .int ksending, .int kfleets, .ref ktext, .int ktexts, .int kseed, .ref kline, .ref kwritten, .int klineMany, .int khasWritten, .ref knode, .int knodes, .int konesMany, .int kwithin, .int ktop])), (know, .inl (ky 0, 373, .inl g19))] H := hP
  have hD : va_D A [(o, .inr (12, [.int kthrown, .ref ktape, .int ktaped, .int ksize, .int klimit, .int kto, .int kfrom, .int kkind, .int knumber, .int ksign, .int kfault, .int kplace, .long kword, .int ktold, .ref know, .ref kread, .ref kkept, .ref ksnaps, .ref kaside, .ref kname, .ref kreadName, .ref kkeptName, .ref kisKept, .ref konces, .int ksnapMany, .int khasCells, .ref kpoured, .ref kfar, .ref ksides, .int ksideMany, .int kwayDays, .int khasWay, .ref klines, .ref kmet, .int kmetMany, .ref ksunk, .ref ktrying, .int ksunkMany, .int ksending, .int kfleets, .ref ktext, .int ktexts, .int kseed, .ref kline, .ref kwritten, .int klineMany, .int khasWritten, .ref knode, .int knodes, .int konesMany, .int kwithin, .int ktop])), (know, .inl (ky 0, 373, .inl g19))] := hD
  have hP9 := hP.sub (ws' := [(o, .inr (12, [.int kthrown, .ref ktape, .int ktaped, .int ksize, .int klimit, .int kto, .int kfrom, .int kkind, .int knumber, .int ksign, .int kfault, .int kplace, .long kword, .int ktold, .ref know, .ref kread, .ref kkept, .ref ksnaps, .ref kaside, .ref kname, .ref kreadName, .ref kkeptName, .ref kisKept, .ref konces, .int ksnapMany, .int khasCells, .ref kpoured, .ref kfar, .ref ksides, .int ksideMany, .int kwayDays, .int khasWay, .ref klines, .ref kmet, .int kmetMany, .ref ksunk, .ref ktrying, .int ksunkMany, .int ksending, .int kfleets, .ref ktext, .int ktexts, .int kseed, .ref kline, .ref kwritten, .int klineMany, .int khasWritten, .ref knode, .int knodes, .int konesMany, .int kwithin, .int ktop])), (know, .inl (ky 0, 373, .inl g19))]) [0, 1] rfl
  have hD9 := hD.sub (ws' := [(o, .inr (12, [.int kthrown, .ref ktape, .int ktaped, .int ksize, .int klimit, .int kto, .int kfrom, .int kkind, .int knumber, .int ksign, .int kfault, .int kplace, .long kword, .int ktold, .ref know, .ref kread, .ref kkept, .ref ksnaps, .ref kaside, .ref kname, .ref kreadName, .ref kkeptName, .ref kisKept, .ref konces, .int ksnapMany, .int khasCells, .ref kpoured, .ref kfar, .ref ksides, .int ksideMany, .int kwayDays, .int khasWay, .ref klines, .ref kmet, .int kmetMany, .ref ksunk, .ref ktrying, .int ksunkMany, .int ksending, .int kfleets, .ref ktext, .int ktexts, .int kseed, .ref kline, .ref kwritten, .int klineMany, .int khasWritten, .ref knode, .int knodes, .int konesMany, .int kwithin, .int ktop])), (know, .inl (ky 0, 373, .inl g19))]) [0, 1] (by decide) rfl
  refine W.widen (k := 0) (n := 0) (Nat.le_of_ble_eq_true rfl) (Nat.le_of_ble_eq_true rfl) ?_
  exact W.vret hx hb hr (fun t ht9 hW9 => ⟨⟨g19, rfl, (lf_m_oneDay_1 o kthrown ktape ktaped ksize klimit kto kfrom kkind knumber ksign kfault kplace kword ktold know kread kkept ksnaps kaside kname kreadName kkeptName kisKept konces ksnapMany khasCells kpoured kfar ksides ksideMany kwayDays khasWay klines kmet kmetMany ksunk ktrying ksunkMany ksending kfleets ktext ktexts kseed kline kwritten klineMany khasWritten knode knodes konesMany kwithin ktop knowF y2 y4 y6 r8 y10 g12 y15 y17 g19 hB e3 e5 e7 p9 e11 hB14 e16 e18 hB21), by rw [ht9]; exact hP9, va_K.moved hW9.alike hK, hD9⟩, hS.F ht9⟩) hS.2.2 dX12_oneDay_115
set_option maxRecDepth 20000 in
theorem lf_lpm_passDays_1 (o : Nat) (kthrown : Int32) (ktape : Nat) (ktaped : Int32) (ksize : Int32) (klimit : Int32) (kto : Int32) (kfrom : Int32) (kkind : Int32) (knumber : Int32) (ksign : Int32) (kfault : Int32) (kplace : Int32) (kword : Int64) (ktold : Int32) (know : Nat) (kread : Nat) (kkept : Nat) (ksnaps : Nat) (kaside : Nat) (kname : Nat) (kreadName : Nat) (kkeptName : Nat) (kisKept : Nat) (konces : Nat) (ksnapMany : Int32) (khasCells : Int32) (kpoured : Nat) (kfar : Nat) (ksides : Nat) (ksideMany : Int32) (kwayDays : Int32) (khasWay : Int32) (klines : Nat) (kmet : Nat) (kmetMany : Int32) (ksunk : Nat) (ktrying : Nat) (ksunkMany : Int32) (ksending : Int32) (kfleets : Int32) (ktext : Nat) (ktexts : Int32) (kseed : Int32) (kline : Nat) (kwritten : Nat) (klineMany : Int32) (khasWritten : Int32) (knode : Nat) (knodes : Int32) (konesMany : Int32) (kwithin : Int32) (ktop : Int32) (knowF : Nat → Int32) (n : Nat) (i : Nat) (fw : Nat → Int32) (knowG_4 : Nat → Int32) (hN : NowOk knowF) (hn : n ≤ 60) (hi : i ≤ n) (hL : NowB fw) (c1 : i < n) (p5 : NowB knowG_4) : NowB knowG_4 := by
  assumption
set_option maxHeartbeats 4000000 in
set_option maxRecDepth 100000 in
theorem lp_m_passDays {p : Program} {l : Launch} {e : Env} {R : Room} {s : State} {m : MethodId} {args : Array Value} {below : List Frame} {meth : Method} {c : Code} {Q : State → Prop} {dC : Nat → ClassId} {dI : Nat → Nat → Nat} {ky : Nat → ClassId} {H0 : Heap} {A : Nat → Prop} (hx : p.tables.exec = Jvm.exec) (hb : c.code = cX12_passDays) (hml : c.maxLocals = 4) (hown : s.vm.findClass RX12 = some m.cls) (hts : ∀ w ∈ wsX12_passDays, w.before args s = true) (hK : Kk dC dI ky s) (hA : ∀ q, H0.size ≤ q → A q) (hRf : 2 ≤ R.frames) (hRl : 42 ≤ R.locals) (hRc : 0 ≤ R.cells) (hRs : 0 ≤ R.slots) (o : Nat) (kthrown : Int32) (ktape : Nat) (ktaped : Int32) (ksize : Int32) (klimit : Int32) (kto : Int32) (kfrom : Int32) (kkind : Int32) (knumber : Int32) (ksign : Int32) (kfault : Int32) (kplace : Int32) (kword : Int64) (ktold : Int32) (know : Nat) (kread : Nat) (kkept : Nat) (ksnaps : Nat) (kaside : Nat) (kname : Nat) (kreadName : Nat) (kkeptName : Nat) (kisKept : Nat) (konces : Nat) (ksnapMany : Int32) (khasCells : Int32) (kpoured : Nat) (kfar : Nat) (ksides : Nat) (ksideMany : Int32) (kwayDays : Int32) (khasWay : Int32) (klines : Nat) (kmet : Nat) (kmetMany : Int32) (ksunk : Nat) (ktrying : Nat) (ksunkMany : Int32) (ksending : Int32) (kfleets : Int32) (ktext : Nat) (ktexts : Int32) (kseed : Int32) (kline : Nat) (kwritten : Nat) (klineMany : Int32) (khasWritten : Int32) (knode : Nat) (knodes : Int32) (konesMany : Int32) (kwithin : Int32) (ktop : Int32) (knowF : Nat → Int32) (n : Nat) (hN : NowOk knowF) (hn : n ≤ 60) (kx : ∀ (i : Nat) (fw : Nat → Int32), n = i → (NowB fw) → ∀ (H : Heap) (locs : List Loc) (ls : Array Slot), va_P (dC, dI) vwCl [(o, .inr (12, [.int kthrown, .ref ktape, .int ktaped, .int ksize, .int klimit, .int kto, .int kfrom, .int kkind, .int knumber, .int ksign, .int kfault, .int kplace, .long kword, .int ktold, .ref know, .ref kread, .ref kkept, .ref ksnaps, .ref kaside, .ref kname, .ref kreadName, .ref kkeptName, .ref kisKept, .ref konces, .int ksnapMany, .int khasCells, .ref kpoured, .ref kfar, .ref ksides, .int ksideMany, .int kwayDays, .int khasWay, .ref klines, .ref kmet, .int kmetMany, .ref ksunk, .ref ktrying, .int ksunkMany, .int ksending, .int kfleets, .ref ktext, .int ktexts, .int kseed, .ref kline, .ref kwritten, .int klineMany, .int khasWritten, .ref knode, .int knodes, .int konesMany, .int kwithin, .int ktop])), (know, .inl (ky 0, 373, .inl fw))] H → va_D A [(o, .inr (12, [.int kthrown, .ref ktape, .int ktaped, .int ksize, .int klimit, .int kto, .int kfrom, .int kkind, .int knumber, .int ksign, .int kfault, .int kplace, .long kword, .int ktold, .ref know, .ref kread, .ref kkept, .ref ksnaps, .ref kaside, .ref kname, .ref kreadName, .ref kkeptName, .ref kisKept, .ref konces, .int ksnapMany, .int khasCells, .ref kpoured, .ref kfar, .ref ksides, .int ksideMany, .int kwayDays, .int khasWay, .ref klines, .ref kmet, .int kmetMany, .ref ksunk, .ref ktrying, .int ksunkMany, .int ksending, .int kfleets, .ref ktext, .int ktexts, .int kseed, .ref kline, .ref kwritten, .int klineMany, .int khasWritten, .ref knode, .int knodes, .int konesMany, .int kwithin, .int ktop])), (know, .inl (ky 0, 373, .inl fw))] → va_S A H0 H locs → lv_has ls 4 [(3, .int (nI i)), (2, .int (nI n)), (0, .ref o), (1, .int (nI n))] → W p l e R s m args below meth c H locs 0 0 Q (F0 m 33 ls [])) :
    ∀ (nN i : Nat) (fw : Nat → Int32), i ≤ n → n + 1 ≤ i + nN → (NowB fw) → ∀ (H : Heap) (locs : List Loc) (ls : Array Slot), va_P (dC, dI) vwCl [(o, .inr (12, [.int kthrown, .ref ktape, .int ktaped, .int ksize, .int klimit, .int kto, .int kfrom, .int kkind, .int knumber, .int ksign, .int kfault, .int kplace, .long kword, .int ktold, .ref know, .ref kread, .ref kkept, .ref ksnaps, .ref kaside, .ref kname, .ref kreadName, .ref kkeptName, .ref kisKept, .ref konces, .int ksnapMany, .int khasCells, .ref kpoured, .ref kfar, .ref ksides, .int ksideMany, .int kwayDays, .int khasWay, .ref klines, .ref kmet, .int kmetMany, .ref ksunk, .ref ktrying, .int ksunkMany, .int ksending, .int kfleets, .ref ktext, .int ktexts, .int kseed, .ref kline, .ref kwritten, .int klineMany, .int khasWritten, .ref knode, .int knodes, .int konesMany, .int kwithin, .int ktop])), (know, .inl (ky 0, 373, .inl fw))] H → va_D A [(o, .inr (12, [.int kthrown, .ref ktape, .int ktaped, .int ksize, .int klimit, .int kto, .int kfrom, .int kkind, .int knumber, .int ksign, .int kfault, .int kplace, .long kword, .int ktold, .ref know, .ref kread, .ref kkept, .ref ksnaps, .ref kaside, .ref kname, .ref kreadName, .ref kkeptName, .ref kisKept, .ref konces, .int ksnapMany, .int khasCells, .ref kpoured, .ref kfar, .ref ksides, .int ksideMany, .int kwayDays, .int khasWay, .ref klines, .ref kmet, .int kmetMany, .ref ksunk, .ref ktrying, .int ksunkMany, .int ksending, .int kfleets, .ref ktext, .int ktexts, .int kseed, .ref kline, .ref kwritten, .int klineMany, .int khasWritten, .ref knode, .int knodes, .int konesMany, .int kwithin, .int ktop])), (know, .inl (ky 0, 373, .inl fw))] → va_S A H0 H locs → lv_has ls 4 [(3, .int (nI i)), (2, .int (nI n)), (0, .ref o), (1, .int (nI n))] → W p l e R s m args below meth c H locs 0 0 Q (F0 m 18 ls []) := by
  intro nN
  induction nN with
  | zero => intro i fw hi hnN; exfalso; omega
  | succ nN ih =>
    intro i fw hi hnN hL H locs ls hP hD hS hl
    refine lv_iload_n hx hb dX12_passDays_18 rfl (lv_at hl 0 rfl) ?_
    refine lv_iload_n hx hb dX12_passDays_19 rfl (lv_at hl 1 rfl) ?_
    refine n_icmp_ge (x := i) (y := n) (tgt := 33) hx hb (by omega) (by omega) dX12_passDays_20 (by decide) (fun c1 => ?_) (fun c1 => ?_)
    · exact kx i fw (by omega) hL H locs ls hP hD hS (lv_sub hl [0, 1, 2, 3] rfl)
    · refine lv_aload_n hx hb dX12_passDays_23 rfl (lv_at hl 2 rfl) ?_
      refine r_call_v (wr := []) (va_runV (As := []) (rest := []) ⟨hx, hb, hml, hown, hts⟩ (c_m_oneDay l dC dI ky H.size o kthrown ktape ktaped ksize klimit kto kfrom kkind knumber ksign kfault kplace kword ktold know kread kkept ksnaps kaside kname kreadName kkeptName kisKept konces ksnapMany khasCells kpoured kfar ksides ksideMany kwayDays khasWay klines kmet kmetMany ksunk ktrying ksunkMany ksending kfleets ktext ktexts kseed kline kwritten klineMany khasWritten knode knodes konesMany kwithin ktop fw hL) (cwV 0 hts gX12_passDays_X12_oneDay rfl rfl rfl (by decide +kernel) ⟨(Nat.le_trans (Nat.le_of_ble_eq_true rfl) hRf), (Nat.le_trans (Nat.le_of_ble_eq_true rfl) hRl)⟩) (pre_UV hK hP hD [0, 1] (by decide) rfl (ci := 12) (q0 := 0) rfl rfl) rfl rfl hl.1 rfl (lv_room (Nat.le_of_ble_eq_true rfl)) dX12_passDays_24 ⟨(Nat.le_trans (Nat.le_of_ble_eq_true rfl) hRc), (Nat.le_trans (Nat.le_of_ble_eq_true rfl) hRs)⟩) hP hD hS hA [0, 1] [] rfl rfl (by decide) (by decide) (fun  u2 H locs p3 hP hD hS => ?_)
      obtain ⟨knowG_4, rfl⟩ : ∃ z, z = u2 := ⟨_, rfl⟩
      try dsimp only at p3
      have p5 := p3
      have hP : va_P (dC, dI) vwCl [(o, .inr (12, [.int kthrown, .ref ktape, .int ktaped, .int ksize, .int klimit, .int kto, .int kfrom, .int kkind, .int knumber, .int ksign, .int kfault, .int kplace, .long kword, .int ktold, .ref know, .ref kread, .ref kkept, .ref ksnaps, .ref kaside, .ref kname, .ref kreadName, .ref kkeptName, .ref kisKept, .ref konces, .int ksnapMany, .int khasCells, .ref kpoured, .ref kfar, .ref ksides, .int ksideMany, .int kwayDays, .int khasWay, .ref klines, .ref kmet, .int kmetMany, .ref ksunk, .ref ktrying, .int ksunkMany, .int ksending, .int kfleets, .ref ktext, .int ktexts, .int kseed, .ref kline, .ref kwritten, .int klineMany, .int khasWritten, .ref knode, .int knodes, .int konesMany, .int kwithin, .int ktop])), (know, .inl (ky 0, 373, .inl knowG_4))] H := hP
      have hD : va_D A [(o, .inr (12, [.int kthrown, .ref ktape, .int ktaped, .int ksize, .int klimit, .int kto, .int kfrom, .int kkind, .int knumber, .int ksign, .int kfault, .int kplace, .long kword, .int ktold, .ref know, .ref kread, .ref kkept, .ref ksnaps, .ref kaside, .ref kname, .ref kreadName, .ref kkeptName, .ref kisKept, .ref konces, .int ksnapMany, .int khasCells, .ref kpoured, .ref kfar, .ref ksides, .int ksideMany, .int kwayDays, .int khasWay, .ref klines, .ref kmet, .int kmetMany, .ref ksunk, .ref ktrying, .int ksunkMany, .int ksending, .int kfleets, .ref ktext, .int ktexts, .int kseed, .ref kline, .ref kwritten, .int klineMany, .int khasWritten, .ref knode, .int knodes, .int konesMany, .int kwithin, .int ktop])), (know, .inl (ky 0, 373, .inl knowG_4))] := hD
      refine lv_iinc (v := nI (i + 1)) (lv' := [(3, .int (nI (i + 1))), (2, .int (nI n)), (0, .ref o), (1, .int (nI n))]) hx hb dX12_passDays_27 hl (k := 0) rfl (show nI i + nI 1 = nI (i + 1) from nI_add _ _) (by decide) rfl (fun ls hl => ?_)
      refine lv_goto (tgt := 18) hx hb dX12_passDays_30 (by decide) ?_
      exact ih (i + 1) knowG_4 (by omega) (by omega) (lf_lpm_passDays_1 o kthrown ktape ktaped ksize klimit kto kfrom kkind knumber ksign kfault kplace kword ktold know kread kkept ksnaps kaside kname kreadName kkeptName kisKept konces ksnapMany khasCells kpoured kfar ksides ksideMany kwayDays khasWay klines kmet kmetMany ksunk ktrying ksunkMany ksending kfleets ktext ktexts kseed kline kwritten klineMany khasWritten knode knodes konesMany kwithin ktop knowF n i fw knowG_4 hN hn hi hL c1 p5) _ _ _ hP hD hS (lv_sub hl [0, 1, 2, 3] rfl)
set_option maxRecDepth 20000 in
theorem lf_m_passDays_1 (o : Nat) (kthrown : Int32) (ktape : Nat) (ktaped : Int32) (ksize : Int32) (klimit : Int32) (kto : Int32) (kfrom : Int32) (kkind : Int32) (knumber : Int32) (ksign : Int32) (kfault : Int32) (kplace : Int32) (kword : Int64) (ktold : Int32) (know : Nat) (kread : Nat) (kkept : Nat) (ksnaps : Nat) (kaside : Nat) (kname : Nat) (kreadName : Nat) (kkeptName : Nat) (kisKept : Nat) (konces : Nat) (ksnapMany : Int32) (khasCells : Int32) (kpoured : Nat) (kfar : Nat) (ksides : Nat) (ksideMany : Int32) (kwayDays : Int32) (khasWay : Int32) (klines : Nat) (kmet : Nat) (kmetMany : Int32) (ksunk : Nat) (ktrying : Nat) (ksunkMany : Int32) (ksending : Int32) (kfleets : Int32) (ktext : Nat) (ktexts : Int32) (kseed : Int32) (kline : Nat) (kwritten : Nat) (klineMany : Int32) (khasWritten : Int32) (knode : Nat) (knodes : Int32) (konesMany : Int32) (kwithin : Int32) (ktop : Int32) (knowF : Nat → Int32) (n : Nat) (hN : NowOk knowF) (hn : n ≤ 60) : NowB knowF := by
  exact NowOk.b (by assumption)
set_option maxHeartbeats 4000000 in
set_option maxRecDepth 100000 in
theorem c_m_passDays (l : Launch) (dC : Nat → ClassId) (dI : Nat → Nat → Nat) (ky : Nat → ClassId) (sz : Nat) (o : Nat) (kthrown : Int32) (ktape : Nat) (ktaped : Int32) (ksize : Int32) (klimit : Int32) (kto : Int32) (kfrom : Int32) (kkind : Int32) (knumber : Int32) (ksign : Int32) (kfault : Int32) (kplace : Int32) (kword : Int64) (ktold : Int32) (know : Nat) (kread : Nat) (kkept : Nat) (ksnaps : Nat) (kaside : Nat) (kname : Nat) (kreadName : Nat) (kkeptName : Nat) (kisKept : Nat) (konces : Nat) (ksnapMany : Int32) (khasCells : Int32) (kpoured : Nat) (kfar : Nat) (ksides : Nat) (ksideMany : Int32) (kwayDays : Int32) (khasWay : Int32) (klines : Nat) (kmet : Nat) (kmetMany : Int32) (ksunk : Nat) (ktrying : Nat) (ksunkMany : Int32) (ksending : Int32) (kfleets : Int32) (ktext : Nat) (ktexts : Int32) (kseed : Int32) (kline : Nat) (kwritten : Nat) (klineMany : Int32) (khasWritten : Int32) (knode : Nat) (knodes : Int32) (konesMany : Int32) (kwithin : Int32) (ktop : Int32) (knowF : Nat → Int32) (n : Nat) (hN : NowOk knowF) (hn : n ≤ 60) : Met l yX12_passDays wsX12_passDays ({ frames := 2, cells := 0, slots := 0, locals := 42 }) (PcU dC dI ky [.ref o, .int (nI n)] [(o, .inr (12, [.int kthrown, .ref ktape, .int ktaped, .int ksize, .int klimit, .int kto, .int kfrom, .int kkind, .int knumber, .int ksign, .int kfault, .int kplace, .long kword, .int ktold, .ref know, .ref kread, .ref kkept, .ref ksnaps, .ref kaside, .ref kname, .ref kreadName, .ref kkeptName, .ref kisKept, .ref konces, .int ksnapMany, .int khasCells, .ref kpoured, .ref kfar, .ref ksides, .int ksideMany, .int kwayDays, .int khasWay, .ref klines, .ref kmet, .int kmetMany, .ref ksunk, .ref ktrying, .int ksunkMany, .int ksending, .int kfleets, .ref ktext, .int ktexts, .int kseed, .ref kline, .ref kwritten, .int klineMany, .int khasWritten, .ref knode, .int knodes, .int konesMany, .int kwithin, .int ktop])), (know, .inl (ky 0, 373, .inl knowF))] sz) (va_Qi (fun (r : Int32) (_ : Unit) => r = nI n) (BU dC dI ky (fun (_ : Unit) => []) (va_A [(o, .inr (12, [.int kthrown, .ref ktape, .int ktaped, .int ksize, .int klimit, .int kto, .int kfrom, .int kkind, .int knumber, .int ksign, .int kfault, .int kplace, .long kword, .int ktold, .ref know, .ref kread, .ref kkept, .ref ksnaps, .ref kaside, .ref kname, .ref kreadName, .ref kkeptName, .ref kisKept, .ref konces, .int ksnapMany, .int khasCells, .ref kpoured, .ref kfar, .ref ksides, .int ksideMany, .int kwayDays, .int khasWay, .ref klines, .ref kmet, .int kmetMany, .ref ksunk, .ref ktrying, .int ksunkMany, .int ksending, .int kfleets, .ref ktext, .int ktexts, .int kseed, .ref kline, .ref kwritten, .int klineMany, .int khasWritten, .ref knode, .int knodes, .int konesMany, .int kwithin, .int ktop])), (know, .inl (ky 0, 373, .inl knowF))] sz)) (va_A [(o, .inr (12, [.int kthrown, .ref ktape, .int ktaped, .int ksize, .int klimit, .int kto, .int kfrom, .int kkind, .int knumber, .int ksign, .int kfault, .int kplace, .long kword, .int ktold, .ref know, .ref kread, .ref kkept, .ref ksnaps, .ref kaside, .ref kname, .ref kreadName, .ref kkeptName, .ref kisKept, .ref konces, .int ksnapMany, .int khasCells, .ref kpoured, .ref kfar, .ref ksides, .int ksideMany, .int kwayDays, .int khasWay, .ref klines, .ref kmet, .int kmetMany, .ref ksunk, .ref ktrying, .int ksunkMany, .int ksending, .int kfleets, .ref ktext, .int ktexts, .int kseed, .ref kline, .ref kwritten, .int klineMany, .int khasWritten, .ref knode, .int knodes, .int konesMany, .int kwithin, .int ktop])), (know, .inl (ky 0, 373, .inl knowF))] sz)) 0 0 (va_A [(o, .inr (12, [.int kthrown, .ref ktape, .int ktaped, .int ksize, .int klimit, .int kto, .int kfrom, .int kkind, .int knumber, .int ksign, .int kfault, .int kplace, .long kword, .int ktold, .ref know, .ref kread, .ref kkept, .ref ksnaps, .ref kaside, .ref kname, .ref kreadName, .ref kkeptName, .ref kisKept, .ref konces, .int ksnapMany, .int khasCells, .ref kpoured, .ref kfar, .ref ksides, .int ksideMany, .int kwayDays, .int khasWay, .ref klines, .ref kmet, .int kmetMany, .ref ksunk, .ref ktrying, .int ksunkMany, .int ksending, .int kfleets, .ref ktext, .int ktexts, .int kseed, .ref kline, .ref kwritten, .int klineMany, .int khasWritten, .ref knode, .int knodes, .int konesMany, .int kwithin, .int ktop])), (know, .inl (ky 0, 373, .inl knowF))] sz) := by
  refine Met.ofW (cc := cX12_passDays) (maxL := 4) (ret := (some .int)) (by decide) rfl ?_
  intro p e s m args below meth c s₁ B hml hv
  obtain ⟨rfl, hsz, hP, hK, hD0⟩ := hv
  have hx := B.exec
  have hb := B.bytes
  have hr := B.returns
  have hts := atoms_spec (ws := wsX12_passDays) B.pre
  have hown : s.vm.findClass RX12 = some m.cls := findClass_of_methodNamed B.named
  have hlocks := B.notSynchronized
  have hin12 : ∀ w ∈ u_ws RX12 TX12 52, w ∈ wsX12_passDays := by decide +kernel
  subst hsz
  have hD := hD0.self (sz := s.heap.size)
  generalize hAe : va_A [(o, .inr (12, [.int kthrown, .ref ktape, .int ktaped, .int ksize, .int klimit, .int kto, .int kfrom, .int kkind, .int knumber, .int ksign, .int kfault, .int kplace, .long kword, .int ktold, .ref know, .ref kread, .ref kkept, .ref ksnaps, .ref kaside, .ref kname, .ref kreadName, .ref kkeptName, .ref kisKept, .ref konces, .int ksnapMany, .int khasCells, .ref kpoured, .ref kfar, .ref ksides, .int ksideMany, .int kwayDays, .int khasWay, .ref klines, .ref kmet, .int kmetMany, .ref ksunk, .ref ktrying, .int ksunkMany, .int ksending, .int kfleets, .ref ktext, .int ktexts, .int kseed, .ref kline, .ref kwritten, .int klineMany, .int khasWritten, .ref knode, .int knodes, .int konesMany, .int kwithin, .int ktop])), (know, .inl (ky 0, 373, .inl knowF))] s.heap.size = A at hD ⊢
  have hA : ∀ q : Nat, s.heap.size ≤ q → A q := fun q h => by rw [← hAe]; exact Or.inr h
  have hS : va_S A s.heap s.heap [] := va_S.rf
  have hP : va_P (dC, dI) vwCl [(o, .inr (12, [.int kthrown, .ref ktape, .int ktaped, .int ksize, .int klimit, .int kto, .int kfrom, .int kkind, .int knumber, .int ksign, .int kfault, .int kplace, .long kword, .int ktold, .ref know, .ref kread, .ref kkept, .ref ksnaps, .ref kaside, .ref kname, .ref kreadName, .ref kkeptName, .ref kisKept, .ref konces, .int ksnapMany, .int khasCells, .ref kpoured, .ref kfar, .ref ksides, .int ksideMany, .int kwayDays, .int khasWay, .ref klines, .ref kmet, .int kmetMany, .ref ksunk, .ref ktrying, .int ksunkMany, .int ksending, .int kfleets, .ref ktext, .int ktexts, .int kseed, .ref kline, .ref kwritten, .int klineMany, .int khasWritten, .ref knode, .int knodes, .int konesMany, .int kwithin, .int ktop])), (know, .inl (ky 0, 373, .inl knowF))] s.heap := hP
  have hl := lv_entry ([.ref o, .int (nI n)]) (n := 4) (Nat.le_of_ble_eq_true rfl)
  rw [lg_entry_eq]
  generalize (lg_sl ([.ref o, .int (nI n)]) ++ List.replicate (4 - (lg_sl ([.ref o, .int (nI n)])).length) Slot.unset).toArray = ls at hl ⊢
  have hl : lv_has ls 4 [(0, .ref o), (1, .int (nI n))] := hl
  have hH0 : True := trivial
  refine lv_iload_n hx hb dX12_passDays_0 rfl (lv_at hl 1 rfl) ?_
  refine lv_sipush (v := nI 400) hx hb dX12_passDays_1 (by decide) ?_
  refine lv_aload_n hx hb dX12_passDays_4 rfl (lv_at hl 0 rfl) ?_
  refine va_get (D := (dC, dI)) (ci := 12) (v := .ref know) (C := RX12) (T := TX12) (N := 52) hx hb hts hin12 hown hK hP 0 rfl rfl 14 (by decide) (hts (.fieldLink RX12 98 "PorridgeSeaModel" "now" "[I") (List.mem_of_getElem? (i := 1) rfl)) (fun _ h9 => h9) rfl dX12_passDays_5 ?_
  refine lv_bipush (v := nI 67) hx hb dX12_passDays_8 (by decide) ?_
  refine r_iald hx hb hK hP 1 rfl 67 (by decide) (by decide) (nI 0) hN.2.1 dX12_passDays_10 ?_
  refine lv_isub hx hb dX12_passDays_11 ?_
  refine r_ti (nI 400) (by decide) ?_
  refine vp_callSi (W.runS (As := [.int (nI n), .int (nI 400)]) (rest := []) ⟨hx, hb, hml, hown, hts⟩ (c_m_leastN l dC dI ky n (by omega)) (va_cwS 2 hts gX12_passDays_X12_least rfl rfl rfl (by decide +kernel) ⟨(Nat.le_of_ble_eq_true rfl), (Nat.le_of_ble_eq_true rfl)⟩) (pre_PS hK hP [] rfl) rfl rfl hl.1 rfl (lv_room (Nat.le_of_ble_eq_true rfl)) dX12_passDays_12 ⟨(Nat.le_of_ble_eq_true rfl), (Nat.le_of_ble_eq_true rfl)⟩) (fun r1 p2 => ?_)
  subst p2
  refine lv_istore_n (lv' := [(2, .int (nI n)), (0, .ref o), (1, .int (nI n))]) hx hb dX12_passDays_15 rfl hl (by decide) rfl (fun ls hl => ?_)
  refine lv_iconst (v := nI 0) hx hb dX12_passDays_16 (by decide) ?_
  refine lv_istore_n (lv' := [(3, .int (nI 0)), (2, .int (nI n)), (0, .ref o), (1, .int (nI n))]) hx hb dX12_passDays_17 rfl hl (by decide) rfl (fun ls hl => ?_)
  refine lp_m_passDays hx hb hml hown hts hK hA (Nat.le_of_ble_eq_true rfl) (Nat.le_of_ble_eq_true rfl) (Nat.le_of_ble_eq_true rfl) (Nat.le_of_ble_eq_true rfl) o kthrown ktape ktaped ksize klimit kto kfrom kkind knumber ksign kfault kplace kword ktold know kread kkept ksnaps kaside kname kreadName kkeptName kisKept konces ksnapMany khasCells kpoured kfar ksides ksideMany kwayDays khasWay klines kmet kmetMany ksunk ktrying ksunkMany ksending kfleets ktext ktexts kseed kline kwritten klineMany khasWritten knode knodes konesMany kwithin ktop knowF n hN hn ?_ (n + 1) 0 knowF (by omega) (by omega) (lf_m_passDays_1 o kthrown ktape ktaped ksize klimit kto kfrom kkind knumber ksign kfault kplace kword ktold know kread kkept ksnaps kaside kname kreadName kkeptName kisKept konces ksnapMany khasCells kpoured kfar ksides ksideMany kwayDays khasWay klines kmet kmetMany ksunk ktrying ksunkMany ksending kfleets ktext ktexts kseed kline kwritten klineMany khasWritten knode knodes konesMany kwithin ktop knowF n hN hn) _ _ _ hP hD hS (lv_sub hl [0, 1, 2, 3] rfl)
  intro i fw hiN hL H locs ls hP hD hS hl
  subst hiN
  refine lv_iload_n hx hb dX12_passDays_33 rfl (lv_at hl 1 rfl) ?_
  have hP9 := hP.sub (ws' := []) [] rfl
  have hD9 := hD.sub (ws' := []) [] (by decide) rfl
  refine W.widen (k := 0) (n := 0) (Nat.le_of_ble_eq_true rfl) (Nat.le_of_ble_eq_true rfl) ?_
  exact W.iret (v := nI n) hx hb hr (fun t ht9 hW9 => ⟨⟨nI n, (), rfl, rfl, by rw [ht9]; exact hP9, va_K.moved hW9.alike hK, hD9⟩, hS.F ht9⟩) hS.2.2 dX12_passDays_34
set_option maxRecDepth 20000 in
theorem lf_m_days_1 (o : Nat) (ktape : Nat) (know : Nat) (kread : Nat) (kkept : Nat) (ksnaps : Nat) (kaside : Nat) (kname : Nat) (kreadName : Nat) (kkeptName : Nat) (kisKept : Nat) (konces : Nat) (kpoured : Nat) (kfar : Nat) (ksides : Nat) (klines : Nat) (kmet : Nat) (ksunk : Nat) (ktrying : Nat) (ktext : Nat) (kline : Nat) (kwritten : Nat) (knode : Nat) (knowF : Nat → Int32) (ksnapsF : Nat → Int32) (x : Int32) (r1 : Int32) (hN : NowOk knowF) (p2 : (r1 = nI 1 ∧ (nI 1).toInt ≤ x.toInt ∧ x.toInt ≤ (nI 60).toInt) ∨ (r1 = nI 0 ∧ ¬ ((nI 1).toInt ≤ x.toInt ∧ x.toInt ≤ (nI 60).toInt))) (c3 : r1 ≠ 0) : 0 ≤ x.toInt ∧ x.toInt < ((61 : Nat) : Int) := by
  have k_0 := ia_n 1 (by decide)
  have k_1 := ia_n 60 (by decide)
  have k_2 := ia_n 0 (by decide)
  simp only [ia_lt, ia_le, ia_eq, ia_m1, ia_0, ia_1, ne_eq, true_and, and_true, false_and, and_false, or_false, false_or, or_true, true_or, not_true_eq_false, not_false_eq_true] at *
  all_goals omega
set_option maxRecDepth 20000 in
theorem lf_m_days_2 (o : Nat) (ktape : Nat) (know : Nat) (kread : Nat) (kkept : Nat) (ksnaps : Nat) (kaside : Nat) (kname : Nat) (kreadName : Nat) (kkeptName : Nat) (kisKept : Nat) (konces : Nat) (kpoured : Nat) (kfar : Nat) (ksides : Nat) (klines : Nat) (kmet : Nat) (ksunk : Nat) (ktrying : Nat) (ktext : Nat) (kline : Nat) (kwritten : Nat) (knode : Nat) (knowF : Nat → Int32) (ksnapsF : Nat → Int32) (r1 : Int32) (xn : Nat) (ksnapsG_8 : Nat → Int32) (hN : NowOk knowF) (p2 : (r1 = nI 1 ∧ (nI 1).toInt ≤ (nI xn).toInt ∧ (nI xn).toInt ≤ (nI 60).toInt) ∨ (r1 = nI 0 ∧ ¬ ((nI 1).toInt ≤ (nI xn).toInt ∧ (nI xn).toInt ≤ (nI 60).toInt))) (c3 : r1 ≠ 0) (h4 : xn < 61) : ((nI xn) = (-1 : Int32) ∧ ¬ (1 ≤ (nI xn).toInt ∧ (nI xn).toInt ≤ 60)) ∨ ((nI xn) = (nI xn) ∧ 1 ≤ (nI xn).toInt ∧ (nI xn).toInt ≤ 60) := by
  have k_0 := ia_n 1 (by decide)
  have k_1 := ia_n xn (by omega)
  have k_2 := ia_n 60 (by decide)
  have k_3 := ia_n 0 (by decide)
  simp only [ia_lt, ia_le, ia_eq, ia_m1, ia_0, ia_1, ne_eq, true_and, and_true, false_and, and_false, or_false, false_or, or_true, true_or, not_true_eq_false, not_false_eq_true] at *
  all_goals omega
set_option maxRecDepth 20000 in
theorem lf_m_days_3 (o : Nat) (ktape : Nat) (know : Nat) (kread : Nat) (kkept : Nat) (ksnaps : Nat) (kaside : Nat) (kname : Nat) (kreadName : Nat) (kkeptName : Nat) (kisKept : Nat) (konces : Nat) (kpoured : Nat) (kfar : Nat) (ksides : Nat) (klines : Nat) (kmet : Nat) (ksunk : Nat) (ktrying : Nat) (ktext : Nat) (kline : Nat) (kwritten : Nat) (knode : Nat) (knowF : Nat → Int32) (ksnapsF : Nat → Int32) (x : Int32) (r1 : Int32) (hN : NowOk knowF) (p2 : (r1 = nI 1 ∧ (nI 1).toInt ≤ x.toInt ∧ x.toInt ≤ (nI 60).toInt) ∨ (r1 = nI 0 ∧ ¬ ((nI 1).toInt ≤ x.toInt ∧ x.toInt ≤ (nI 60).toInt))) (c3 : r1 = 0) : ((-1 : Int32) = (-1 : Int32) ∧ ¬ (1 ≤ x.toInt ∧ x.toInt ≤ 60)) ∨ ((-1 : Int32) = x ∧ 1 ≤ x.toInt ∧ x.toInt ≤ 60) := by
  have k_0 := ia_n 1 (by decide)
  have k_1 := ia_n 60 (by decide)
  have k_2 := ia_n 0 (by decide)
  simp only [ia_lt, ia_le, ia_eq, ia_m1, ia_0, ia_1, ne_eq, true_and, and_true, false_and, and_false, or_false, false_or, or_true, true_or, not_true_eq_false, not_false_eq_true] at *
  all_goals omega
set_option maxHeartbeats 4000000 in
set_option maxRecDepth 100000 in
theorem c_m_days (l : Launch) (dC : Nat → ClassId) (dI : Nat → Nat → Nat) (ky : Nat → ClassId) (sz : Nat) (o : Nat) (ktape : Nat) (know : Nat) (kread : Nat) (kkept : Nat) (ksnaps : Nat) (kaside : Nat) (kname : Nat) (kreadName : Nat) (kkeptName : Nat) (kisKept : Nat) (konces : Nat) (kpoured : Nat) (kfar : Nat) (ksides : Nat) (klines : Nat) (kmet : Nat) (ksunk : Nat) (ktrying : Nat) (ktext : Nat) (kline : Nat) (kwritten : Nat) (knode : Nat) (knowF : Nat → Int32) (ksnapsF : Nat → Int32) (x : Int32) (hN : NowOk knowF) : Met l yX12_days wsX12_days ({ frames := 3, cells := 0, slots := 0, locals := 65 }) (PcU dC dI ky [.ref o, .int x] [(o, .inr (12, [.int (nI 0), .ref ktape, .int (nI 0), .int (nI 0), .int (nI 0), .int (nI 0), .int (nI 0), .int (nI 0), .int (nI 0), .int (nI 0), .int (nI 0), .int (nI 0), .long 0, .int (nI 0), .ref know, .ref kread, .ref kkept, .ref ksnaps, .ref kaside, .ref kname, .ref kreadName, .ref kkeptName, .ref kisKept, .ref konces, .int (nI 0), .int (nI 0), .ref kpoured, .ref kfar, .ref ksides, .int (nI 0), .int (-1 : Int32), .int (nI 0), .ref klines, .ref kmet, .int (nI 0), .ref ksunk, .ref ktrying, .int (nI 0), .int (-1 : Int32), .int (-1 : Int32), .ref ktext, .int (nI 0), .int (nI 0), .ref kline, .ref kwritten, .int (nI 0), .int (nI 0), .ref knode, .int (nI 0), .int (nI 0), .int (nI 0), .int (nI 0)])), (know, .inl (ky 0, 373, .inl knowF)), (ksnaps, .inl (ky 0, 512, .inl ksnapsF))] sz) (va_Qi (fun (r : Int32) (_ : Unit) => (r = (-1 : Int32) ∧ ¬ (1 ≤ x.toInt ∧ x.toInt ≤ 60)) ∨ (r = x ∧ 1 ≤ x.toInt ∧ x.toInt ≤ 60)) (BU dC dI ky (fun (_ : Unit) => []) (va_A [(o, .inr (12, [.int (nI 0), .ref ktape, .int (nI 0), .int (nI 0), .int (nI 0), .int (nI 0), .int (nI 0), .int (nI 0), .int (nI 0), .int (nI 0), .int (nI 0), .int (nI 0), .long 0, .int (nI 0), .ref know, .ref kread, .ref kkept, .ref ksnaps, .ref kaside, .ref kname, .ref kreadName, .ref kkeptName, .ref kisKept, .ref konces, .int (nI 0), .int (nI 0), .ref kpoured, .ref kfar, .ref ksides, .int (nI 0), .int (-1 : Int32), .int (nI 0), .ref klines, .ref kmet, .int (nI 0), .ref ksunk, .ref ktrying, .int (nI 0), .int (-1 : Int32), .int (-1 : Int32), .ref ktext, .int (nI 0), .int (nI 0), .ref kline, .ref kwritten, .int (nI 0), .int (nI 0), .ref knode, .int (nI 0), .int (nI 0), .int (nI 0), .int (nI 0)])), (know, .inl (ky 0, 373, .inl knowF)), (ksnaps, .inl (ky 0, 512, .inl ksnapsF))] sz)) (va_A [(o, .inr (12, [.int (nI 0), .ref ktape, .int (nI 0), .int (nI 0), .int (nI 0), .int (nI 0), .int (nI 0), .int (nI 0), .int (nI 0), .int (nI 0), .int (nI 0), .int (nI 0), .long 0, .int (nI 0), .ref know, .ref kread, .ref kkept, .ref ksnaps, .ref kaside, .ref kname, .ref kreadName, .ref kkeptName, .ref kisKept, .ref konces, .int (nI 0), .int (nI 0), .ref kpoured, .ref kfar, .ref ksides, .int (nI 0), .int (-1 : Int32), .int (nI 0), .ref klines, .ref kmet, .int (nI 0), .ref ksunk, .ref ktrying, .int (nI 0), .int (-1 : Int32), .int (-1 : Int32), .ref ktext, .int (nI 0), .int (nI 0), .ref kline, .ref kwritten, .int (nI 0), .int (nI 0), .ref knode, .int (nI 0), .int (nI 0), .int (nI 0), .int (nI 0)])), (know, .inl (ky 0, 373, .inl knowF)), (ksnaps, .inl (ky 0, 512, .inl ksnapsF))] sz)) 0 0 (va_A [(o, .inr (12, [.int (nI 0), .ref ktape, .int (nI 0), .int (nI 0), .int (nI 0), .int (nI 0), .int (nI 0), .int (nI 0), .int (nI 0), .int (nI 0), .int (nI 0), .int (nI 0), .long 0, .int (nI 0), .ref know, .ref kread, .ref kkept, .ref ksnaps, .ref kaside, .ref kname, .ref kreadName, .ref kkeptName, .ref kisKept, .ref konces, .int (nI 0), .int (nI 0), .ref kpoured, .ref kfar, .ref ksides, .int (nI 0), .int (-1 : Int32), .int (nI 0), .ref klines, .ref kmet, .int (nI 0), .ref ksunk, .ref ktrying, .int (nI 0), .int (-1 : Int32), .int (-1 : Int32), .ref ktext, .int (nI 0), .int (nI 0), .ref kline, .ref kwritten, .int (nI 0), .int (nI 0), .ref knode, .int (nI 0), .int (nI 0), .int (nI 0), .int (nI 0)])), (know, .inl (ky 0, 373, .inl knowF)), (ksnaps, .inl (ky 0, 512, .inl ksnapsF))] sz) := by
  refine Met.ofW (cc := cX12_days) (maxL := 2) (ret := (some .int)) (by decide) rfl ?_
  intro p e s m args below meth c s₁ B hml hv
  obtain ⟨rfl, hsz, hP, hK, hD0⟩ := hv
  have hx := B.exec
  have hb := B.bytes
  have hr := B.returns
  have hts := atoms_spec (ws := wsX12_days) B.pre
  have hown : s.vm.findClass RX12 = some m.cls := findClass_of_methodNamed B.named
  have hlocks := B.notSynchronized
  have hin12 : ∀ w ∈ u_ws RX12 TX12 52, w ∈ wsX12_days := by decide +kernel
  subst hsz
  have hD := hD0.self (sz := s.heap.size)
  generalize hAe : va_A [(o, .inr (12, [.int (nI 0), .ref ktape, .int (nI 0), .int (nI 0), .int (nI 0), .int (nI 0), .int (nI 0), .int (nI 0), .int (nI 0), .int (nI 0), .int (nI 0), .int (nI 0), .long 0, .int (nI 0), .ref know, .ref kread, .ref kkept, .ref ksnaps, .ref kaside, .ref kname, .ref kreadName, .ref kkeptName, .ref kisKept, .ref konces, .int (nI 0), .int (nI 0), .ref kpoured, .ref kfar, .ref ksides, .int (nI 0), .int (-1 : Int32), .int (nI 0), .ref klines, .ref kmet, .int (nI 0), .ref ksunk, .ref ktrying, .int (nI 0), .int (-1 : Int32), .int (-1 : Int32), .ref ktext, .int (nI 0), .int (nI 0), .ref kline, .ref kwritten, .int (nI 0), .int (nI 0), .ref knode, .int (nI 0), .int (nI 0), .int (nI 0), .int (nI 0)])), (know, .inl (ky 0, 373, .inl knowF)), (ksnaps, .inl (ky 0, 512, .inl ksnapsF))] s.heap.size = A at hD ⊢
  have hA : ∀ q : Nat, s.heap.size ≤ q → A q := fun q h => by rw [← hAe]; exact Or.inr h
  have hS : va_S A s.heap s.heap [] := va_S.rf
  have hP : va_P (dC, dI) vwCl [(o, .inr (12, [.int (nI 0), .ref ktape, .int (nI 0), .int (nI 0), .int (nI 0), .int (nI 0), .int (nI 0), .int (nI 0), .int (nI 0), .int (nI 0), .int (nI 0), .int (nI 0), .long 0, .int (nI 0), .ref know, .ref kread, .ref kkept, .ref ksnaps, .ref kaside, .ref kname, .ref kreadName, .ref kkeptName, .ref kisKept, .ref konces, .int (nI 0), .int (nI 0), .ref kpoured, .ref kfar, .ref ksides, .int (nI 0), .int (-1 : Int32), .int (nI 0), .ref klines, .ref kmet, .int (nI 0), .ref ksunk, .ref ktrying, .int (nI 0), .int (-1 : Int32), .int (-1 : Int32), .ref ktext, .int (nI 0), .int (nI 0), .ref kline, .ref kwritten, .int (nI 0), .int (nI 0), .ref knode, .int (nI 0), .int (nI 0), .int (nI 0), .int (nI 0)])), (know, .inl (ky 0, 373, .inl knowF)), (ksnaps, .inl (ky 0, 512, .inl ksnapsF))] s.heap := hP
  have hl := lv_entry ([.ref o, .int x]) (n := 2) (Nat.le_of_ble_eq_true rfl)
  rw [lg_entry_eq]
  generalize (lg_sl ([.ref o, .int x]) ++ List.replicate (2 - (lg_sl ([.ref o, .int x])).length) Slot.unset).toArray = ls at hl ⊢
  have hl : lv_has ls 2 [(0, .ref o), (1, .int x)] := hl
  have hH0 : True := trivial
  refine lv_aload_n hx hb dX12_days_0 rfl (lv_at hl 0 rfl) ?_
  refine lv_iconst (v := nI 0) hx hb dX12_days_1 (by decide) ?_
  refine va_put (D := (dC, dI)) (ci := 12) (v := .int (nI 0)) (ty := .int) (C := RX12) (T := TX12) (N := 52) hx hb hts hin12 tyX12 tyX12_ok nmX12 hown hK hP hD hS 0 rfl rfl 0 (by decide) (hts (.fieldLink RX12 1 "PorridgeSeaModel" "thrown" "I") (List.mem_of_getElem? (i := 1) rfl)) (fun _ h9 => h9) rfl (by decide +kernel) rfl rfl (Nat.le_of_ble_eq_true rfl) dX12_days_2 (fun H locs hP hD hS => ?_)
  have hP : va_P (dC, dI) vwCl [(o, .inr (12, [.int (nI 0), .ref ktape, .int (nI 0), .int (nI 0), .int (nI 0), .int (nI 0), .int (nI 0), .int (nI 0), .int (nI 0), .int (nI 0), .int (nI 0), .int (nI 0), .long 0, .int (nI 0), .ref know, .ref kread, .ref kkept, .ref ksnaps, .ref kaside, .ref kname, .ref kreadName, .ref kkeptName, .ref kisKept, .ref konces, .int (nI 0), .int (nI 0), .ref kpoured, .ref kfar, .ref ksides, .int (nI 0), .int (-1 : Int32), .int (nI 0), .ref klines, .ref kmet, .int (nI 0), .ref ksunk, .ref ktrying, .int (nI 0), .int (-1 : Int32), .int (-1 : Int32), .ref ktext, .int (nI 0), .int (nI 0), .ref kline, .ref kwritten, .int (nI 0), .int (nI 0), .ref knode, .int (nI 0), .int (nI 0), .int (nI 0), .int (nI 0)])), (know, .inl (ky 0, 373, .inl knowF)), (ksnaps, .inl (ky 0, 512, .inl ksnapsF))] H := hP
  have hD : va_D A [(o, .inr (12, [.int (nI 0), .ref ktape, .int (nI 0), .int (nI 0), .int (nI 0), .int (nI 0), .int (nI 0), .int (nI 0), .int (nI 0), .int (nI 0), .int (nI 0), .int (nI 0), .long 0, .int (nI 0), .ref know, .ref kread, .ref kkept, .ref ksnaps, .ref kaside, .ref kname, .ref kreadName, .ref kkeptName, .ref kisKept, .ref konces, .int (nI 0), .int (nI 0), .ref kpoured, .ref kfar, .ref ksides, .int (nI 0), .int (-1 : Int32), .int (nI 0), .ref klines, .ref kmet, .int (nI 0), .ref ksunk, .ref ktrying, .int (nI 0), .int (-1 : Int32), .int (-1 : Int32), .ref ktext, .int (nI 0), .int (nI 0), .ref kline, .ref kwritten, .int (nI 0), .int (nI 0), .ref knode, .int (nI 0), .int (nI 0), .int (nI 0), .int (nI 0)])), (know, .inl (ky 0, 373, .inl knowF)), (ksnaps, .inl (ky 0, 512, .inl ksnapsF))] := hD
  refine lv_iload_n hx hb dX12_days_5 rfl (lv_at hl 1 rfl) ?_
  refine lv_iconst (v := nI 1) hx hb dX12_days_6 (by decide) ?_
  refine lv_bipush (v := nI 60) hx hb dX12_days_7 (by decide) ?_
  refine vp_callSi (W.runS (As := [.int x, .int (nI 1), .int (nI 60)]) (rest := []) ⟨hx, hb, hml, hown, hts⟩ (c_isIn l dC dI ky x (nI 1) (nI 60)) (va_cwS 3 hts gX12_days_X12_isIn rfl rfl rfl (by decide +kernel) ⟨(Nat.le_of_ble_eq_true rfl), (Nat.le_of_ble_eq_true rfl)⟩) (pre_PS hK hP [] rfl) rfl rfl hl.1 rfl (lv_room (Nat.le_of_ble_eq_true rfl)) dX12_days_9 ⟨(Nat.le_of_ble_eq_true rfl), (Nat.le_of_ble_eq_true rfl)⟩) (fun r1 p2 => ?_)
  refine lv_if_ne (tgt := 17) hx hb dX12_days_12 (by decide) (fun c3 => ?_) (fun c3 => ?_)
  · obtain ⟨xn, h4, rfl⟩ := nat_of x 61 (by decide) (lf_m_days_1 o ktape know kread kkept ksnaps kaside kname kreadName kkeptName kisKept konces kpoured kfar ksides klines kmet ksunk ktrying ktext kline kwritten knode knowF ksnapsF x r1 hN p2 c3)
    refine lv_aload_n hx hb dX12_days_17 rfl (lv_at hl 0 rfl) ?_
    refine va_get (D := (dC, dI)) (ci := 12) (v := .ref know) (C := RX12) (T := TX12) (N := 52) hx hb hts hin12 hown hK hP 0 rfl rfl 14 (by decide) (hts (.fieldLink RX12 98 "PorridgeSeaModel" "now" "[I") (List.mem_of_getElem? (i := 2) rfl)) (fun _ h9 => h9) rfl dX12_days_18 ?_
    refine lv_bipush (v := nI 67) hx hb dX12_days_21 (by decide) ?_
    refine r_iald hx hb hK hP 1 rfl 67 (by decide) (by decide) (nI 0) hN.2.1 dX12_days_23 ?_
    refine lv_sipush (v := nI 400) hx hb dX12_days_24 (by decide) ?_
    refine lv_icmp_ne (tgt := 32) hx hb dX12_days_27 (by decide) (fun c5 => ?_) (fun c5 => absurd c5 (by decide))
    refine lv_aload_n hx hb dX12_days_32 rfl (lv_at hl 0 rfl) ?_
    refine r_call_v (wr := []) (va_runV (As := []) (rest := []) ⟨hx, hb, hml, hown, hts⟩ (c_m_snap l dC dI ky H.size o (nI 0) ktape (nI 0) (nI 0) (nI 0) (nI 0) (nI 0) (nI 0) (nI 0) (nI 0) (nI 0) (nI 0) 0 (nI 0) know kread kkept ksnaps kaside kname kreadName kkeptName kisKept konces (nI 0) kpoured kfar ksides (nI 0) (-1 : Int32) (nI 0) klines kmet (nI 0) ksunk ktrying (nI 0) (-1 : Int32) (-1 : Int32) ktext (nI 0) (nI 0) kline kwritten (nI 0) (nI 0) knode (nI 0) (nI 0) (nI 0) (nI 0) knowF ksnapsF) (cwV 0 hts gX12_days_X12_snap rfl rfl rfl (by decide +kernel) ⟨(Nat.le_of_ble_eq_true rfl), (Nat.le_of_ble_eq_true rfl)⟩) (pre_UV hK hP hD [0, 1, 2] (by decide) rfl (ci := 12) (q0 := 0) rfl rfl) rfl rfl hl.1 rfl (lv_room (Nat.le_of_ble_eq_true rfl)) dX12_days_33 ⟨(Nat.le_of_ble_eq_true rfl), (Nat.le_of_ble_eq_true rfl)⟩) hP hD hS hA [0, 1, 2] [] rfl rfl (by decide) (by decide) (fun  u6 H locs p7 hP hD hS => ?_)
    obtain ⟨ksnapsG_8, rfl⟩ : ∃ z, z = u6 := ⟨_, rfl⟩
    refine W.widen (k := 0) (n := 0) (Nat.le_of_ble_eq_true rfl) (Nat.le_of_ble_eq_true rfl) ?_
    have hP : va_P (dC, dI) vwCl [(o, .inr (12, [.int (nI 0), .ref ktape, .int (nI 0), .int (nI 0), .int (nI 0), .int (nI 0), .int (nI 0), .int (nI 0), .int (nI 0), .int (nI 0), .int (nI 0), .int (nI 0), .long 0, .int (nI 0), .ref know, .ref kread, .ref kkept, .ref ksnaps, .ref kaside, .ref kname, .ref kreadName, .ref kkeptName, .ref kisKept, .ref konces, .int (nI 1), .int (nI 0), .ref kpoured, .ref kfar, .ref ksides, .int (nI 0), .int (-1 : Int32), .int (nI 0), .ref klines, .ref kmet, .int (nI 0), .ref ksunk, .ref ktrying, .int (nI 0), .int (-1 : Int32), .int (-1 : Int32), .ref ktext, .int (nI 0), .int (nI 0), .ref kline, .ref kwritten, .int (nI 0), .int (nI 0), .ref knode, .int (nI 0), .int (nI 0), .int (nI 0), .int (nI 0)])), (know, .inl (ky 0, 373, .inl knowF)), (ksnaps, .inl (ky 0, 512, .inl ksnapsG_8))] H := hP
    have hD : va_D A [(o, .inr (12, [.int (nI 0), .ref ktape, .int (nI 0), .int (nI 0), .int (nI 0), .int (nI 0), .int (nI 0), .int (nI 0), .int (nI 0), .int (nI 0), .int (nI 0), .int (nI 0), .long 0, .int (nI 0), .ref know, .ref kread, .ref kkept, .ref ksnaps, .ref kaside, .ref kname, .ref kreadName, .ref kkeptName, .ref kisKept, .ref konces, .int (nI 1), .int (nI 0), .ref kpoured, .ref kfar, .ref ksides, .int (nI 0), .int (-1 : Int32), .int (nI 0), .ref klines, .ref kmet, .int (nI 0), .ref ksunk, .ref ktrying, .int (nI 0), .int (-1 : Int32), .int (-1 : Int32), .ref ktext, .int (nI 0), .int (nI 0), .ref kline, .ref kwritten, .int (nI 0), .int (nI 0), .ref knode, .int (nI 0), .int (nI 0), .int (nI 0), .int (nI 0)])), (know, .inl (ky 0, 373, .inl knowF)), (ksnaps, .inl (ky 0, 512, .inl ksnapsG_8))] := hD
    refine lv_aload_n hx hb dX12_days_36 rfl (lv_at hl 0 rfl) ?_
    refine lv_iload_n hx hb dX12_days_37 rfl (lv_at hl 1 rfl) ?_
    refine r_call_i (wr := [(ksnaps, .inl (ky 0, 512, .inl ksnapsG_8))]) (va_runV (As := [.int (nI xn)]) (rest := []) ⟨hx, hb, hml, hown, hts⟩ (c_m_passDays l dC dI ky H.size o (nI 0) ktape (nI 0) (nI 0) (nI 0) (nI 0) (nI 0) (nI 0) (nI 0) (nI 0) (nI 0) (nI 0) 0 (nI 0) know kread kkept ksnaps kaside kname kreadName kkeptName kisKept konces (nI 1) (nI 0) kpoured kfar ksides (nI 0) (-1 : Int32) (nI 0) klines kmet (nI 0) ksunk ktrying (nI 0) (-1 : Int32) (-1 : Int32) ktext (nI 0) (nI 0) kline kwritten (nI 0) (nI 0) knode (nI 0) (nI 0) (nI 0) (nI 0) knowF xn hN (by omega)) (cwV 1 hts gX12_days_X12_passDays rfl rfl rfl (by decide +kernel) ⟨(Nat.le_of_ble_eq_true rfl), (Nat.le_of_ble_eq_true rfl)⟩) (pre_UV hK hP hD [0, 1] (by decide) rfl (ci := 12) (q0 := 0) rfl rfl) rfl rfl hl.1 rfl (lv_room (Nat.le_of_ble_eq_true rfl)) dX12_days_38 ⟨(Nat.le_of_ble_eq_true rfl), (Nat.le_of_ble_eq_true rfl)⟩) hP hD hS hA [0, 1] [2] rfl rfl (by decide) (by decide) (fun r11 u9 H locs p10 hP hD hS => ?_)
    try dsimp only at p10
    have p12 := p10
    refine W.widen (k := 0) (n := 0) (Nat.le_of_ble_eq_true rfl) (Nat.le_of_ble_eq_true rfl) ?_
    have hP : va_P (dC, dI) vwCl [(ksnaps, .inl (ky 0, 512, .inl ksnapsG_8))] H := hP
    have hD : va_D A [(ksnaps, .inl (ky 0, 512, .inl ksnapsG_8))] := hD
    subst p12
    have hP9 := hP.sub (ws' := []) [] rfl
    have hD9 := hD.sub (ws' := []) [] (by decide) rfl
    refine W.widen (k := 0) (n := 0) (Nat.le_of_ble_eq_true rfl) (Nat.le_of_ble_eq_true rfl) ?_
    exact W.iret (v := nI xn) hx hb hr (fun t ht9 hW9 => ⟨⟨nI xn, (), rfl, (lf_m_days_2 o ktape know kread kkept ksnaps kaside kname kreadName kkeptName kisKept konces kpoured kfar ksides klines kmet ksunk ktrying ktext kline kwritten knode knowF ksnapsF r1 xn ksnapsG_8 hN p2 c3 h4), by rw [ht9]; exact hP9, va_K.moved hW9.alike hK, hD9⟩, hS.F ht9⟩) hS.2.2 dX12_days_41
  · refine lv_iconst (v := (-1 : Int32)) hx hb dX12_days_15 (by decide) ?_
    have hP9 := hP.sub (ws' := []) [] rfl
    have hD9 := hD.sub (ws' := []) [] (by decide) rfl
    refine W.widen (k := 0) (n := 0) (Nat.le_of_ble_eq_true rfl) (Nat.le_of_ble_eq_true rfl) ?_
    exact W.iret (v := (-1 : Int32)) hx hb hr (fun t ht9 hW9 => ⟨⟨(-1 : Int32), (), rfl, (lf_m_days_3 o ktape know kread kkept ksnaps kaside kname kreadName kkeptName kisKept konces kpoured kfar ksides klines kmet ksunk ktrying ktext kline kwritten knode knowF ksnapsF x r1 hN p2 c3), by rw [ht9]; exact hP9, va_K.moved hW9.alike hK, hD9⟩, hS.F ht9⟩) hS.2.2 dX12_days_16
set_option maxHeartbeats 4000000 in
set_option maxRecDepth 100000 in
theorem c_m_draw2 (l : Launch) (dC : Nat → ClassId) (dI : Nat → Nat → Nat) (ky : Nat → ClassId) (sz : Nat) (o : Nat) (sd : Int32) (kthrown : Int32) (ktape : Nat) (ktaped : Int32) (ksize : Int32) (klimit : Int32) (kto : Int32) (kfrom : Int32) (kkind : Int32) (knumber : Int32) (ksign : Int32) (kfault : Int32) (kplace : Int32) (kword : Int64) (ktold : Int32) (know : Nat) (kread : Nat) (kkept : Nat) (ksnaps : Nat) (kaside : Nat) (kname : Nat) (kreadName : Nat) (kkeptName : Nat) (kisKept : Nat) (konces : Nat) (ksnapMany : Int32) (khasCells : Int32) (kpoured : Nat) (kfar : Nat) (ksides : Nat) (ksideMany : Int32) (kwayDays : Int32) (khasWay : Int32) (klines : Nat) (kmet : Nat) (kmetMany : Int32) (ksunk : Nat) (ktrying : Nat) (ksunkMany : Int32) (ksending : Int32) (kfleets : Int32) (ktext : Nat) (ktexts : Int32) (kline : Nat) (kwritten : Nat) (klineMany : Int32) (khasWritten : Int32) (knode : Nat) (knodes : Int32) (konesMany : Int32) (kwithin : Int32) (ktop : Int32)  : Met l yX12_draw wsX12_draw ({ frames := 0, cells := 0, slots := 0, locals := 0 }) (PcU dC dI ky [.ref o, .int (nI 2)] [(o, .inr (12, [.int kthrown, .ref ktape, .int ktaped, .int ksize, .int klimit, .int kto, .int kfrom, .int kkind, .int knumber, .int ksign, .int kfault, .int kplace, .long kword, .int ktold, .ref know, .ref kread, .ref kkept, .ref ksnaps, .ref kaside, .ref kname, .ref kreadName, .ref kkeptName, .ref kisKept, .ref konces, .int ksnapMany, .int khasCells, .ref kpoured, .ref kfar, .ref ksides, .int ksideMany, .int kwayDays, .int khasWay, .ref klines, .ref kmet, .int kmetMany, .ref ksunk, .ref ktrying, .int ksunkMany, .int ksending, .int kfleets, .ref ktext, .int ktexts, .int sd, .ref kline, .ref kwritten, .int klineMany, .int khasWritten, .ref knode, .int knodes, .int konesMany, .int kwithin, .int ktop]))] sz) (va_Qi (fun (r : Int32) (sdG : Int32) => ∃ k9 : Nat, k9 < 2 ∧ r = nI k9) (BU dC dI ky (fun (sdG : Int32) => [(o, .inr (12, [.int kthrown, .ref ktape, .int ktaped, .int ksize, .int klimit, .int kto, .int kfrom, .int kkind, .int knumber, .int ksign, .int kfault, .int kplace, .long kword, .int ktold, .ref know, .ref kread, .ref kkept, .ref ksnaps, .ref kaside, .ref kname, .ref kreadName, .ref kkeptName, .ref kisKept, .ref konces, .int ksnapMany, .int khasCells, .ref kpoured, .ref kfar, .ref ksides, .int ksideMany, .int kwayDays, .int khasWay, .ref klines, .ref kmet, .int kmetMany, .ref ksunk, .ref ktrying, .int ksunkMany, .int ksending, .int kfleets, .ref ktext, .int ktexts, .int sdG, .ref kline, .ref kwritten, .int klineMany, .int khasWritten, .ref knode, .int knodes, .int konesMany, .int kwithin, .int ktop]))]) (va_A [(o, .inr (12, [.int kthrown, .ref ktape, .int ktaped, .int ksize, .int klimit, .int kto, .int kfrom, .int kkind, .int knumber, .int ksign, .int kfault, .int kplace, .long kword, .int ktold, .ref know, .ref kread, .ref kkept, .ref ksnaps, .ref kaside, .ref kname, .ref kreadName, .ref kkeptName, .ref kisKept, .ref konces, .int ksnapMany, .int khasCells, .ref kpoured, .ref kfar, .ref ksides, .int ksideMany, .int kwayDays, .int khasWay, .ref klines, .ref kmet, .int kmetMany, .ref ksunk, .ref ktrying, .int ksunkMany, .int ksending, .int kfleets, .ref ktext, .int ktexts, .int sd, .ref kline, .ref kwritten, .int klineMany, .int khasWritten, .ref knode, .int knodes, .int konesMany, .int kwithin, .int ktop]))] sz)) (va_A [(o, .inr (12, [.int kthrown, .ref ktape, .int ktaped, .int ksize, .int klimit, .int kto, .int kfrom, .int kkind, .int knumber, .int ksign, .int kfault, .int kplace, .long kword, .int ktold, .ref know, .ref kread, .ref kkept, .ref ksnaps, .ref kaside, .ref kname, .ref kreadName, .ref kkeptName, .ref kisKept, .ref konces, .int ksnapMany, .int khasCells, .ref kpoured, .ref kfar, .ref ksides, .int ksideMany, .int kwayDays, .int khasWay, .ref klines, .ref kmet, .int kmetMany, .ref ksunk, .ref ktrying, .int ksunkMany, .int ksending, .int kfleets, .ref ktext, .int ktexts, .int sd, .ref kline, .ref kwritten, .int klineMany, .int khasWritten, .ref knode, .int knodes, .int konesMany, .int kwithin, .int ktop]))] sz)) 0 0 (va_A [(o, .inr (12, [.int kthrown, .ref ktape, .int ktaped, .int ksize, .int klimit, .int kto, .int kfrom, .int kkind, .int knumber, .int ksign, .int kfault, .int kplace, .long kword, .int ktold, .ref know, .ref kread, .ref kkept, .ref ksnaps, .ref kaside, .ref kname, .ref kreadName, .ref kkeptName, .ref kisKept, .ref konces, .int ksnapMany, .int khasCells, .ref kpoured, .ref kfar, .ref ksides, .int ksideMany, .int kwayDays, .int khasWay, .ref klines, .ref kmet, .int kmetMany, .ref ksunk, .ref ktrying, .int ksunkMany, .int ksending, .int kfleets, .ref ktext, .int ktexts, .int sd, .ref kline, .ref kwritten, .int klineMany, .int khasWritten, .ref knode, .int knodes, .int konesMany, .int kwithin, .int ktop]))] sz) := by
  refine Met.ofW (cc := cX12_draw) (maxL := 2) (ret := (some .int)) (by decide) rfl ?_
  intro p e s m args below meth c s₁ B hml hv
  obtain ⟨rfl, hsz, hP, hK, hD0⟩ := hv
  have hx := B.exec
  have hb := B.bytes
  have hr := B.returns
  have hts := atoms_spec (ws := wsX12_draw) B.pre
  have hown : s.vm.findClass RX12 = some m.cls := findClass_of_methodNamed B.named
  have hlocks := B.notSynchronized
  have hin12 : ∀ w ∈ u_ws RX12 TX12 52, w ∈ wsX12_draw := by decide +kernel
  subst hsz
  have hD := hD0.self (sz := s.heap.size)
  generalize hAe : va_A [(o, .inr (12, [.int kthrown, .ref ktape, .int ktaped, .int ksize, .int klimit, .int kto, .int kfrom, .int kkind, .int knumber, .int ksign, .int kfault, .int kplace, .long kword, .int ktold, .ref know, .ref kread, .ref kkept, .ref ksnaps, .ref kaside, .ref kname, .ref kreadName, .ref kkeptName, .ref kisKept, .ref konces, .int ksnapMany, .int khasCells, .ref kpoured, .ref kfar, .ref ksides, .int ksideMany, .int kwayDays, .int khasWay, .ref klines, .ref kmet, .int kmetMany, .ref ksunk, .ref ktrying, .int ksunkMany, .int ksending, .int kfleets, .ref ktext, .int ktexts, .int sd, .ref kline, .ref kwritten, .int klineMany, .int khasWritten, .ref knode, .int knodes, .int konesMany, .int kwithin, .int ktop]))] s.heap.size = A at hD ⊢
  have hA : ∀ q : Nat, s.heap.size ≤ q → A q := fun q h => by rw [← hAe]; exact Or.inr h
  have hS : va_S A s.heap s.heap [] := va_S.rf
  have hP : va_P (dC, dI) vwCl [(o, .inr (12, [.int kthrown, .ref ktape, .int ktaped, .int ksize, .int klimit, .int kto, .int kfrom, .int kkind, .int knumber, .int ksign, .int kfault, .int kplace, .long kword, .int ktold, .ref know, .ref kread, .ref kkept, .ref ksnaps, .ref kaside, .ref kname, .ref kreadName, .ref kkeptName, .ref kisKept, .ref konces, .int ksnapMany, .int khasCells, .ref kpoured, .ref kfar, .ref ksides, .int ksideMany, .int kwayDays, .int khasWay, .ref klines, .ref kmet, .int kmetMany, .ref ksunk, .ref ktrying, .int ksunkMany, .int ksending, .int kfleets, .ref ktext, .int ktexts, .int sd, .ref kline, .ref kwritten, .int klineMany, .int khasWritten, .ref knode, .int knodes, .int konesMany, .int kwithin, .int ktop]))] s.heap := hP
  have hl := lv_entry ([.ref o, .int (nI 2)]) (n := 2) (Nat.le_of_ble_eq_true rfl)
  rw [lg_entry_eq]
  generalize (lg_sl ([.ref o, .int (nI 2)]) ++ List.replicate (2 - (lg_sl ([.ref o, .int (nI 2)])).length) Slot.unset).toArray = ls at hl ⊢
  have hl : lv_has ls 2 [(0, .ref o), (1, .int (nI 2))] := hl
  have hH0 : True := trivial
  refine lv_aload_n hx hb dX12_draw_0 rfl (lv_at hl 0 rfl) ?_
  refine lv_aload_n hx hb dX12_draw_1 rfl (lv_at hl 0 rfl) ?_
  refine va_get (D := (dC, dI)) (ci := 12) (v := .int sd) (C := RX12) (T := TX12) (N := 52) hx hb hts hin12 hown hK hP 0 rfl rfl 42 (by decide) (hts (.fieldLink RX12 376 "PorridgeSeaModel" "seed" "I") (List.mem_of_getElem? (i := 1) rfl)) (fun _ h9 => h9) rfl dX12_draw_2 ?_
  refine lv_ldcw (v := nI 1103515245) hx hb hown (hts (.constant RX12 379 (nI 1103515245)) (List.mem_of_getElem? (i := 2) rfl)) dX12_draw_5 ?_
  refine lv_imul hx hb dX12_draw_8 ?_
  refine lv_topi (fun y1 e2 => ?_)
  refine lv_sipush (v := nI 12345) hx hb dX12_draw_9 (by decide) ?_
  refine lv_iadd hx hb dX12_draw_12 ?_
  refine lv_topi (fun y3 e4 => ?_)
  refine va_put (D := (dC, dI)) (ci := 12) (v := .int y3) (ty := .int) (C := RX12) (T := TX12) (N := 52) hx hb hts hin12 tyX12 tyX12_ok nmX12 hown hK hP hD hS 0 rfl rfl 42 (by decide) (hts (.fieldLink RX12 376 "PorridgeSeaModel" "seed" "I") (List.mem_of_getElem? (i := 1) rfl)) (fun _ h9 => h9) rfl (by decide +kernel) rfl rfl (Nat.le_of_ble_eq_true rfl) dX12_draw_13 (fun H locs hP hD hS => ?_)
  have hP : va_P (dC, dI) vwCl [(o, .inr (12, [.int kthrown, .ref ktape, .int ktaped, .int ksize, .int klimit, .int kto, .int kfrom, .int kkind, .int knumber, .int ksign, .int kfault, .int kplace, .long kword, .int ktold, .ref know, .ref kread, .ref kkept, .ref ksnaps, .ref kaside, .ref kname, .ref kreadName, .ref kkeptName, .ref kisKept, .ref konces, .int ksnapMany, .int khasCells, .ref kpoured, .ref kfar, .ref ksides, .int ksideMany, .int kwayDays, .int khasWay, .ref klines, .ref kmet, .int kmetMany, .ref ksunk, .ref ktrying, .int ksunkMany, .int ksending, .int kfleets, .ref ktext, .int ktexts, .int y3, .ref kline, .ref kwritten, .int klineMany, .int khasWritten, .ref knode, .int knodes, .int konesMany, .int kwithin, .int ktop]))] H := hP
  have hD : va_D A [(o, .inr (12, [.int kthrown, .ref ktape, .int ktaped, .int ksize, .int klimit, .int kto, .int kfrom, .int kkind, .int knumber, .int ksign, .int kfault, .int kplace, .long kword, .int ktold, .ref know, .ref kread, .ref kkept, .ref ksnaps, .ref kaside, .ref kname, .ref kreadName, .ref kkeptName, .ref kisKept, .ref konces, .int ksnapMany, .int khasCells, .ref kpoured, .ref kfar, .ref ksides, .int ksideMany, .int kwayDays, .int khasWay, .ref klines, .ref kmet, .int kmetMany, .ref ksunk, .ref ktrying, .int ksunkMany, .int ksending, .int kfleets, .ref ktext, .int ktexts, .int y3, .ref kline, .ref kwritten, .int klineMany, .int khasWritten, .ref knode, .int knodes, .int konesMany, .int kwithin, .int ktop]))] := hD
  refine lv_aload_n hx hb dX12_draw_16 rfl (lv_at hl 0 rfl) ?_
  refine va_get (D := (dC, dI)) (ci := 12) (v := .int y3) (C := RX12) (T := TX12) (N := 52) hx hb hts hin12 hown hK hP 0 rfl rfl 42 (by decide) (hts (.fieldLink RX12 376 "PorridgeSeaModel" "seed" "I") (List.mem_of_getElem? (i := 1) rfl)) (fun _ h9 => h9) rfl dX12_draw_17 ?_
  refine lv_bipush (v := nI 8) hx hb dX12_draw_20 (by decide) ?_
  refine lv_iushr hx hb dX12_draw_22 rfl ?_
  obtain ⟨m5, h6, e7⟩ := ush8 y3
  refine r_ti (nI m5) e7 ?_
  refine lv_iload_n hx hb dX12_draw_23 rfl (lv_at hl 1 rfl) ?_
  refine lv_irem hx hb dX12_draw_24 (by decide) ?_
  refine r_ti (nI (m5 % 2)) (pk_rem (by omega) (by omega) (by omega)) ?_
  have hP9 := hP.sub (ws' := [(o, .inr (12, [.int kthrown, .ref ktape, .int ktaped, .int ksize, .int klimit, .int kto, .int kfrom, .int kkind, .int knumber, .int ksign, .int kfault, .int kplace, .long kword, .int ktold, .ref know, .ref kread, .ref kkept, .ref ksnaps, .ref kaside, .ref kname, .ref kreadName, .ref kkeptName, .ref kisKept, .ref konces, .int ksnapMany, .int khasCells, .ref kpoured, .ref kfar, .ref ksides, .int ksideMany, .int kwayDays, .int khasWay, .ref klines, .ref kmet, .int kmetMany, .ref ksunk, .ref ktrying, .int ksunkMany, .int ksending, .int kfleets, .ref ktext, .int ktexts, .int y3, .ref kline, .ref kwritten, .int klineMany, .int khasWritten, .ref knode, .int knodes, .int konesMany, .int kwithin, .int ktop]))]) [0] rfl
  have hD9 := hD.sub (ws' := [(o, .inr (12, [.int kthrown, .ref ktape, .int ktaped, .int ksize, .int klimit, .int kto, .int kfrom, .int kkind, .int knumber, .int ksign, .int kfault, .int kplace, .long kword, .int ktold, .ref know, .ref kread, .ref kkept, .ref ksnaps, .ref kaside, .ref kname, .ref kreadName, .ref kkeptName, .ref kisKept, .ref konces, .int ksnapMany, .int khasCells, .ref kpoured, .ref kfar, .ref ksides, .int ksideMany, .int kwayDays, .int khasWay, .ref klines, .ref kmet, .int kmetMany, .ref ksunk, .ref ktrying, .int ksunkMany, .int ksending, .int kfleets, .ref ktext, .int ktexts, .int y3, .ref kline, .ref kwritten, .int klineMany, .int khasWritten, .ref knode, .int knodes, .int konesMany, .int kwithin, .int ktop]))]) [0] (by decide) rfl
  refine W.widen (k := 0) (n := 0) (Nat.le_of_ble_eq_true rfl) (Nat.le_of_ble_eq_true rfl) ?_
  exact W.iret (v := nI (m5 % 2)) hx hb hr (fun t ht9 hW9 => ⟨⟨nI (m5 % 2), y3, rfl, ⟨(m5 % 2), by omega, rfl⟩, by rw [ht9]; exact hP9, va_K.moved hW9.alike hK, hD9⟩, hS.F ht9⟩) hS.2.2 dX12_draw_25
set_option maxHeartbeats 4000000 in
set_option maxRecDepth 100000 in
theorem c_m_draw3 (l : Launch) (dC : Nat → ClassId) (dI : Nat → Nat → Nat) (ky : Nat → ClassId) (sz : Nat) (o : Nat) (sd : Int32) (kthrown : Int32) (ktape : Nat) (ktaped : Int32) (ksize : Int32) (klimit : Int32) (kto : Int32) (kfrom : Int32) (kkind : Int32) (knumber : Int32) (ksign : Int32) (kfault : Int32) (kplace : Int32) (kword : Int64) (ktold : Int32) (know : Nat) (kread : Nat) (kkept : Nat) (ksnaps : Nat) (kaside : Nat) (kname : Nat) (kreadName : Nat) (kkeptName : Nat) (kisKept : Nat) (konces : Nat) (ksnapMany : Int32) (khasCells : Int32) (kpoured : Nat) (kfar : Nat) (ksides : Nat) (ksideMany : Int32) (kwayDays : Int32) (khasWay : Int32) (klines : Nat) (kmet : Nat) (kmetMany : Int32) (ksunk : Nat) (ktrying : Nat) (ksunkMany : Int32) (ksending : Int32) (kfleets : Int32) (ktext : Nat) (ktexts : Int32) (kline : Nat) (kwritten : Nat) (klineMany : Int32) (khasWritten : Int32) (knode : Nat) (knodes : Int32) (konesMany : Int32) (kwithin : Int32) (ktop : Int32)  : Met l yX12_draw wsX12_draw ({ frames := 0, cells := 0, slots := 0, locals := 0 }) (PcU dC dI ky [.ref o, .int (nI 3)] [(o, .inr (12, [.int kthrown, .ref ktape, .int ktaped, .int ksize, .int klimit, .int kto, .int kfrom, .int kkind, .int knumber, .int ksign, .int kfault, .int kplace, .long kword, .int ktold, .ref know, .ref kread, .ref kkept, .ref ksnaps, .ref kaside, .ref kname, .ref kreadName, .ref kkeptName, .ref kisKept, .ref konces, .int ksnapMany, .int khasCells, .ref kpoured, .ref kfar, .ref ksides, .int ksideMany, .int kwayDays, .int khasWay, .ref klines, .ref kmet, .int kmetMany, .ref ksunk, .ref ktrying, .int ksunkMany, .int ksending, .int kfleets, .ref ktext, .int ktexts, .int sd, .ref kline, .ref kwritten, .int klineMany, .int khasWritten, .ref knode, .int knodes, .int konesMany, .int kwithin, .int ktop]))] sz) (va_Qi (fun (r : Int32) (sdG : Int32) => ∃ k9 : Nat, k9 < 3 ∧ r = nI k9) (BU dC dI ky (fun (sdG : Int32) => [(o, .inr (12, [.int kthrown, .ref ktape, .int ktaped, .int ksize, .int klimit, .int kto, .int kfrom, .int kkind, .int knumber, .int ksign, .int kfault, .int kplace, .long kword, .int ktold, .ref know, .ref kread, .ref kkept, .ref ksnaps, .ref kaside, .ref kname, .ref kreadName, .ref kkeptName, .ref kisKept, .ref konces, .int ksnapMany, .int khasCells, .ref kpoured, .ref kfar, .ref ksides, .int ksideMany, .int kwayDays, .int khasWay, .ref klines, .ref kmet, .int kmetMany, .ref ksunk, .ref ktrying, .int ksunkMany, .int ksending, .int kfleets, .ref ktext, .int ktexts, .int sdG, .ref kline, .ref kwritten, .int klineMany, .int khasWritten, .ref knode, .int knodes, .int konesMany, .int kwithin, .int ktop]))]) (va_A [(o, .inr (12, [.int kthrown, .ref ktape, .int ktaped, .int ksize, .int klimit, .int kto, .int kfrom, .int kkind, .int knumber, .int ksign, .int kfault, .int kplace, .long kword, .int ktold, .ref know, .ref kread, .ref kkept, .ref ksnaps, .ref kaside, .ref kname, .ref kreadName, .ref kkeptName, .ref kisKept, .ref konces, .int ksnapMany, .int khasCells, .ref kpoured, .ref kfar, .ref ksides, .int ksideMany, .int kwayDays, .int khasWay, .ref klines, .ref kmet, .int kmetMany, .ref ksunk, .ref ktrying, .int ksunkMany, .int ksending, .int kfleets, .ref ktext, .int ktexts, .int sd, .ref kline, .ref kwritten, .int klineMany, .int khasWritten, .ref knode, .int knodes, .int konesMany, .int kwithin, .int ktop]))] sz)) (va_A [(o, .inr (12, [.int kthrown, .ref ktape, .int ktaped, .int ksize, .int klimit, .int kto, .int kfrom, .int kkind, .int knumber, .int ksign, .int kfault, .int kplace, .long kword, .int ktold, .ref know, .ref kread, .ref kkept, .ref ksnaps, .ref kaside, .ref kname, .ref kreadName, .ref kkeptName, .ref kisKept, .ref konces, .int ksnapMany, .int khasCells, .ref kpoured, .ref kfar, .ref ksides, .int ksideMany, .int kwayDays, .int khasWay, .ref klines, .ref kmet, .int kmetMany, .ref ksunk, .ref ktrying, .int ksunkMany, .int ksending, .int kfleets, .ref ktext, .int ktexts, .int sd, .ref kline, .ref kwritten, .int klineMany, .int khasWritten, .ref knode, .int knodes, .int konesMany, .int kwithin, .int ktop]))] sz)) 0 0 (va_A [(o, .inr (12, [.int kthrown, .ref ktape, .int ktaped, .int ksize, .int klimit, .int kto, .int kfrom, .int kkind, .int knumber, .int ksign, .int kfault, .int kplace, .long kword, .int ktold, .ref know, .ref kread, .ref kkept, .ref ksnaps, .ref kaside, .ref kname, .ref kreadName, .ref kkeptName, .ref kisKept, .ref konces, .int ksnapMany, .int khasCells, .ref kpoured, .ref kfar, .ref ksides, .int ksideMany, .int kwayDays, .int khasWay, .ref klines, .ref kmet, .int kmetMany, .ref ksunk, .ref ktrying, .int ksunkMany, .int ksending, .int kfleets, .ref ktext, .int ktexts, .int sd, .ref kline, .ref kwritten, .int klineMany, .int khasWritten, .ref knode, .int knodes, .int konesMany, .int kwithin, .int ktop]))] sz) := by
  refine Met.ofW (cc := cX12_draw) (maxL := 2) (ret := (some .int)) (by decide) rfl ?_
  intro p e s m args below meth c s₁ B hml hv
  obtain ⟨rfl, hsz, hP, hK, hD0⟩ := hv
  have hx := B.exec
  have hb := B.bytes
  have hr := B.returns
  have hts := atoms_spec (ws := wsX12_draw) B.pre
  have hown : s.vm.findClass RX12 = some m.cls := findClass_of_methodNamed B.named
  have hlocks := B.notSynchronized
  have hin12 : ∀ w ∈ u_ws RX12 TX12 52, w ∈ wsX12_draw := by decide +kernel
  subst hsz
  have hD := hD0.self (sz := s.heap.size)
  generalize hAe : va_A [(o, .inr (12, [.int kthrown, .ref ktape, .int ktaped, .int ksize, .int klimit, .int kto, .int kfrom, .int kkind, .int knumber, .int ksign, .int kfault, .int kplace, .long kword, .int ktold, .ref know, .ref kread, .ref kkept, .ref ksnaps, .ref kaside, .ref kname, .ref kreadName, .ref kkeptName, .ref kisKept, .ref konces, .int ksnapMany, .int khasCells, .ref kpoured, .ref kfar, .ref ksides, .int ksideMany, .int kwayDays, .int khasWay, .ref klines, .ref kmet, .int kmetMany, .ref ksunk, .ref ktrying, .int ksunkMany, .int ksending, .int kfleets, .ref ktext, .int ktexts, .int sd, .ref kline, .ref kwritten, .int klineMany, .int khasWritten, .ref knode, .int knodes, .int konesMany, .int kwithin, .int ktop]))] s.heap.size = A at hD ⊢
  have hA : ∀ q : Nat, s.heap.size ≤ q → A q := fun q h => by rw [← hAe]; exact Or.inr h
  have hS : va_S A s.heap s.heap [] := va_S.rf
  have hP : va_P (dC, dI) vwCl [(o, .inr (12, [.int kthrown, .ref ktape, .int ktaped, .int ksize, .int klimit, .int kto, .int kfrom, .int kkind, .int knumber, .int ksign, .int kfault, .int kplace, .long kword, .int ktold, .ref know, .ref kread, .ref kkept, .ref ksnaps, .ref kaside, .ref kname, .ref kreadName, .ref kkeptName, .ref kisKept, .ref konces, .int ksnapMany, .int khasCells, .ref kpoured, .ref kfar, .ref ksides, .int ksideMany, .int kwayDays, .int khasWay, .ref klines, .ref kmet, .int kmetMany, .ref ksunk, .ref ktrying, .int ksunkMany, .int ksending, .int kfleets, .ref ktext, .int ktexts, .int sd, .ref kline, .ref kwritten, .int klineMany, .int khasWritten, .ref knode, .int knodes, .int konesMany, .int kwithin, .int ktop]))] s.heap := hP
  have hl := lv_entry ([.ref o, .int (nI 3)]) (n := 2) (Nat.le_of_ble_eq_true rfl)
  rw [lg_entry_eq]
  generalize (lg_sl ([.ref o, .int (nI 3)]) ++ List.replicate (2 - (lg_sl ([.ref o, .int (nI 3)])).length) Slot.unset).toArray = ls at hl ⊢
  have hl : lv_has ls 2 [(0, .ref o), (1, .int (nI 3))] := hl
  have hH0 : True := trivial
  refine lv_aload_n hx hb dX12_draw_0 rfl (lv_at hl 0 rfl) ?_
  refine lv_aload_n hx hb dX12_draw_1 rfl (lv_at hl 0 rfl) ?_
  refine va_get (D := (dC, dI)) (ci := 12) (v := .int sd) (C := RX12) (T := TX12) (N := 52) hx hb hts hin12 hown hK hP 0 rfl rfl 42 (by decide) (hts (.fieldLink RX12 376 "PorridgeSeaModel" "seed" "I") (List.mem_of_getElem? (i := 1) rfl)) (fun _ h9 => h9) rfl dX12_draw_2 ?_
  refine lv_ldcw (v := nI 1103515245) hx hb hown (hts (.constant RX12 379 (nI 1103515245)) (List.mem_of_getElem? (i := 2) rfl)) dX12_draw_5 ?_
  refine lv_imul hx hb dX12_draw_8 ?_
  refine lv_topi (fun y1 e2 => ?_)
  refine lv_sipush (v := nI 12345) hx hb dX12_draw_9 (by decide) ?_
  refine lv_iadd hx hb dX12_draw_12 ?_
  refine lv_topi (fun y3 e4 => ?_)
  refine va_put (D := (dC, dI)) (ci := 12) (v := .int y3) (ty := .int) (C := RX12) (T := TX12) (N := 52) hx hb hts hin12 tyX12 tyX12_ok nmX12 hown hK hP hD hS 0 rfl rfl 42 (by decide) (hts (.fieldLink RX12 376 "PorridgeSeaModel" "seed" "I") (List.mem_of_getElem? (i := 1) rfl)) (fun _ h9 => h9) rfl (by decide +kernel) rfl rfl (Nat.le_of_ble_eq_true rfl) dX12_draw_13 (fun H locs hP hD hS => ?_)
  have hP : va_P (dC, dI) vwCl [(o, .inr (12, [.int kthrown, .ref ktape, .int ktaped, .int ksize, .int klimit, .int kto, .int kfrom, .int kkind, .int knumber, .int ksign, .int kfault, .int kplace, .long kword, .int ktold, .ref know, .ref kread, .ref kkept, .ref ksnaps, .ref kaside, .ref kname, .ref kreadName, .ref kkeptName, .ref kisKept, .ref konces, .int ksnapMany, .int khasCells, .ref kpoured, .ref kfar, .ref ksides, .int ksideMany, .int kwayDays, .int khasWay, .ref klines, .ref kmet, .int kmetMany, .ref ksunk, .ref ktrying, .int ksunkMany, .int ksending, .int kfleets, .ref ktext, .int ktexts, .int y3, .ref kline, .ref kwritten, .int klineMany, .int khasWritten, .ref knode, .int knodes, .int konesMany, .int kwithin, .int ktop]))] H := hP
  have hD : va_D A [(o, .inr (12, [.int kthrown, .ref ktape, .int ktaped, .int ksize, .int klimit, .int kto, .int kfrom, .int kkind, .int knumber, .int ksign, .int kfault, .int kplace, .long kword, .int ktold, .ref know, .ref kread, .ref kkept, .ref ksnaps, .ref kaside, .ref kname, .ref kreadName, .ref kkeptName, .ref kisKept, .ref konces, .int ksnapMany, .int khasCells, .ref kpoured, .ref kfar, .ref ksides, .int ksideMany, .int kwayDays, .int khasWay, .ref klines, .ref kmet, .int kmetMany, .ref ksunk, .ref ktrying, .int ksunkMany, .int ksending, .int kfleets, .ref ktext, .int ktexts, .int y3, .ref kline, .ref kwritten, .int klineMany, .int khasWritten, .ref knode, .int knodes, .int konesMany, .int kwithin, .int ktop]))] := hD
  refine lv_aload_n hx hb dX12_draw_16 rfl (lv_at hl 0 rfl) ?_
  refine va_get (D := (dC, dI)) (ci := 12) (v := .int y3) (C := RX12) (T := TX12) (N := 52) hx hb hts hin12 hown hK hP 0 rfl rfl 42 (by decide) (hts (.fieldLink RX12 376 "PorridgeSeaModel" "seed" "I") (List.mem_of_getElem? (i := 1) rfl)) (fun _ h9 => h9) rfl dX12_draw_17 ?_
  refine lv_bipush (v := nI 8) hx hb dX12_draw_20 (by decide) ?_
  refine lv_iushr hx hb dX12_draw_22 rfl ?_
  obtain ⟨m5, h6, e7⟩ := ush8 y3
  refine r_ti (nI m5) e7 ?_
  refine lv_iload_n hx hb dX12_draw_23 rfl (lv_at hl 1 rfl) ?_
  refine lv_irem hx hb dX12_draw_24 (by decide) ?_
  refine r_ti (nI (m5 % 3)) (pk_rem (by omega) (by omega) (by omega)) ?_
  have hP9 := hP.sub (ws' := [(o, .inr (12, [.int kthrown, .ref ktape, .int ktaped, .int ksize, .int klimit, .int kto, .int kfrom, .int kkind, .int knumber, .int ksign, .int kfault, .int kplace, .long kword, .int ktold, .ref know, .ref kread, .ref kkept, .ref ksnaps, .ref kaside, .ref kname, .ref kreadName, .ref kkeptName, .ref kisKept, .ref konces, .int ksnapMany, .int khasCells, .ref kpoured, .ref kfar, .ref ksides, .int ksideMany, .int kwayDays, .int khasWay, .ref klines, .ref kmet, .int kmetMany, .ref ksunk, .ref ktrying, .int ksunkMany, .int ksending, .int kfleets, .ref ktext, .int ktexts, .int y3, .ref kline, .ref kwritten, .int klineMany, .int khasWritten, .ref knode, .int knodes, .int konesMany, .int kwithin, .int ktop]))]) [0] rfl
  have hD9 := hD.sub (ws' := [(o, .inr (12, [.int kthrown, .ref ktape, .int ktaped, .int ksize, .int klimit, .int kto, .int kfrom, .int kkind, .int knumber, .int ksign, .int kfault, .int kplace, .long kword, .int ktold, .ref know, .ref kread, .ref kkept, .ref ksnaps, .ref kaside, .ref kname, .ref kreadName, .ref kkeptName, .ref kisKept, .ref konces, .int ksnapMany, .int khasCells, .ref kpoured, .ref kfar, .ref ksides, .int ksideMany, .int kwayDays, .int khasWay, .ref klines, .ref kmet, .int kmetMany, .ref ksunk, .ref ktrying, .int ksunkMany, .int ksending, .int kfleets, .ref ktext, .int ktexts, .int y3, .ref kline, .ref kwritten, .int klineMany, .int khasWritten, .ref knode, .int knodes, .int konesMany, .int kwithin, .int ktop]))]) [0] (by decide) rfl
  refine W.widen (k := 0) (n := 0) (Nat.le_of_ble_eq_true rfl) (Nat.le_of_ble_eq_true rfl) ?_
  exact W.iret (v := nI (m5 % 3)) hx hb hr (fun t ht9 hW9 => ⟨⟨nI (m5 % 3), y3, rfl, ⟨(m5 % 3), by omega, rfl⟩, by rw [ht9]; exact hP9, va_K.moved hW9.alike hK, hD9⟩, hS.F ht9⟩) hS.2.2 dX12_draw_25
set_option maxHeartbeats 4000000 in
set_option maxRecDepth 100000 in
theorem c_m_draw4 (l : Launch) (dC : Nat → ClassId) (dI : Nat → Nat → Nat) (ky : Nat → ClassId) (sz : Nat) (o : Nat) (sd : Int32) (kthrown : Int32) (ktape : Nat) (ktaped : Int32) (ksize : Int32) (klimit : Int32) (kto : Int32) (kfrom : Int32) (kkind : Int32) (knumber : Int32) (ksign : Int32) (kfault : Int32) (kplace : Int32) (kword : Int64) (ktold : Int32) (know : Nat) (kread : Nat) (kkept : Nat) (ksnaps : Nat) (kaside : Nat) (kname : Nat) (kreadName : Nat) (kkeptName : Nat) (kisKept : Nat) (konces : Nat) (ksnapMany : Int32) (khasCells : Int32) (kpoured : Nat) (kfar : Nat) (ksides : Nat) (ksideMany : Int32) (kwayDays : Int32) (khasWay : Int32) (klines : Nat) (kmet : Nat) (kmetMany : Int32) (ksunk : Nat) (ktrying : Nat) (ksunkMany : Int32) (ksending : Int32) (kfleets : Int32) (ktext : Nat) (ktexts : Int32) (kline : Nat) (kwritten : Nat) (klineMany : Int32) (khasWritten : Int32) (knode : Nat) (knodes : Int32) (konesMany : Int32) (kwithin : Int32) (ktop : Int32)  : Met l yX12_draw wsX12_draw ({ frames := 0, cells := 0, slots := 0, locals := 0 }) (PcU dC dI ky [.ref o, .int (nI 4)] [(o, .inr (12, [.int kthrown, .ref ktape, .int ktaped, .int ksize, .int klimit, .int kto, .int kfrom, .int kkind, .int knumber, .int ksign, .int kfault, .int kplace, .long kword, .int ktold, .ref know, .ref kread, .ref kkept, .ref ksnaps, .ref kaside, .ref kname, .ref kreadName, .ref kkeptName, .ref kisKept, .ref konces, .int ksnapMany, .int khasCells, .ref kpoured, .ref kfar, .ref ksides, .int ksideMany, .int kwayDays, .int khasWay, .ref klines, .ref kmet, .int kmetMany, .ref ksunk, .ref ktrying, .int ksunkMany, .int ksending, .int kfleets, .ref ktext, .int ktexts, .int sd, .ref kline, .ref kwritten, .int klineMany, .int khasWritten, .ref knode, .int knodes, .int konesMany, .int kwithin, .int ktop]))] sz) (va_Qi (fun (r : Int32) (sdG : Int32) => ∃ k9 : Nat, k9 < 4 ∧ r = nI k9) (BU dC dI ky (fun (sdG : Int32) => [(o, .inr (12, [.int kthrown, .ref ktape, .int ktaped, .int ksize, .int klimit, .int kto, .int kfrom, .int kkind, .int knumber, .int ksign, .int kfault, .int kplace, .long kword, .int ktold, .ref know, .ref kread, .ref kkept, .ref ksnaps, .ref kaside, .ref kname, .ref kreadName, .ref kkeptName, .ref kisKept, .ref konces, .int ksnapMany, .int khasCells, .ref kpoured, .ref kfar, .ref ksides, .int ksideMany, .int kwayDays, .int khasWay, .ref klines, .ref kmet, .int kmetMany, .ref ksunk, .ref ktrying, .int ksunkMany, .int ksending, .int kfleets, .ref ktext, .int ktexts, .int sdG, .ref kline, .ref kwritten, .int klineMany, .int khasWritten, .ref knode, .int knodes, .int konesMany, .int kwithin, .int ktop]))]) (va_A [(o, .inr (12, [.int kthrown, .ref ktape, .int ktaped, .int ksize, .int klimit, .int kto, .int kfrom, .int kkind, .int knumber, .int ksign, .int kfault, .int kplace, .long kword, .int ktold, .ref know, .ref kread, .ref kkept, .ref ksnaps, .ref kaside, .ref kname, .ref kreadName, .ref kkeptName, .ref kisKept, .ref konces, .int ksnapMany, .int khasCells, .ref kpoured, .ref kfar, .ref ksides, .int ksideMany, .int kwayDays, .int khasWay, .ref klines, .ref kmet, .int kmetMany, .ref ksunk, .ref ktrying, .int ksunkMany, .int ksending, .int kfleets, .ref ktext, .int ktexts, .int sd, .ref kline, .ref kwritten, .int klineMany, .int khasWritten, .ref knode, .int knodes, .int konesMany, .int kwithin, .int ktop]))] sz)) (va_A [(o, .inr (12, [.int kthrown, .ref ktape, .int ktaped, .int ksize, .int klimit, .int kto, .int kfrom, .int kkind, .int knumber, .int ksign, .int kfault, .int kplace, .long kword, .int ktold, .ref know, .ref kread, .ref kkept, .ref ksnaps, .ref kaside, .ref kname, .ref kreadName, .ref kkeptName, .ref kisKept, .ref konces, .int ksnapMany, .int khasCells, .ref kpoured, .ref kfar, .ref ksides, .int ksideMany, .int kwayDays, .int khasWay, .ref klines, .ref kmet, .int kmetMany, .ref ksunk, .ref ktrying, .int ksunkMany, .int ksending, .int kfleets, .ref ktext, .int ktexts, .int sd, .ref kline, .ref kwritten, .int klineMany, .int khasWritten, .ref knode, .int knodes, .int konesMany, .int kwithin, .int ktop]))] sz)) 0 0 (va_A [(o, .inr (12, [.int kthrown, .ref ktape, .int ktaped, .int ksize, .int klimit, .int kto, .int kfrom, .int kkind, .int knumber, .int ksign, .int kfault, .int kplace, .long kword, .int ktold, .ref know, .ref kread, .ref kkept, .ref ksnaps, .ref kaside, .ref kname, .ref kreadName, .ref kkeptName, .ref kisKept, .ref konces, .int ksnapMany, .int khasCells, .ref kpoured, .ref kfar, .ref ksides, .int ksideMany, .int kwayDays, .int khasWay, .ref klines, .ref kmet, .int kmetMany, .ref ksunk, .ref ktrying, .int ksunkMany, .int ksending, .int kfleets, .ref ktext, .int ktexts, .int sd, .ref kline, .ref kwritten, .int klineMany, .int khasWritten, .ref knode, .int knodes, .int konesMany, .int kwithin, .int ktop]))] sz) := by
  refine Met.ofW (cc := cX12_draw) (maxL := 2) (ret := (some .int)) (by decide) rfl ?_
  intro p e s m args below meth c s₁ B hml hv
  obtain ⟨rfl, hsz, hP, hK, hD0⟩ := hv
  have hx := B.exec
  have hb := B.bytes
  have hr := B.returns
  have hts := atoms_spec (ws := wsX12_draw) B.pre
  have hown : s.vm.findClass RX12 = some m.cls := findClass_of_methodNamed B.named
  have hlocks := B.notSynchronized
  have hin12 : ∀ w ∈ u_ws RX12 TX12 52, w ∈ wsX12_draw := by decide +kernel
  subst hsz
  have hD := hD0.self (sz := s.heap.size)
  generalize hAe : va_A [(o, .inr (12, [.int kthrown, .ref ktape, .int ktaped, .int ksize, .int klimit, .int kto, .int kfrom, .int kkind, .int knumber, .int ksign, .int kfault, .int kplace, .long kword, .int ktold, .ref know, .ref kread, .ref kkept, .ref ksnaps, .ref kaside, .ref kname, .ref kreadName, .ref kkeptName, .ref kisKept, .ref konces, .int ksnapMany, .int khasCells, .ref kpoured, .ref kfar, .ref ksides, .int ksideMany, .int kwayDays, .int khasWay, .ref klines, .ref kmet, .int kmetMany, .ref ksunk, .ref ktrying, .int ksunkMany, .int ksending, .int kfleets, .ref ktext, .int ktexts, .int sd, .ref kline, .ref kwritten, .int klineMany, .int khasWritten, .ref knode, .int knodes, .int konesMany, .int kwithin, .int ktop]))] s.heap.size = A at hD ⊢
  have hA : ∀ q : Nat, s.heap.size ≤ q → A q := fun q h => by rw [← hAe]; exact Or.inr h
  have hS : va_S A s.heap s.heap [] := va_S.rf
  have hP : va_P (dC, dI) vwCl [(o, .inr (12, [.int kthrown, .ref ktape, .int ktaped, .int ksize, .int klimit, .int kto, .int kfrom, .int kkind, .int knumber, .int ksign, .int kfault, .int kplace, .long kword, .int ktold, .ref know, .ref kread, .ref kkept, .ref ksnaps, .ref kaside, .ref kname, .ref kreadName, .ref kkeptName, .ref kisKept, .ref konces, .int ksnapMany, .int khasCells, .ref kpoured, .ref kfar, .ref ksides, .int ksideMany, .int kwayDays, .int khasWay, .ref klines, .ref kmet, .int kmetMany, .ref ksunk, .ref ktrying, .int ksunkMany, .int ksending, .int kfleets, .ref ktext, .int ktexts, .int sd, .ref kline, .ref kwritten, .int klineMany, .int khasWritten, .ref knode, .int knodes, .int konesMany, .int kwithin, .int ktop]))] s.heap := hP
  have hl := lv_entry ([.ref o, .int (nI 4)]) (n := 2) (Nat.le_of_ble_eq_true rfl)
  rw [lg_entry_eq]
  generalize (lg_sl ([.ref o, .int (nI 4)]) ++ List.replicate (2 - (lg_sl ([.ref o, .int (nI 4)])).length) Slot.unset).toArray = ls at hl ⊢
  have hl : lv_has ls 2 [(0, .ref o), (1, .int (nI 4))] := hl
  have hH0 : True := trivial
  refine lv_aload_n hx hb dX12_draw_0 rfl (lv_at hl 0 rfl) ?_
  refine lv_aload_n hx hb dX12_draw_1 rfl (lv_at hl 0 rfl) ?_
  refine va_get (D := (dC, dI)) (ci := 12) (v := .int sd) (C := RX12) (T := TX12) (N := 52) hx hb hts hin12 hown hK hP 0 rfl rfl 42 (by decide) (hts (.fieldLink RX12 376 "PorridgeSeaModel" "seed" "I") (List.mem_of_getElem? (i := 1) rfl)) (fun _ h9 => h9) rfl dX12_draw_2 ?_
  refine lv_ldcw (v := nI 1103515245) hx hb hown (hts (.constant RX12 379 (nI 1103515245)) (List.mem_of_getElem? (i := 2) rfl)) dX12_draw_5 ?_
  refine lv_imul hx hb dX12_draw_8 ?_
  refine lv_topi (fun y1 e2 => ?_)
  refine lv_sipush (v := nI 12345) hx hb dX12_draw_9 (by decide) ?_
  refine lv_iadd hx hb dX12_draw_12 ?_
  refine lv_topi (fun y3 e4 => ?_)
  refine va_put (D := (dC, dI)) (ci := 12) (v := .int y3) (ty := .int) (C := RX12) (T := TX12) (N := 52) hx hb hts hin12 tyX12 tyX12_ok nmX12 hown hK hP hD hS 0 rfl rfl 42 (by decide) (hts (.fieldLink RX12 376 "PorridgeSeaModel" "seed" "I") (List.mem_of_getElem? (i := 1) rfl)) (fun _ h9 => h9) rfl (by decide +kernel) rfl rfl (Nat.le_of_ble_eq_true rfl) dX12_draw_13 (fun H locs hP hD hS => ?_)
  have hP : va_P (dC, dI) vwCl [(o, .inr (12, [.int kthrown, .ref ktape, .int ktaped, .int ksize, .int klimit, .int kto, .int kfrom, .int kkind, .int knumber, .int ksign, .int kfault, .int kplace, .long kword, .int ktold, .ref know, .ref kread, .ref kkept, .ref ksnaps, .ref kaside, .ref kname, .ref kreadName, .ref kkeptName, .ref kisKept, .ref konces, .int ksnapMany, .int khasCells, .ref kpoured, .ref kfar, .ref ksides, .int ksideMany, .int kwayDays, .int khasWay, .ref klines, .ref kmet, .int kmetMany, .ref ksunk, .ref ktrying, .int ksunkMany, .int ksending, .int kfleets, .ref ktext, .int ktexts, .int y3, .ref kline, .ref kwritten, .int klineMany, .int khasWritten, .ref knode, .int knodes, .int konesMany, .int kwithin, .int ktop]))] H := hP
  have hD : va_D A [(o, .inr (12, [.int kthrown, .ref ktape, .int ktaped, .int ksize, .int klimit, .int kto, .int kfrom, .int kkind, .int knumber, .int ksign, .int kfault, .int kplace, .long kword, .int ktold, .ref know, .ref kread, .ref kkept, .ref ksnaps, .ref kaside, .ref kname, .ref kreadName, .ref kkeptName, .ref kisKept, .ref konces, .int ksnapMany, .int khasCells, .ref kpoured, .ref kfar, .ref ksides, .int ksideMany, .int kwayDays, .int khasWay, .ref klines, .ref kmet, .int kmetMany, .ref ksunk, .ref ktrying, .int ksunkMany, .int ksending, .int kfleets, .ref ktext, .int ktexts, .int y3, .ref kline, .ref kwritten, .int klineMany, .int khasWritten, .ref knode, .int knodes, .int konesMany, .int kwithin, .int ktop]))] := hD
  refine lv_aload_n hx hb dX12_draw_16 rfl (lv_at hl 0 rfl) ?_
  refine va_get (D := (dC, dI)) (ci := 12) (v := .int y3) (C := RX12) (T := TX12) (N := 52) hx hb hts hin12 hown hK hP 0 rfl rfl 42 (by decide) (hts (.fieldLink RX12 376 "PorridgeSeaModel" "seed" "I") (List.mem_of_getElem? (i := 1) rfl)) (fun _ h9 => h9) rfl dX12_draw_17 ?_
  refine lv_bipush (v := nI 8) hx hb dX12_draw_20 (by decide) ?_
  refine lv_iushr hx hb dX12_draw_22 rfl ?_
  obtain ⟨m5, h6, e7⟩ := ush8 y3
  refine r_ti (nI m5) e7 ?_
  refine lv_iload_n hx hb dX12_draw_23 rfl (lv_at hl 1 rfl) ?_
  refine lv_irem hx hb dX12_draw_24 (by decide) ?_
  refine r_ti (nI (m5 % 4)) (pk_rem (by omega) (by omega) (by omega)) ?_
  have hP9 := hP.sub (ws' := [(o, .inr (12, [.int kthrown, .ref ktape, .int ktaped, .int ksize, .int klimit, .int kto, .int kfrom, .int kkind, .int knumber, .int ksign, .int kfault, .int kplace, .long kword, .int ktold, .ref know, .ref kread, .ref kkept, .ref ksnaps, .ref kaside, .ref kname, .ref kreadName, .ref kkeptName, .ref kisKept, .ref konces, .int ksnapMany, .int khasCells, .ref kpoured, .ref kfar, .ref ksides, .int ksideMany, .int kwayDays, .int khasWay, .ref klines, .ref kmet, .int kmetMany, .ref ksunk, .ref ktrying, .int ksunkMany, .int ksending, .int kfleets, .ref ktext, .int ktexts, .int y3, .ref kline, .ref kwritten, .int klineMany, .int khasWritten, .ref knode, .int knodes, .int konesMany, .int kwithin, .int ktop]))]) [0] rfl
  have hD9 := hD.sub (ws' := [(o, .inr (12, [.int kthrown, .ref ktape, .int ktaped, .int ksize, .int klimit, .int kto, .int kfrom, .int kkind, .int knumber, .int ksign, .int kfault, .int kplace, .long kword, .int ktold, .ref know, .ref kread, .ref kkept, .ref ksnaps, .ref kaside, .ref kname, .ref kreadName, .ref kkeptName, .ref kisKept, .ref konces, .int ksnapMany, .int khasCells, .ref kpoured, .ref kfar, .ref ksides, .int ksideMany, .int kwayDays, .int khasWay, .ref klines, .ref kmet, .int kmetMany, .ref ksunk, .ref ktrying, .int ksunkMany, .int ksending, .int kfleets, .ref ktext, .int ktexts, .int y3, .ref kline, .ref kwritten, .int klineMany, .int khasWritten, .ref knode, .int knodes, .int konesMany, .int kwithin, .int ktop]))]) [0] (by decide) rfl
  refine W.widen (k := 0) (n := 0) (Nat.le_of_ble_eq_true rfl) (Nat.le_of_ble_eq_true rfl) ?_
  exact W.iret (v := nI (m5 % 4)) hx hb hr (fun t ht9 hW9 => ⟨⟨nI (m5 % 4), y3, rfl, ⟨(m5 % 4), by omega, rfl⟩, by rw [ht9]; exact hP9, va_K.moved hW9.alike hK, hD9⟩, hS.F ht9⟩) hS.2.2 dX12_draw_25
set_option maxRecDepth 20000 in
theorem lf_m_drawsLine_1 (o : Nat) (sd : Int32) (kthrown : Int32) (ktape : Nat) (ktaped : Int32) (ksize : Int32) (klimit : Int32) (kto : Int32) (kfrom : Int32) (kkind : Int32) (knumber : Int32) (ksign : Int32) (kfault : Int32) (kplace : Int32) (kword : Int64) (ktold : Int32) (know : Nat) (kread : Nat) (kkept : Nat) (ksnaps : Nat) (kaside : Nat) (kname : Nat) (kreadName : Nat) (kkeptName : Nat) (kisKept : Nat) (konces : Nat) (ksnapMany : Int32) (khasCells : Int32) (kpoured : Nat) (kfar : Nat) (ksides : Nat) (ksideMany : Int32) (kwayDays : Int32) (khasWay : Int32) (klines : Nat) (kmet : Nat) (kmetMany : Int32) (ksunk : Nat) (ktrying : Nat) (ksunkMany : Int32) (ksending : Int32) (kfleets : Int32) (ktext : Nat) (ktexts : Int32) (kline : Nat) (kwritten : Nat) (klineMany : Int32) (khasWritten : Int32) (knode : Nat) (knodes : Int32) (konesMany : Int32) (kwithin : Int32) (ktop : Int32) (knowF : Nat → Int32) (kpouredF : Nat → Int32) (sdG_4 : Int32) (k6 : Nat) (sdG_12 : Int32) (k14 : Nat) (sdG_20 : Int32) (k22 : Nat) (sdG_27 : Int32) (k29 : Nat) (hB : NowB knowF) (h7 : k6 < 3) (c8 : k6 = 0) (h15 : k14 < 2) (c16 : k14 ≠ 1) (h23 : k22 < 4) (h30 : k29 < 2) : NowOk knowF := by
  simp only [ia_lt, ia_le, ia_eq, ia_m1, ia_0, ia_1, ne_eq, true_and, and_true, false_and, and_false, or_false, false_or, or_true, true_or, not_true_eq_false, not_false_eq_true] at *
  all_goals omega
set_option maxRecDepth 20000 in
theorem lf_m_drawsLine_2 (o : Nat) (sd : Int32) (kthrown : Int32) (ktape : Nat) (ktaped : Int32) (ksize : Int32) (klimit : Int32) (kto : Int32) (kfrom : Int32) (kkind : Int32) (knumber : Int32) (ksign : Int32) (kfault : Int32) (kplace : Int32) (kword : Int64) (ktold : Int32) (know : Nat) (kread : Nat) (kkept : Nat) (ksnaps : Nat) (kaside : Nat) (kname : Nat) (kreadName : Nat) (kkeptName : Nat) (kisKept : Nat) (konces : Nat) (ksnapMany : Int32) (khasCells : Int32) (kpoured : Nat) (kfar : Nat) (ksides : Nat) (ksideMany : Int32) (kwayDays : Int32) (khasWay : Int32) (klines : Nat) (kmet : Nat) (kmetMany : Int32) (ksunk : Nat) (ktrying : Nat) (ksunkMany : Int32) (ksending : Int32) (kfleets : Int32) (ktext : Nat) (ktexts : Int32) (kline : Nat) (kwritten : Nat) (klineMany : Int32) (khasWritten : Int32) (knode : Nat) (knodes : Int32) (konesMany : Int32) (kwithin : Int32) (ktop : Int32) (knowF : Nat → Int32) (kpouredF : Nat → Int32) (sdG_4 : Int32) (k6 : Nat) (sdG_12 : Int32) (k14 : Nat) (sdG_20 : Int32) (k22 : Nat) (sdG_27 : Int32) (k29 : Nat) (k36 : Nat) (knowG_40 : Nat → Int32) (kpouredG_41 : Nat → Int32) (hB : NowB knowF) (h7 : k6 < 3) (c8 : k6 = 0) (h15 : k14 < 2) (c16 : k14 ≠ 1) (h23 : k22 < 4) (h30 : k29 < 2) (h37 : k36 < 24) (p42 : NowB knowG_40) : NowB knowG_40 := by
  assumption
set_option maxRecDepth 20000 in
theorem lf_m_drawsLine_3 (o : Nat) (sd : Int32) (kthrown : Int32) (ktape : Nat) (ktaped : Int32) (ksize : Int32) (klimit : Int32) (kto : Int32) (kfrom : Int32) (kkind : Int32) (knumber : Int32) (ksign : Int32) (kfault : Int32) (kplace : Int32) (kword : Int64) (ktold : Int32) (know : Nat) (kread : Nat) (kkept : Nat) (ksnaps : Nat) (kaside : Nat) (kname : Nat) (kreadName : Nat) (kkeptName : Nat) (kisKept : Nat) (konces : Nat) (ksnapMany : Int32) (khasCells : Int32) (kpoured : Nat) (kfar : Nat) (ksides : Nat) (ksideMany : Int32) (kwayDays : Int32) (khasWay : Int32) (klines : Nat) (kmet : Nat) (kmetMany : Int32) (ksunk : Nat) (ktrying : Nat) (ksunkMany : Int32) (ksending : Int32) (kfleets : Int32) (ktext : Nat) (ktexts : Int32) (kline : Nat) (kwritten : Nat) (klineMany : Int32) (khasWritten : Int32) (knode : Nat) (knodes : Int32) (konesMany : Int32) (kwithin : Int32) (ktop : Int32) (knowF : Nat → Int32) (kpouredF : Nat → Int32) (sdG_4 : Int32) (k6 : Nat) (sdG_12 : Int32) (k14 : Nat) (sdG_46 : Int32) (k48 : Nat) (sdG_53 : Int32) (k55 : Nat) (hB : NowB knowF) (h7 : k6 < 3) (c8 : k6 = 0) (h15 : k14 < 2) (c16 : k14 = 1) (h49 : k48 < 4) (h56 : k55 < 2) : NowOk knowF := by
  simp only [ia_lt, ia_le, ia_eq, ia_m1, ia_0, ia_1, ne_eq, true_and, and_true, false_and, and_false, or_false, false_or, or_true, true_or, not_true_eq_false, not_false_eq_true] at *
  all_goals omega
set_option maxRecDepth 20000 in
theorem lf_m_drawsLine_4 (o : Nat) (sd : Int32) (kthrown : Int32) (ktape : Nat) (ktaped : Int32) (ksize : Int32) (klimit : Int32) (kto : Int32) (kfrom : Int32) (kkind : Int32) (knumber : Int32) (ksign : Int32) (kfault : Int32) (kplace : Int32) (kword : Int64) (ktold : Int32) (know : Nat) (kread : Nat) (kkept : Nat) (ksnaps : Nat) (kaside : Nat) (kname : Nat) (kreadName : Nat) (kkeptName : Nat) (kisKept : Nat) (konces : Nat) (ksnapMany : Int32) (khasCells : Int32) (kpoured : Nat) (kfar : Nat) (ksides : Nat) (ksideMany : Int32) (kwayDays : Int32) (khasWay : Int32) (klines : Nat) (kmet : Nat) (kmetMany : Int32) (ksunk : Nat) (ktrying : Nat) (ksunkMany : Int32) (ksending : Int32) (kfleets : Int32) (ktext : Nat) (ktexts : Int32) (kline : Nat) (kwritten : Nat) (klineMany : Int32) (khasWritten : Int32) (knode : Nat) (knodes : Int32) (konesMany : Int32) (kwithin : Int32) (ktop : Int32) (knowF : Nat → Int32) (kpouredF : Nat → Int32) (sdG_4 : Int32) (k6 : Nat) (sdG_12 : Int32) (k14 : Nat) (sdG_46 : Int32) (k48 : Nat) (sdG_53 : Int32) (k55 : Nat) (k62 : Nat) (knowG_66 : Nat → Int32) (kpouredG_67 : Nat → Int32) (hB : NowB knowF) (h7 : k6 < 3) (c8 : k6 = 0) (h15 : k14 < 2) (c16 : k14 = 1) (h49 : k48 < 4) (h56 : k55 < 2) (h63 : k62 < 24) (p68 : NowB knowG_66) : NowB knowG_66 := by
  assumption
set_option maxRecDepth 20000 in
theorem lf_m_drawsLine_5 (o : Nat) (sd : Int32) (kthrown : Int32) (ktape : Nat) (ktaped : Int32) (ksize : Int32) (klimit : Int32) (kto : Int32) (kfrom : Int32) (kkind : Int32) (knumber : Int32) (ksign : Int32) (kfault : Int32) (kplace : Int32) (kword : Int64) (ktold : Int32) (know : Nat) (kread : Nat) (kkept : Nat) (ksnaps : Nat) (kaside : Nat) (kname : Nat) (kreadName : Nat) (kkeptName : Nat) (kisKept : Nat) (konces : Nat) (ksnapMany : Int32) (khasCells : Int32) (kpoured : Nat) (kfar : Nat) (ksides : Nat) (ksideMany : Int32) (kwayDays : Int32) (khasWay : Int32) (klines : Nat) (kmet : Nat) (kmetMany : Int32) (ksunk : Nat) (ktrying : Nat) (ksunkMany : Int32) (ksending : Int32) (kfleets : Int32) (ktext : Nat) (ktexts : Int32) (kline : Nat) (kwritten : Nat) (klineMany : Int32) (khasWritten : Int32) (knode : Nat) (knodes : Int32) (konesMany : Int32) (kwithin : Int32) (ktop : Int32) (knowF : Nat → Int32) (kpouredF : Nat → Int32) (sdG_4 : Int32) (k6 : Nat) (hB : NowB knowF) (h7 : k6 < 3) (c8 : 0 < k6) : NowB knowF := by
  assumption
set_option maxHeartbeats 4000000 in
set_option maxRecDepth 100000 in
theorem c_m_drawsLine (l : Launch) (dC : Nat → ClassId) (dI : Nat → Nat → Nat) (ky : Nat → ClassId) (sz : Nat) (o : Nat) (sd : Int32) (kthrown : Int32) (ktape : Nat) (ktaped : Int32) (ksize : Int32) (klimit : Int32) (kto : Int32) (kfrom : Int32) (kkind : Int32) (knumber : Int32) (ksign : Int32) (kfault : Int32) (kplace : Int32) (kword : Int64) (ktold : Int32) (know : Nat) (kread : Nat) (kkept : Nat) (ksnaps : Nat) (kaside : Nat) (kname : Nat) (kreadName : Nat) (kkeptName : Nat) (kisKept : Nat) (konces : Nat) (ksnapMany : Int32) (khasCells : Int32) (kpoured : Nat) (kfar : Nat) (ksides : Nat) (ksideMany : Int32) (kwayDays : Int32) (khasWay : Int32) (klines : Nat) (kmet : Nat) (kmetMany : Int32) (ksunk : Nat) (ktrying : Nat) (ksunkMany : Int32) (ksending : Int32) (kfleets : Int32) (ktext : Nat) (ktexts : Int32) (kline : Nat) (kwritten : Nat) (klineMany : Int32) (khasWritten : Int32) (knode : Nat) (knodes : Int32) (konesMany : Int32) (kwithin : Int32) (ktop : Int32) (knowF : Nat → Int32) (kpouredF : Nat → Int32) (hB : NowB knowF) : Met l yX12_drawsLine wsX12_drawsLine ({ frames := 2, cells := 0, slots := 0, locals := 49 }) (PcU dC dI ky [.ref o] [(o, .inr (12, [.int kthrown, .ref ktape, .int ktaped, .int ksize, .int klimit, .int kto, .int kfrom, .int kkind, .int knumber, .int ksign, .int kfault, .int kplace, .long kword, .int ktold, .ref know, .ref kread, .ref kkept, .ref ksnaps, .ref kaside, .ref kname, .ref kreadName, .ref kkeptName, .ref kisKept, .ref konces, .int ksnapMany, .int khasCells, .ref kpoured, .ref kfar, .ref ksides, .int ksideMany, .int kwayDays, .int khasWay, .ref klines, .ref kmet, .int kmetMany, .ref ksunk, .ref ktrying, .int ksunkMany, .int ksending, .int kfleets, .ref ktext, .int ktexts, .int sd, .ref kline, .ref kwritten, .int klineMany, .int khasWritten, .ref knode, .int knodes, .int konesMany, .int kwithin, .int ktop])), (know, .inl (ky 0, 373, .inl knowF)), (kpoured, .inl (ky 0, 36, .inl kpouredF))] sz) (va_Qv (fun (u : Int32 × (Nat → Int32) × (Nat → Int32)) => match u with | (sdG, knowG, kpouredG) => NowB knowG) (BU dC dI ky (fun (u : Int32 × (Nat → Int32) × (Nat → Int32)) => match u with | (sdG, knowG, kpouredG) => [(o, .inr (12, [.int kthrown, .ref ktape, .int ktaped, .int ksize, .int klimit, .int kto, .int kfrom, .int kkind, .int knumber, .int ksign, .int kfault, .int kplace, .long kword, .int ktold, .ref know, .ref kread, .ref kkept, .ref ksnaps, .ref kaside, .ref kname, .ref kreadName, .ref kkeptName, .ref kisKept, .ref konces, .int ksnapMany, .int khasCells, .ref kpoured, .ref kfar, .ref ksides, .int ksideMany, .int kwayDays, .int khasWay, .ref klines, .ref kmet, .int kmetMany, .ref ksunk, .ref ktrying, .int ksunkMany, .int ksending, .int kfleets, .ref ktext, .int ktexts, .int sdG, .ref kline, .ref kwritten, .int klineMany, .int khasWritten, .ref knode, .int knodes, .int konesMany, .int kwithin, .int ktop])), (know, .inl (ky 0, 373, .inl knowG)), (kpoured, .inl (ky 0, 36, .inl kpouredG))]) (va_A [(o, .inr (12, [.int kthrown, .ref ktape, .int ktaped, .int ksize, .int klimit, .int kto, .int kfrom, .int kkind, .int knumber, .int ksign, .int kfault, .int kplace, .long kword, .int ktold, .ref know, .ref kread, .ref kkept, .ref ksnaps, .ref kaside, .ref kname, .ref kreadName, .ref kkeptName, .ref kisKept, .ref konces, .int ksnapMany, .int khasCells, .ref kpoured, .ref kfar, .ref ksides, .int ksideMany, .int kwayDays, .int khasWay, .ref klines, .ref kmet, .int kmetMany, .ref ksunk, .ref ktrying, .int ksunkMany, .int ksending, .int kfleets, .ref ktext, .int ktexts, .int sd, .ref kline, .ref kwritten, .int klineMany, .int khasWritten, .ref knode, .int knodes, .int konesMany, .int kwithin, .int ktop])), (know, .inl (ky 0, 373, .inl knowF)), (kpoured, .inl (ky 0, 36, .inl kpouredF))] sz)) (va_A [(o, .inr (12, [.int kthrown, .ref ktape, .int ktaped, .int ksize, .int klimit, .int kto, .int kfrom, .int kkind, .int knumber, .int ksign, .int kfault, .int kplace, .long kword, .int ktold, .ref know, .ref kread, .ref kkept, .ref ksnaps, .ref kaside, .ref kname, .ref kreadName, .ref kkeptName, .ref kisKept, .ref konces, .int ksnapMany, .int khasCells, .ref kpoured, .ref kfar, .ref ksides, .int ksideMany, .int kwayDays, .int khasWay, .ref klines, .ref kmet, .int kmetMany, .ref ksunk, .ref ktrying, .int ksunkMany, .int ksending, .int kfleets, .ref ktext, .int ktexts, .int sd, .ref kline, .ref kwritten, .int klineMany, .int khasWritten, .ref knode, .int knodes, .int konesMany, .int kwithin, .int ktop])), (know, .inl (ky 0, 373, .inl knowF)), (kpoured, .inl (ky 0, 36, .inl kpouredF))] sz)) 0 0 (va_A [(o, .inr (12, [.int kthrown, .ref ktape, .int ktaped, .int ksize, .int klimit, .int kto, .int kfrom, .int kkind, .int knumber, .int ksign, .int kfault, .int kplace, .long kword, .int ktold, .ref know, .ref kread, .ref kkept, .ref ksnaps, .ref kaside, .ref kname, .ref kreadName, .ref kkeptName, .ref kisKept, .ref konces, .int ksnapMany, .int khasCells, .ref kpoured, .ref kfar, .ref ksides, .int ksideMany, .int kwayDays, .int khasWay, .ref klines, .ref kmet, .int kmetMany, .ref ksunk, .ref ktrying, .int ksunkMany, .int ksending, .int kfleets, .ref ktext, .int ktexts, .int sd, .ref kline, .ref kwritten, .int klineMany, .int khasWritten, .ref knode, .int knodes, .int konesMany, .int kwithin, .int ktop])), (know, .inl (ky 0, 373, .inl knowF)), (kpoured, .inl (ky 0, 36, .inl kpouredF))] sz) := by
  refine Met.ofW (cc := cX12_drawsLine) (maxL := 4) (ret := none) (by decide) rfl ?_
  intro p e s m args below meth c s₁ B hml hv
  obtain ⟨rfl, hsz, hP, hK, hD0⟩ := hv
  have hx := B.exec
  have hb := B.bytes
  have hr := B.returns
  have hts := atoms_spec (ws := wsX12_drawsLine) B.pre
  have hown : s.vm.findClass RX12 = some m.cls := findClass_of_methodNamed B.named
  have hlocks := B.notSynchronized
  have hin12 : ∀ w ∈ u_ws RX12 TX12 52, w ∈ wsX12_drawsLine := by decide +kernel
  subst hsz
  have hD := hD0.self (sz := s.heap.size)
  generalize hAe : va_A [(o, .inr (12, [.int kthrown, .ref ktape, .int ktaped, .int ksize, .int klimit, .int kto, .int kfrom, .int kkind, .int knumber, .int ksign, .int kfault, .int kplace, .long kword, .int ktold, .ref know, .ref kread, .ref kkept, .ref ksnaps, .ref kaside, .ref kname, .ref kreadName, .ref kkeptName, .ref kisKept, .ref konces, .int ksnapMany, .int khasCells, .ref kpoured, .ref kfar, .ref ksides, .int ksideMany, .int kwayDays, .int khasWay, .ref klines, .ref kmet, .int kmetMany, .ref ksunk, .ref ktrying, .int ksunkMany, .int ksending, .int kfleets, .ref ktext, .int ktexts, .int sd, .ref kline, .ref kwritten, .int klineMany, .int khasWritten, .ref knode, .int knodes, .int konesMany, .int kwithin, .int ktop])), (know, .inl (ky 0, 373, .inl knowF)), (kpoured, .inl (ky 0, 36, .inl kpouredF))] s.heap.size = A at hD ⊢
  have hA : ∀ q : Nat, s.heap.size ≤ q → A q := fun q h => by rw [← hAe]; exact Or.inr h
  have hS : va_S A s.heap s.heap [] := va_S.rf
  have hP : va_P (dC, dI) vwCl [(o, .inr (12, [.int kthrown, .ref ktape, .int ktaped, .int ksize, .int klimit, .int kto, .int kfrom, .int kkind, .int knumber, .int ksign, .int kfault, .int kplace, .long kword, .int ktold, .ref know, .ref kread, .ref kkept, .ref ksnaps, .ref kaside, .ref kname, .ref kreadName, .ref kkeptName, .ref kisKept, .ref konces, .int ksnapMany, .int khasCells, .ref kpoured, .ref kfar, .ref ksides, .int ksideMany, .int kwayDays, .int khasWay, .ref klines, .ref kmet, .int kmetMany, .ref ksunk, .ref ktrying, .int ksunkMany, .int ksending, .int kfleets, .ref ktext, .int ktexts, .int sd, .ref kline, .ref kwritten, .int klineMany, .int khasWritten, .ref knode, .int knodes, .int konesMany, .int kwithin, .int ktop])), (know, .inl (ky 0, 373, .inl knowF)), (kpoured, .inl (ky 0, 36, .inl kpouredF))] s.heap := hP
  have hl := lv_entry ([.ref o]) (n := 4) (Nat.le_of_ble_eq_true rfl)
  rw [lg_entry_eq]
  generalize (lg_sl ([.ref o]) ++ List.replicate (4 - (lg_sl ([.ref o])).length) Slot.unset).toArray = ls at hl ⊢
  have hl : lv_has ls 4 [(0, .ref o)] := hl
  have hH0 : True := trivial
  refine lv_aload_n hx hb dX12_drawsLine_0 rfl (lv_at hl 0 rfl) ?_
  refine lv_iconst (v := nI 3) hx hb dX12_drawsLine_1 (by decide) ?_
  refine r_call_i (wr := [(know, .inl (ky 0, 373, .inl knowF)), (kpoured, .inl (ky 0, 36, .inl kpouredF))]) (va_runV (As := [.int (nI 3)]) (rest := []) ⟨hx, hb, hml, hown, hts⟩ (c_m_draw3 l dC dI ky s.heap.size o sd kthrown ktape ktaped ksize klimit kto kfrom kkind knumber ksign kfault kplace kword ktold know kread kkept ksnaps kaside kname kreadName kkeptName kisKept konces ksnapMany khasCells kpoured kfar ksides ksideMany kwayDays khasWay klines kmet kmetMany ksunk ktrying ksunkMany ksending kfleets ktext ktexts kline kwritten klineMany khasWritten knode knodes konesMany kwithin ktop) (cwV 1 hts gX12_drawsLine_X12_draw rfl rfl rfl (by decide +kernel) ⟨(Nat.le_of_ble_eq_true rfl), (Nat.le_of_ble_eq_true rfl)⟩) (pre_UV hK hP hD [0] (by decide) rfl (ci := 12) (q0 := 0) rfl rfl) rfl rfl hl.1 rfl (lv_room (Nat.le_of_ble_eq_true rfl)) dX12_drawsLine_2 ⟨(Nat.le_of_ble_eq_true rfl), (Nat.le_of_ble_eq_true rfl)⟩) hP hD hS hA [0] [1, 2] rfl rfl (by decide) (by decide) (fun r3 u1 H locs p2 hP hD hS => ?_)
  obtain ⟨sdG_4, rfl⟩ : ∃ z, z = u1 := ⟨_, rfl⟩
  try dsimp only at p2
  have p5 := p2
  refine W.widen (k := 0) (n := 0) (Nat.le_of_ble_eq_true rfl) (Nat.le_of_ble_eq_true rfl) ?_
  have hP : va_P (dC, dI) vwCl [(know, .inl (ky 0, 373, .inl knowF)), (kpoured, .inl (ky 0, 36, .inl kpouredF)), (o, .inr (12, [.int kthrown, .ref ktape, .int ktaped, .int ksize, .int klimit, .int kto, .int kfrom, .int kkind, .int knumber, .int ksign, .int kfault, .int kplace, .long kword, .int ktold, .ref know, .ref kread, .ref kkept, .ref ksnaps, .ref kaside, .ref kname, .ref kreadName, .ref kkeptName, .ref kisKept, .ref konces, .int ksnapMany, .int khasCells, .ref kpoured, .ref kfar, .ref ksides, .int ksideMany, .int kwayDays, .int khasWay, .ref klines, .ref kmet, .int kmetMany, .ref ksunk, .ref ktrying, .int ksunkMany, .int ksending, .int kfleets, .ref ktext, .int ktexts, .int sdG_4, .ref kline, .ref kwritten, .int klineMany, .int khasWritten, .ref knode, .int knodes, .int konesMany, .int kwithin, .int ktop]))] H := hP
  have hD : va_D A [(know, .inl (ky 0, 373, .inl knowF)), (kpoured, .inl (ky 0, 36, .inl kpouredF)), (o, .inr (12, [.int kthrown, .ref ktape, .int ktaped, .int ksize, .int klimit, .int kto, .int kfrom, .int kkind, .int knumber, .int ksign, .int kfault, .int kplace, .long kword, .int ktold, .ref know, .ref kread, .ref kkept, .ref ksnaps, .ref kaside, .ref kname, .ref kreadName, .ref kkeptName, .ref kisKept, .ref konces, .int ksnapMany, .int khasCells, .ref kpoured, .ref kfar, .ref ksides, .int ksideMany, .int kwayDays, .int khasWay, .ref klines, .ref kmet, .int kmetMany, .ref ksunk, .ref ktrying, .int ksunkMany, .int ksending, .int kfleets, .ref ktext, .int ktexts, .int sdG_4, .ref kline, .ref kwritten, .int klineMany, .int khasWritten, .ref knode, .int knodes, .int konesMany, .int kwithin, .int ktop]))] := hD
  obtain ⟨k6, h7, rfl⟩ := p5
  refine n_if_eq (x := k6) (tgt := 9) hx hb (by omega) dX12_drawsLine_5 (by decide) (fun c8 => ?_) (fun c8 => ?_)
  · refine lv_aload_n hx hb dX12_drawsLine_9 rfl (lv_at hl 0 rfl) ?_
    refine lv_iconst (v := nI 2) hx hb dX12_drawsLine_10 (by decide) ?_
    refine r_call_i (wr := [(know, .inl (ky 0, 373, .inl knowF)), (kpoured, .inl (ky 0, 36, .inl kpouredF))]) (va_runV (As := [.int (nI 2)]) (rest := []) ⟨hx, hb, hml, hown, hts⟩ (c_m_draw2 l dC dI ky H.size o sdG_4 kthrown ktape ktaped ksize klimit kto kfrom kkind knumber ksign kfault kplace kword ktold know kread kkept ksnaps kaside kname kreadName kkeptName kisKept konces ksnapMany khasCells kpoured kfar ksides ksideMany kwayDays khasWay klines kmet kmetMany ksunk ktrying ksunkMany ksending kfleets ktext ktexts kline kwritten klineMany khasWritten knode knodes konesMany kwithin ktop) (cwV 1 hts gX12_drawsLine_X12_draw rfl rfl rfl (by decide +kernel) ⟨(Nat.le_of_ble_eq_true rfl), (Nat.le_of_ble_eq_true rfl)⟩) (pre_UV hK hP hD [2] (by decide) rfl (ci := 12) (q0 := 2) rfl rfl) rfl rfl hl.1 rfl (lv_room (Nat.le_of_ble_eq_true rfl)) dX12_drawsLine_11 ⟨(Nat.le_of_ble_eq_true rfl), (Nat.le_of_ble_eq_true rfl)⟩) hP hD hS hA [2] [0, 1] rfl rfl (by decide) (by decide) (fun r11 u9 H locs p10 hP hD hS => ?_)
    obtain ⟨sdG_12, rfl⟩ : ∃ z, z = u9 := ⟨_, rfl⟩
    try dsimp only at p10
    have p13 := p10
    refine W.widen (k := 0) (n := 0) (Nat.le_of_ble_eq_true rfl) (Nat.le_of_ble_eq_true rfl) ?_
    have hP : va_P (dC, dI) vwCl [(know, .inl (ky 0, 373, .inl knowF)), (kpoured, .inl (ky 0, 36, .inl kpouredF)), (o, .inr (12, [.int kthrown, .ref ktape, .int ktaped, .int ksize, .int klimit, .int kto, .int kfrom, .int kkind, .int knumber, .int ksign, .int kfault, .int kplace, .long kword, .int ktold, .ref know, .ref kread, .ref kkept, .ref ksnaps, .ref kaside, .ref kname, .ref kreadName, .ref kkeptName, .ref kisKept, .ref konces, .int ksnapMany, .int khasCells, .ref kpoured, .ref kfar, .ref ksides, .int ksideMany, .int kwayDays, .int khasWay, .ref klines, .ref kmet, .int kmetMany, .ref ksunk, .ref ktrying, .int ksunkMany, .int ksending, .int kfleets, .ref ktext, .int ktexts, .int sdG_12, .ref kline, .ref kwritten, .int klineMany, .int khasWritten, .ref knode, .int knodes, .int konesMany, .int kwithin, .int ktop]))] H := hP
    have hD : va_D A [(know, .inl (ky 0, 373, .inl knowF)), (kpoured, .inl (ky 0, 36, .inl kpouredF)), (o, .inr (12, [.int kthrown, .ref ktape, .int ktaped, .int ksize, .int klimit, .int kto, .int kfrom, .int kkind, .int knumber, .int ksign, .int kfault, .int kplace, .long kword, .int ktold, .ref know, .ref kread, .ref kkept, .ref ksnaps, .ref kaside, .ref kname, .ref kreadName, .ref kkeptName, .ref kisKept, .ref konces, .int ksnapMany, .int khasCells, .ref kpoured, .ref kfar, .ref ksides, .int ksideMany, .int kwayDays, .int khasWay, .ref klines, .ref kmet, .int kmetMany, .ref ksunk, .ref ktrying, .int ksunkMany, .int ksending, .int kfleets, .ref ktext, .int ktexts, .int sdG_12, .ref kline, .ref kwritten, .int klineMany, .int khasWritten, .ref knode, .int knodes, .int konesMany, .int kwithin, .int ktop]))] := hD
    obtain ⟨k14, h15, rfl⟩ := p13
    refine lv_istore_n (lv' := [(1, .int (nI k14)), (0, .ref o)]) hx hb dX12_drawsLine_14 rfl hl (by decide) rfl (fun ls hl => ?_)
    refine lv_aload_n hx hb dX12_drawsLine_15 rfl (lv_at hl 1 rfl) ?_
    refine lv_aload_n hx hb dX12_drawsLine_16 rfl (lv_at hl 1 rfl) ?_
    refine va_get (D := (dC, dI)) (ci := 12) (v := .ref know) (C := RX12) (T := TX12) (N := 52) hx hb hts hin12 hown hK hP 2 rfl rfl 14 (by decide) (hts (.fieldLink RX12 98 "PorridgeSeaModel" "now" "[I") (List.mem_of_getElem? (i := 1) rfl)) (fun _ h9 => h9) rfl dX12_drawsLine_17 ?_
    refine lv_iload_n hx hb dX12_drawsLine_20 rfl (lv_at hl 0 rfl) ?_
    refine lv_iconst (v := nI 1) hx hb dX12_drawsLine_21 (by decide) ?_
    refine n_icmp_ne (x := k14) (y := 1) (tgt := 29) hx hb (by omega) (by omega) dX12_drawsLine_22 (by decide) (fun c16 => ?_) (fun c16 => ?_)
    · refine lv_iconst (v := nI 1) hx hb dX12_drawsLine_29 (by decide) ?_
      refine r_iald hx hb hK hP 0 rfl 1 (by decide) (by decide) (nI 4) hB.2.1 dX12_drawsLine_30 ?_
      refine r_call_i (wr := [(know, .inl (ky 0, 373, .inl knowF)), (kpoured, .inl (ky 0, 36, .inl kpouredF))]) (va_runV (As := [.int (nI 4)]) (rest := []) ⟨hx, hb, hml, hown, hts⟩ (c_m_draw4 l dC dI ky H.size o sdG_12 kthrown ktape ktaped ksize klimit kto kfrom kkind knumber ksign kfault kplace kword ktold know kread kkept ksnaps kaside kname kreadName kkeptName kisKept konces ksnapMany khasCells kpoured kfar ksides ksideMany kwayDays khasWay klines kmet kmetMany ksunk ktrying ksunkMany ksending kfleets ktext ktexts kline kwritten klineMany khasWritten knode knodes konesMany kwithin ktop) (cwV 1 hts gX12_drawsLine_X12_draw rfl rfl rfl (by decide +kernel) ⟨(Nat.le_of_ble_eq_true rfl), (Nat.le_of_ble_eq_true rfl)⟩) (pre_UV hK hP hD [2] (by decide) rfl (ci := 12) (q0 := 2) rfl rfl) rfl rfl hl.1 rfl (lv_room (Nat.le_of_ble_eq_true rfl)) dX12_drawsLine_31 ⟨(Nat.le_of_ble_eq_true rfl), (Nat.le_of_ble_eq_true rfl)⟩) hP hD hS hA [2] [0, 1] rfl rfl (by decide) (by decide) (fun r19 u17 H locs p18 hP hD hS => ?_)
      obtain ⟨sdG_20, rfl⟩ : ∃ z, z = u17 := ⟨_, rfl⟩
      try dsimp only at p18
      have p21 := p18
      refine W.widen (k := 0) (n := 0) (Nat.le_of_ble_eq_true rfl) (Nat.le_of_ble_eq_true rfl) ?_
      have hP : va_P (dC, dI) vwCl [(know, .inl (ky 0, 373, .inl knowF)), (kpoured, .inl (ky 0, 36, .inl kpouredF)), (o, .inr (12, [.int kthrown, .ref ktape, .int ktaped, .int ksize, .int klimit, .int kto, .int kfrom, .int kkind, .int knumber, .int ksign, .int kfault, .int kplace, .long kword, .int ktold, .ref know, .ref kread, .ref kkept, .ref ksnaps, .ref kaside, .ref kname, .ref kreadName, .ref kkeptName, .ref kisKept, .ref konces, .int ksnapMany, .int khasCells, .ref kpoured, .ref kfar, .ref ksides, .int ksideMany, .int kwayDays, .int khasWay, .ref klines, .ref kmet, .int kmetMany, .ref ksunk, .ref ktrying, .int ksunkMany, .int ksending, .int kfleets, .ref ktext, .int ktexts, .int sdG_20, .ref kline, .ref kwritten, .int klineMany, .int khasWritten, .ref knode, .int knodes, .int konesMany, .int kwithin, .int ktop]))] H := hP
      have hD : va_D A [(know, .inl (ky 0, 373, .inl knowF)), (kpoured, .inl (ky 0, 36, .inl kpouredF)), (o, .inr (12, [.int kthrown, .ref ktape, .int ktaped, .int ksize, .int klimit, .int kto, .int kfrom, .int kkind, .int knumber, .int ksign, .int kfault, .int kplace, .long kword, .int ktold, .ref know, .ref kread, .ref kkept, .ref ksnaps, .ref kaside, .ref kname, .ref kreadName, .ref kkeptName, .ref kisKept, .ref konces, .int ksnapMany, .int khasCells, .ref kpoured, .ref kfar, .ref ksides, .int ksideMany, .int kwayDays, .int khasWay, .ref klines, .ref kmet, .int kmetMany, .ref ksunk, .ref ktrying, .int ksunkMany, .int ksending, .int kfleets, .ref ktext, .int ktexts, .int sdG_20, .ref kline, .ref kwritten, .int klineMany, .int khasWritten, .ref knode, .int knodes, .int konesMany, .int kwithin, .int ktop]))] := hD
      obtain ⟨k22, h23, rfl⟩ := p21
      refine lv_istore_n (lv' := [(2, .int (nI k22)), (1, .int (nI k14)), (0, .ref o)]) hx hb dX12_drawsLine_34 rfl hl (by decide) rfl (fun ls hl => ?_)
      refine lv_aload_n hx hb dX12_drawsLine_35 rfl (lv_at hl 2 rfl) ?_
      refine lv_iconst (v := nI 2) hx hb dX12_drawsLine_36 (by decide) ?_
      refine r_call_i (wr := [(know, .inl (ky 0, 373, .inl knowF)), (kpoured, .inl (ky 0, 36, .inl kpouredF))]) (va_runV (As := [.int (nI 2)]) (rest := []) ⟨hx, hb, hml, hown, hts⟩ (c_m_draw2 l dC dI ky H.size o sdG_20 kthrown ktape ktaped ksize klimit kto kfrom kkind knumber ksign kfault kplace kword ktold know kread kkept ksnaps kaside kname kreadName kkeptName kisKept konces ksnapMany khasCells kpoured kfar ksides ksideMany kwayDays khasWay klines kmet kmetMany ksunk ktrying ksunkMany ksending kfleets ktext ktexts kline kwritten klineMany khasWritten knode knodes konesMany kwithin ktop) (cwV 1 hts gX12_drawsLine_X12_draw rfl rfl rfl (by decide +kernel) ⟨(Nat.le_of_ble_eq_true rfl), (Nat.le_of_ble_eq_true rfl)⟩) (pre_UV hK hP hD [2] (by decide) rfl (ci := 12) (q0 := 2) rfl rfl) rfl rfl hl.1 rfl (lv_room (Nat.le_of_ble_eq_true rfl)) dX12_drawsLine_37 ⟨(Nat.le_of_ble_eq_true rfl), (Nat.le_of_ble_eq_true rfl)⟩) hP hD hS hA [2] [0, 1] rfl rfl (by decide) (by decide) (fun r26 u24 H locs p25 hP hD hS => ?_)
      obtain ⟨sdG_27, rfl⟩ : ∃ z, z = u24 := ⟨_, rfl⟩
      try dsimp only at p25
      have p28 := p25
      refine W.widen (k := 0) (n := 0) (Nat.le_of_ble_eq_true rfl) (Nat.le_of_ble_eq_true rfl) ?_
      have hP : va_P (dC, dI) vwCl [(know, .inl (ky 0, 373, .inl knowF)), (kpoured, .inl (ky 0, 36, .inl kpouredF)), (o, .inr (12, [.int kthrown, .ref ktape, .int ktaped, .int ksize, .int klimit, .int kto, .int kfrom, .int kkind, .int knumber, .int ksign, .int kfault, .int kplace, .long kword, .int ktold, .ref know, .ref kread, .ref kkept, .ref ksnaps, .ref kaside, .ref kname, .ref kreadName, .ref kkeptName, .ref kisKept, .ref konces, .int ksnapMany, .int khasCells, .ref kpoured, .ref kfar, .ref ksides, .int ksideMany, .int kwayDays, .int khasWay, .ref klines, .ref kmet, .int kmetMany, .ref ksunk, .ref ktrying, .int ksunkMany, .int ksending, .int kfleets, .ref ktext, .int ktexts, .int sdG_27, .ref kline, .ref kwritten, .int klineMany, .int khasWritten, .ref knode, .int knodes, .int konesMany, .int kwithin, .int ktop]))] H := hP
      have hD : va_D A [(know, .inl (ky 0, 373, .inl knowF)), (kpoured, .inl (ky 0, 36, .inl kpouredF)), (o, .inr (12, [.int kthrown, .ref ktape, .int ktaped, .int ksize, .int klimit, .int kto, .int kfrom, .int kkind, .int knumber, .int ksign, .int kfault, .int kplace, .long kword, .int ktold, .ref know, .ref kread, .ref kkept, .ref ksnaps, .ref kaside, .ref kname, .ref kreadName, .ref kkeptName, .ref kisKept, .ref konces, .int ksnapMany, .int khasCells, .ref kpoured, .ref kfar, .ref ksides, .int ksideMany, .int kwayDays, .int khasWay, .ref klines, .ref kmet, .int kmetMany, .ref ksunk, .ref ktrying, .int ksunkMany, .int ksending, .int kfleets, .ref ktext, .int ktexts, .int sdG_27, .ref kline, .ref kwritten, .int klineMany, .int khasWritten, .ref knode, .int knodes, .int konesMany, .int kwithin, .int ktop]))] := hD
      obtain ⟨k29, h30, rfl⟩ := p28
      refine lv_istore_n (lv' := [(3, .int (nI k29)), (2, .int (nI k22)), (1, .int (nI k14)), (0, .ref o)]) hx hb dX12_drawsLine_40 rfl hl (by decide) rfl (fun ls hl => ?_)
      refine lv_aload_n hx hb dX12_drawsLine_41 rfl (lv_at hl 3 rfl) ?_
      refine vp_callSi (W.runV (As := []) (rest := []) ⟨hx, hb, hml, hown, hts⟩ (c_m_hasSkin0 l dC dI ky o kthrown ktape ktaped ksize klimit kto kfrom kkind knumber ksign kfault kplace kword ktold know kread kkept ksnaps kaside kname kreadName kkeptName kisKept konces ksnapMany khasCells kpoured kfar ksides ksideMany kwayDays khasWay klines kmet kmetMany ksunk ktrying ksunkMany ksending kfleets ktext ktexts sdG_27 kline kwritten klineMany khasWritten knode knodes konesMany kwithin ktop knowF (lf_m_drawsLine_1 o sd kthrown ktape ktaped ksize klimit kto kfrom kkind knumber ksign kfault kplace kword ktold know kread kkept ksnaps kaside kname kreadName kkeptName kisKept konces ksnapMany khasCells kpoured kfar ksides ksideMany kwayDays khasWay klines kmet kmetMany ksunk ktrying ksunkMany ksending kfleets ktext ktexts kline kwritten klineMany khasWritten knode knodes konesMany kwithin ktop knowF kpouredF sdG_4 k6 sdG_12 k14 sdG_20 k22 sdG_27 k29 hB h7 c8 h15 c16 h23 h30)) (cwV 0 hts gX12_drawsLine_X12_hasSkin rfl rfl rfl (by decide +kernel) ⟨(Nat.le_of_ble_eq_true rfl), (Nat.le_of_ble_eq_true rfl)⟩) (pre_PV hK hP [2, 0] rfl (ci := 12) (q0 := 2) rfl rfl) rfl rfl hl.1 rfl (lv_room (Nat.le_of_ble_eq_true rfl)) dX12_drawsLine_42 ⟨(Nat.le_of_ble_eq_true rfl), (Nat.le_of_ble_eq_true rfl)⟩) (fun r31 p32 => ?_)
      subst p32
      refine lv_if_ne (tgt := 58) hx hb dX12_drawsLine_45 (by decide) (fun c33 => absurd c33 (by decide)) (fun c33 => ?_)
      refine lv_aload_n hx hb dX12_drawsLine_48 rfl (lv_at hl 3 rfl) ?_
      refine lv_iload_n hx hb dX12_drawsLine_49 rfl (lv_at hl 2 rfl) ?_
      refine lv_iload_n hx hb dX12_drawsLine_50 rfl (lv_at hl 1 rfl) ?_
      refine lv_iload_n hx hb dX12_drawsLine_51 rfl (lv_at hl 0 rfl) ?_
      refine vp_callSi (W.runS (As := [.int (nI k14), .int (nI k22), .int (nI k29)]) (rest := [.ref o]) ⟨hx, hb, hml, hown, hts⟩ (c_m_lineOfN l dC dI ky k14 k22 k29 (by omega) (by omega) (by omega)) (va_cwS 3 hts gX12_drawsLine_X12_lineOf rfl rfl rfl (by decide +kernel) ⟨(Nat.le_of_ble_eq_true rfl), (Nat.le_of_ble_eq_true rfl)⟩) (pre_PS hK hP [] rfl) rfl rfl hl.1 rfl (lv_room (Nat.le_of_ble_eq_true rfl)) dX12_drawsLine_52 ⟨(Nat.le_of_ble_eq_true rfl), (Nat.le_of_ble_eq_true rfl)⟩) (fun r34 p35 => ?_)
      obtain ⟨k36, h37, rfl⟩ := p35
      refine r_call_v (wr := []) (va_runV (As := [.int (nI k36)]) (rest := []) ⟨hx, hb, hml, hown, hts⟩ (c_m_doStir l dC dI ky H.size o kthrown ktape ktaped ksize klimit kto kfrom kkind knumber ksign kfault kplace kword ktold know kread kkept ksnaps kaside kname kreadName kkeptName kisKept konces ksnapMany khasCells kpoured kfar ksides ksideMany kwayDays khasWay klines kmet kmetMany ksunk ktrying ksunkMany ksending kfleets ktext ktexts sdG_27 kline kwritten klineMany khasWritten knode knodes konesMany kwithin ktop knowF kpouredF k36 hB (by omega)) (cwV 1 hts gX12_drawsLine_X12_doStir rfl rfl rfl (by decide +kernel) ⟨(Nat.le_of_ble_eq_true rfl), (Nat.le_of_ble_eq_true rfl)⟩) (pre_UV hK hP hD [2, 0, 1] (by decide) rfl (ci := 12) (q0 := 2) rfl rfl) rfl rfl hl.1 rfl (lv_room (Nat.le_of_ble_eq_true rfl)) dX12_drawsLine_55 ⟨(Nat.le_of_ble_eq_true rfl), (Nat.le_of_ble_eq_true rfl)⟩) hP hD hS hA [2, 0, 1] [] rfl rfl (by decide) (by decide) (fun  u38 H locs p39 hP hD hS => ?_)
      obtain ⟨knowG_40, kpouredG_41⟩ := u38
      try dsimp only at p39
      have p42 := p39
      refine W.widen (k := 0) (n := 0) (Nat.le_of_ble_eq_true rfl) (Nat.le_of_ble_eq_true rfl) ?_
      have hP : va_P (dC, dI) vwCl [(o, .inr (12, [.int kthrown, .ref ktape, .int ktaped, .int ksize, .int klimit, .int kto, .int kfrom, .int kkind, .int knumber, .int ksign, .int kfault, .int kplace, .long kword, .int ktold, .ref know, .ref kread, .ref kkept, .ref ksnaps, .ref kaside, .ref kname, .ref kreadName, .ref kkeptName, .ref kisKept, .ref konces, .int ksnapMany, .int khasCells, .ref kpoured, .ref kfar, .ref ksides, .int ksideMany, .int kwayDays, .int khasWay, .ref klines, .ref kmet, .int kmetMany, .ref ksunk, .ref ktrying, .int ksunkMany, .int ksending, .int kfleets, .ref ktext, .int ktexts, .int sdG_27, .ref kline, .ref kwritten, .int klineMany, .int khasWritten, .ref knode, .int knodes, .int konesMany, .int kwithin, .int ktop])), (know, .inl (ky 0, 373, .inl knowG_40)), (kpoured, .inl (ky 0, 36, .inl kpouredG_41))] H := hP
      have hD : va_D A [(o, .inr (12, [.int kthrown, .ref ktape, .int ktaped, .int ksize, .int klimit, .int kto, .int kfrom, .int kkind, .int knumber, .int ksign, .int kfault, .int kplace, .long kword, .int ktold, .ref know, .ref kread, .ref kkept, .ref ksnaps, .ref kaside, .ref kname, .ref kreadName, .ref kkeptName, .ref kisKept, .ref konces, .int ksnapMany, .int khasCells, .ref kpoured, .ref kfar, .ref ksides, .int ksideMany, .int kwayDays, .int khasWay, .ref klines, .ref kmet, .int kmetMany, .ref ksunk, .ref ktrying, .int ksunkMany, .int ksending, .int kfleets, .ref ktext, .int ktexts, .int sdG_27, .ref kline, .ref kwritten, .int klineMany, .int khasWritten, .ref knode, .int knodes, .int konesMany, .int kwithin, .int ktop])), (know, .inl (ky 0, 373, .inl knowG_40)), (kpoured, .inl (ky 0, 36, .inl kpouredG_41))] := hD
      have hP9 := hP.sub (ws' := [(o, .inr (12, [.int kthrown, .ref ktape, .int ktaped, .int ksize, .int klimit, .int kto, .int kfrom, .int kkind, .int knumber, .int ksign, .int kfault, .int kplace, .long kword, .int ktold, .ref know, .ref kread, .ref kkept, .ref ksnaps, .ref kaside, .ref kname, .ref kreadName, .ref kkeptName, .ref kisKept, .ref konces, .int ksnapMany, .int khasCells, .ref kpoured, .ref kfar, .ref ksides, .int ksideMany, .int kwayDays, .int khasWay, .ref klines, .ref kmet, .int kmetMany, .ref ksunk, .ref ktrying, .int ksunkMany, .int ksending, .int kfleets, .ref ktext, .int ktexts, .int sdG_27, .ref kline, .ref kwritten, .int klineMany, .int khasWritten, .ref knode, .int knodes, .int konesMany, .int kwithin, .int ktop])), (know, .inl (ky 0, 373, .inl knowG_40)), (kpoured, .inl (ky 0, 36, .inl kpouredG_41))]) [0, 1, 2] rfl
      have hD9 := hD.sub (ws' := [(o, .inr (12, [.int kthrown, .ref ktape, .int ktaped, .int ksize, .int klimit, .int kto, .int kfrom, .int kkind, .int knumber, .int ksign, .int kfault, .int kplace, .long kword, .int ktold, .ref know, .ref kread, .ref kkept, .ref ksnaps, .ref kaside, .ref kname, .ref kreadName, .ref kkeptName, .ref kisKept, .ref konces, .int ksnapMany, .int khasCells, .ref kpoured, .ref kfar, .ref ksides, .int ksideMany, .int kwayDays, .int khasWay, .ref klines, .ref kmet, .int kmetMany, .ref ksunk, .ref ktrying, .int ksunkMany, .int ksending, .int kfleets, .ref ktext, .int ktexts, .int sdG_27, .ref kline, .ref kwritten, .int klineMany, .int khasWritten, .ref knode, .int knodes, .int konesMany, .int kwithin, .int ktop])), (know, .inl (ky 0, 373, .inl knowG_40)), (kpoured, .inl (ky 0, 36, .inl kpouredG_41))]) [0, 1, 2] (by decide) rfl
      refine W.widen (k := 0) (n := 0) (Nat.le_of_ble_eq_true rfl) (Nat.le_of_ble_eq_true rfl) ?_
      exact W.vret hx hb hr (fun t ht9 hW9 => ⟨⟨(sdG_27, knowG_40, kpouredG_41), rfl, (lf_m_drawsLine_2 o sd kthrown ktape ktaped ksize klimit kto kfrom kkind knumber ksign kfault kplace kword ktold know kread kkept ksnaps kaside kname kreadName kkeptName kisKept konces ksnapMany khasCells kpoured kfar ksides ksideMany kwayDays khasWay klines kmet kmetMany ksunk ktrying ksunkMany ksending kfleets ktext ktexts kline kwritten klineMany khasWritten knode knodes konesMany kwithin ktop knowF kpouredF sdG_4 k6 sdG_12 k14 sdG_20 k22 sdG_27 k29 k36 knowG_40 kpouredG_41 hB h7 c8 h15 c16 h23 h30 h37 p42), by rw [ht9]; exact hP9, va_K.moved hW9.alike hK, hD9⟩, hS.F ht9⟩) hS.2.2 dX12_drawsLine_58
    · refine lv_iconst (v := nI 0) hx hb dX12_drawsLine_25 (by decide) ?_
      refine lv_goto (tgt := 30) hx hb dX12_drawsLine_26 (by decide) ?_
      refine r_iald hx hb hK hP 0 rfl 0 (by decide) (by decide) (nI 4) hB.1 dX12_drawsLine_30 ?_
      refine r_call_i (wr := [(know, .inl (ky 0, 373, .inl knowF)), (kpoured, .inl (ky 0, 36, .inl kpouredF))]) (va_runV (As := [.int (nI 4)]) (rest := []) ⟨hx, hb, hml, hown, hts⟩ (c_m_draw4 l dC dI ky H.size o sdG_12 kthrown ktape ktaped ksize klimit kto kfrom kkind knumber ksign kfault kplace kword ktold know kread kkept ksnaps kaside kname kreadName kkeptName kisKept konces ksnapMany khasCells kpoured kfar ksides ksideMany kwayDays khasWay klines kmet kmetMany ksunk ktrying ksunkMany ksending kfleets ktext ktexts kline kwritten klineMany khasWritten knode knodes konesMany kwithin ktop) (cwV 1 hts gX12_drawsLine_X12_draw rfl rfl rfl (by decide +kernel) ⟨(Nat.le_of_ble_eq_true rfl), (Nat.le_of_ble_eq_true rfl)⟩) (pre_UV hK hP hD [2] (by decide) rfl (ci := 12) (q0 := 2) rfl rfl) rfl rfl hl.1 rfl (lv_room (Nat.le_of_ble_eq_true rfl)) dX12_drawsLine_31 ⟨(Nat.le_of_ble_eq_true rfl), (Nat.le_of_ble_eq_true rfl)⟩) hP hD hS hA [2] [0, 1] rfl rfl (by decide) (by decide) (fun r45 u43 H locs p44 hP hD hS => ?_)
      obtain ⟨sdG_46, rfl⟩ : ∃ z, z = u43 := ⟨_, rfl⟩
      try dsimp only at p44
      have p47 := p44
      refine W.widen (k := 0) (n := 0) (Nat.le_of_ble_eq_true rfl) (Nat.le_of_ble_eq_true rfl) ?_
      have hP : va_P (dC, dI) vwCl [(know, .inl (ky 0, 373, .inl knowF)), (kpoured, .inl (ky 0, 36, .inl kpouredF)), (o, .inr (12, [.int kthrown, .ref ktape, .int ktaped, .int ksize, .int klimit, .int kto, .int kfrom, .int kkind, .int knumber, .int ksign, .int kfault, .int kplace, .long kword, .int ktold, .ref know, .ref kread, .ref kkept, .ref ksnaps, .ref kaside, .ref kname, .ref kreadName, .ref kkeptName, .ref kisKept, .ref konces, .int ksnapMany, .int khasCells, .ref kpoured, .ref kfar, .ref ksides, .int ksideMany, .int kwayDays, .int khasWay, .ref klines, .ref kmet, .int kmetMany, .ref ksunk, .ref ktrying, .int ksunkMany, .int ksending, .int kfleets, .ref ktext, .int ktexts, .int sdG_46, .ref kline, .ref kwritten, .int klineMany, .int khasWritten, .ref knode, .int knodes, .int konesMany, .int kwithin, .int ktop]))] H := hP
      have hD : va_D A [(know, .inl (ky 0, 373, .inl knowF)), (kpoured, .inl (ky 0, 36, .inl kpouredF)), (o, .inr (12, [.int kthrown, .ref ktape, .int ktaped, .int ksize, .int klimit, .int kto, .int kfrom, .int kkind, .int knumber, .int ksign, .int kfault, .int kplace, .long kword, .int ktold, .ref know, .ref kread, .ref kkept, .ref ksnaps, .ref kaside, .ref kname, .ref kreadName, .ref kkeptName, .ref kisKept, .ref konces, .int ksnapMany, .int khasCells, .ref kpoured, .ref kfar, .ref ksides, .int ksideMany, .int kwayDays, .int khasWay, .ref klines, .ref kmet, .int kmetMany, .ref ksunk, .ref ktrying, .int ksunkMany, .int ksending, .int kfleets, .ref ktext, .int ktexts, .int sdG_46, .ref kline, .ref kwritten, .int klineMany, .int khasWritten, .ref knode, .int knodes, .int konesMany, .int kwithin, .int ktop]))] := hD
      obtain ⟨k48, h49, rfl⟩ := p47
      refine lv_istore_n (lv' := [(2, .int (nI k48)), (1, .int (nI k14)), (0, .ref o)]) hx hb dX12_drawsLine_34 rfl hl (by decide) rfl (fun ls hl => ?_)
      refine lv_aload_n hx hb dX12_drawsLine_35 rfl (lv_at hl 2 rfl) ?_
      refine lv_iconst (v := nI 2) hx hb dX12_drawsLine_36 (by decide) ?_
      refine r_call_i (wr := [(know, .inl (ky 0, 373, .inl knowF)), (kpoured, .inl (ky 0, 36, .inl kpouredF))]) (va_runV (As := [.int (nI 2)]) (rest := []) ⟨hx, hb, hml, hown, hts⟩ (c_m_draw2 l dC dI ky H.size o sdG_46 kthrown ktape ktaped ksize klimit kto kfrom kkind knumber ksign kfault kplace kword ktold know kread kkept ksnaps kaside kname kreadName kkeptName kisKept konces ksnapMany khasCells kpoured kfar ksides ksideMany kwayDays khasWay klines kmet kmetMany ksunk ktrying ksunkMany ksending kfleets ktext ktexts kline kwritten klineMany khasWritten knode knodes konesMany kwithin ktop) (cwV 1 hts gX12_drawsLine_X12_draw rfl rfl rfl (by decide +kernel) ⟨(Nat.le_of_ble_eq_true rfl), (Nat.le_of_ble_eq_true rfl)⟩) (pre_UV hK hP hD [2] (by decide) rfl (ci := 12) (q0 := 2) rfl rfl) rfl rfl hl.1 rfl (lv_room (Nat.le_of_ble_eq_true rfl)) dX12_drawsLine_37 ⟨(Nat.le_of_ble_eq_true rfl), (Nat.le_of_ble_eq_true rfl)⟩) hP hD hS hA [2] [0, 1] rfl rfl (by decide) (by decide) (fun r52 u50 H locs p51 hP hD hS => ?_)
      obtain ⟨sdG_53, rfl⟩ : ∃ z, z = u50 := ⟨_, rfl⟩
      try dsimp only at p51
      have p54 := p51
      refine W.widen (k := 0) (n := 0) (Nat.le_of_ble_eq_true rfl) (Nat.le_of_ble_eq_true rfl) ?_
      have hP : va_P (dC, dI) vwCl [(know, .inl (ky 0, 373, .inl knowF)), (kpoured, .inl (ky 0, 36, .inl kpouredF)), (o, .inr (12, [.int kthrown, .ref ktape, .int ktaped, .int ksize, .int klimit, .int kto, .int kfrom, .int kkind, .int knumber, .int ksign, .int kfault, .int kplace, .long kword, .int ktold, .ref know, .ref kread, .ref kkept, .ref ksnaps, .ref kaside, .ref kname, .ref kreadName, .ref kkeptName, .ref kisKept, .ref konces, .int ksnapMany, .int khasCells, .ref kpoured, .ref kfar, .ref ksides, .int ksideMany, .int kwayDays, .int khasWay, .ref klines, .ref kmet, .int kmetMany, .ref ksunk, .ref ktrying, .int ksunkMany, .int ksending, .int kfleets, .ref ktext, .int ktexts, .int sdG_53, .ref kline, .ref kwritten, .int klineMany, .int khasWritten, .ref knode, .int knodes, .int konesMany, .int kwithin, .int ktop]))] H := hP
      have hD : va_D A [(know, .inl (ky 0, 373, .inl knowF)), (kpoured, .inl (ky 0, 36, .inl kpouredF)), (o, .inr (12, [.int kthrown, .ref ktape, .int ktaped, .int ksize, .int klimit, .int kto, .int kfrom, .int kkind, .int knumber, .int ksign, .int kfault, .int kplace, .long kword, .int ktold, .ref know, .ref kread, .ref kkept, .ref ksnaps, .ref kaside, .ref kname, .ref kreadName, .ref kkeptName, .ref kisKept, .ref konces, .int ksnapMany, .int khasCells, .ref kpoured, .ref kfar, .ref ksides, .int ksideMany, .int kwayDays, .int khasWay, .ref klines, .ref kmet, .int kmetMany, .ref ksunk, .ref ktrying, .int ksunkMany, .int ksending, .int kfleets, .ref ktext, .int ktexts, .int sdG_53, .ref kline, .ref kwritten, .int klineMany, .int khasWritten, .ref knode, .int knodes, .int konesMany, .int kwithin, .int ktop]))] := hD
      obtain ⟨k55, h56, rfl⟩ := p54
      refine lv_istore_n (lv' := [(3, .int (nI k55)), (2, .int (nI k48)), (1, .int (nI k14)), (0, .ref o)]) hx hb dX12_drawsLine_40 rfl hl (by decide) rfl (fun ls hl => ?_)
      refine lv_aload_n hx hb dX12_drawsLine_41 rfl (lv_at hl 3 rfl) ?_
      refine vp_callSi (W.runV (As := []) (rest := []) ⟨hx, hb, hml, hown, hts⟩ (c_m_hasSkin0 l dC dI ky o kthrown ktape ktaped ksize klimit kto kfrom kkind knumber ksign kfault kplace kword ktold know kread kkept ksnaps kaside kname kreadName kkeptName kisKept konces ksnapMany khasCells kpoured kfar ksides ksideMany kwayDays khasWay klines kmet kmetMany ksunk ktrying ksunkMany ksending kfleets ktext ktexts sdG_53 kline kwritten klineMany khasWritten knode knodes konesMany kwithin ktop knowF (lf_m_drawsLine_3 o sd kthrown ktape ktaped ksize klimit kto kfrom kkind knumber ksign kfault kplace kword ktold know kread kkept ksnaps kaside kname kreadName kkeptName kisKept konces ksnapMany khasCells kpoured kfar ksides ksideMany kwayDays khasWay klines kmet kmetMany ksunk ktrying ksunkMany ksending kfleets ktext ktexts kline kwritten klineMany khasWritten knode knodes konesMany kwithin ktop knowF kpouredF sdG_4 k6 sdG_12 k14 sdG_46 k48 sdG_53 k55 hB h7 c8 h15 c16 h49 h56)) (cwV 0 hts gX12_drawsLine_X12_hasSkin rfl rfl rfl (by decide +kernel) ⟨(Nat.le_of_ble_eq_true rfl), (Nat.le_of_ble_eq_true rfl)⟩) (pre_PV hK hP [2, 0] rfl (ci := 12) (q0 := 2) rfl rfl) rfl rfl hl.1 rfl (lv_room (Nat.le_of_ble_eq_true rfl)) dX12_drawsLine_42 ⟨(Nat.le_of_ble_eq_true rfl), (Nat.le_of_ble_eq_true rfl)⟩) (fun r57 p58 => ?_)
      subst p58
      refine lv_if_ne (tgt := 58) hx hb dX12_drawsLine_45 (by decide) (fun c59 => absurd c59 (by decide)) (fun c59 => ?_)
      refine lv_aload_n hx hb dX12_drawsLine_48 rfl (lv_at hl 3 rfl) ?_
      refine lv_iload_n hx hb dX12_drawsLine_49 rfl (lv_at hl 2 rfl) ?_
      refine lv_iload_n hx hb dX12_drawsLine_50 rfl (lv_at hl 1 rfl) ?_
      refine lv_iload_n hx hb dX12_drawsLine_51 rfl (lv_at hl 0 rfl) ?_
      refine vp_callSi (W.runS (As := [.int (nI k14), .int (nI k48), .int (nI k55)]) (rest := [.ref o]) ⟨hx, hb, hml, hown, hts⟩ (c_m_lineOfN l dC dI ky k14 k48 k55 (by omega) (by omega) (by omega)) (va_cwS 3 hts gX12_drawsLine_X12_lineOf rfl rfl rfl (by decide +kernel) ⟨(Nat.le_of_ble_eq_true rfl), (Nat.le_of_ble_eq_true rfl)⟩) (pre_PS hK hP [] rfl) rfl rfl hl.1 rfl (lv_room (Nat.le_of_ble_eq_true rfl)) dX12_drawsLine_52 ⟨(Nat.le_of_ble_eq_true rfl), (Nat.le_of_ble_eq_true rfl)⟩) (fun r60 p61 => ?_)
      obtain ⟨k62, h63, rfl⟩ := p61
      refine r_call_v (wr := []) (va_runV (As := [.int (nI k62)]) (rest := []) ⟨hx, hb, hml, hown, hts⟩ (c_m_doStir l dC dI ky H.size o kthrown ktape ktaped ksize klimit kto kfrom kkind knumber ksign kfault kplace kword ktold know kread kkept ksnaps kaside kname kreadName kkeptName kisKept konces ksnapMany khasCells kpoured kfar ksides ksideMany kwayDays khasWay klines kmet kmetMany ksunk ktrying ksunkMany ksending kfleets ktext ktexts sdG_53 kline kwritten klineMany khasWritten knode knodes konesMany kwithin ktop knowF kpouredF k62 hB (by omega)) (cwV 1 hts gX12_drawsLine_X12_doStir rfl rfl rfl (by decide +kernel) ⟨(Nat.le_of_ble_eq_true rfl), (Nat.le_of_ble_eq_true rfl)⟩) (pre_UV hK hP hD [2, 0, 1] (by decide) rfl (ci := 12) (q0 := 2) rfl rfl) rfl rfl hl.1 rfl (lv_room (Nat.le_of_ble_eq_true rfl)) dX12_drawsLine_55 ⟨(Nat.le_of_ble_eq_true rfl), (Nat.le_of_ble_eq_true rfl)⟩) hP hD hS hA [2, 0, 1] [] rfl rfl (by decide) (by decide) (fun  u64 H locs p65 hP hD hS => ?_)
      obtain ⟨knowG_66, kpouredG_67⟩ := u64
      try dsimp only at p65
      have p68 := p65
      refine W.widen (k := 0) (n := 0) (Nat.le_of_ble_eq_true rfl) (Nat.le_of_ble_eq_true rfl) ?_
      have hP : va_P (dC, dI) vwCl [(o, .inr (12, [.int kthrown, .ref ktape, .int ktaped, .int ksize, .int klimit, .int kto, .int kfrom, .int kkind, .int knumber, .int ksign, .int kfault, .int kplace, .long kword, .int ktold, .ref know, .ref kread, .ref kkept, .ref ksnaps, .ref kaside, .ref kname, .ref kreadName, .ref kkeptName, .ref kisKept, .ref konces, .int ksnapMany, .int khasCells, .ref kpoured, .ref kfar, .ref ksides, .int ksideMany, .int kwayDays, .int khasWay, .ref klines, .ref kmet, .int kmetMany, .ref ksunk, .ref ktrying, .int ksunkMany, .int ksending, .int kfleets, .ref ktext, .int ktexts, .int sdG_53, .ref kline, .ref kwritten, .int klineMany, .int khasWritten, .ref knode, .int knodes, .int konesMany, .int kwithin, .int ktop])), (know, .inl (ky 0, 373, .inl knowG_66)), (kpoured, .inl (ky 0, 36, .inl kpouredG_67))] H := hP
      have hD : va_D A [(o, .inr (12, [.int kthrown, .ref ktape, .int ktaped, .int ksize, .int klimit, .int kto, .int kfrom, .int kkind, .int knumber, .int ksign, .int kfault, .int kplace, .long kword, .int ktold, .ref know, .ref kread, .ref kkept, .ref ksnaps, .ref kaside, .ref kname, .ref kreadName, .ref kkeptName, .ref kisKept, .ref konces, .int ksnapMany, .int khasCells, .ref kpoured, .ref kfar, .ref ksides, .int ksideMany, .int kwayDays, .int khasWay, .ref klines, .ref kmet, .int kmetMany, .ref ksunk, .ref ktrying, .int ksunkMany, .int ksending, .int kfleets, .ref ktext, .int ktexts, .int sdG_53, .ref kline, .ref kwritten, .int klineMany, .int khasWritten, .ref knode, .int knodes, .int konesMany, .int kwithin, .int ktop])), (know, .inl (ky 0, 373, .inl knowG_66)), (kpoured, .inl (ky 0, 36, .inl kpouredG_67))] := hD
      have hP9 := hP.sub (ws' := [(o, .inr (12, [.int kthrown, .ref ktape, .int ktaped, .int ksize, .int klimit, .int kto, .int kfrom, .int kkind, .int knumber, .int ksign, .int kfault, .int kplace, .long kword, .int ktold, .ref know, .ref kread, .ref kkept, .ref ksnaps, .ref kaside, .ref kname, .ref kreadName, .ref kkeptName, .ref kisKept, .ref konces, .int ksnapMany, .int khasCells, .ref kpoured, .ref kfar, .ref ksides, .int ksideMany, .int kwayDays, .int khasWay, .ref klines, .ref kmet, .int kmetMany, .ref ksunk, .ref ktrying, .int ksunkMany, .int ksending, .int kfleets, .ref ktext, .int ktexts, .int sdG_53, .ref kline, .ref kwritten, .int klineMany, .int khasWritten, .ref knode, .int knodes, .int konesMany, .int kwithin, .int ktop])), (know, .inl (ky 0, 373, .inl knowG_66)), (kpoured, .inl (ky 0, 36, .inl kpouredG_67))]) [0, 1, 2] rfl
      have hD9 := hD.sub (ws' := [(o, .inr (12, [.int kthrown, .ref ktape, .int ktaped, .int ksize, .int klimit, .int kto, .int kfrom, .int kkind, .int knumber, .int ksign, .int kfault, .int kplace, .long kword, .int ktold, .ref know, .ref kread, .ref kkept, .ref ksnaps, .ref kaside, .ref kname, .ref kreadName, .ref kkeptName, .ref kisKept, .ref konces, .int ksnapMany, .int khasCells, .ref kpoured, .ref kfar, .ref ksides, .int ksideMany, .int kwayDays, .int khasWay, .ref klines, .ref kmet, .int kmetMany, .ref ksunk, .ref ktrying, .int ksunkMany, .int ksending, .int kfleets, .ref ktext, .int ktexts, .int sdG_53, .ref kline, .ref kwritten, .int klineMany, .int khasWritten, .ref knode, .int knodes, .int konesMany, .int kwithin, .int ktop])), (know, .inl (ky 0, 373, .inl knowG_66)), (kpoured, .inl (ky 0, 36, .inl kpouredG_67))]) [0, 1, 2] (by decide) rfl
      refine W.widen (k := 0) (n := 0) (Nat.le_of_ble_eq_true rfl) (Nat.le_of_ble_eq_true rfl) ?_
      exact W.vret hx hb hr (fun t ht9 hW9 => ⟨⟨(sdG_53, knowG_66, kpouredG_67), rfl, (lf_m_drawsLine_4 o sd kthrown ktape ktaped ksize klimit kto kfrom kkind knumber ksign kfault kplace kword ktold know kread kkept ksnaps kaside kname kreadName kkeptName kisKept konces ksnapMany khasCells kpoured kfar ksides ksideMany kwayDays khasWay klines kmet kmetMany ksunk ktrying ksunkMany ksending kfleets ktext ktexts kline kwritten klineMany khasWritten knode knodes konesMany kwithin ktop knowF kpouredF sdG_4 k6 sdG_12 k14 sdG_46 k48 sdG_53 k55 k62 knowG_66 kpouredG_67 hB h7 c8 h15 c16 h49 h56 h63 p68), by rw [ht9]; exact hP9, va_K.moved hW9.alike hK, hD9⟩, hS.F ht9⟩) hS.2.2 dX12_drawsLine_58
  · have hP9 := hP.sub (ws' := [(o, .inr (12, [.int kthrown, .ref ktape, .int ktaped, .int ksize, .int klimit, .int kto, .int kfrom, .int kkind, .int knumber, .int ksign, .int kfault, .int kplace, .long kword, .int ktold, .ref know, .ref kread, .ref kkept, .ref ksnaps, .ref kaside, .ref kname, .ref kreadName, .ref kkeptName, .ref kisKept, .ref konces, .int ksnapMany, .int khasCells, .ref kpoured, .ref kfar, .ref ksides, .int ksideMany, .int kwayDays, .int khasWay, .ref klines, .ref kmet, .int kmetMany, .ref ksunk, .ref ktrying, .int ksunkMany, .int ksending, .int kfleets, .ref ktext, .int ktexts, .int sdG_4, .ref kline, .ref kwritten, .int klineMany, .int khasWritten, .ref knode, .int knodes, .int konesMany, .int kwithin, .int ktop])), (know, .inl (ky 0, 373, .inl knowF)), (kpoured, .inl (ky 0, 36, .inl kpouredF))]) [2, 0, 1] rfl
    have hD9 := hD.sub (ws' := [(o, .inr (12, [.int kthrown, .ref ktape, .int ktaped, .int ksize, .int klimit, .int kto, .int kfrom, .int kkind, .int knumber, .int ksign, .int kfault, .int kplace, .long kword, .int ktold, .ref know, .ref kread, .ref kkept, .ref ksnaps, .ref kaside, .ref kname, .ref kreadName, .ref kkeptName, .ref kisKept, .ref konces, .int ksnapMany, .int khasCells, .ref kpoured, .ref kfar, .ref ksides, .int ksideMany, .int kwayDays, .int khasWay, .ref klines, .ref kmet, .int kmetMany, .ref ksunk, .ref ktrying, .int ksunkMany, .int ksending, .int kfleets, .ref ktext, .int ktexts, .int sdG_4, .ref kline, .ref kwritten, .int klineMany, .int khasWritten, .ref knode, .int knodes, .int konesMany, .int kwithin, .int ktop])), (know, .inl (ky 0, 373, .inl knowF)), (kpoured, .inl (ky 0, 36, .inl kpouredF))]) [2, 0, 1] (by decide) rfl
    refine W.widen (k := 0) (n := 0) (Nat.le_of_ble_eq_true rfl) (Nat.le_of_ble_eq_true rfl) ?_
    exact W.vret hx hb hr (fun t ht9 hW9 => ⟨⟨(sdG_4, knowF, kpouredF), rfl, (lf_m_drawsLine_5 o sd kthrown ktape ktaped ksize klimit kto kfrom kkind knumber ksign kfault kplace kword ktold know kread kkept ksnaps kaside kname kreadName kkeptName kisKept konces ksnapMany khasCells kpoured kfar ksides ksideMany kwayDays khasWay klines kmet kmetMany ksunk ktrying ksunkMany ksending kfleets ktext ktexts kline kwritten klineMany khasWritten knode knodes konesMany kwithin ktop knowF kpouredF sdG_4 k6 hB h7 c8), by rw [ht9]; exact hP9, va_K.moved hW9.alike hK, hD9⟩, hS.F ht9⟩) hS.2.2 dX12_drawsLine_8
set_option maxRecDepth 20000 in
theorem lf_lpm_drawDays_1 (o : Nat) (sd : Int32) (kthrown : Int32) (ktape : Nat) (ktaped : Int32) (ksize : Int32) (klimit : Int32) (kto : Int32) (kfrom : Int32) (kkind : Int32) (knumber : Int32) (ksign : Int32) (kfault : Int32) (kplace : Int32) (kword : Int64) (ktold : Int32) (know : Nat) (kread : Nat) (kkept : Nat) (ksnaps : Nat) (kaside : Nat) (kname : Nat) (kreadName : Nat) (kkeptName : Nat) (kisKept : Nat) (konces : Nat) (ksnapMany : Int32) (khasCells : Int32) (kpoured : Nat) (kfar : Nat) (ksides : Nat) (ksideMany : Int32) (kwayDays : Int32) (khasWay : Int32) (klines : Nat) (kmet : Nat) (kmetMany : Int32) (ksunk : Nat) (ktrying : Nat) (ksunkMany : Int32) (ksending : Int32) (kfleets : Int32) (ktext : Nat) (ktexts : Int32) (kline : Nat) (kwritten : Nat) (klineMany : Int32) (khasWritten : Int32) (knode : Nat) (knodes : Int32) (konesMany : Int32) (kwithin : Int32) (ktop : Int32) (knowF : Nat → Int32) (kpouredF : Nat → Int32) (n : Nat) (x : Int32) (i : Nat) (sL : Int32) (fw : Nat → Int32) (fp : Nat → Int32) (sdG_4 : Int32) (knowG_5 : Nat → Int32) (kpouredG_6 : Nat → Int32) (knowG_11 : Nat → Int32) (hN : NowOk knowF) (hn : n ≤ 60) (hi : i ≤ n) (hL : NowB fw) (c1 : i < n) (p7 : NowB knowG_5) (p12 : NowB knowG_11) : NowB knowG_11 := by
  assumption
set_option maxHeartbeats 4000000 in
set_option maxRecDepth 100000 in
theorem lp_m_drawDays {p : Program} {l : Launch} {e : Env} {R : Room} {s : State} {m : MethodId} {args : Array Value} {below : List Frame} {meth : Method} {c : Code} {Q : State → Prop} {dC : Nat → ClassId} {dI : Nat → Nat → Nat} {ky : Nat → ClassId} {H0 : Heap} {A : Nat → Prop} (hx : p.tables.exec = Jvm.exec) (hb : c.code = cX12_drawDays) (hml : c.maxLocals = 6) (hown : s.vm.findClass RX12 = some m.cls) (hts : ∀ w ∈ wsX12_drawDays, w.before args s = true) (hK : Kk dC dI ky s) (hA : ∀ q, H0.size ≤ q → A q) (hRf : 3 ≤ R.frames) (hRl : 72 ≤ R.locals) (hRc : 0 ≤ R.cells) (hRs : 0 ≤ R.slots) (o : Nat) (sd : Int32) (kthrown : Int32) (ktape : Nat) (ktaped : Int32) (ksize : Int32) (klimit : Int32) (kto : Int32) (kfrom : Int32) (kkind : Int32) (knumber : Int32) (ksign : Int32) (kfault : Int32) (kplace : Int32) (kword : Int64) (ktold : Int32) (know : Nat) (kread : Nat) (kkept : Nat) (ksnaps : Nat) (kaside : Nat) (kname : Nat) (kreadName : Nat) (kkeptName : Nat) (kisKept : Nat) (konces : Nat) (ksnapMany : Int32) (khasCells : Int32) (kpoured : Nat) (kfar : Nat) (ksides : Nat) (ksideMany : Int32) (kwayDays : Int32) (khasWay : Int32) (klines : Nat) (kmet : Nat) (kmetMany : Int32) (ksunk : Nat) (ktrying : Nat) (ksunkMany : Int32) (ksending : Int32) (kfleets : Int32) (ktext : Nat) (ktexts : Int32) (kline : Nat) (kwritten : Nat) (klineMany : Int32) (khasWritten : Int32) (knode : Nat) (knodes : Int32) (konesMany : Int32) (kwithin : Int32) (ktop : Int32) (knowF : Nat → Int32) (kpouredF : Nat → Int32) (n : Nat) (x : Int32) (hN : NowOk knowF) (hn : n ≤ 60) (kx : ∀ (i : Nat) (sL : Int32) (fw : Nat → Int32) (fp : Nat → Int32), n = i → (NowB fw) → ∀ (H : Heap) (locs : List Loc) (ls : Array Slot), va_P (dC, dI) vwCl [(o, .inr (12, [.int kthrown, .ref ktape, .int ktaped, .int ksize, .int klimit, .int kto, .int kfrom, .int kkind, .int knumber, .int ksign, .int kfault, .int kplace, .long kword, .int ktold, .ref know, .ref kread, .ref kkept, .ref ksnaps, .ref kaside, .ref kname, .ref kreadName, .ref kkeptName, .ref kisKept, .ref konces, .int ksnapMany, .int khasCells, .ref kpoured, .ref kfar, .ref ksides, .int ksideMany, .int kwayDays, .int khasWay, .ref klines, .ref kmet, .int kmetMany, .ref ksunk, .ref ktrying, .int ksunkMany, .int ksending, .int kfleets, .ref ktext, .int ktexts, .int sL, .ref kline, .ref kwritten, .int klineMany, .int khasWritten, .ref knode, .int knodes, .int konesMany, .int kwithin, .int ktop])), (know, .inl (ky 0, 373, .inl fw)), (kpoured, .inl (ky 0, 36, .inl fp))] H → va_D A [(o, .inr (12, [.int kthrown, .ref ktape, .int ktaped, .int ksize, .int klimit, .int kto, .int kfrom, .int kkind, .int knumber, .int ksign, .int kfault, .int kplace, .long kword, .int ktold, .ref know, .ref kread, .ref kkept, .ref ksnaps, .ref kaside, .ref kname, .ref kreadName, .ref kkeptName, .ref kisKept, .ref konces, .int ksnapMany, .int khasCells, .ref kpoured, .ref kfar, .ref ksides, .int ksideMany, .int kwayDays, .int khasWay, .ref klines, .ref kmet, .int kmetMany, .ref ksunk, .ref ktrying, .int ksunkMany, .int ksending, .int kfleets, .ref ktext, .int ktexts, .int sL, .ref kline, .ref kwritten, .int klineMany, .int khasWritten, .ref knode, .int knodes, .int konesMany, .int kwithin, .int ktop])), (know, .inl (ky 0, 373, .inl fw)), (kpoured, .inl (ky 0, 36, .inl fp))] → va_S A H0 H locs → lv_has ls 6 [(4, .int (nI i)), (3, .int (nI n)), (0, .ref o), (1, .int (nI n)), (2, .int x)] → W p l e R s m args below meth c H locs 0 0 Q (F0 m 79 ls [])) :
    ∀ (nN i : Nat) (sL : Int32) (fw : Nat → Int32) (fp : Nat → Int32), i ≤ n → n + 1 ≤ i + nN → (NowB fw) → ∀ (H : Heap) (locs : List Loc) (ls : Array Slot), va_P (dC, dI) vwCl [(o, .inr (12, [.int kthrown, .ref ktape, .int ktaped, .int ksize, .int klimit, .int kto, .int kfrom, .int kkind, .int knumber, .int ksign, .int kfault, .int kplace, .long kword, .int ktold, .ref know, .ref kread, .ref kkept, .ref ksnaps, .ref kaside, .ref kname, .ref kreadName, .ref kkeptName, .ref kisKept, .ref konces, .int ksnapMany, .int khasCells, .ref kpoured, .ref kfar, .ref ksides, .int ksideMany, .int kwayDays, .int khasWay, .ref klines, .ref kmet, .int kmetMany, .ref ksunk, .ref ktrying, .int ksunkMany, .int ksending, .int kfleets, .ref ktext, .int ktexts, .int sL, .ref kline, .ref kwritten, .int klineMany, .int khasWritten, .ref knode, .int knodes, .int konesMany, .int kwithin, .int ktop])), (know, .inl (ky 0, 373, .inl fw)), (kpoured, .inl (ky 0, 36, .inl fp))] H → va_D A [(o, .inr (12, [.int kthrown, .ref ktape, .int ktaped, .int ksize, .int klimit, .int kto, .int kfrom, .int kkind, .int knumber, .int ksign, .int kfault, .int kplace, .long kword, .int ktold, .ref know, .ref kread, .ref kkept, .ref ksnaps, .ref kaside, .ref kname, .ref kreadName, .ref kkeptName, .ref kisKept, .ref konces, .int ksnapMany, .int khasCells, .ref kpoured, .ref kfar, .ref ksides, .int ksideMany, .int kwayDays, .int khasWay, .ref klines, .ref kmet, .int kmetMany, .ref ksunk, .ref ktrying, .int ksunkMany, .int ksending, .int kfleets, .ref ktext, .int ktexts, .int sL, .ref kline, .ref kwritten, .int klineMany, .int khasWritten, .ref knode, .int knodes, .int konesMany, .int kwithin, .int ktop])), (know, .inl (ky 0, 373, .inl fw)), (kpoured, .inl (ky 0, 36, .inl fp))] → va_S A H0 H locs → lv_has ls 6 [(4, .int (nI i)), (3, .int (nI n)), (0, .ref o), (1, .int (nI n)), (2, .int x)] → W p l e R s m args below meth c H locs 0 0 Q (F0 m 24 ls []) := by
  have hin12 : ∀ w ∈ u_ws RX12 TX12 52, w ∈ wsX12_drawDays := by decide +kernel
  intro nN
  induction nN with
  | zero => intro i sL fw fp hi hnN; exfalso; omega
  | succ nN ih =>
    intro i sL fw fp hi hnN hL H locs ls hP hD hS hl
    refine lv_iload hx hb dX12_drawDays_24 (lv_at hl 0 rfl) ?_
    refine lv_iload_n hx hb dX12_drawDays_26 rfl (lv_at hl 1 rfl) ?_
    refine n_icmp_ge (x := i) (y := n) (tgt := 79) hx hb (by omega) (by omega) dX12_drawDays_27 (by decide) (fun c1 => ?_) (fun c1 => ?_)
    · exact kx i sL fw fp (by omega) hL H locs ls hP hD hS (lv_sub hl [0, 1, 2, 3, 4] rfl)
    · refine lv_aload_n hx hb dX12_drawDays_30 rfl (lv_at hl 2 rfl) ?_
      refine r_call_v (wr := []) (va_runV (As := []) (rest := []) ⟨hx, hb, hml, hown, hts⟩ (c_m_drawsLine l dC dI ky H.size o sL kthrown ktape ktaped ksize klimit kto kfrom kkind knumber ksign kfault kplace kword ktold know kread kkept ksnaps kaside kname kreadName kkeptName kisKept konces ksnapMany khasCells kpoured kfar ksides ksideMany kwayDays khasWay klines kmet kmetMany ksunk ktrying ksunkMany ksending kfleets ktext ktexts kline kwritten klineMany khasWritten knode knodes konesMany kwithin ktop fw fp hL) (cwV 0 hts gX12_drawDays_X12_drawsLine rfl rfl rfl (by decide +kernel) ⟨(Nat.le_trans (Nat.le_of_ble_eq_true rfl) hRf), (Nat.le_trans (Nat.le_of_ble_eq_true rfl) hRl)⟩) (pre_UV hK hP hD [0, 1, 2] (by decide) rfl (ci := 12) (q0 := 0) rfl rfl) rfl rfl hl.1 rfl (lv_room (Nat.le_of_ble_eq_true rfl)) dX12_drawDays_31 ⟨(Nat.le_trans (Nat.le_of_ble_eq_true rfl) hRc), (Nat.le_trans (Nat.le_of_ble_eq_true rfl) hRs)⟩) hP hD hS hA [0, 1, 2] [] rfl rfl (by decide) (by decide) (fun  u2 H locs p3 hP hD hS => ?_)
      obtain ⟨sdG_4, knowG_5, kpouredG_6⟩ := u2
      try dsimp only at p3
      have p7 := p3
      have hP : va_P (dC, dI) vwCl [(o, .inr (12, [.int kthrown, .ref ktape, .int ktaped, .int ksize, .int klimit, .int kto, .int kfrom, .int kkind, .int knumber, .int ksign, .int kfault, .int kplace, .long kword, .int ktold, .ref know, .ref kread, .ref kkept, .ref ksnaps, .ref kaside, .ref kname, .ref kreadName, .ref kkeptName, .ref kisKept, .ref konces, .int ksnapMany, .int khasCells, .ref kpoured, .ref kfar, .ref ksides, .int ksideMany, .int kwayDays, .int khasWay, .ref klines, .ref kmet, .int kmetMany, .ref ksunk, .ref ktrying, .int ksunkMany, .int ksending, .int kfleets, .ref ktext, .int ktexts, .int sdG_4, .ref kline, .ref kwritten, .int klineMany, .int khasWritten, .ref knode, .int knodes, .int konesMany, .int kwithin, .int ktop])), (know, .inl (ky 0, 373, .inl knowG_5)), (kpoured, .inl (ky 0, 36, .inl kpouredG_6))] H := hP
      have hD : va_D A [(o, .inr (12, [.int kthrown, .ref ktape, .int ktaped, .int ksize, .int klimit, .int kto, .int kfrom, .int kkind, .int knumber, .int ksign, .int kfault, .int kplace, .long kword, .int ktold, .ref know, .ref kread, .ref kkept, .ref ksnaps, .ref kaside, .ref kname, .ref kreadName, .ref kkeptName, .ref kisKept, .ref konces, .int ksnapMany, .int khasCells, .ref kpoured, .ref kfar, .ref ksides, .int ksideMany, .int kwayDays, .int khasWay, .ref klines, .ref kmet, .int kmetMany, .ref ksunk, .ref ktrying, .int ksunkMany, .int ksending, .int kfleets, .ref ktext, .int ktexts, .int sdG_4, .ref kline, .ref kwritten, .int klineMany, .int khasWritten, .ref knode, .int knodes, .int konesMany, .int kwithin, .int ktop])), (know, .inl (ky 0, 373, .inl knowG_5)), (kpoured, .inl (ky 0, 36, .inl kpouredG_6))] := hD
      refine lv_iconst (v := nI 0) hx hb dX12_drawDays_34 (by decide) ?_
      refine lv_istore (lv' := [(5, .int (nI 0)), (4, .int (nI i)), (3, .int (nI n)), (0, .ref o), (1, .int (nI n)), (2, .int x)]) hx hb dX12_drawDays_35 hl (by decide) rfl (fun ls hl => ?_)
      refine lv_iload hx hb dX12_drawDays_37 (lv_at hl 0 rfl) ?_
      refine lv_aload_n hx hb dX12_drawDays_39 rfl (lv_at hl 3 rfl) ?_
      refine va_get (D := (dC, dI)) (ci := 12) (v := .ref know) (C := RX12) (T := TX12) (N := 52) hx hb hts hin12 hown hK hP 0 rfl rfl 14 (by decide) (hts (.fieldLink RX12 98 "PorridgeSeaModel" "now" "[I") (List.mem_of_getElem? (i := 2) rfl)) (fun _ h9 => h9) rfl dX12_drawDays_40 ?_
      refine lv_iconst (v := nI 3) hx hb dX12_drawDays_43 (by decide) ?_
      refine r_iald hx hb hK hP 1 rfl 3 (by decide) (by decide) (nI 0) p7.2.2.2 dX12_drawDays_44 ?_
      refine lv_icmp_ge (tgt := 69) hx hb dX12_drawDays_45 (by decide) (fun c8 => ?_) (fun c8 => absurd (by decide) c8)
      refine lv_aload_n hx hb dX12_drawDays_69 rfl (lv_at hl 3 rfl) ?_
      refine r_call_v (wr := [(kpoured, .inl (ky 0, 36, .inl kpouredG_6))]) (va_runV (As := []) (rest := []) ⟨hx, hb, hml, hown, hts⟩ (c_m_oneDay l dC dI ky H.size o kthrown ktape ktaped ksize klimit kto kfrom kkind knumber ksign kfault kplace kword ktold know kread kkept ksnaps kaside kname kreadName kkeptName kisKept konces ksnapMany khasCells kpoured kfar ksides ksideMany kwayDays khasWay klines kmet kmetMany ksunk ktrying ksunkMany ksending kfleets ktext ktexts sdG_4 kline kwritten klineMany khasWritten knode knodes konesMany kwithin ktop knowG_5 p7) (cwV 0 hts gX12_drawDays_X12_oneDay rfl rfl rfl (by decide +kernel) ⟨(Nat.le_trans (Nat.le_of_ble_eq_true rfl) hRf), (Nat.le_trans (Nat.le_of_ble_eq_true rfl) hRl)⟩) (pre_UV hK hP hD [0, 1] (by decide) rfl (ci := 12) (q0 := 0) rfl rfl) rfl rfl hl.1 rfl (lv_room (Nat.le_of_ble_eq_true rfl)) dX12_drawDays_70 ⟨(Nat.le_trans (Nat.le_of_ble_eq_true rfl) hRc), (Nat.le_trans (Nat.le_of_ble_eq_true rfl) hRs)⟩) hP hD hS hA [0, 1] [2] rfl rfl (by decide) (by decide) (fun  u9 H locs p10 hP hD hS => ?_)
      obtain ⟨knowG_11, rfl⟩ : ∃ z, z = u9 := ⟨_, rfl⟩
      try dsimp only at p10
      have p12 := p10
      have hP : va_P (dC, dI) vwCl [(kpoured, .inl (ky 0, 36, .inl kpouredG_6)), (o, .inr (12, [.int kthrown, .ref ktape, .int ktaped, .int ksize, .int klimit, .int kto, .int kfrom, .int kkind, .int knumber, .int ksign, .int kfault, .int kplace, .long kword, .int ktold, .ref know, .ref kread, .ref kkept, .ref ksnaps, .ref kaside, .ref kname, .ref kreadName, .ref kkeptName, .ref kisKept, .ref konces, .int ksnapMany, .int khasCells, .ref kpoured, .ref kfar, .ref ksides, .int ksideMany, .int kwayDays, .int khasWay, .ref klines, .ref kmet, .int kmetMany, .ref ksunk, .ref ktrying, .int ksunkMany, .int ksending, .int kfleets, .ref ktext, .int ktexts, .int sdG_4, .ref kline, .ref kwritten, .int klineMany, .int khasWritten, .ref knode, .int knodes, .int konesMany, .int kwithin, .int ktop])), (know, .inl (ky 0, 373, .inl knowG_11))] H := hP
      have hD : va_D A [(kpoured, .inl (ky 0, 36, .inl kpouredG_6)), (o, .inr (12, [.int kthrown, .ref ktape, .int ktaped, .int ksize, .int klimit, .int kto, .int kfrom, .int kkind, .int knumber, .int ksign, .int kfault, .int kplace, .long kword, .int ktold, .ref know, .ref kread, .ref kkept, .ref ksnaps, .ref kaside, .ref kname, .ref kreadName, .ref kkeptName, .ref kisKept, .ref konces, .int ksnapMany, .int khasCells, .ref kpoured, .ref kfar, .ref ksides, .int ksideMany, .int kwayDays, .int khasWay, .ref klines, .ref kmet, .int kmetMany, .ref ksunk, .ref ktrying, .int ksunkMany, .int ksending, .int kfleets, .ref ktext, .int ktexts, .int sdG_4, .ref kline, .ref kwritten, .int klineMany, .int khasWritten, .ref knode, .int knodes, .int konesMany, .int kwithin, .int ktop])), (know, .inl (ky 0, 373, .inl knowG_11))] := hD
      refine lv_iinc (v := nI (i + 1)) (lv' := [(4, .int (nI (i + 1))), (5, .int (nI 0)), (3, .int (nI n)), (0, .ref o), (1, .int (nI n)), (2, .int x)]) hx hb dX12_drawDays_73 hl (k := 1) rfl (show nI i + nI 1 = nI (i + 1) from nI_add _ _) (by decide) rfl (fun ls hl => ?_)
      refine lv_goto (tgt := 24) hx hb dX12_drawDays_76 (by decide) ?_
      exact ih (i + 1) sdG_4 knowG_11 kpouredG_6 (by omega) (by omega) (lf_lpm_drawDays_1 o sd kthrown ktape ktaped ksize klimit kto kfrom kkind knumber ksign kfault kplace kword ktold know kread kkept ksnaps kaside kname kreadName kkeptName kisKept konces ksnapMany khasCells kpoured kfar ksides ksideMany kwayDays khasWay klines kmet kmetMany ksunk ktrying ksunkMany ksending kfleets ktext ktexts kline kwritten klineMany khasWritten knode knodes konesMany kwithin ktop knowF kpouredF n x i sL fw fp sdG_4 knowG_5 kpouredG_6 knowG_11 hN hn hi hL c1 p7 p12) _ _ _ (hP.sub [1, 2, 0] rfl) (hD.sub [1, 2, 0] (by decide) rfl) hS (lv_sub hl [0, 2, 3, 4, 5] rfl)
set_option maxRecDepth 20000 in
theorem lf_m_drawDays_1 (o : Nat) (sd : Int32) (kthrown : Int32) (ktape : Nat) (ktaped : Int32) (ksize : Int32) (klimit : Int32) (kto : Int32) (kfrom : Int32) (kkind : Int32) (knumber : Int32) (ksign : Int32) (kfault : Int32) (kplace : Int32) (kword : Int64) (ktold : Int32) (know : Nat) (kread : Nat) (kkept : Nat) (ksnaps : Nat) (kaside : Nat) (kname : Nat) (kreadName : Nat) (kkeptName : Nat) (kisKept : Nat) (konces : Nat) (ksnapMany : Int32) (khasCells : Int32) (kpoured : Nat) (kfar : Nat) (ksides : Nat) (ksideMany : Int32) (kwayDays : Int32) (khasWay : Int32) (klines : Nat) (kmet : Nat) (kmetMany : Int32) (ksunk : Nat) (ktrying : Nat) (ksunkMany : Int32) (ksending : Int32) (kfleets : Int32) (ktext : Nat) (ktexts : Int32) (kline : Nat) (kwritten : Nat) (klineMany : Int32) (khasWritten : Int32) (knode : Nat) (knodes : Int32) (konesMany : Int32) (kwithin : Int32) (ktop : Int32) (knowF : Nat → Int32) (kpouredF : Nat → Int32) (n : Nat) (x : Int32) (hN : NowOk knowF) (hn : n ≤ 60) : NowB knowF := by
  exact NowOk.b (by assumption)
set_option maxHeartbeats 4000000 in
set_option maxRecDepth 100000 in
theorem c_m_drawDays (l : Launch) (dC : Nat → ClassId) (dI : Nat → Nat → Nat) (ky : Nat → ClassId) (sz : Nat) (o : Nat) (sd : Int32) (kthrown : Int32) (ktape : Nat) (ktaped : Int32) (ksize : Int32) (klimit : Int32) (kto : Int32) (kfrom : Int32) (kkind : Int32) (knumber : Int32) (ksign : Int32) (kfault : Int32) (kplace : Int32) (kword : Int64) (ktold : Int32) (know : Nat) (kread : Nat) (kkept : Nat) (ksnaps : Nat) (kaside : Nat) (kname : Nat) (kreadName : Nat) (kkeptName : Nat) (kisKept : Nat) (konces : Nat) (ksnapMany : Int32) (khasCells : Int32) (kpoured : Nat) (kfar : Nat) (ksides : Nat) (ksideMany : Int32) (kwayDays : Int32) (khasWay : Int32) (klines : Nat) (kmet : Nat) (kmetMany : Int32) (ksunk : Nat) (ktrying : Nat) (ksunkMany : Int32) (ksending : Int32) (kfleets : Int32) (ktext : Nat) (ktexts : Int32) (kline : Nat) (kwritten : Nat) (klineMany : Int32) (khasWritten : Int32) (knode : Nat) (knodes : Int32) (konesMany : Int32) (kwithin : Int32) (ktop : Int32) (knowF : Nat → Int32) (kpouredF : Nat → Int32) (n : Nat) (x : Int32) (hN : NowOk knowF) (hn : n ≤ 60) : Met l yX12_drawDays wsX12_drawDays ({ frames := 3, cells := 0, slots := 0, locals := 72 }) (PcU dC dI ky [.ref o, .int (nI n), .int x] [(o, .inr (12, [.int kthrown, .ref ktape, .int ktaped, .int ksize, .int klimit, .int kto, .int kfrom, .int kkind, .int knumber, .int ksign, .int kfault, .int kplace, .long kword, .int ktold, .ref know, .ref kread, .ref kkept, .ref ksnaps, .ref kaside, .ref kname, .ref kreadName, .ref kkeptName, .ref kisKept, .ref konces, .int ksnapMany, .int khasCells, .ref kpoured, .ref kfar, .ref ksides, .int ksideMany, .int kwayDays, .int khasWay, .ref klines, .ref kmet, .int kmetMany, .ref ksunk, .ref ktrying, .int ksunkMany, .int ksending, .int kfleets, .ref ktext, .int ktexts, .int sd, .ref kline, .ref kwritten, .int klineMany, .int khasWritten, .ref knode, .int knodes, .int konesMany, .int kwithin, .int ktop])), (know, .inl (ky 0, 373, .inl knowF)), (kpoured, .inl (ky 0, 36, .inl kpouredF))] sz) (va_Qi (fun (r : Int32) (_ : Unit) => r = nI n) (BU dC dI ky (fun (_ : Unit) => []) (va_A [(o, .inr (12, [.int kthrown, .ref ktape, .int ktaped, .int ksize, .int klimit, .int kto, .int kfrom, .int kkind, .int knumber, .int ksign, .int kfault, .int kplace, .long kword, .int ktold, .ref know, .ref kread, .ref kkept, .ref ksnaps, .ref kaside, .ref kname, .ref kreadName, .ref kkeptName, .ref kisKept, .ref konces, .int ksnapMany, .int khasCells, .ref kpoured, .ref kfar, .ref ksides, .int ksideMany, .int kwayDays, .int khasWay, .ref klines, .ref kmet, .int kmetMany, .ref ksunk, .ref ktrying, .int ksunkMany, .int ksending, .int kfleets, .ref ktext, .int ktexts, .int sd, .ref kline, .ref kwritten, .int klineMany, .int khasWritten, .ref knode, .int knodes, .int konesMany, .int kwithin, .int ktop])), (know, .inl (ky 0, 373, .inl knowF)), (kpoured, .inl (ky 0, 36, .inl kpouredF))] sz)) (va_A [(o, .inr (12, [.int kthrown, .ref ktape, .int ktaped, .int ksize, .int klimit, .int kto, .int kfrom, .int kkind, .int knumber, .int ksign, .int kfault, .int kplace, .long kword, .int ktold, .ref know, .ref kread, .ref kkept, .ref ksnaps, .ref kaside, .ref kname, .ref kreadName, .ref kkeptName, .ref kisKept, .ref konces, .int ksnapMany, .int khasCells, .ref kpoured, .ref kfar, .ref ksides, .int ksideMany, .int kwayDays, .int khasWay, .ref klines, .ref kmet, .int kmetMany, .ref ksunk, .ref ktrying, .int ksunkMany, .int ksending, .int kfleets, .ref ktext, .int ktexts, .int sd, .ref kline, .ref kwritten, .int klineMany, .int khasWritten, .ref knode, .int knodes, .int konesMany, .int kwithin, .int ktop])), (know, .inl (ky 0, 373, .inl knowF)), (kpoured, .inl (ky 0, 36, .inl kpouredF))] sz)) 0 0 (va_A [(o, .inr (12, [.int kthrown, .ref ktape, .int ktaped, .int ksize, .int klimit, .int kto, .int kfrom, .int kkind, .int knumber, .int ksign, .int kfault, .int kplace, .long kword, .int ktold, .ref know, .ref kread, .ref kkept, .ref ksnaps, .ref kaside, .ref kname, .ref kreadName, .ref kkeptName, .ref kisKept, .ref konces, .int ksnapMany, .int khasCells, .ref kpoured, .ref kfar, .ref ksides, .int ksideMany, .int kwayDays, .int khasWay, .ref klines, .ref kmet, .int kmetMany, .ref ksunk, .ref ktrying, .int ksunkMany, .int ksending, .int kfleets, .ref ktext, .int ktexts, .int sd, .ref kline, .ref kwritten, .int klineMany, .int khasWritten, .ref knode, .int knodes, .int konesMany, .int kwithin, .int ktop])), (know, .inl (ky 0, 373, .inl knowF)), (kpoured, .inl (ky 0, 36, .inl kpouredF))] sz) := by
  refine Met.ofW (cc := cX12_drawDays) (maxL := 6) (ret := (some .int)) (by decide) rfl ?_
  intro p e s m args below meth c s₁ B hml hv
  obtain ⟨rfl, hsz, hP, hK, hD0⟩ := hv
  have hx := B.exec
  have hb := B.bytes
  have hr := B.returns
  have hts := atoms_spec (ws := wsX12_drawDays) B.pre
  have hown : s.vm.findClass RX12 = some m.cls := findClass_of_methodNamed B.named
  have hlocks := B.notSynchronized
  have hin12 : ∀ w ∈ u_ws RX12 TX12 52, w ∈ wsX12_drawDays := by decide +kernel
  subst hsz
  have hD := hD0.self (sz := s.heap.size)
  generalize hAe : va_A [(o, .inr (12, [.int kthrown, .ref ktape, .int ktaped, .int ksize, .int klimit, .int kto, .int kfrom, .int kkind, .int knumber, .int ksign, .int kfault, .int kplace, .long kword, .int ktold, .ref know, .ref kread, .ref kkept, .ref ksnaps, .ref kaside, .ref kname, .ref kreadName, .ref kkeptName, .ref kisKept, .ref konces, .int ksnapMany, .int khasCells, .ref kpoured, .ref kfar, .ref ksides, .int ksideMany, .int kwayDays, .int khasWay, .ref klines, .ref kmet, .int kmetMany, .ref ksunk, .ref ktrying, .int ksunkMany, .int ksending, .int kfleets, .ref ktext, .int ktexts, .int sd, .ref kline, .ref kwritten, .int klineMany, .int khasWritten, .ref knode, .int knodes, .int konesMany, .int kwithin, .int ktop])), (know, .inl (ky 0, 373, .inl knowF)), (kpoured, .inl (ky 0, 36, .inl kpouredF))] s.heap.size = A at hD ⊢
  have hA : ∀ q : Nat, s.heap.size ≤ q → A q := fun q h => by rw [← hAe]; exact Or.inr h
  have hS : va_S A s.heap s.heap [] := va_S.rf
  have hP : va_P (dC, dI) vwCl [(o, .inr (12, [.int kthrown, .ref ktape, .int ktaped, .int ksize, .int klimit, .int kto, .int kfrom, .int kkind, .int knumber, .int ksign, .int kfault, .int kplace, .long kword, .int ktold, .ref know, .ref kread, .ref kkept, .ref ksnaps, .ref kaside, .ref kname, .ref kreadName, .ref kkeptName, .ref kisKept, .ref konces, .int ksnapMany, .int khasCells, .ref kpoured, .ref kfar, .ref ksides, .int ksideMany, .int kwayDays, .int khasWay, .ref klines, .ref kmet, .int kmetMany, .ref ksunk, .ref ktrying, .int ksunkMany, .int ksending, .int kfleets, .ref ktext, .int ktexts, .int sd, .ref kline, .ref kwritten, .int klineMany, .int khasWritten, .ref knode, .int knodes, .int konesMany, .int kwithin, .int ktop])), (know, .inl (ky 0, 373, .inl knowF)), (kpoured, .inl (ky 0, 36, .inl kpouredF))] s.heap := hP
  have hl := lv_entry ([.ref o, .int (nI n), .int x]) (n := 6) (Nat.le_of_ble_eq_true rfl)
  rw [lg_entry_eq]
  generalize (lg_sl ([.ref o, .int (nI n), .int x]) ++ List.replicate (6 - (lg_sl ([.ref o, .int (nI n), .int x])).length) Slot.unset).toArray = ls at hl ⊢
  have hl : lv_has ls 6 [(0, .ref o), (1, .int (nI n)), (2, .int x)] := hl
  have hH0 : True := trivial
  refine lv_aload_n hx hb dX12_drawDays_0 rfl (lv_at hl 0 rfl) ?_
  refine lv_iload_n hx hb dX12_drawDays_1 rfl (lv_at hl 2 rfl) ?_
  refine va_put (D := (dC, dI)) (ci := 12) (v := .int x) (ty := .int) (C := RX12) (T := TX12) (N := 52) hx hb hts hin12 tyX12 tyX12_ok nmX12 hown hK hP hD hS 0 rfl rfl 42 (by decide) (hts (.fieldLink RX12 376 "PorridgeSeaModel" "seed" "I") (List.mem_of_getElem? (i := 1) rfl)) (fun _ h9 => h9) rfl (by decide +kernel) rfl rfl (Nat.le_of_ble_eq_true rfl) dX12_drawDays_2 (fun H locs hP hD hS => ?_)
  have hP : va_P (dC, dI) vwCl [(o, .inr (12, [.int kthrown, .ref ktape, .int ktaped, .int ksize, .int klimit, .int kto, .int kfrom, .int kkind, .int knumber, .int ksign, .int kfault, .int kplace, .long kword, .int ktold, .ref know, .ref kread, .ref kkept, .ref ksnaps, .ref kaside, .ref kname, .ref kreadName, .ref kkeptName, .ref kisKept, .ref konces, .int ksnapMany, .int khasCells, .ref kpoured, .ref kfar, .ref ksides, .int ksideMany, .int kwayDays, .int khasWay, .ref klines, .ref kmet, .int kmetMany, .ref ksunk, .ref ktrying, .int ksunkMany, .int ksending, .int kfleets, .ref ktext, .int ktexts, .int x, .ref kline, .ref kwritten, .int klineMany, .int khasWritten, .ref knode, .int knodes, .int konesMany, .int kwithin, .int ktop])), (know, .inl (ky 0, 373, .inl knowF)), (kpoured, .inl (ky 0, 36, .inl kpouredF))] H := hP
  have hD : va_D A [(o, .inr (12, [.int kthrown, .ref ktape, .int ktaped, .int ksize, .int klimit, .int kto, .int kfrom, .int kkind, .int knumber, .int ksign, .int kfault, .int kplace, .long kword, .int ktold, .ref know, .ref kread, .ref kkept, .ref ksnaps, .ref kaside, .ref kname, .ref kreadName, .ref kkeptName, .ref kisKept, .ref konces, .int ksnapMany, .int khasCells, .ref kpoured, .ref kfar, .ref ksides, .int ksideMany, .int kwayDays, .int khasWay, .ref klines, .ref kmet, .int kmetMany, .ref ksunk, .ref ktrying, .int ksunkMany, .int ksending, .int kfleets, .ref ktext, .int ktexts, .int x, .ref kline, .ref kwritten, .int klineMany, .int khasWritten, .ref knode, .int knodes, .int konesMany, .int kwithin, .int ktop])), (know, .inl (ky 0, 373, .inl knowF)), (kpoured, .inl (ky 0, 36, .inl kpouredF))] := hD
  refine lv_iload_n hx hb dX12_drawDays_5 rfl (lv_at hl 1 rfl) ?_
  refine lv_sipush (v := nI 400) hx hb dX12_drawDays_6 (by decide) ?_
  refine lv_aload_n hx hb dX12_drawDays_9 rfl (lv_at hl 0 rfl) ?_
  refine va_get (D := (dC, dI)) (ci := 12) (v := .ref know) (C := RX12) (T := TX12) (N := 52) hx hb hts hin12 hown hK hP 0 rfl rfl 14 (by decide) (hts (.fieldLink RX12 98 "PorridgeSeaModel" "now" "[I") (List.mem_of_getElem? (i := 2) rfl)) (fun _ h9 => h9) rfl dX12_drawDays_10 ?_
  refine lv_bipush (v := nI 67) hx hb dX12_drawDays_13 (by decide) ?_
  refine r_iald hx hb hK hP 1 rfl 67 (by decide) (by decide) (nI 0) hN.2.1 dX12_drawDays_15 ?_
  refine lv_isub hx hb dX12_drawDays_16 ?_
  refine r_ti (nI 400) (by decide) ?_
  refine vp_callSi (W.runS (As := [.int (nI n), .int (nI 400)]) (rest := []) ⟨hx, hb, hml, hown, hts⟩ (c_m_leastN l dC dI ky n (by omega)) (va_cwS 2 hts gX12_drawDays_X12_least rfl rfl rfl (by decide +kernel) ⟨(Nat.le_of_ble_eq_true rfl), (Nat.le_of_ble_eq_true rfl)⟩) (pre_PS hK hP [] rfl) rfl rfl hl.1 rfl (lv_room (Nat.le_of_ble_eq_true rfl)) dX12_drawDays_17 ⟨(Nat.le_of_ble_eq_true rfl), (Nat.le_of_ble_eq_true rfl)⟩) (fun r1 p2 => ?_)
  subst p2
  refine lv_istore_n (lv' := [(3, .int (nI n)), (0, .ref o), (1, .int (nI n)), (2, .int x)]) hx hb dX12_drawDays_20 rfl hl (by decide) rfl (fun ls hl => ?_)
  refine lv_iconst (v := nI 0) hx hb dX12_drawDays_21 (by decide) ?_
  refine lv_istore (lv' := [(4, .int (nI 0)), (3, .int (nI n)), (0, .ref o), (1, .int (nI n)), (2, .int x)]) hx hb dX12_drawDays_22 hl (by decide) rfl (fun ls hl => ?_)
  refine lp_m_drawDays hx hb hml hown hts hK hA (Nat.le_of_ble_eq_true rfl) (Nat.le_of_ble_eq_true rfl) (Nat.le_of_ble_eq_true rfl) (Nat.le_of_ble_eq_true rfl) o sd kthrown ktape ktaped ksize klimit kto kfrom kkind knumber ksign kfault kplace kword ktold know kread kkept ksnaps kaside kname kreadName kkeptName kisKept konces ksnapMany khasCells kpoured kfar ksides ksideMany kwayDays khasWay klines kmet kmetMany ksunk ktrying ksunkMany ksending kfleets ktext ktexts kline kwritten klineMany khasWritten knode knodes konesMany kwithin ktop knowF kpouredF n x hN hn ?_ (n + 1) 0 x knowF kpouredF (by omega) (by omega) (lf_m_drawDays_1 o sd kthrown ktape ktaped ksize klimit kto kfrom kkind knumber ksign kfault kplace kword ktold know kread kkept ksnaps kaside kname kreadName kkeptName kisKept konces ksnapMany khasCells kpoured kfar ksides ksideMany kwayDays khasWay klines kmet kmetMany ksunk ktrying ksunkMany ksending kfleets ktext ktexts kline kwritten klineMany khasWritten knode knodes konesMany kwithin ktop knowF kpouredF n x hN hn) _ _ _ hP hD hS (lv_sub hl [0, 1, 2, 3, 4] rfl)
  intro i sL fw fp hiN hL H locs ls hP hD hS hl
  subst hiN
  refine lv_iload_n hx hb dX12_drawDays_79 rfl (lv_at hl 1 rfl) ?_
  have hP9 := hP.sub (ws' := []) [] rfl
  have hD9 := hD.sub (ws' := []) [] (by decide) rfl
  refine W.widen (k := 0) (n := 0) (Nat.le_of_ble_eq_true rfl) (Nat.le_of_ble_eq_true rfl) ?_
  exact W.iret (v := nI n) hx hb hr (fun t ht9 hW9 => ⟨⟨nI n, (), rfl, rfl, by rw [ht9]; exact hP9, va_K.moved hW9.alike hK, hD9⟩, hS.F ht9⟩) hS.2.2 dX12_drawDays_80
set_option maxRecDepth 20000 in
theorem lf_m_drawn_1 (o : Nat) (ktape : Nat) (know : Nat) (kread : Nat) (kkept : Nat) (ksnaps : Nat) (kaside : Nat) (kname : Nat) (kreadName : Nat) (kkeptName : Nat) (kisKept : Nat) (konces : Nat) (kpoured : Nat) (kfar : Nat) (ksides : Nat) (klines : Nat) (kmet : Nat) (ksunk : Nat) (ktrying : Nat) (ktext : Nat) (kline : Nat) (kwritten : Nat) (knode : Nat) (knowF : Nat → Int32) (ksnapsF : Nat → Int32) (kpouredF : Nat → Int32) (x : Int32) (y : Int32) (r1 : Int32) (hN : NowOk knowF) (p2 : (r1 = nI 1 ∧ (nI 1).toInt ≤ x.toInt ∧ x.toInt ≤ (nI 60).toInt) ∨ (r1 = nI 0 ∧ ¬ ((nI 1).toInt ≤ x.toInt ∧ x.toInt ≤ (nI 60).toInt))) (c3 : r1 ≠ 0) : 0 ≤ x.toInt ∧ x.toInt < ((61 : Nat) : Int) := by
  have k_0 := ia_n 1 (by decide)
  have k_1 := ia_n 60 (by decide)
  have k_2 := ia_n 0 (by decide)
  simp only [ia_lt, ia_le, ia_eq, ia_m1, ia_0, ia_1, ne_eq, true_and, and_true, false_and, and_false, or_false, false_or, or_true, true_or, not_true_eq_false, not_false_eq_true] at *
  all_goals omega
set_option maxRecDepth 20000 in
theorem lf_m_drawn_2 (o : Nat) (ktape : Nat) (know : Nat) (kread : Nat) (kkept : Nat) (ksnaps : Nat) (kaside : Nat) (kname : Nat) (kreadName : Nat) (kkeptName : Nat) (kisKept : Nat) (konces : Nat) (kpoured : Nat) (kfar : Nat) (ksides : Nat) (klines : Nat) (kmet : Nat) (ksunk : Nat) (ktrying : Nat) (ktext : Nat) (kline : Nat) (kwritten : Nat) (knode : Nat) (knowF : Nat → Int32) (ksnapsF : Nat → Int32) (kpouredF : Nat → Int32) (y : Int32) (r1 : Int32) (xn : Nat) (ksnapsG_8 : Nat → Int32) (hN : NowOk knowF) (p2 : (r1 = nI 1 ∧ (nI 1).toInt ≤ (nI xn).toInt ∧ (nI xn).toInt ≤ (nI 60).toInt) ∨ (r1 = nI 0 ∧ ¬ ((nI 1).toInt ≤ (nI xn).toInt ∧ (nI xn).toInt ≤ (nI 60).toInt))) (c3 : r1 ≠ 0) (h4 : xn < 61) : ((nI xn) = (-1 : Int32) ∧ ¬ (1 ≤ (nI xn).toInt ∧ (nI xn).toInt ≤ 60)) ∨ ((nI xn) = (nI xn) ∧ 1 ≤ (nI xn).toInt ∧ (nI xn).toInt ≤ 60) := by
  have k_0 := ia_n 1 (by decide)
  have k_1 := ia_n xn (by omega)
  have k_2 := ia_n 60 (by decide)
  have k_3 := ia_n 0 (by decide)
  simp only [ia_lt, ia_le, ia_eq, ia_m1, ia_0, ia_1, ne_eq, true_and, and_true, false_and, and_false, or_false, false_or, or_true, true_or, not_true_eq_false, not_false_eq_true] at *
  all_goals omega
set_option maxRecDepth 20000 in
theorem lf_m_drawn_3 (o : Nat) (ktape : Nat) (know : Nat) (kread : Nat) (kkept : Nat) (ksnaps : Nat) (kaside : Nat) (kname : Nat) (kreadName : Nat) (kkeptName : Nat) (kisKept : Nat) (konces : Nat) (kpoured : Nat) (kfar : Nat) (ksides : Nat) (klines : Nat) (kmet : Nat) (ksunk : Nat) (ktrying : Nat) (ktext : Nat) (kline : Nat) (kwritten : Nat) (knode : Nat) (knowF : Nat → Int32) (ksnapsF : Nat → Int32) (kpouredF : Nat → Int32) (x : Int32) (y : Int32) (r1 : Int32) (hN : NowOk knowF) (p2 : (r1 = nI 1 ∧ (nI 1).toInt ≤ x.toInt ∧ x.toInt ≤ (nI 60).toInt) ∨ (r1 = nI 0 ∧ ¬ ((nI 1).toInt ≤ x.toInt ∧ x.toInt ≤ (nI 60).toInt))) (c3 : r1 = 0) : ((-1 : Int32) = (-1 : Int32) ∧ ¬ (1 ≤ x.toInt ∧ x.toInt ≤ 60)) ∨ ((-1 : Int32) = x ∧ 1 ≤ x.toInt ∧ x.toInt ≤ 60) := by
  have k_0 := ia_n 1 (by decide)
  have k_1 := ia_n 60 (by decide)
  have k_2 := ia_n 0 (by decide)
  simp only [ia_lt, ia_le, ia_eq, ia_m1, ia_0, ia_1, ne_eq, true_and, and_true, false_and, and_false, or_false, false_or, or_true, true_or, not_true_eq_false, not_false_eq_true] at *
  all_goals omega
set_option maxHeartbeats 4000000 in
set_option maxRecDepth 100000 in
theorem c_m_drawn (l : Launch) (dC : Nat → ClassId) (dI : Nat → Nat → Nat) (ky : Nat → ClassId) (sz : Nat) (o : Nat) (ktape : Nat) (know : Nat) (kread : Nat) (kkept : Nat) (ksnaps : Nat) (kaside : Nat) (kname : Nat) (kreadName : Nat) (kkeptName : Nat) (kisKept : Nat) (konces : Nat) (kpoured : Nat) (kfar : Nat) (ksides : Nat) (klines : Nat) (kmet : Nat) (ksunk : Nat) (ktrying : Nat) (ktext : Nat) (kline : Nat) (kwritten : Nat) (knode : Nat) (knowF : Nat → Int32) (ksnapsF : Nat → Int32) (kpouredF : Nat → Int32) (x : Int32) (y : Int32) (hN : NowOk knowF) : Met l yX12_drawn wsX12_drawn ({ frames := 4, cells := 0, slots := 0, locals := 97 }) (PcU dC dI ky [.ref o, .int x, .int y] [(o, .inr (12, [.int (nI 0), .ref ktape, .int (nI 0), .int (nI 0), .int (nI 0), .int (nI 0), .int (nI 0), .int (nI 0), .int (nI 0), .int (nI 0), .int (nI 0), .int (nI 0), .long 0, .int (nI 0), .ref know, .ref kread, .ref kkept, .ref ksnaps, .ref kaside, .ref kname, .ref kreadName, .ref kkeptName, .ref kisKept, .ref konces, .int (nI 0), .int (nI 0), .ref kpoured, .ref kfar, .ref ksides, .int (nI 0), .int (-1 : Int32), .int (nI 0), .ref klines, .ref kmet, .int (nI 0), .ref ksunk, .ref ktrying, .int (nI 0), .int (-1 : Int32), .int (-1 : Int32), .ref ktext, .int (nI 0), .int (nI 0), .ref kline, .ref kwritten, .int (nI 0), .int (nI 0), .ref knode, .int (nI 0), .int (nI 0), .int (nI 0), .int (nI 0)])), (know, .inl (ky 0, 373, .inl knowF)), (ksnaps, .inl (ky 0, 512, .inl ksnapsF)), (kpoured, .inl (ky 0, 36, .inl kpouredF))] sz) (va_Qi (fun (r : Int32) (_ : Unit) => (r = (-1 : Int32) ∧ ¬ (1 ≤ x.toInt ∧ x.toInt ≤ 60)) ∨ (r = x ∧ 1 ≤ x.toInt ∧ x.toInt ≤ 60)) (BU dC dI ky (fun (_ : Unit) => []) (va_A [(o, .inr (12, [.int (nI 0), .ref ktape, .int (nI 0), .int (nI 0), .int (nI 0), .int (nI 0), .int (nI 0), .int (nI 0), .int (nI 0), .int (nI 0), .int (nI 0), .int (nI 0), .long 0, .int (nI 0), .ref know, .ref kread, .ref kkept, .ref ksnaps, .ref kaside, .ref kname, .ref kreadName, .ref kkeptName, .ref kisKept, .ref konces, .int (nI 0), .int (nI 0), .ref kpoured, .ref kfar, .ref ksides, .int (nI 0), .int (-1 : Int32), .int (nI 0), .ref klines, .ref kmet, .int (nI 0), .ref ksunk, .ref ktrying, .int (nI 0), .int (-1 : Int32), .int (-1 : Int32), .ref ktext, .int (nI 0), .int (nI 0), .ref kline, .ref kwritten, .int (nI 0), .int (nI 0), .ref knode, .int (nI 0), .int (nI 0), .int (nI 0), .int (nI 0)])), (know, .inl (ky 0, 373, .inl knowF)), (ksnaps, .inl (ky 0, 512, .inl ksnapsF)), (kpoured, .inl (ky 0, 36, .inl kpouredF))] sz)) (va_A [(o, .inr (12, [.int (nI 0), .ref ktape, .int (nI 0), .int (nI 0), .int (nI 0), .int (nI 0), .int (nI 0), .int (nI 0), .int (nI 0), .int (nI 0), .int (nI 0), .int (nI 0), .long 0, .int (nI 0), .ref know, .ref kread, .ref kkept, .ref ksnaps, .ref kaside, .ref kname, .ref kreadName, .ref kkeptName, .ref kisKept, .ref konces, .int (nI 0), .int (nI 0), .ref kpoured, .ref kfar, .ref ksides, .int (nI 0), .int (-1 : Int32), .int (nI 0), .ref klines, .ref kmet, .int (nI 0), .ref ksunk, .ref ktrying, .int (nI 0), .int (-1 : Int32), .int (-1 : Int32), .ref ktext, .int (nI 0), .int (nI 0), .ref kline, .ref kwritten, .int (nI 0), .int (nI 0), .ref knode, .int (nI 0), .int (nI 0), .int (nI 0), .int (nI 0)])), (know, .inl (ky 0, 373, .inl knowF)), (ksnaps, .inl (ky 0, 512, .inl ksnapsF)), (kpoured, .inl (ky 0, 36, .inl kpouredF))] sz)) 0 0 (va_A [(o, .inr (12, [.int (nI 0), .ref ktape, .int (nI 0), .int (nI 0), .int (nI 0), .int (nI 0), .int (nI 0), .int (nI 0), .int (nI 0), .int (nI 0), .int (nI 0), .int (nI 0), .long 0, .int (nI 0), .ref know, .ref kread, .ref kkept, .ref ksnaps, .ref kaside, .ref kname, .ref kreadName, .ref kkeptName, .ref kisKept, .ref konces, .int (nI 0), .int (nI 0), .ref kpoured, .ref kfar, .ref ksides, .int (nI 0), .int (-1 : Int32), .int (nI 0), .ref klines, .ref kmet, .int (nI 0), .ref ksunk, .ref ktrying, .int (nI 0), .int (-1 : Int32), .int (-1 : Int32), .ref ktext, .int (nI 0), .int (nI 0), .ref kline, .ref kwritten, .int (nI 0), .int (nI 0), .ref knode, .int (nI 0), .int (nI 0), .int (nI 0), .int (nI 0)])), (know, .inl (ky 0, 373, .inl knowF)), (ksnaps, .inl (ky 0, 512, .inl ksnapsF)), (kpoured, .inl (ky 0, 36, .inl kpouredF))] sz) := by
  refine Met.ofW (cc := cX12_drawn) (maxL := 3) (ret := (some .int)) (by decide) rfl ?_
  intro p e s m args below meth c s₁ B hml hv
  obtain ⟨rfl, hsz, hP, hK, hD0⟩ := hv
  have hx := B.exec
  have hb := B.bytes
  have hr := B.returns
  have hts := atoms_spec (ws := wsX12_drawn) B.pre
  have hown : s.vm.findClass RX12 = some m.cls := findClass_of_methodNamed B.named
  have hlocks := B.notSynchronized
  have hin12 : ∀ w ∈ u_ws RX12 TX12 52, w ∈ wsX12_drawn := by decide +kernel
  subst hsz
  have hD := hD0.self (sz := s.heap.size)
  generalize hAe : va_A [(o, .inr (12, [.int (nI 0), .ref ktape, .int (nI 0), .int (nI 0), .int (nI 0), .int (nI 0), .int (nI 0), .int (nI 0), .int (nI 0), .int (nI 0), .int (nI 0), .int (nI 0), .long 0, .int (nI 0), .ref know, .ref kread, .ref kkept, .ref ksnaps, .ref kaside, .ref kname, .ref kreadName, .ref kkeptName, .ref kisKept, .ref konces, .int (nI 0), .int (nI 0), .ref kpoured, .ref kfar, .ref ksides, .int (nI 0), .int (-1 : Int32), .int (nI 0), .ref klines, .ref kmet, .int (nI 0), .ref ksunk, .ref ktrying, .int (nI 0), .int (-1 : Int32), .int (-1 : Int32), .ref ktext, .int (nI 0), .int (nI 0), .ref kline, .ref kwritten, .int (nI 0), .int (nI 0), .ref knode, .int (nI 0), .int (nI 0), .int (nI 0), .int (nI 0)])), (know, .inl (ky 0, 373, .inl knowF)), (ksnaps, .inl (ky 0, 512, .inl ksnapsF)), (kpoured, .inl (ky 0, 36, .inl kpouredF))] s.heap.size = A at hD ⊢
  have hA : ∀ q : Nat, s.heap.size ≤ q → A q := fun q h => by rw [← hAe]; exact Or.inr h
  have hS : va_S A s.heap s.heap [] := va_S.rf
  have hP : va_P (dC, dI) vwCl [(o, .inr (12, [.int (nI 0), .ref ktape, .int (nI 0), .int (nI 0), .int (nI 0), .int (nI 0), .int (nI 0), .int (nI 0), .int (nI 0), .int (nI 0), .int (nI 0), .int (nI 0), .long 0, .int (nI 0), .ref know, .ref kread, .ref kkept, .ref ksnaps, .ref kaside, .ref kname, .ref kreadName, .ref kkeptName, .ref kisKept, .ref konces, .int (nI 0), .int (nI 0), .ref kpoured, .ref kfar, .ref ksides, .int (nI 0), .int (-1 : Int32), .int (nI 0), .ref klines, .ref kmet, .int (nI 0), .ref ksunk, .ref ktrying, .int (nI 0), .int (-1 : Int32), .int (-1 : Int32), .ref ktext, .int (nI 0), .int (nI 0), .ref kline, .ref kwritten, .int (nI 0), .int (nI 0), .ref knode, .int (nI 0), .int (nI 0), .int (nI 0), .int (nI 0)])), (know, .inl (ky 0, 373, .inl knowF)), (ksnaps, .inl (ky 0, 512, .inl ksnapsF)), (kpoured, .inl (ky 0, 36, .inl kpouredF))] s.heap := hP
  have hl := lv_entry ([.ref o, .int x, .int y]) (n := 3) (Nat.le_of_ble_eq_true rfl)
  rw [lg_entry_eq]
  generalize (lg_sl ([.ref o, .int x, .int y]) ++ List.replicate (3 - (lg_sl ([.ref o, .int x, .int y])).length) Slot.unset).toArray = ls at hl ⊢
  have hl : lv_has ls 3 [(0, .ref o), (1, .int x), (2, .int y)] := hl
  have hH0 : True := trivial
  refine lv_aload_n hx hb dX12_drawn_0 rfl (lv_at hl 0 rfl) ?_
  refine lv_iconst (v := nI 0) hx hb dX12_drawn_1 (by decide) ?_
  refine va_put (D := (dC, dI)) (ci := 12) (v := .int (nI 0)) (ty := .int) (C := RX12) (T := TX12) (N := 52) hx hb hts hin12 tyX12 tyX12_ok nmX12 hown hK hP hD hS 0 rfl rfl 0 (by decide) (hts (.fieldLink RX12 1 "PorridgeSeaModel" "thrown" "I") (List.mem_of_getElem? (i := 1) rfl)) (fun _ h9 => h9) rfl (by decide +kernel) rfl rfl (Nat.le_of_ble_eq_true rfl) dX12_drawn_2 (fun H locs hP hD hS => ?_)
  have hP : va_P (dC, dI) vwCl [(o, .inr (12, [.int (nI 0), .ref ktape, .int (nI 0), .int (nI 0), .int (nI 0), .int (nI 0), .int (nI 0), .int (nI 0), .int (nI 0), .int (nI 0), .int (nI 0), .int (nI 0), .long 0, .int (nI 0), .ref know, .ref kread, .ref kkept, .ref ksnaps, .ref kaside, .ref kname, .ref kreadName, .ref kkeptName, .ref kisKept, .ref konces, .int (nI 0), .int (nI 0), .ref kpoured, .ref kfar, .ref ksides, .int (nI 0), .int (-1 : Int32), .int (nI 0), .ref klines, .ref kmet, .int (nI 0), .ref ksunk, .ref ktrying, .int (nI 0), .int (-1 : Int32), .int (-1 : Int32), .ref ktext, .int (nI 0), .int (nI 0), .ref kline, .ref kwritten, .int (nI 0), .int (nI 0), .ref knode, .int (nI 0), .int (nI 0), .int (nI 0), .int (nI 0)])), (know, .inl (ky 0, 373, .inl knowF)), (ksnaps, .inl (ky 0, 512, .inl ksnapsF)), (kpoured, .inl (ky 0, 36, .inl kpouredF))] H := hP
  have hD : va_D A [(o, .inr (12, [.int (nI 0), .ref ktape, .int (nI 0), .int (nI 0), .int (nI 0), .int (nI 0), .int (nI 0), .int (nI 0), .int (nI 0), .int (nI 0), .int (nI 0), .int (nI 0), .long 0, .int (nI 0), .ref know, .ref kread, .ref kkept, .ref ksnaps, .ref kaside, .ref kname, .ref kreadName, .ref kkeptName, .ref kisKept, .ref konces, .int (nI 0), .int (nI 0), .ref kpoured, .ref kfar, .ref ksides, .int (nI 0), .int (-1 : Int32), .int (nI 0), .ref klines, .ref kmet, .int (nI 0), .ref ksunk, .ref ktrying, .int (nI 0), .int (-1 : Int32), .int (-1 : Int32), .ref ktext, .int (nI 0), .int (nI 0), .ref kline, .ref kwritten, .int (nI 0), .int (nI 0), .ref knode, .int (nI 0), .int (nI 0), .int (nI 0), .int (nI 0)])), (know, .inl (ky 0, 373, .inl knowF)), (ksnaps, .inl (ky 0, 512, .inl ksnapsF)), (kpoured, .inl (ky 0, 36, .inl kpouredF))] := hD
  refine lv_iload_n hx hb dX12_drawn_5 rfl (lv_at hl 1 rfl) ?_
  refine lv_iconst (v := nI 1) hx hb dX12_drawn_6 (by decide) ?_
  refine lv_bipush (v := nI 60) hx hb dX12_drawn_7 (by decide) ?_
  refine vp_callSi (W.runS (As := [.int x, .int (nI 1), .int (nI 60)]) (rest := []) ⟨hx, hb, hml, hown, hts⟩ (c_isIn l dC dI ky x (nI 1) (nI 60)) (va_cwS 3 hts gX12_drawn_X12_isIn rfl rfl rfl (by decide +kernel) ⟨(Nat.le_of_ble_eq_true rfl), (Nat.le_of_ble_eq_true rfl)⟩) (pre_PS hK hP [] rfl) rfl rfl hl.1 rfl (lv_room (Nat.le_of_ble_eq_true rfl)) dX12_drawn_9 ⟨(Nat.le_of_ble_eq_true rfl), (Nat.le_of_ble_eq_true rfl)⟩) (fun r1 p2 => ?_)
  refine lv_if_ne (tgt := 17) hx hb dX12_drawn_12 (by decide) (fun c3 => ?_) (fun c3 => ?_)
  · obtain ⟨xn, h4, rfl⟩ := nat_of x 61 (by decide) (lf_m_drawn_1 o ktape know kread kkept ksnaps kaside kname kreadName kkeptName kisKept konces kpoured kfar ksides klines kmet ksunk ktrying ktext kline kwritten knode knowF ksnapsF kpouredF x y r1 hN p2 c3)
    refine lv_aload_n hx hb dX12_drawn_17 rfl (lv_at hl 0 rfl) ?_
    refine va_get (D := (dC, dI)) (ci := 12) (v := .ref know) (C := RX12) (T := TX12) (N := 52) hx hb hts hin12 hown hK hP 0 rfl rfl 14 (by decide) (hts (.fieldLink RX12 98 "PorridgeSeaModel" "now" "[I") (List.mem_of_getElem? (i := 2) rfl)) (fun _ h9 => h9) rfl dX12_drawn_18 ?_
    refine lv_bipush (v := nI 67) hx hb dX12_drawn_21 (by decide) ?_
    refine r_iald hx hb hK hP 1 rfl 67 (by decide) (by decide) (nI 0) hN.2.1 dX12_drawn_23 ?_
    refine lv_sipush (v := nI 400) hx hb dX12_drawn_24 (by decide) ?_
    refine lv_icmp_ne (tgt := 32) hx hb dX12_drawn_27 (by decide) (fun c5 => ?_) (fun c5 => absurd c5 (by decide))
    refine lv_aload_n hx hb dX12_drawn_32 rfl (lv_at hl 0 rfl) ?_
    refine r_call_v (wr := [(kpoured, .inl (ky 0, 36, .inl kpouredF))]) (va_runV (As := []) (rest := []) ⟨hx, hb, hml, hown, hts⟩ (c_m_snap l dC dI ky H.size o (nI 0) ktape (nI 0) (nI 0) (nI 0) (nI 0) (nI 0) (nI 0) (nI 0) (nI 0) (nI 0) (nI 0) 0 (nI 0) know kread kkept ksnaps kaside kname kreadName kkeptName kisKept konces (nI 0) kpoured kfar ksides (nI 0) (-1 : Int32) (nI 0) klines kmet (nI 0) ksunk ktrying (nI 0) (-1 : Int32) (-1 : Int32) ktext (nI 0) (nI 0) kline kwritten (nI 0) (nI 0) knode (nI 0) (nI 0) (nI 0) (nI 0) knowF ksnapsF) (cwV 0 hts gX12_drawn_X12_snap rfl rfl rfl (by decide +kernel) ⟨(Nat.le_of_ble_eq_true rfl), (Nat.le_of_ble_eq_true rfl)⟩) (pre_UV hK hP hD [0, 1, 2] (by decide) rfl (ci := 12) (q0 := 0) rfl rfl) rfl rfl hl.1 rfl (lv_room (Nat.le_of_ble_eq_true rfl)) dX12_drawn_33 ⟨(Nat.le_of_ble_eq_true rfl), (Nat.le_of_ble_eq_true rfl)⟩) hP hD hS hA [0, 1, 2] [3] rfl rfl (by decide) (by decide) (fun  u6 H locs p7 hP hD hS => ?_)
    obtain ⟨ksnapsG_8, rfl⟩ : ∃ z, z = u6 := ⟨_, rfl⟩
    refine W.widen (k := 0) (n := 0) (Nat.le_of_ble_eq_true rfl) (Nat.le_of_ble_eq_true rfl) ?_
    have hP : va_P (dC, dI) vwCl [(kpoured, .inl (ky 0, 36, .inl kpouredF)), (o, .inr (12, [.int (nI 0), .ref ktape, .int (nI 0), .int (nI 0), .int (nI 0), .int (nI 0), .int (nI 0), .int (nI 0), .int (nI 0), .int (nI 0), .int (nI 0), .int (nI 0), .long 0, .int (nI 0), .ref know, .ref kread, .ref kkept, .ref ksnaps, .ref kaside, .ref kname, .ref kreadName, .ref kkeptName, .ref kisKept, .ref konces, .int (nI 1), .int (nI 0), .ref kpoured, .ref kfar, .ref ksides, .int (nI 0), .int (-1 : Int32), .int (nI 0), .ref klines, .ref kmet, .int (nI 0), .ref ksunk, .ref ktrying, .int (nI 0), .int (-1 : Int32), .int (-1 : Int32), .ref ktext, .int (nI 0), .int (nI 0), .ref kline, .ref kwritten, .int (nI 0), .int (nI 0), .ref knode, .int (nI 0), .int (nI 0), .int (nI 0), .int (nI 0)])), (know, .inl (ky 0, 373, .inl knowF)), (ksnaps, .inl (ky 0, 512, .inl ksnapsG_8))] H := hP
    have hD : va_D A [(kpoured, .inl (ky 0, 36, .inl kpouredF)), (o, .inr (12, [.int (nI 0), .ref ktape, .int (nI 0), .int (nI 0), .int (nI 0), .int (nI 0), .int (nI 0), .int (nI 0), .int (nI 0), .int (nI 0), .int (nI 0), .int (nI 0), .long 0, .int (nI 0), .ref know, .ref kread, .ref kkept, .ref ksnaps, .ref kaside, .ref kname, .ref kreadName, .ref kkeptName, .ref kisKept, .ref konces, .int (nI 1), .int (nI 0), .ref kpoured, .ref kfar, .ref ksides, .int (nI 0), .int (-1 : Int32), .int (nI 0), .ref klines, .ref kmet, .int (nI 0), .ref ksunk, .ref ktrying, .int (nI 0), .int (-1 : Int32), .int (-1 : Int32), .ref ktext, .int (nI 0), .int (nI 0), .ref kline, .ref kwritten, .int (nI 0), .int (nI 0), .ref knode, .int (nI 0), .int (nI 0), .int (nI 0), .int (nI 0)])), (know, .inl (ky 0, 373, .inl knowF)), (ksnaps, .inl (ky 0, 512, .inl ksnapsG_8))] := hD
    refine lv_aload_n hx hb dX12_drawn_36 rfl (lv_at hl 0 rfl) ?_
    refine lv_iload_n hx hb dX12_drawn_37 rfl (lv_at hl 1 rfl) ?_
    refine lv_iload_n hx hb dX12_drawn_38 rfl (lv_at hl 2 rfl) ?_
    refine r_call_i (wr := [(ksnaps, .inl (ky 0, 512, .inl ksnapsG_8))]) (va_runV (As := [.int (nI xn), .int y]) (rest := []) ⟨hx, hb, hml, hown, hts⟩ (c_m_drawDays l dC dI ky H.size o (nI 0) (nI 0) ktape (nI 0) (nI 0) (nI 0) (nI 0) (nI 0) (nI 0) (nI 0) (nI 0) (nI 0) (nI 0) 0 (nI 0) know kread kkept ksnaps kaside kname kreadName kkeptName kisKept konces (nI 1) (nI 0) kpoured kfar ksides (nI 0) (-1 : Int32) (nI 0) klines kmet (nI 0) ksunk ktrying (nI 0) (-1 : Int32) (-1 : Int32) ktext (nI 0) kline kwritten (nI 0) (nI 0) knode (nI 0) (nI 0) (nI 0) (nI 0) knowF kpouredF xn y hN (by omega)) (cwV 2 hts gX12_drawn_X12_drawDays rfl rfl rfl (by decide +kernel) ⟨(Nat.le_of_ble_eq_true rfl), (Nat.le_of_ble_eq_true rfl)⟩) (pre_UV hK hP hD [1, 2, 0] (by decide) rfl (ci := 12) (q0 := 1) rfl rfl) rfl rfl hl.1 rfl (lv_room (Nat.le_of_ble_eq_true rfl)) dX12_drawn_39 ⟨(Nat.le_of_ble_eq_true rfl), (Nat.le_of_ble_eq_true rfl)⟩) hP hD hS hA [1, 2, 0] [3] rfl rfl (by decide) (by decide) (fun r11 u9 H locs p10 hP hD hS => ?_)
    try dsimp only at p10
    have p12 := p10
    refine W.widen (k := 0) (n := 0) (Nat.le_of_ble_eq_true rfl) (Nat.le_of_ble_eq_true rfl) ?_
    have hP : va_P (dC, dI) vwCl [(ksnaps, .inl (ky 0, 512, .inl ksnapsG_8))] H := hP
    have hD : va_D A [(ksnaps, .inl (ky 0, 512, .inl ksnapsG_8))] := hD
    subst p12
    have hP9 := hP.sub (ws' := []) [] rfl
    have hD9 := hD.sub (ws' := []) [] (by decide) rfl
    refine W.widen (k := 0) (n := 0) (Nat.le_of_ble_eq_true rfl) (Nat.le_of_ble_eq_true rfl) ?_
    exact W.iret (v := nI xn) hx hb hr (fun t ht9 hW9 => ⟨⟨nI xn, (), rfl, (lf_m_drawn_2 o ktape know kread kkept ksnaps kaside kname kreadName kkeptName kisKept konces kpoured kfar ksides klines kmet ksunk ktrying ktext kline kwritten knode knowF ksnapsF kpouredF y r1 xn ksnapsG_8 hN p2 c3 h4), by rw [ht9]; exact hP9, va_K.moved hW9.alike hK, hD9⟩, hS.F ht9⟩) hS.2.2 dX12_drawn_42
  · refine lv_iconst (v := (-1 : Int32)) hx hb dX12_drawn_15 (by decide) ?_
    have hP9 := hP.sub (ws' := []) [] rfl
    have hD9 := hD.sub (ws' := []) [] (by decide) rfl
    refine W.widen (k := 0) (n := 0) (Nat.le_of_ble_eq_true rfl) (Nat.le_of_ble_eq_true rfl) ?_
    exact W.iret (v := (-1 : Int32)) hx hb hr (fun t ht9 hW9 => ⟨⟨(-1 : Int32), (), rfl, (lf_m_drawn_3 o ktape know kread kkept ksnaps kaside kname kreadName kkeptName kisKept konces kpoured kfar ksides klines kmet ksunk ktrying ktext kline kwritten knode knowF ksnapsF kpouredF x y r1 hN p2 c3), by rw [ht9]; exact hP9, va_K.moved hW9.alike hK, hD9⟩, hS.F ht9⟩) hS.2.2 dX12_drawn_16
