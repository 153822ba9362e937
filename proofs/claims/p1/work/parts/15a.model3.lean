theorem dX12_now_0 : decode cX12_now 0 = .ok (.aload_n 0, 1) := by decide +kernel
theorem dX12_now_1 : decode cX12_now 1 = .ok (.iconst 0, 1) := by decide +kernel
theorem dX12_now_2 : decode cX12_now 2 = .ok (.putfield 1, 3) := by decide +kernel
theorem dX12_now_5 : decode cX12_now 5 = .ok (.iconst 0, 1) := by decide +kernel
theorem dX12_now_6 : decode cX12_now 6 = .ok (.istore_n 2, 1) := by decide +kernel
theorem dX12_now_7 : decode cX12_now 7 = .ok (.iload_n 1, 1) := by decide +kernel
theorem dX12_now_8 : decode cX12_now 8 = .ok (.tableswitch 160 0 7 #[48, 56, 64, 77, 82, 116, 144, 152], 48) := by decide +kernel
theorem dX12_now_168 : decode cX12_now 168 = .ok (.iconst (-1), 1) := by decide +kernel
theorem dX12_now_169 : decode cX12_now 169 = .ok (.ireturn, 1) := by decide +kernel
theorem dX12_now_56 : decode cX12_now 56 = .ok (.aload_n 0, 1) := by decide +kernel
theorem dX12_now_57 : decode cX12_now 57 = .ok (.getfield 98, 3) := by decide +kernel
theorem dX12_now_60 : decode cX12_now 60 = .ok (.bipush 67, 2) := by decide +kernel
theorem dX12_now_62 : decode cX12_now 62 = .ok (.iaload, 1) := by decide +kernel
theorem dX12_now_63 : decode cX12_now 63 = .ok (.ireturn, 1) := by decide +kernel
theorem dX12_now_64 : decode cX12_now 64 = .ok (.aload_n 0, 1) := by decide +kernel
theorem dX12_now_65 : decode cX12_now 65 = .ok (.getfield 98, 3) := by decide +kernel
theorem dX12_now_68 : decode cX12_now 68 = .ok (.bipush 68, 2) := by decide +kernel
theorem dX12_now_70 : decode cX12_now 70 = .ok (.iaload, 1) := by decide +kernel
theorem dX12_now_71 : decode cX12_now 71 = .ok (.ireturn, 1) := by decide +kernel
theorem dX12_now_72 : decode cX12_now 72 = .ok (.aload_n 0, 1) := by decide +kernel
theorem dX12_now_73 : decode cX12_now 73 = .ok (.invokevirtual 240, 3) := by decide +kernel
theorem dX12_now_76 : decode cX12_now 76 = .ok (.ifCond .eq 7, 3) := by decide +kernel
theorem dX12_now_83 : decode cX12_now 83 = .ok (.iconst 0, 1) := by decide +kernel
theorem dX12_now_84 : decode cX12_now 84 = .ok (.ireturn, 1) := by decide +kernel
theorem dX12_now_85 : decode cX12_now 85 = .ok (.aload_n 0, 1) := by decide +kernel
theorem dX12_now_86 : decode cX12_now 86 = .ok (.invokevirtual 269, 3) := by decide +kernel
theorem dX12_now_89 : decode cX12_now 89 = .ok (.ireturn, 1) := by decide +kernel
theorem dX12_now_90 : decode cX12_now 90 = .ok (.iconst 0, 1) := by decide +kernel
theorem dX12_now_91 : decode cX12_now 91 = .ok (.istore_n 3, 1) := by decide +kernel
theorem dX12_now_92 : decode cX12_now 92 = .ok (.iload_n 3, 1) := by decide +kernel
theorem dX12_now_93 : decode cX12_now 93 = .ok (.aload_n 0, 1) := by decide +kernel
theorem dX12_now_94 : decode cX12_now 94 = .ok (.getfield 98, 3) := by decide +kernel
theorem dX12_now_97 : decode cX12_now 97 = .ok (.iconst 3, 1) := by decide +kernel
theorem dX12_now_98 : decode cX12_now 98 = .ok (.iaload, 1) := by decide +kernel
theorem dX12_now_99 : decode cX12_now 99 = .ok (.if_icmp .ge 23, 3) := by decide +kernel
theorem dX12_now_122 : decode cX12_now 122 = .ok (.iload_n 2, 1) := by decide +kernel
theorem dX12_now_123 : decode cX12_now 123 = .ok (.ireturn, 1) := by decide +kernel
theorem dX12_now_124 : decode cX12_now 124 = .ok (.iconst 0, 1) := by decide +kernel
theorem dX12_now_125 : decode cX12_now 125 = .ok (.istore_n 3, 1) := by decide +kernel
theorem dX12_now_126 : decode cX12_now 126 = .ok (.iload_n 3, 1) := by decide +kernel
theorem dX12_now_127 : decode cX12_now 127 = .ok (.bipush 36, 2) := by decide +kernel
theorem dX12_now_129 : decode cX12_now 129 = .ok (.if_icmp .ge 21, 3) := by decide +kernel
theorem dX12_now_132 : decode cX12_now 132 = .ok (.iload_n 2, 1) := by decide +kernel
theorem dX12_now_133 : decode cX12_now 133 = .ok (.aload_n 0, 1) := by decide +kernel
theorem dX12_now_134 : decode cX12_now 134 = .ok (.getfield 98, 3) := by decide +kernel
theorem dX12_now_137 : decode cX12_now 137 = .ok (.bipush 71, 2) := by decide +kernel
theorem dX12_now_139 : decode cX12_now 139 = .ok (.iload_n 3, 1) := by decide +kernel
theorem dX12_now_140 : decode cX12_now 140 = .ok (.iadd, 1) := by decide +kernel
theorem dX12_now_141 : decode cX12_now 141 = .ok (.iaload, 1) := by decide +kernel
theorem dX12_now_142 : decode cX12_now 142 = .ok (.iadd, 1) := by decide +kernel
theorem dX12_now_143 : decode cX12_now 143 = .ok (.istore_n 2, 1) := by decide +kernel
theorem dX12_now_144 : decode cX12_now 144 = .ok (.iinc 3 1, 3) := by decide +kernel
theorem dX12_now_147 : decode cX12_now 147 = .ok (.goto (-21), 3) := by decide +kernel
theorem dX12_now_150 : decode cX12_now 150 = .ok (.iload_n 2, 1) := by decide +kernel
theorem dX12_now_151 : decode cX12_now 151 = .ok (.ireturn, 1) := by decide +kernel
theorem dX12_now_152 : decode cX12_now 152 = .ok (.aload_n 0, 1) := by decide +kernel
theorem dX12_now_153 : decode cX12_now 153 = .ok (.getfield 98, 3) := by decide +kernel
theorem dX12_now_156 : decode cX12_now 156 = .ok (.bipush 69, 2) := by decide +kernel
theorem dX12_now_158 : decode cX12_now 158 = .ok (.iaload, 1) := by decide +kernel
theorem dX12_now_159 : decode cX12_now 159 = .ok (.ireturn, 1) := by decide +kernel
theorem dX12_now_160 : decode cX12_now 160 = .ok (.aload_n 0, 1) := by decide +kernel
theorem dX12_now_161 : decode cX12_now 161 = .ok (.getfield 98, 3) := by decide +kernel
theorem dX12_now_164 : decode cX12_now 164 = .ok (.bipush 70, 2) := by decide +kernel
theorem dX12_now_166 : decode cX12_now 166 = .ok (.iaload, 1) := by decide +kernel
theorem dX12_now_167 : decode cX12_now 167 = .ok (.ireturn, 1) := by decide +kernel
theorem dX12_count_0 : decode cX12_count 0 = .ok (.aload_n 0, 1) := by decide +kernel
theorem dX12_count_1 : decode cX12_count 1 = .ok (.iconst 0, 1) := by decide +kernel
theorem dX12_count_2 : decode cX12_count 2 = .ok (.putfield 1, 3) := by decide +kernel
theorem dX12_count_5 : decode cX12_count 5 = .ok (.iload_n 1, 1) := by decide +kernel
theorem dX12_count_6 : decode cX12_count 6 = .ok (.tableswitch 90 0 6 #[42, 49, 56, 63, 70, 77, 85], 42) := by decide +kernel
theorem dX12_count_96 : decode cX12_count 96 = .ok (.iconst (-1), 1) := by decide +kernel
theorem dX12_count_97 : decode cX12_count 97 = .ok (.ireturn, 1) := by decide +kernel
theorem dX12_count_48 : decode cX12_count 48 = .ok (.aload_n 0, 1) := by decide +kernel
theorem dX12_count_49 : decode cX12_count 49 = .ok (.getfield 98, 3) := by decide +kernel
theorem dX12_count_52 : decode cX12_count 52 = .ok (.iconst 0, 1) := by decide +kernel
theorem dX12_count_53 : decode cX12_count 53 = .ok (.iaload, 1) := by decide +kernel
theorem dX12_count_54 : decode cX12_count 54 = .ok (.ireturn, 1) := by decide +kernel
theorem dX12_count_55 : decode cX12_count 55 = .ok (.aload_n 0, 1) := by decide +kernel
theorem dX12_count_56 : decode cX12_count 56 = .ok (.getfield 98, 3) := by decide +kernel
theorem dX12_count_59 : decode cX12_count 59 = .ok (.iconst 1, 1) := by decide +kernel
theorem dX12_count_60 : decode cX12_count 60 = .ok (.iaload, 1) := by decide +kernel
theorem dX12_count_61 : decode cX12_count 61 = .ok (.ireturn, 1) := by decide +kernel
theorem dX12_count_62 : decode cX12_count 62 = .ok (.aload_n 0, 1) := by decide +kernel
theorem dX12_count_63 : decode cX12_count 63 = .ok (.getfield 98, 3) := by decide +kernel
theorem dX12_count_66 : decode cX12_count 66 = .ok (.iconst 2, 1) := by decide +kernel
theorem dX12_count_67 : decode cX12_count 67 = .ok (.iaload, 1) := by decide +kernel
theorem dX12_count_68 : decode cX12_count 68 = .ok (.ireturn, 1) := by decide +kernel
theorem dX12_count_69 : decode cX12_count 69 = .ok (.aload_n 0, 1) := by decide +kernel
theorem dX12_count_70 : decode cX12_count 70 = .ok (.getfield 98, 3) := by decide +kernel
theorem dX12_count_73 : decode cX12_count 73 = .ok (.iconst 3, 1) := by decide +kernel
theorem dX12_count_74 : decode cX12_count 74 = .ok (.iaload, 1) := by decide +kernel
theorem dX12_count_75 : decode cX12_count 75 = .ok (.ireturn, 1) := by decide +kernel
theorem dX12_count_76 : decode cX12_count 76 = .ok (.aload_n 0, 1) := by decide +kernel
theorem dX12_count_77 : decode cX12_count 77 = .ok (.getfield 98, 3) := by decide +kernel
theorem dX12_count_80 : decode cX12_count 80 = .ok (.iconst 5, 1) := by decide +kernel
theorem dX12_count_81 : decode cX12_count 81 = .ok (.iaload, 1) := by decide +kernel
theorem dX12_count_82 : decode cX12_count 82 = .ok (.ireturn, 1) := by decide +kernel
theorem dX12_count_83 : decode cX12_count 83 = .ok (.aload_n 0, 1) := by decide +kernel
theorem dX12_count_84 : decode cX12_count 84 = .ok (.getfield 98, 3) := by decide +kernel
theorem dX12_count_87 : decode cX12_count 87 = .ok (.bipush 6, 2) := by decide +kernel
theorem dX12_count_89 : decode cX12_count 89 = .ok (.iaload, 1) := by decide +kernel
theorem dX12_count_90 : decode cX12_count 90 = .ok (.ireturn, 1) := by decide +kernel
theorem dX12_count_91 : decode cX12_count 91 = .ok (.aload_n 0, 1) := by decide +kernel
theorem dX12_count_92 : decode cX12_count 92 = .ok (.getfield 11, 3) := by decide +kernel
theorem dX12_count_95 : decode cX12_count 95 = .ok (.ireturn, 1) := by decide +kernel
theorem dX12_snap_0 : decode cX12_snap 0 = .ok (.aload_n 0, 1) := by decide +kernel
theorem dX12_snap_1 : decode cX12_snap 1 = .ok (.getfield 237, 3) := by decide +kernel
theorem dX12_snap_4 : decode cX12_snap 4 = .ok (.bipush 8, 2) := by decide +kernel
theorem dX12_snap_6 : decode cX12_snap 6 = .ok (.if_icmp .ne 43, 3) := by decide +kernel
theorem dX12_snap_49 : decode cX12_snap 49 = .ok (.iconst 0, 1) := by decide +kernel
theorem dX12_snap_50 : decode cX12_snap 50 = .ok (.istore_n 1, 1) := by decide +kernel
theorem dX12_snap_51 : decode cX12_snap 51 = .ok (.iload_n 1, 1) := by decide +kernel
theorem dX12_snap_52 : decode cX12_snap 52 = .ok (.bipush 64, 2) := by decide +kernel
theorem dX12_snap_54 : decode cX12_snap 54 = .ok (.if_icmp .ge 32, 3) := by decide +kernel
theorem dX12_snap_57 : decode cX12_snap 57 = .ok (.aload_n 0, 1) := by decide +kernel
theorem dX12_snap_58 : decode cX12_snap 58 = .ok (.getfield 107, 3) := by decide +kernel
theorem dX12_snap_61 : decode cX12_snap 61 = .ok (.bipush 64, 2) := by decide +kernel
theorem dX12_snap_63 : decode cX12_snap 63 = .ok (.aload_n 0, 1) := by decide +kernel
theorem dX12_snap_64 : decode cX12_snap 64 = .ok (.getfield 237, 3) := by decide +kernel
theorem dX12_snap_67 : decode cX12_snap 67 = .ok (.imul, 1) := by decide +kernel
theorem dX12_snap_68 : decode cX12_snap 68 = .ok (.iload_n 1, 1) := by decide +kernel
theorem dX12_snap_69 : decode cX12_snap 69 = .ok (.iadd, 1) := by decide +kernel
theorem dX12_snap_70 : decode cX12_snap 70 = .ok (.aload_n 0, 1) := by decide +kernel
theorem dX12_snap_71 : decode cX12_snap 71 = .ok (.getfield 98, 3) := by decide +kernel
theorem dX12_snap_74 : decode cX12_snap 74 = .ok (.bipush 67, 2) := by decide +kernel
theorem dX12_snap_76 : decode cX12_snap 76 = .ok (.iload_n 1, 1) := by decide +kernel
theorem dX12_snap_77 : decode cX12_snap 77 = .ok (.iadd, 1) := by decide +kernel
theorem dX12_snap_78 : decode cX12_snap 78 = .ok (.iaload, 1) := by decide +kernel
theorem dX12_snap_79 : decode cX12_snap 79 = .ok (.iastore, 1) := by decide +kernel
theorem dX12_snap_80 : decode cX12_snap 80 = .ok (.iinc 1 1, 3) := by decide +kernel
theorem dX12_snap_83 : decode cX12_snap 83 = .ok (.goto (-32), 3) := by decide +kernel
theorem dX12_snap_86 : decode cX12_snap 86 = .ok (.aload_n 0, 1) := by decide +kernel
theorem dX12_snap_87 : decode cX12_snap 87 = .ok (.dup, 1) := by decide +kernel
theorem dX12_snap_88 : decode cX12_snap 88 = .ok (.getfield 237, 3) := by decide +kernel
theorem dX12_snap_91 : decode cX12_snap 91 = .ok (.iconst 1, 1) := by decide +kernel
theorem dX12_snap_92 : decode cX12_snap 92 = .ok (.iadd, 1) := by decide +kernel
theorem dX12_snap_93 : decode cX12_snap 93 = .ok (.putfield 237, 3) := by decide +kernel
theorem dX12_snap_96 : decode cX12_snap 96 = .ok (.return_, 1) := by decide +kernel
theorem dX12_doStir_0 : decode cX12_doStir 0 = .ok (.iconst 0, 1) := by decide +kernel
theorem dX12_doStir_1 : decode cX12_doStir 1 = .ok (.istore_n 2, 1) := by decide +kernel
theorem dX12_doStir_2 : decode cX12_doStir 2 = .ok (.iload_n 2, 1) := by decide +kernel
theorem dX12_doStir_3 : decode cX12_doStir 3 = .ok (.bipush 36, 2) := by decide +kernel
theorem dX12_doStir_5 : decode cX12_doStir 5 = .ok (.if_icmp .ge 16, 3) := by decide +kernel
theorem dX12_doStir_8 : decode cX12_doStir 8 = .ok (.aload_n 0, 1) := by decide +kernel
theorem dX12_doStir_9 : decode cX12_doStir 9 = .ok (.getfield 130, 3) := by decide +kernel
theorem dX12_doStir_12 : decode cX12_doStir 12 = .ok (.iload_n 2, 1) := by decide +kernel
theorem dX12_doStir_13 : decode cX12_doStir 13 = .ok (.iconst 0, 1) := by decide +kernel
theorem dX12_doStir_14 : decode cX12_doStir 14 = .ok (.iastore, 1) := by decide +kernel
theorem dX12_doStir_15 : decode cX12_doStir 15 = .ok (.iinc 2 1, 3) := by decide +kernel
theorem dX12_doStir_18 : decode cX12_doStir 18 = .ok (.goto (-16), 3) := by decide +kernel
theorem dX12_doStir_21 : decode cX12_doStir 21 = .ok (.iconst 0, 1) := by decide +kernel
theorem dX12_doStir_22 : decode cX12_doStir 22 = .ok (.istore_n 2, 1) := by decide +kernel
theorem dX12_doStir_23 : decode cX12_doStir 23 = .ok (.iload_n 2, 1) := by decide +kernel
theorem dX12_doStir_24 : decode cX12_doStir 24 = .ok (.bipush 36, 2) := by decide +kernel
theorem dX12_doStir_26 : decode cX12_doStir 26 = .ok (.if_icmp .ge 37, 3) := by decide +kernel
theorem dX12_doStir_29 : decode cX12_doStir 29 = .ok (.aload_n 0, 1) := by decide +kernel
theorem dX12_doStir_30 : decode cX12_doStir 30 = .ok (.iload_n 2, 1) := by decide +kernel
theorem dX12_doStir_31 : decode cX12_doStir 31 = .ok (.invokevirtual 279, 3) := by decide +kernel
theorem dX12_doStir_34 : decode cX12_doStir 34 = .ok (.ifCond .eq 23, 3) := by decide +kernel
theorem dX12_doStir_57 : decode cX12_doStir 57 = .ok (.iinc 2 1, 3) := by decide +kernel
theorem dX12_doStir_60 : decode cX12_doStir 60 = .ok (.goto (-37), 3) := by decide +kernel
theorem dX12_doStir_37 : decode cX12_doStir 37 = .ok (.aload_n 0, 1) := by decide +kernel
theorem dX12_doStir_38 : decode cX12_doStir 38 = .ok (.getfield 130, 3) := by decide +kernel
theorem dX12_doStir_41 : decode cX12_doStir 41 = .ok (.aload_n 0, 1) := by decide +kernel
theorem dX12_doStir_42 : decode cX12_doStir 42 = .ok (.iload_n 2, 1) := by decide +kernel
theorem dX12_doStir_43 : decode cX12_doStir 43 = .ok (.iload_n 1, 1) := by decide +kernel
theorem dX12_doStir_44 : decode cX12_doStir 44 = .ok (.invokevirtual 282, 3) := by decide +kernel
theorem dX12_doStir_47 : decode cX12_doStir 47 = .ok (.aload_n 0, 1) := by decide +kernel
theorem dX12_doStir_48 : decode cX12_doStir 48 = .ok (.getfield 98, 3) := by decide +kernel
theorem dX12_doStir_51 : decode cX12_doStir 51 = .ok (.bipush 71, 2) := by decide +kernel
theorem dX12_doStir_53 : decode cX12_doStir 53 = .ok (.iload_n 2, 1) := by decide +kernel
theorem dX12_doStir_54 : decode cX12_doStir 54 = .ok (.iadd, 1) := by decide +kernel
theorem dX12_doStir_55 : decode cX12_doStir 55 = .ok (.iaload, 1) := by decide +kernel
theorem dX12_doStir_56 : decode cX12_doStir 56 = .ok (.iastore, 1) := by decide +kernel
theorem dX12_doStir_63 : decode cX12_doStir 63 = .ok (.iconst 0, 1) := by decide +kernel
theorem dX12_doStir_64 : decode cX12_doStir 64 = .ok (.istore_n 2, 1) := by decide +kernel
theorem dX12_doStir_65 : decode cX12_doStir 65 = .ok (.iload_n 2, 1) := by decide +kernel
theorem dX12_doStir_66 : decode cX12_doStir 66 = .ok (.bipush 36, 2) := by decide +kernel
theorem dX12_doStir_68 : decode cX12_doStir 68 = .ok (.if_icmp .ge 24, 3) := by decide +kernel
theorem dX12_doStir_71 : decode cX12_doStir 71 = .ok (.aload_n 0, 1) := by decide +kernel
theorem dX12_doStir_72 : decode cX12_doStir 72 = .ok (.getfield 98, 3) := by decide +kernel
theorem dX12_doStir_75 : decode cX12_doStir 75 = .ok (.bipush 71, 2) := by decide +kernel
theorem dX12_doStir_77 : decode cX12_doStir 77 = .ok (.iload_n 2, 1) := by decide +kernel
theorem dX12_doStir_78 : decode cX12_doStir 78 = .ok (.iadd, 1) := by decide +kernel
theorem dX12_doStir_79 : decode cX12_doStir 79 = .ok (.aload_n 0, 1) := by decide +kernel
theorem dX12_doStir_80 : decode cX12_doStir 80 = .ok (.getfield 130, 3) := by decide +kernel
theorem dX12_doStir_83 : decode cX12_doStir 83 = .ok (.iload_n 2, 1) := by decide +kernel
theorem dX12_doStir_84 : decode cX12_doStir 84 = .ok (.iaload, 1) := by decide +kernel
theorem dX12_doStir_85 : decode cX12_doStir 85 = .ok (.iastore, 1) := by decide +kernel
theorem dX12_doStir_86 : decode cX12_doStir 86 = .ok (.iinc 2 1, 3) := by decide +kernel
theorem dX12_doStir_89 : decode cX12_doStir 89 = .ok (.goto (-24), 3) := by decide +kernel
theorem dX12_doStir_92 : decode cX12_doStir 92 = .ok (.iconst 0, 1) := by decide +kernel
theorem dX12_doStir_93 : decode cX12_doStir 93 = .ok (.istore_n 2, 1) := by decide +kernel
theorem dX12_doStir_94 : decode cX12_doStir 94 = .ok (.iload_n 2, 1) := by decide +kernel
theorem dX12_doStir_95 : decode cX12_doStir 95 = .ok (.aload_n 0, 1) := by decide +kernel
theorem dX12_doStir_96 : decode cX12_doStir 96 = .ok (.getfield 98, 3) := by decide +kernel
theorem dX12_doStir_99 : decode cX12_doStir 99 = .ok (.iconst 2, 1) := by decide +kernel
theorem dX12_doStir_100 : decode cX12_doStir 100 = .ok (.iaload, 1) := by decide +kernel
theorem dX12_doStir_101 : decode cX12_doStir 101 = .ok (.if_icmp .ge 32, 3) := by decide +kernel
theorem dX12_doStir_133 : decode cX12_doStir 133 = .ok (.iconst 0, 1) := by decide +kernel
theorem dX12_doStir_134 : decode cX12_doStir 134 = .ok (.istore_n 2, 1) := by decide +kernel
theorem dX12_doStir_135 : decode cX12_doStir 135 = .ok (.iload_n 2, 1) := by decide +kernel
theorem dX12_doStir_136 : decode cX12_doStir 136 = .ok (.aload_n 0, 1) := by decide +kernel
theorem dX12_doStir_137 : decode cX12_doStir 137 = .ok (.getfield 98, 3) := by decide +kernel
theorem dX12_doStir_140 : decode cX12_doStir 140 = .ok (.iconst 3, 1) := by decide +kernel
theorem dX12_doStir_141 : decode cX12_doStir 141 = .ok (.iaload, 1) := by decide +kernel
theorem dX12_doStir_142 : decode cX12_doStir 142 = .ok (.if_icmp .ge 40, 3) := by decide +kernel
theorem dX12_doStir_182 : decode cX12_doStir 182 = .ok (.aload_n 0, 1) := by decide +kernel
theorem dX12_doStir_183 : decode cX12_doStir 183 = .ok (.getfield 98, 3) := by decide +kernel
theorem dX12_doStir_186 : decode cX12_doStir 186 = .ok (.bipush 69, 2) := by decide +kernel
theorem dX12_doStir_188 : decode cX12_doStir 188 = .ok (.dup2, 1) := by decide +kernel
theorem dX12_doStir_189 : decode cX12_doStir 189 = .ok (.iaload, 1) := by decide +kernel
theorem dX12_doStir_190 : decode cX12_doStir 190 = .ok (.iconst 1, 1) := by decide +kernel
theorem dX12_doStir_191 : decode cX12_doStir 191 = .ok (.iadd, 1) := by decide +kernel
theorem dX12_doStir_192 : decode cX12_doStir 192 = .ok (.iastore, 1) := by decide +kernel
theorem dX12_doStir_193 : decode cX12_doStir 193 = .ok (.return_, 1) := by decide +kernel
theorem dX12_live_0 : decode cX12_live 0 = .ok (.iload_n 1, 1) := by decide +kernel
theorem dX12_live_1 : decode cX12_live 1 = .ok (.tableswitch 149 0 3 #[31, 37, 97, 123], 31) := by decide +kernel
theorem dX12_live_32 : decode cX12_live 32 = .ok (.aload_n 0, 1) := by decide +kernel
theorem dX12_live_33 : decode cX12_live 33 = .ok (.iload_n 2, 1) := by decide +kernel
theorem dX12_live_34 : decode cX12_live 34 = .ok (.invokevirtual 285, 3) := by decide +kernel
theorem dX12_live_37 : decode cX12_live 37 = .ok (.return_, 1) := by decide +kernel
theorem dX12_live_98 : decode cX12_live 98 = .ok (.aload_n 0, 1) := by decide +kernel
theorem dX12_live_99 : decode cX12_live 99 = .ok (.getfield 98, 3) := by decide +kernel
theorem dX12_live_102 : decode cX12_live 102 = .ok (.bipush 71, 2) := by decide +kernel
theorem dX12_live_104 : decode cX12_live 104 = .ok (.iload_n 2, 1) := by decide +kernel
theorem dX12_live_105 : decode cX12_live 105 = .ok (.iadd, 1) := by decide +kernel
theorem dX12_live_106 : decode cX12_live 106 = .ok (.bipush 9, 2) := by decide +kernel
theorem dX12_live_108 : decode cX12_live 108 = .ok (.aload_n 0, 1) := by decide +kernel
theorem dX12_live_109 : decode cX12_live 109 = .ok (.getfield 98, 3) := by decide +kernel
theorem dX12_live_112 : decode cX12_live 112 = .ok (.bipush 71, 2) := by decide +kernel
theorem dX12_live_114 : decode cX12_live 114 = .ok (.iload_n 2, 1) := by decide +kernel
theorem dX12_live_115 : decode cX12_live 115 = .ok (.iadd, 1) := by decide +kernel
theorem dX12_live_116 : decode cX12_live 116 = .ok (.iaload, 1) := by decide +kernel
theorem dX12_live_117 : decode cX12_live 117 = .ok (.iload_n 3, 1) := by decide +kernel
theorem dX12_live_118 : decode cX12_live 118 = .ok (.iadd, 1) := by decide +kernel
theorem dX12_live_119 : decode cX12_live 119 = .ok (.invokestatic 288, 3) := by decide +kernel
theorem dX12_live_122 : decode cX12_live 122 = .ok (.iastore, 1) := by decide +kernel
theorem dX12_live_123 : decode cX12_live 123 = .ok (.return_, 1) := by decide +kernel
theorem dX12_live_150 : decode cX12_live 150 = .ok (.aload_n 0, 1) := by decide +kernel
theorem dX12_live_151 : decode cX12_live 151 = .ok (.getfield 98, 3) := by decide +kernel
theorem dX12_live_154 : decode cX12_live 154 = .ok (.bipush 68, 2) := by decide +kernel
theorem dX12_live_156 : decode cX12_live 156 = .ok (.bipush 30, 2) := by decide +kernel
theorem dX12_live_158 : decode cX12_live 158 = .ok (.aload_n 0, 1) := by decide +kernel
theorem dX12_live_159 : decode cX12_live 159 = .ok (.getfield 98, 3) := by decide +kernel
theorem dX12_live_162 : decode cX12_live 162 = .ok (.bipush 68, 2) := by decide +kernel
theorem dX12_live_164 : decode cX12_live 164 = .ok (.iaload, 1) := by decide +kernel
theorem dX12_live_165 : decode cX12_live 165 = .ok (.iload_n 2, 1) := by decide +kernel
theorem dX12_live_166 : decode cX12_live 166 = .ok (.iadd, 1) := by decide +kernel
theorem dX12_live_167 : decode cX12_live 167 = .ok (.invokestatic 288, 3) := by decide +kernel
theorem dX12_live_170 : decode cX12_live 170 = .ok (.iastore, 1) := by decide +kernel
theorem dX12_live_171 : decode cX12_live 171 = .ok (.return_, 1) := by decide +kernel
theorem dX12_why_0 : decode cX12_why 0 = .ok (.iload_n 1, 1) := by decide +kernel
theorem dX12_why_1 : decode cX12_why 1 = .ok (.tableswitch 152 0 3 #[31, 44, 114, 134], 31) := by decide +kernel
theorem dX12_why_32 : decode cX12_why 32 = .ok (.aload_n 0, 1) := by decide +kernel
theorem dX12_why_33 : decode cX12_why 33 = .ok (.invokevirtual 240, 3) := by decide +kernel
theorem dX12_why_36 : decode cX12_why 36 = .ok (.ifCond .eq 7, 3) := by decide +kernel
theorem dX12_why_43 : decode cX12_why 43 = .ok (.iconst 0, 1) := by decide +kernel
theorem dX12_why_44 : decode cX12_why 44 = .ok (.ireturn, 1) := by decide +kernel
theorem dX12_why_153 : decode cX12_why 153 = .ok (.aload_n 0, 1) := by decide +kernel
theorem dX12_why_154 : decode cX12_why 154 = .ok (.getfield 98, 3) := by decide +kernel
theorem dX12_why_157 : decode cX12_why 157 = .ok (.bipush 68, 2) := by decide +kernel
theorem dX12_why_159 : decode cX12_why 159 = .ok (.iaload, 1) := by decide +kernel
theorem dX12_why_160 : decode cX12_why 160 = .ok (.bipush 30, 2) := by decide +kernel
theorem dX12_why_162 : decode cX12_why 162 = .ok (.if_icmp .ne 7, 3) := by decide +kernel
theorem dX12_why_169 : decode cX12_why 169 = .ok (.iconst 0, 1) := by decide +kernel
theorem dX12_why_170 : decode cX12_why 170 = .ok (.ireturn, 1) := by decide +kernel
theorem dX12_why_115 : decode cX12_why 115 = .ok (.aload_n 0, 1) := by decide +kernel
theorem dX12_why_116 : decode cX12_why 116 = .ok (.getfield 98, 3) := by decide +kernel
theorem dX12_why_119 : decode cX12_why 119 = .ok (.bipush 71, 2) := by decide +kernel
theorem dX12_why_121 : decode cX12_why 121 = .ok (.iload_n 2, 1) := by decide +kernel
theorem dX12_why_122 : decode cX12_why 122 = .ok (.iadd, 1) := by decide +kernel
theorem dX12_why_123 : decode cX12_why 123 = .ok (.iaload, 1) := by decide +kernel
theorem dX12_why_124 : decode cX12_why 124 = .ok (.bipush 9, 2) := by decide +kernel
theorem dX12_why_126 : decode cX12_why 126 = .ok (.if_icmp .ne 7, 3) := by decide +kernel
theorem dX12_why_133 : decode cX12_why 133 = .ok (.iconst 0, 1) := by decide +kernel
theorem dX12_why_134 : decode cX12_why 134 = .ok (.ireturn, 1) := by decide +kernel
theorem dX12_why_135 : decode cX12_why 135 = .ok (.aload_n 0, 1) := by decide +kernel
theorem dX12_why_136 : decode cX12_why 136 = .ok (.getfield 98, 3) := by decide +kernel
theorem dX12_why_139 : decode cX12_why 139 = .ok (.bipush 71, 2) := by decide +kernel
theorem dX12_why_141 : decode cX12_why 141 = .ok (.iload_n 2, 1) := by decide +kernel
theorem dX12_why_142 : decode cX12_why 142 = .ok (.iadd, 1) := by decide +kernel
theorem dX12_why_143 : decode cX12_why 143 = .ok (.iaload, 1) := by decide +kernel
theorem dX12_why_144 : decode cX12_why 144 = .ok (.ifCond .ne 7, 3) := by decide +kernel
theorem dX12_why_147 : decode cX12_why 147 = .ok (.iconst 1, 1) := by decide +kernel
theorem dX12_why_148 : decode cX12_why 148 = .ok (.goto 4, 3) := by decide +kernel
theorem dX12_why_152 : decode cX12_why 152 = .ok (.ireturn, 1) := by decide +kernel
theorem dX12_act_0 : decode cX12_act 0 = .ok (.iload 4, 2) := by decide +kernel
theorem dX12_act_2 : decode cX12_act 2 = .ok (.ifCond .ne 5, 3) := by decide +kernel
theorem dX12_act_5 : decode cX12_act 5 = .ok (.iconst (-1), 1) := by decide +kernel
theorem dX12_act_6 : decode cX12_act 6 = .ok (.ireturn, 1) := by decide +kernel
theorem dX12_act_7 : decode cX12_act 7 = .ok (.aload_n 0, 1) := by decide +kernel
theorem dX12_act_8 : decode cX12_act 8 = .ok (.iload_n 1, 1) := by decide +kernel
theorem dX12_act_9 : decode cX12_act 9 = .ok (.iload_n 2, 1) := by decide +kernel
theorem dX12_act_10 : decode cX12_act 10 = .ok (.iload_n 3, 1) := by decide +kernel
theorem dX12_act_11 : decode cX12_act 11 = .ok (.invokevirtual 291, 3) := by decide +kernel
theorem dX12_act_14 : decode cX12_act 14 = .ok (.istore 5, 2) := by decide +kernel
theorem dX12_act_16 : decode cX12_act 16 = .ok (.iload 5, 2) := by decide +kernel
theorem dX12_act_18 : decode cX12_act 18 = .ok (.ifCond .eq 6, 3) := by decide +kernel
theorem dX12_act_24 : decode cX12_act 24 = .ok (.aload_n 0, 1) := by decide +kernel
theorem dX12_act_25 : decode cX12_act 25 = .ok (.invokevirtual 295, 3) := by decide +kernel
theorem dX12_act_28 : decode cX12_act 28 = .ok (.aload_n 0, 1) := by decide +kernel
theorem dX12_act_29 : decode cX12_act 29 = .ok (.iload_n 1, 1) := by decide +kernel
theorem dX12_act_30 : decode cX12_act 30 = .ok (.iload_n 2, 1) := by decide +kernel
theorem dX12_act_31 : decode cX12_act 31 = .ok (.iload_n 3, 1) := by decide +kernel
theorem dX12_act_32 : decode cX12_act 32 = .ok (.invokevirtual 298, 3) := by decide +kernel
theorem dX12_act_35 : decode cX12_act 35 = .ok (.iconst 0, 1) := by decide +kernel
theorem dX12_act_36 : decode cX12_act 36 = .ok (.ireturn, 1) := by decide +kernel
theorem dX12_act_21 : decode cX12_act 21 = .ok (.iload 5, 2) := by decide +kernel
theorem dX12_act_23 : decode cX12_act 23 = .ok (.ireturn, 1) := by decide +kernel
set_option maxRecDepth 20000 in
theorem ggX12_now_X12_hasSkin : GoodIn wsX12_now wsX12_hasSkin := goodIn_r _ [7, 2, 28, 29, 30, 31, 32, 33, 34, 35, 36, 37, 38, 39, 40, 41, 42, 43, 44, 45, 46, 47, 48, 49, 50, 51, 52, 53, 54, 55, 56, 57, 58, 59, 60, 61, 62, 63, 64, 65, 66, 67, 68, 69, 70, 71, 72, 73, 74, 75, 76, 77, 78, 79] (by decide +kernel) (by decide +kernel)
set_option maxRecDepth 20000 in
theorem ggX12_now_X12_eaten : GoodIn wsX12_now wsX12_eaten := goodIn_r _ [11, 2, 12, 13, 14, 6, 15, 28, 29, 30, 31, 32, 33, 34, 35, 36, 37, 38, 39, 40, 41, 42, 43, 44, 45, 46, 47, 48, 49, 50, 51, 52, 53, 54, 55, 56, 57, 58, 59, 60, 61, 62, 63, 64, 65, 66, 67, 68, 69, 70, 71, 72, 73, 74, 75, 76, 77, 78, 79] (by decide +kernel) (by decide +kernel)
set_option maxRecDepth 20000 in
theorem ggX12_doStir_X12_isInSea : GoodIn wsX12_doStir wsX12_isInSea := goodIn_r _ [7, 2, 16, 17, 18, 19, 20, 21, 22, 23, 24, 25, 26, 27, 28, 29, 30, 31, 32, 33, 34, 35, 36, 37, 38, 39, 40, 41, 42, 43, 44, 45, 46, 47, 48, 49, 50, 51, 52, 53, 54, 55, 56, 57, 58, 59, 60, 61, 62, 63, 64, 65, 66, 67] (by decide +kernel) (by decide +kernel)
set_option maxRecDepth 20000 in
theorem ggX12_doStir_X12_stirred : GoodIn wsX12_doStir wsX12_stirred := goodIn_r _ [11, 2, 16, 17, 18, 19, 20, 21, 22, 23, 24, 25, 26, 27, 28, 29, 30, 31, 32, 33, 34, 35, 36, 37, 38, 39, 40, 41, 42, 43, 44, 45, 46, 47, 48, 49, 50, 51, 52, 53, 54, 55, 56, 57, 58, 59, 60, 61, 62, 63, 64, 65, 66, 67] (by decide +kernel) (by decide +kernel)
set_option maxRecDepth 20000 in
theorem ggX12_live_X12_doStir : GoodIn wsX12_live wsX12_doStir := goodIn_r _ [6, 7, 1, 8, 9, 10, 5, 11, 12, 13, 14, 15, 16, 17, 18, 19, 42, 43, 44, 45, 46, 47, 48, 49, 50, 51, 52, 53, 54, 55, 56, 57, 58, 59, 60, 61, 62, 63, 64, 65, 66, 67, 68, 69, 70, 71, 72, 73, 74, 75, 76, 77, 78, 79, 80, 81, 82, 83, 84, 85, 86, 87, 88, 89, 90, 91, 92, 93] (by decide +kernel) (by decide +kernel)
set_option maxRecDepth 20000 in
theorem ggX12_live_X12_least : GoodIn wsX12_live wsX12_least := goodIn_r _ [41] (by decide +kernel) (by decide +kernel)
set_option maxRecDepth 20000 in
theorem ggX12_why_X12_hasSkin : GoodIn wsX12_why wsX12_hasSkin := goodIn_r _ [6, 1, 26, 27, 28, 29, 30, 31, 32, 33, 34, 35, 36, 37, 38, 39, 40, 41, 42, 43, 44, 45, 46, 47, 48, 49, 50, 51, 52, 53, 54, 55, 56, 57, 58, 59, 60, 61, 62, 63, 64, 65, 66, 67, 68, 69, 70, 71, 72, 73, 74, 75, 76, 77] (by decide +kernel) (by decide +kernel)
set_option maxRecDepth 20000 in
theorem ggX12_act_X12_why : GoodIn wsX12_act wsX12_why := goodIn_r _ [5, 6, 7, 8, 9, 4, 10, 11, 12, 13, 14, 15, 16, 17, 18, 19, 20, 21, 22, 23, 24, 25, 26, 27, 28, 29, 56, 57, 58, 59, 60, 61, 62, 63, 64, 65, 66, 67, 68, 69, 70, 71, 72, 73, 74, 75, 76, 77, 78, 79, 80, 81, 82, 83, 84, 85, 86, 87, 88, 89, 90, 91, 92, 93, 94, 95, 96, 97, 98, 99, 100, 101, 102, 103, 104, 105, 106, 107] (by decide +kernel) (by decide +kernel)
set_option maxRecDepth 20000 in
theorem ggX12_act_X12_snap : GoodIn wsX12_act wsX12_snap := goodIn_r _ [33, 34, 35, 6, 56, 57, 58, 59, 60, 61, 62, 63, 64, 65, 66, 67, 68, 69, 70, 71, 72, 73, 74, 75, 76, 77, 78, 79, 80, 81, 82, 83, 84, 85, 86, 87, 88, 89, 90, 91, 92, 93, 94, 95, 96, 97, 98, 99, 100, 101, 102, 103, 104, 105, 106, 107] (by decide +kernel) (by decide +kernel)
set_option maxRecDepth 20000 in
theorem ggX12_act_X12_live : GoodIn wsX12_act wsX12_live := goodIn_r _ [39, 6, 40, 41, 42, 4, 43, 44, 45, 46, 47, 48, 49, 50, 51, 52, 11, 12, 13, 14, 15, 16, 17, 18, 19, 20, 21, 22, 23, 24, 25, 26, 27, 28, 29, 7, 8, 9, 10, 53, 54, 55, 56, 57, 58, 59, 60, 61, 62, 63, 64, 65, 66, 67, 68, 69, 70, 71, 72, 73, 74, 75, 76, 77, 78, 79, 80, 81, 82, 83, 84, 85, 86, 87, 88, 89, 90, 91, 92, 93, 94, 95, 96, 97, 98, 99, 100, 101, 102, 103, 104, 105, 106, 107] (by decide +kernel) (by decide +kernel)
set_option maxRecDepth 20000 in
theorem gX12_now_X12_hasSkin : GoodIn wsX12_now (wsV RX12 240 RX12 yX12_hasSkin wsX12_hasSkin) := goodIn_app (goodIn_of _ (by decide +kernel)) ggX12_now_X12_hasSkin
set_option maxRecDepth 20000 in
theorem gX12_now_X12_eaten : GoodIn wsX12_now (wsV RX12 269 RX12 yX12_eaten wsX12_eaten) := goodIn_app (goodIn_of _ (by decide +kernel)) ggX12_now_X12_eaten
set_option maxRecDepth 20000 in
theorem gX12_doStir_X12_isInSea : GoodIn wsX12_doStir (wsV RX12 279 RX12 yX12_isInSea wsX12_isInSea) := goodIn_app (goodIn_of _ (by decide +kernel)) ggX12_doStir_X12_isInSea
set_option maxRecDepth 20000 in
theorem gX12_doStir_X12_stirred : GoodIn wsX12_doStir (wsV RX12 282 RX12 yX12_stirred wsX12_stirred) := goodIn_app (goodIn_of _ (by decide +kernel)) ggX12_doStir_X12_stirred
set_option maxRecDepth 20000 in
theorem gX12_live_X12_doStir : GoodIn wsX12_live (wsV RX12 285 RX12 yX12_doStir wsX12_doStir) := goodIn_app (goodIn_of _ (by decide +kernel)) ggX12_live_X12_doStir
set_option maxRecDepth 20000 in
theorem gX12_live_X12_least : GoodIn wsX12_live (va_wsS RX12 288 yX12_least wsX12_least) := goodIn_app (goodIn_of _ (by decide +kernel)) ggX12_live_X12_least
set_option maxRecDepth 20000 in
theorem gX12_why_X12_hasSkin : GoodIn wsX12_why (wsV RX12 240 RX12 yX12_hasSkin wsX12_hasSkin) := goodIn_app (goodIn_of _ (by decide +kernel)) ggX12_why_X12_hasSkin
set_option maxRecDepth 20000 in
theorem gX12_act_X12_why : GoodIn wsX12_act (wsV RX12 291 RX12 yX12_why wsX12_why) := goodIn_app (goodIn_of _ (by decide +kernel)) ggX12_act_X12_why
set_option maxRecDepth 20000 in
theorem gX12_act_X12_snap : GoodIn wsX12_act (wsV RX12 295 RX12 yX12_snap wsX12_snap) := goodIn_app (goodIn_of _ (by decide +kernel)) ggX12_act_X12_snap
set_option maxRecDepth 20000 in
theorem gX12_act_X12_live : GoodIn wsX12_act (wsV RX12 298 RX12 yX12_live wsX12_live) := goodIn_app (goodIn_of _ (by decide +kernel)) ggX12_act_X12_live
set_option maxRecDepth 20000 in
theorem lf_m_now_1 (o : Nat) (ktape : Nat) (know : Nat) (kread : Nat) (kkept : Nat) (ksnaps : Nat) (kaside : Nat) (kname : Nat) (kreadName : Nat) (kkeptName : Nat) (kisKept : Nat) (konces : Nat) (kpoured : Nat) (kfar : Nat) (ksides : Nat) (klines : Nat) (kmet : Nat) (ksunk : Nat) (ktrying : Nat) (ktext : Nat) (kline : Nat) (kwritten : Nat) (knode : Nat) (knowF : Nat → Int32) (x : Int32) (hN : NowOk knowF) (hsw : x.toInt < 0 ∨ 7 < x.toInt) : (x.toInt = 1 ∧ (-1 : Int32) = nI 10) ∨ ((x.toInt = 0 ∨ (2 ≤ x.toInt ∧ x.toInt ≤ 7)) ∧ (-1 : Int32) = nI 0) ∨ ((x.toInt < 0 ∨ 7 < x.toInt) ∧ (-1 : Int32) = (-1 : Int32)) := by
  have k_0 := ia_n 10 (by decide)
  have k_1 := ia_n 0 (by decide)
  try simp only [ia_lt, ia_le, ia_eq, ia_m1, ia_0, ia_1, ne_eq, true_and, and_true, false_and, and_false, or_false, false_or, or_true, true_or, not_true_eq_false, not_false_eq_true] at *
  all_goals omega
set_option maxRecDepth 20000 in
theorem lf_m_now_2 (o : Nat) (ktape : Nat) (know : Nat) (kread : Nat) (kkept : Nat) (ksnaps : Nat) (kaside : Nat) (kname : Nat) (kreadName : Nat) (kkeptName : Nat) (kisKept : Nat) (konces : Nat) (kpoured : Nat) (kfar : Nat) (ksides : Nat) (klines : Nat) (kmet : Nat) (ksunk : Nat) (ktrying : Nat) (ktext : Nat) (kline : Nat) (kwritten : Nat) (knode : Nat) (knowF : Nat → Int32) (hN : NowOk knowF) : ((nI 0).toInt = 1 ∧ (nI 0) = nI 10) ∨ (((nI 0).toInt = 0 ∨ (2 ≤ (nI 0).toInt ∧ (nI 0).toInt ≤ 7)) ∧ (nI 0) = nI 0) ∨ (((nI 0).toInt < 0 ∨ 7 < (nI 0).toInt) ∧ (nI 0) = (-1 : Int32)) := by
  have k_0 := ia_n 0 (by decide)
  have k_1 := ia_n 10 (by decide)
  try simp only [ia_lt, ia_le, ia_eq, ia_m1, ia_0, ia_1, ne_eq, true_and, and_true, false_and, and_false, or_false, false_or, or_true, true_or, not_true_eq_false, not_false_eq_true] at *
  all_goals omega
set_option maxRecDepth 20000 in
theorem lf_m_now_3 (o : Nat) (ktape : Nat) (know : Nat) (kread : Nat) (kkept : Nat) (ksnaps : Nat) (kaside : Nat) (kname : Nat) (kreadName : Nat) (kkeptName : Nat) (kisKept : Nat) (konces : Nat) (kpoured : Nat) (kfar : Nat) (ksides : Nat) (klines : Nat) (kmet : Nat) (ksunk : Nat) (ktrying : Nat) (ktext : Nat) (kline : Nat) (kwritten : Nat) (knode : Nat) (knowF : Nat → Int32) (hN : NowOk knowF) : ((nI 1).toInt = 1 ∧ (nI 10) = nI 10) ∨ (((nI 1).toInt = 0 ∨ (2 ≤ (nI 1).toInt ∧ (nI 1).toInt ≤ 7)) ∧ (nI 10) = nI 0) ∨ (((nI 1).toInt < 0 ∨ 7 < (nI 1).toInt) ∧ (nI 10) = (-1 : Int32)) := by
  have k_0 := ia_n 1 (by decide)
  have k_1 := ia_n 10 (by decide)
  have k_2 := ia_n 0 (by decide)
  try simp only [ia_lt, ia_le, ia_eq, ia_m1, ia_0, ia_1, ne_eq, true_and, and_true, false_and, and_false, or_false, false_or, or_true, true_or, not_true_eq_false, not_false_eq_true] at *
  all_goals omega
set_option maxRecDepth 20000 in
theorem lf_m_now_4 (o : Nat) (ktape : Nat) (know : Nat) (kread : Nat) (kkept : Nat) (ksnaps : Nat) (kaside : Nat) (kname : Nat) (kreadName : Nat) (kkeptName : Nat) (kisKept : Nat) (konces : Nat) (kpoured : Nat) (kfar : Nat) (ksides : Nat) (klines : Nat) (kmet : Nat) (ksunk : Nat) (ktrying : Nat) (ktext : Nat) (kline : Nat) (kwritten : Nat) (knode : Nat) (knowF : Nat → Int32) (hN : NowOk knowF) : ((nI 2).toInt = 1 ∧ (nI 0) = nI 10) ∨ (((nI 2).toInt = 0 ∨ (2 ≤ (nI 2).toInt ∧ (nI 2).toInt ≤ 7)) ∧ (nI 0) = nI 0) ∨ (((nI 2).toInt < 0 ∨ 7 < (nI 2).toInt) ∧ (nI 0) = (-1 : Int32)) := by
  have k_0 := ia_n 2 (by decide)
  have k_1 := ia_n 0 (by decide)
  have k_2 := ia_n 10 (by decide)
  try simp only [ia_lt, ia_le, ia_eq, ia_m1, ia_0, ia_1, ne_eq, true_and, and_true, false_and, and_false, or_false, false_or, or_true, true_or, not_true_eq_false, not_false_eq_true] at *
  all_goals omega
set_option maxRecDepth 20000 in
theorem lf_m_now_5 (o : Nat) (ktape : Nat) (know : Nat) (kread : Nat) (kkept : Nat) (ksnaps : Nat) (kaside : Nat) (kname : Nat) (kreadName : Nat) (kkeptName : Nat) (kisKept : Nat) (konces : Nat) (kpoured : Nat) (kfar : Nat) (ksides : Nat) (klines : Nat) (kmet : Nat) (ksunk : Nat) (ktrying : Nat) (ktext : Nat) (kline : Nat) (kwritten : Nat) (knode : Nat) (knowF : Nat → Int32) (hN : NowOk knowF) : ((nI 3).toInt = 1 ∧ (nI 0) = nI 10) ∨ (((nI 3).toInt = 0 ∨ (2 ≤ (nI 3).toInt ∧ (nI 3).toInt ≤ 7)) ∧ (nI 0) = nI 0) ∨ (((nI 3).toInt < 0 ∨ 7 < (nI 3).toInt) ∧ (nI 0) = (-1 : Int32)) := by
  have k_0 := ia_n 3 (by decide)
  have k_1 := ia_n 0 (by decide)
  have k_2 := ia_n 10 (by decide)
  try simp only [ia_lt, ia_le, ia_eq, ia_m1, ia_0, ia_1, ne_eq, true_and, and_true, false_and, and_false, or_false, false_or, or_true, true_or, not_true_eq_false, not_false_eq_true] at *
  all_goals omega
set_option maxRecDepth 20000 in
theorem lf_m_now_6 (o : Nat) (ktape : Nat) (know : Nat) (kread : Nat) (kkept : Nat) (ksnaps : Nat) (kaside : Nat) (kname : Nat) (kreadName : Nat) (kkeptName : Nat) (kisKept : Nat) (konces : Nat) (kpoured : Nat) (kfar : Nat) (ksides : Nat) (klines : Nat) (kmet : Nat) (ksunk : Nat) (ktrying : Nat) (ktext : Nat) (kline : Nat) (kwritten : Nat) (knode : Nat) (knowF : Nat → Int32) (hN : NowOk knowF) : ((nI 4).toInt = 1 ∧ (nI 0) = nI 10) ∨ (((nI 4).toInt = 0 ∨ (2 ≤ (nI 4).toInt ∧ (nI 4).toInt ≤ 7)) ∧ (nI 0) = nI 0) ∨ (((nI 4).toInt < 0 ∨ 7 < (nI 4).toInt) ∧ (nI 0) = (-1 : Int32)) := by
  have k_0 := ia_n 4 (by decide)
  have k_1 := ia_n 0 (by decide)
  have k_2 := ia_n 10 (by decide)
  try simp only [ia_lt, ia_le, ia_eq, ia_m1, ia_0, ia_1, ne_eq, true_and, and_true, false_and, and_false, or_false, false_or, or_true, true_or, not_true_eq_false, not_false_eq_true] at *
  all_goals omega
set_option maxHeartbeats 4000000 in
set_option maxRecDepth 100000 in
theorem lp_m_now5 {p : Program} {l : Launch} {e : Env} {R : Room} {s : State} {m : MethodId} {args : Array Value} {below : List Frame} {meth : Method} {c : Code} {Q : State → Prop} {dC : Nat → ClassId} {dI : Nat → Nat → Nat} {ky : Nat → ClassId} {H0 : Heap} {A : Nat → Prop} (hx : p.tables.exec = Jvm.exec) (hb : c.code = cX12_now) (hml : c.maxLocals = 4) (hown : s.vm.findClass RX12 = some m.cls) (hts : ∀ w ∈ wsX12_now, w.before args s = true) (hK : Kk dC dI ky s) (hA : ∀ q, H0.size ≤ q → A q) (hRf : 0 ≤ R.frames) (hRl : 0 ≤ R.locals) (hRc : 0 ≤ R.cells) (hRs : 0 ≤ R.slots) (o : Nat) (ktape : Nat) (know : Nat) (kread : Nat) (kkept : Nat) (ksnaps : Nat) (kaside : Nat) (kname : Nat) (kreadName : Nat) (kkeptName : Nat) (kisKept : Nat) (konces : Nat) (kpoured : Nat) (kfar : Nat) (ksides : Nat) (klines : Nat) (kmet : Nat) (ksunk : Nat) (ktrying : Nat) (ktext : Nat) (kline : Nat) (kwritten : Nat) (knode : Nat) (knowF : Nat → Int32) (hN : NowOk knowF) (kx : ∀ (i : Nat) , 36 = i → ∀ (H : Heap) (locs : List Loc) (ls : Array Slot), va_P (dC, dI) vwCl [(o, .inr (12, [.int (nI 0), .ref ktape, .int (nI 0), .int (nI 0), .int (nI 0), .int (nI 0), .int (nI 0), .int (nI 0), .int (nI 0), .int (nI 0), .int (nI 0), .int (nI 0), .long 0, .int (nI 0), .ref know, .ref kread, .ref kkept, .ref ksnaps, .ref kaside, .ref kname, .ref kreadName, .ref kkeptName, .ref kisKept, .ref konces, .int (nI 0), .int (nI 0), .ref kpoured, .ref kfar, .ref ksides, .int (nI 0), .int (-1 : Int32), .int (nI 0), .ref klines, .ref kmet, .int (nI 0), .ref ksunk, .ref ktrying, .int (nI 0), .int (-1 : Int32), .int (-1 : Int32), .ref ktext, .int (nI 0), .int (nI 0), .ref kline, .ref kwritten, .int (nI 0), .int (nI 0), .ref knode, .int (nI 0), .int (nI 0), .int (nI 0), .int (nI 0)])), (know, .inl (ky 0, 373, .inl knowF))] H → va_D A [(o, .inr (12, [.int (nI 0), .ref ktape, .int (nI 0), .int (nI 0), .int (nI 0), .int (nI 0), .int (nI 0), .int (nI 0), .int (nI 0), .int (nI 0), .int (nI 0), .int (nI 0), .long 0, .int (nI 0), .ref know, .ref kread, .ref kkept, .ref ksnaps, .ref kaside, .ref kname, .ref kreadName, .ref kkeptName, .ref kisKept, .ref konces, .int (nI 0), .int (nI 0), .ref kpoured, .ref kfar, .ref ksides, .int (nI 0), .int (-1 : Int32), .int (nI 0), .ref klines, .ref kmet, .int (nI 0), .ref ksunk, .ref ktrying, .int (nI 0), .int (-1 : Int32), .int (-1 : Int32), .ref ktext, .int (nI 0), .int (nI 0), .ref kline, .ref kwritten, .int (nI 0), .int (nI 0), .ref knode, .int (nI 0), .int (nI 0), .int (nI 0), .int (nI 0)])), (know, .inl (ky 0, 373, .inl knowF))] → va_S A H0 H locs → lv_has ls 4 [(3, .int (nI i)), (2, .int (nI 0)), (0, .ref o), (1, .int (nI 5))] → W p l e R s m args below meth c H locs 0 0 Q (F0 m 150 ls [])) :
    ∀ (nN i : Nat) , i ≤ 36 → 36 + 1 ≤ i + nN → ∀ (H : Heap) (locs : List Loc) (ls : Array Slot), va_P (dC, dI) vwCl [(o, .inr (12, [.int (nI 0), .ref ktape, .int (nI 0), .int (nI 0), .int (nI 0), .int (nI 0), .int (nI 0), .int (nI 0), .int (nI 0), .int (nI 0), .int (nI 0), .int (nI 0), .long 0, .int (nI 0), .ref know, .ref kread, .ref kkept, .ref ksnaps, .ref kaside, .ref kname, .ref kreadName, .ref kkeptName, .ref kisKept, .ref konces, .int (nI 0), .int (nI 0), .ref kpoured, .ref kfar, .ref ksides, .int (nI 0), .int (-1 : Int32), .int (nI 0), .ref klines, .ref kmet, .int (nI 0), .ref ksunk, .ref ktrying, .int (nI 0), .int (-1 : Int32), .int (-1 : Int32), .ref ktext, .int (nI 0), .int (nI 0), .ref kline, .ref kwritten, .int (nI 0), .int (nI 0), .ref knode, .int (nI 0), .int (nI 0), .int (nI 0), .int (nI 0)])), (know, .inl (ky 0, 373, .inl knowF))] H → va_D A [(o, .inr (12, [.int (nI 0), .ref ktape, .int (nI 0), .int (nI 0), .int (nI 0), .int (nI 0), .int (nI 0), .int (nI 0), .int (nI 0), .int (nI 0), .int (nI 0), .int (nI 0), .long 0, .int (nI 0), .ref know, .ref kread, .ref kkept, .ref ksnaps, .ref kaside, .ref kname, .ref kreadName, .ref kkeptName, .ref kisKept, .ref konces, .int (nI 0), .int (nI 0), .ref kpoured, .ref kfar, .ref ksides, .int (nI 0), .int (-1 : Int32), .int (nI 0), .ref klines, .ref kmet, .int (nI 0), .ref ksunk, .ref ktrying, .int (nI 0), .int (-1 : Int32), .int (-1 : Int32), .ref ktext, .int (nI 0), .int (nI 0), .ref kline, .ref kwritten, .int (nI 0), .int (nI 0), .ref knode, .int (nI 0), .int (nI 0), .int (nI 0), .int (nI 0)])), (know, .inl (ky 0, 373, .inl knowF))] → va_S A H0 H locs → lv_has ls 4 [(3, .int (nI i)), (2, .int (nI 0)), (0, .ref o), (1, .int (nI 5))] → W p l e R s m args below meth c H locs 0 0 Q (F0 m 126 ls []) := by
  have hin12 : ∀ w ∈ u_ws RX12 TX12 52, w ∈ wsX12_now := by decide +kernel
  intro nN
  induction nN with
  | zero => intro i  hi hnN; exfalso; omega
  | succ nN ih =>
    intro i  hi hnN  H locs ls hP hD hS hl
    refine lv_iload_n hx hb dX12_now_126 rfl (lv_at hl 0 rfl) ?_
    refine lv_bipush (v := nI 36) hx hb dX12_now_127 (by decide) ?_
    refine n_icmp_ge (x := i) (y := 36) (tgt := 150) hx hb (by omega) (by omega) dX12_now_129 (by decide) (fun c1 => ?_) (fun c1 => ?_)
    · exact kx i  (by omega)  H locs ls hP hD hS (lv_sub hl [0, 1, 2, 3] rfl)
    · refine lv_iload_n hx hb dX12_now_132 rfl (lv_at hl 1 rfl) ?_
      refine lv_aload_n hx hb dX12_now_133 rfl (lv_at hl 2 rfl) ?_
      refine va_get (D := (dC, dI)) (ci := 12) (v := .ref know) (C := RX12) (T := TX12) (N := 52) hx hb hts hin12 hown hK hP 0 rfl rfl 14 (by decide) (hts (.fieldLink RX12 98 "PorridgeSeaModel" "now" "[I") (List.mem_of_getElem? (i := 2) rfl)) (fun _ h9 => h9) rfl dX12_now_134 ?_
      refine lv_bipush (v := nI 71) hx hb dX12_now_137 (by decide) ?_
      refine lv_iload_n hx hb dX12_now_139 rfl (lv_at hl 0 rfl) ?_
      refine lv_iadd hx hb dX12_now_140 ?_
      refine r_ti (nI (71 + i)) (nI_add _ _) ?_
      refine r_iald hx hb hK hP 1 rfl (71 + i) (by omega) (by decide) (nI 0) (now_hi hN (71 + i) (by omega) (by omega)) dX12_now_141 ?_
      refine lv_iadd hx hb dX12_now_142 ?_
      refine r_ti (nI 0) (by decide) ?_
      refine lv_istore_n (lv' := [(2, .int (nI 0)), (3, .int (nI i)), (0, .ref o), (1, .int (nI 5))]) hx hb dX12_now_143 rfl hl (by decide) rfl (fun ls hl => ?_)
      refine lv_iinc (v := nI (i + 1)) (lv' := [(3, .int (nI (i + 1))), (2, .int (nI 0)), (0, .ref o), (1, .int (nI 5))]) hx hb dX12_now_144 hl (k := 1) rfl (show nI i + nI 1 = nI (i + 1) from nI_add _ _) (by decide) rfl (fun ls hl => ?_)
      refine lv_goto (tgt := 126) hx hb dX12_now_147 (by decide) ?_
      exact ih (i + 1)  (by omega) (by omega)  _ _ _ hP hD hS (lv_sub hl [0, 1, 2, 3] rfl)
set_option maxRecDepth 20000 in
theorem lf_m_now_7 (o : Nat) (ktape : Nat) (know : Nat) (kread : Nat) (kkept : Nat) (ksnaps : Nat) (kaside : Nat) (kname : Nat) (kreadName : Nat) (kkeptName : Nat) (kisKept : Nat) (konces : Nat) (kpoured : Nat) (kfar : Nat) (ksides : Nat) (klines : Nat) (kmet : Nat) (ksunk : Nat) (ktrying : Nat) (ktext : Nat) (kline : Nat) (kwritten : Nat) (knode : Nat) (knowF : Nat → Int32) (hN : NowOk knowF) : ((nI 5).toInt = 1 ∧ (nI 0) = nI 10) ∨ (((nI 5).toInt = 0 ∨ (2 ≤ (nI 5).toInt ∧ (nI 5).toInt ≤ 7)) ∧ (nI 0) = nI 0) ∨ (((nI 5).toInt < 0 ∨ 7 < (nI 5).toInt) ∧ (nI 0) = (-1 : Int32)) := by
  have k_0 := ia_n 5 (by decide)
  have k_1 := ia_n 0 (by decide)
  have k_2 := ia_n 10 (by decide)
  try simp only [ia_lt, ia_le, ia_eq, ia_m1, ia_0, ia_1, ne_eq, true_and, and_true, false_and, and_false, or_false, false_or, or_true, true_or, not_true_eq_false, not_false_eq_true] at *
  all_goals omega
set_option maxRecDepth 20000 in
theorem lf_m_now_8 (o : Nat) (ktape : Nat) (know : Nat) (kread : Nat) (kkept : Nat) (ksnaps : Nat) (kaside : Nat) (kname : Nat) (kreadName : Nat) (kkeptName : Nat) (kisKept : Nat) (konces : Nat) (kpoured : Nat) (kfar : Nat) (ksides : Nat) (klines : Nat) (kmet : Nat) (ksunk : Nat) (ktrying : Nat) (ktext : Nat) (kline : Nat) (kwritten : Nat) (knode : Nat) (knowF : Nat → Int32) (hN : NowOk knowF) : ((nI 6).toInt = 1 ∧ (nI 0) = nI 10) ∨ (((nI 6).toInt = 0 ∨ (2 ≤ (nI 6).toInt ∧ (nI 6).toInt ≤ 7)) ∧ (nI 0) = nI 0) ∨ (((nI 6).toInt < 0 ∨ 7 < (nI 6).toInt) ∧ (nI 0) = (-1 : Int32)) := by
  have k_0 := ia_n 6 (by decide)
  have k_1 := ia_n 0 (by decide)
  have k_2 := ia_n 10 (by decide)
  try simp only [ia_lt, ia_le, ia_eq, ia_m1, ia_0, ia_1, ne_eq, true_and, and_true, false_and, and_false, or_false, false_or, or_true, true_or, not_true_eq_false, not_false_eq_true] at *
  all_goals omega
set_option maxRecDepth 20000 in
theorem lf_m_now_9 (o : Nat) (ktape : Nat) (know : Nat) (kread : Nat) (kkept : Nat) (ksnaps : Nat) (kaside : Nat) (kname : Nat) (kreadName : Nat) (kkeptName : Nat) (kisKept : Nat) (konces : Nat) (kpoured : Nat) (kfar : Nat) (ksides : Nat) (klines : Nat) (kmet : Nat) (ksunk : Nat) (ktrying : Nat) (ktext : Nat) (kline : Nat) (kwritten : Nat) (knode : Nat) (knowF : Nat → Int32) (hN : NowOk knowF) : ((nI 7).toInt = 1 ∧ (nI 0) = nI 10) ∨ (((nI 7).toInt = 0 ∨ (2 ≤ (nI 7).toInt ∧ (nI 7).toInt ≤ 7)) ∧ (nI 0) = nI 0) ∨ (((nI 7).toInt < 0 ∨ 7 < (nI 7).toInt) ∧ (nI 0) = (-1 : Int32)) := by
  have k_0 := ia_n 7 (by decide)
  have k_1 := ia_n 0 (by decide)
  have k_2 := ia_n 10 (by decide)
  try simp only [ia_lt, ia_le, ia_eq, ia_m1, ia_0, ia_1, ne_eq, true_and, and_true, false_and, and_false, or_false, false_or, or_true, true_or, not_true_eq_false, not_false_eq_true] at *
  all_goals omega
set_option maxHeartbeats 4000000 in
set_option maxRecDepth 100000 in
theorem c_m_now (l : Launch) (dC : Nat → ClassId) (dI : Nat → Nat → Nat) (ky : Nat → ClassId) (sz : Nat) (o : Nat) (ktape : Nat) (know : Nat) (kread : Nat) (kkept : Nat) (ksnaps : Nat) (kaside : Nat) (kname : Nat) (kreadName : Nat) (kkeptName : Nat) (kisKept : Nat) (konces : Nat) (kpoured : Nat) (kfar : Nat) (ksides : Nat) (klines : Nat) (kmet : Nat) (ksunk : Nat) (ktrying : Nat) (ktext : Nat) (kline : Nat) (kwritten : Nat) (knode : Nat) (knowF : Nat → Int32) (x : Int32) (hN : NowOk knowF) : Met l yX12_now wsX12_now ({ frames := 1, cells := 0, slots := 0, locals := 22 }) (PcU dC dI ky [.ref o, .int x] [(o, .inr (12, [.int (nI 0), .ref ktape, .int (nI 0), .int (nI 0), .int (nI 0), .int (nI 0), .int (nI 0), .int (nI 0), .int (nI 0), .int (nI 0), .int (nI 0), .int (nI 0), .long 0, .int (nI 0), .ref know, .ref kread, .ref kkept, .ref ksnaps, .ref kaside, .ref kname, .ref kreadName, .ref kkeptName, .ref kisKept, .ref konces, .int (nI 0), .int (nI 0), .ref kpoured, .ref kfar, .ref ksides, .int (nI 0), .int (-1 : Int32), .int (nI 0), .ref klines, .ref kmet, .int (nI 0), .ref ksunk, .ref ktrying, .int (nI 0), .int (-1 : Int32), .int (-1 : Int32), .ref ktext, .int (nI 0), .int (nI 0), .ref kline, .ref kwritten, .int (nI 0), .int (nI 0), .ref knode, .int (nI 0), .int (nI 0), .int (nI 0), .int (nI 0)])), (know, .inl (ky 0, 373, .inl knowF))] sz) (va_Qi (fun (r : Int32) (_ : Unit) => (x.toInt = 1 ∧ r = nI 10) ∨ ((x.toInt = 0 ∨ (2 ≤ x.toInt ∧ x.toInt ≤ 7)) ∧ r = nI 0) ∨ ((x.toInt < 0 ∨ 7 < x.toInt) ∧ r = (-1 : Int32))) (BU dC dI ky (fun (_ : Unit) => []) (va_A [(o, .inr (12, [.int (nI 0), .ref ktape, .int (nI 0), .int (nI 0), .int (nI 0), .int (nI 0), .int (nI 0), .int (nI 0), .int (nI 0), .int (nI 0), .int (nI 0), .int (nI 0), .long 0, .int (nI 0), .ref know, .ref kread, .ref kkept, .ref ksnaps, .ref kaside, .ref kname, .ref kreadName, .ref kkeptName, .ref kisKept, .ref konces, .int (nI 0), .int (nI 0), .ref kpoured, .ref kfar, .ref ksides, .int (nI 0), .int (-1 : Int32), .int (nI 0), .ref klines, .ref kmet, .int (nI 0), .ref ksunk, .ref ktrying, .int (nI 0), .int (-1 : Int32), .int (-1 : Int32), .ref ktext, .int (nI 0), .int (nI 0), .ref kline, .ref kwritten, .int (nI 0), .int (nI 0), .ref knode, .int (nI 0), .int (nI 0), .int (nI 0), .int (nI 0)])), (know, .inl (ky 0, 373, .inl knowF))] sz)) (va_A [(o, .inr (12, [.int (nI 0), .ref ktape, .int (nI 0), .int (nI 0), .int (nI 0), .int (nI 0), .int (nI 0), .int (nI 0), .int (nI 0), .int (nI 0), .int (nI 0), .int (nI 0), .long 0, .int (nI 0), .ref know, .ref kread, .ref kkept, .ref ksnaps, .ref kaside, .ref kname, .ref kreadName, .ref kkeptName, .ref kisKept, .ref konces, .int (nI 0), .int (nI 0), .ref kpoured, .ref kfar, .ref ksides, .int (nI 0), .int (-1 : Int32), .int (nI 0), .ref klines, .ref kmet, .int (nI 0), .ref ksunk, .ref ktrying, .int (nI 0), .int (-1 : Int32), .int (-1 : Int32), .ref ktext, .int (nI 0), .int (nI 0), .ref kline, .ref kwritten, .int (nI 0), .int (nI 0), .ref knode, .int (nI 0), .int (nI 0), .int (nI 0), .int (nI 0)])), (know, .inl (ky 0, 373, .inl knowF))] sz)) 0 0 (va_A [(o, .inr (12, [.int (nI 0), .ref ktape, .int (nI 0), .int (nI 0), .int (nI 0), .int (nI 0), .int (nI 0), .int (nI 0), .int (nI 0), .int (nI 0), .int (nI 0), .int (nI 0), .long 0, .int (nI 0), .ref know, .ref kread, .ref kkept, .ref ksnaps, .ref kaside, .ref kname, .ref kreadName, .ref kkeptName, .ref kisKept, .ref konces, .int (nI 0), .int (nI 0), .ref kpoured, .ref kfar, .ref ksides, .int (nI 0), .int (-1 : Int32), .int (nI 0), .ref klines, .ref kmet, .int (nI 0), .ref ksunk, .ref ktrying, .int (nI 0), .int (-1 : Int32), .int (-1 : Int32), .ref ktext, .int (nI 0), .int (nI 0), .ref kline, .ref kwritten, .int (nI 0), .int (nI 0), .ref knode, .int (nI 0), .int (nI 0), .int (nI 0), .int (nI 0)])), (know, .inl (ky 0, 373, .inl knowF))] sz) := by
  refine Met.ofW (cc := cX12_now) (maxL := 4) (ret := (some .int)) (by decide) rfl ?_
  intro p e s m args below meth c s₁ B hml hv
  obtain ⟨rfl, hsz, hP, hK, hD0⟩ := hv
  have hx := B.exec
  have hb := B.bytes
  have hr := B.returns
  have hts := atoms_spec (ws := wsX12_now) B.pre
  have hown : s.vm.findClass RX12 = some m.cls := findClass_of_methodNamed B.named
  have hlocks := B.notSynchronized
  have hin12 : ∀ w ∈ u_ws RX12 TX12 52, w ∈ wsX12_now := by decide +kernel
  subst hsz
  have hD := hD0.self (sz := s.heap.size)
  generalize hAe : va_A [(o, .inr (12, [.int (nI 0), .ref ktape, .int (nI 0), .int (nI 0), .int (nI 0), .int (nI 0), .int (nI 0), .int (nI 0), .int (nI 0), .int (nI 0), .int (nI 0), .int (nI 0), .long 0, .int (nI 0), .ref know, .ref kread, .ref kkept, .ref ksnaps, .ref kaside, .ref kname, .ref kreadName, .ref kkeptName, .ref kisKept, .ref konces, .int (nI 0), .int (nI 0), .ref kpoured, .ref kfar, .ref ksides, .int (nI 0), .int (-1 : Int32), .int (nI 0), .ref klines, .ref kmet, .int (nI 0), .ref ksunk, .ref ktrying, .int (nI 0), .int (-1 : Int32), .int (-1 : Int32), .ref ktext, .int (nI 0), .int (nI 0), .ref kline, .ref kwritten, .int (nI 0), .int (nI 0), .ref knode, .int (nI 0), .int (nI 0), .int (nI 0), .int (nI 0)])), (know, .inl (ky 0, 373, .inl knowF))] s.heap.size = A at hD ⊢
  have hA : ∀ q : Nat, s.heap.size ≤ q → A q := fun q h => by rw [← hAe]; exact Or.inr h
  have hS : va_S A s.heap s.heap [] := va_S.rf
  have hP : va_P (dC, dI) vwCl [(o, .inr (12, [.int (nI 0), .ref ktape, .int (nI 0), .int (nI 0), .int (nI 0), .int (nI 0), .int (nI 0), .int (nI 0), .int (nI 0), .int (nI 0), .int (nI 0), .int (nI 0), .long 0, .int (nI 0), .ref know, .ref kread, .ref kkept, .ref ksnaps, .ref kaside, .ref kname, .ref kreadName, .ref kkeptName, .ref kisKept, .ref konces, .int (nI 0), .int (nI 0), .ref kpoured, .ref kfar, .ref ksides, .int (nI 0), .int (-1 : Int32), .int (nI 0), .ref klines, .ref kmet, .int (nI 0), .ref ksunk, .ref ktrying, .int (nI 0), .int (-1 : Int32), .int (-1 : Int32), .ref ktext, .int (nI 0), .int (nI 0), .ref kline, .ref kwritten, .int (nI 0), .int (nI 0), .ref knode, .int (nI 0), .int (nI 0), .int (nI 0), .int (nI 0)])), (know, .inl (ky 0, 373, .inl knowF))] s.heap := hP
  have hl := lv_entry ([.ref o, .int x]) (n := 4) (Nat.le_of_ble_eq_true rfl)
  rw [lg_entry_eq]
  generalize (lg_sl ([.ref o, .int x]) ++ List.replicate (4 - (lg_sl ([.ref o, .int x])).length) Slot.unset).toArray = ls at hl ⊢
  have hl : lv_has ls 4 [(0, .ref o), (1, .int x)] := hl
  have hH0 : True := trivial
  refine lv_aload_n hx hb dX12_now_0 rfl (lv_at hl 0 rfl) ?_
  refine lv_iconst (v := nI 0) hx hb dX12_now_1 (by decide) ?_
  refine va_put (D := (dC, dI)) (ci := 12) (v := .int (nI 0)) (ty := .int) (C := RX12) (T := TX12) (N := 52) hx hb hts hin12 tyX12 tyX12_ok nmX12 hown hK hP hD hS 0 rfl rfl 0 (by decide) (hts (.fieldLink RX12 1 "PorridgeSeaModel" "thrown" "I") (List.mem_of_getElem? (i := 1) rfl)) (fun _ h9 => h9) rfl (by decide +kernel) rfl rfl (Nat.le_of_ble_eq_true rfl) dX12_now_2 (fun H locs hP hD hS => ?_)
  have hP : va_P (dC, dI) vwCl [(o, .inr (12, [.int (nI 0), .ref ktape, .int (nI 0), .int (nI 0), .int (nI 0), .int (nI 0), .int (nI 0), .int (nI 0), .int (nI 0), .int (nI 0), .int (nI 0), .int (nI 0), .long 0, .int (nI 0), .ref know, .ref kread, .ref kkept, .ref ksnaps, .ref kaside, .ref kname, .ref kreadName, .ref kkeptName, .ref kisKept, .ref konces, .int (nI 0), .int (nI 0), .ref kpoured, .ref kfar, .ref ksides, .int (nI 0), .int (-1 : Int32), .int (nI 0), .ref klines, .ref kmet, .int (nI 0), .ref ksunk, .ref ktrying, .int (nI 0), .int (-1 : Int32), .int (-1 : Int32), .ref ktext, .int (nI 0), .int (nI 0), .ref kline, .ref kwritten, .int (nI 0), .int (nI 0), .ref knode, .int (nI 0), .int (nI 0), .int (nI 0), .int (nI 0)])), (know, .inl (ky 0, 373, .inl knowF))] H := hP
  have hD : va_D A [(o, .inr (12, [.int (nI 0), .ref ktape, .int (nI 0), .int (nI 0), .int (nI 0), .int (nI 0), .int (nI 0), .int (nI 0), .int (nI 0), .int (nI 0), .int (nI 0), .int (nI 0), .long 0, .int (nI 0), .ref know, .ref kread, .ref kkept, .ref ksnaps, .ref kaside, .ref kname, .ref kreadName, .ref kkeptName, .ref kisKept, .ref konces, .int (nI 0), .int (nI 0), .ref kpoured, .ref kfar, .ref ksides, .int (nI 0), .int (-1 : Int32), .int (nI 0), .ref klines, .ref kmet, .int (nI 0), .ref ksunk, .ref ktrying, .int (nI 0), .int (-1 : Int32), .int (-1 : Int32), .ref ktext, .int (nI 0), .int (nI 0), .ref kline, .ref kwritten, .int (nI 0), .int (nI 0), .ref knode, .int (nI 0), .int (nI 0), .int (nI 0), .int (nI 0)])), (know, .inl (ky 0, 373, .inl knowF))] := hD
  refine lv_iconst (v := nI 0) hx hb dX12_now_5 (by decide) ?_
  refine lv_istore_n (lv' := [(2, .int (nI 0)), (0, .ref o), (1, .int x)]) hx hb dX12_now_6 rfl hl (by decide) rfl (fun ls hl => ?_)
  refine lv_iload_n hx hb dX12_now_7 rfl (lv_at hl 2 rfl) ?_
  rcases sw_in x 7 7 (by decide) (by decide) with hsw | ⟨ksw, hk1, rfl⟩
  · refine lv_tableOut (tgt := 168) hx hb dX12_now_8 hsw (by decide) ?_
    refine lv_iconst (v := (-1 : Int32)) hx hb dX12_now_168 (by decide) ?_
    have hP9 := hP.sub (ws' := []) [] rfl
    have hD9 := hD.sub (ws' := []) [] (by decide) rfl
    refine W.widen (k := 0) (n := 0) (Nat.le_of_ble_eq_true rfl) (Nat.le_of_ble_eq_true rfl) ?_
    exact W.iret (v := (-1 : Int32)) hx hb hr (fun t ht9 hW9 => ⟨⟨(-1 : Int32), (), rfl, (lf_m_now_1 o ktape know kread kkept ksnaps kaside kname kreadName kkeptName kisKept konces kpoured kfar ksides klines kmet ksunk ktrying ktext kline kwritten knode knowF x hN hsw), by rw [ht9]; exact hP9, va_K.moved hW9.alike hK, hD9⟩, hS.F ht9⟩) hS.2.2 dX12_now_169
  · rcases (show ksw = 0 ∨ ksw = 1 ∨ ksw = 2 ∨ ksw = 3 ∨ ksw = 4 ∨ ksw = 5 ∨ ksw = 6 ∨ ksw = 7 by omega) with rfl | rfl | rfl | rfl | rfl | rfl | rfl | rfl
    · refine lv_tableIn (off := 48) (tgt := 56) hx hb dX12_now_8 (by decide) (by decide) rfl (by decide) ?_
      refine lv_aload_n hx hb dX12_now_56 rfl (lv_at hl 1 rfl) ?_
      refine va_get (D := (dC, dI)) (ci := 12) (v := .ref know) (C := RX12) (T := TX12) (N := 52) hx hb hts hin12 hown hK hP 0 rfl rfl 14 (by decide) (hts (.fieldLink RX12 98 "PorridgeSeaModel" "now" "[I") (List.mem_of_getElem? (i := 2) rfl)) (fun _ h9 => h9) rfl dX12_now_57 ?_
      refine lv_bipush (v := nI 67) hx hb dX12_now_60 (by decide) ?_
      refine r_iald hx hb hK hP 1 rfl 67 (by decide) (by decide) (nI 0) hN.2.1 dX12_now_62 ?_
      have hP9 := hP.sub (ws' := []) [] rfl
      have hD9 := hD.sub (ws' := []) [] (by decide) rfl
      refine W.widen (k := 0) (n := 0) (Nat.le_of_ble_eq_true rfl) (Nat.le_of_ble_eq_true rfl) ?_
      exact W.iret (v := nI 0) hx hb hr (fun t ht9 hW9 => ⟨⟨nI 0, (), rfl, (lf_m_now_2 o ktape know kread kkept ksnaps kaside kname kreadName kkeptName kisKept konces kpoured kfar ksides klines kmet ksunk ktrying ktext kline kwritten knode knowF hN), by rw [ht9]; exact hP9, va_K.moved hW9.alike hK, hD9⟩, hS.F ht9⟩) hS.2.2 dX12_now_63
    · refine lv_tableIn (off := 56) (tgt := 64) hx hb dX12_now_8 (by decide) (by decide) rfl (by decide) ?_
      refine lv_aload_n hx hb dX12_now_64 rfl (lv_at hl 1 rfl) ?_
      refine va_get (D := (dC, dI)) (ci := 12) (v := .ref know) (C := RX12) (T := TX12) (N := 52) hx hb hts hin12 hown hK hP 0 rfl rfl 14 (by decide) (hts (.fieldLink RX12 98 "PorridgeSeaModel" "now" "[I") (List.mem_of_getElem? (i := 2) rfl)) (fun _ h9 => h9) rfl dX12_now_65 ?_
      refine lv_bipush (v := nI 68) hx hb dX12_now_68 (by decide) ?_
      refine r_iald hx hb hK hP 1 rfl 68 (by decide) (by decide) (nI 10) hN.2.2.1 dX12_now_70 ?_
      have hP9 := hP.sub (ws' := []) [] rfl
      have hD9 := hD.sub (ws' := []) [] (by decide) rfl
      refine W.widen (k := 0) (n := 0) (Nat.le_of_ble_eq_true rfl) (Nat.le_of_ble_eq_true rfl) ?_
      exact W.iret (v := nI 10) hx hb hr (fun t ht9 hW9 => ⟨⟨nI 10, (), rfl, (lf_m_now_3 o ktape know kread kkept ksnaps kaside kname kreadName kkeptName kisKept konces kpoured kfar ksides klines kmet ksunk ktrying ktext kline kwritten knode knowF hN), by rw [ht9]; exact hP9, va_K.moved hW9.alike hK, hD9⟩, hS.F ht9⟩) hS.2.2 dX12_now_71
    · refine lv_tableIn (off := 64) (tgt := 72) hx hb dX12_now_8 (by decide) (by decide) rfl (by decide) ?_
      refine lv_aload_n hx hb dX12_now_72 rfl (lv_at hl 1 rfl) ?_
      refine vp_callSi (W.runV (As := []) (rest := []) ⟨hx, hb, hml, hown, hts⟩ (c_m_hasSkin0 l dC dI ky o (nI 0) ktape (nI 0) (nI 0) (nI 0) (nI 0) (nI 0) (nI 0) (nI 0) (nI 0) (nI 0) (nI 0) 0 (nI 0) know kread kkept ksnaps kaside kname kreadName kkeptName kisKept konces (nI 0) (nI 0) kpoured kfar ksides (nI 0) (-1 : Int32) (nI 0) klines kmet (nI 0) ksunk ktrying (nI 0) (-1 : Int32) (-1 : Int32) ktext (nI 0) (nI 0) kline kwritten (nI 0) (nI 0) knode (nI 0) (nI 0) (nI 0) (nI 0) knowF hN) (cwV 0 hts gX12_now_X12_hasSkin rfl rfl rfl (by decide +kernel) ⟨(Nat.le_of_ble_eq_true rfl), (Nat.le_of_ble_eq_true rfl)⟩) (pre_PV hK hP [0, 1] rfl (ci := 12) (q0 := 0) rfl rfl) rfl rfl hl.1 rfl (lv_room (Nat.le_of_ble_eq_true rfl)) dX12_now_73 ⟨(Nat.le_of_ble_eq_true rfl), (Nat.le_of_ble_eq_true rfl)⟩) (fun r2 p3 => ?_)
      subst p3
      refine lv_if_eq (tgt := 83) hx hb dX12_now_76 (by decide) (fun c4 => ?_) (fun c4 => absurd (by decide) c4)
      refine lv_iconst (v := nI 0) hx hb dX12_now_83 (by decide) ?_
      have hP9 := hP.sub (ws' := []) [] rfl
      have hD9 := hD.sub (ws' := []) [] (by decide) rfl
      refine W.widen (k := 0) (n := 0) (Nat.le_of_ble_eq_true rfl) (Nat.le_of_ble_eq_true rfl) ?_
      exact W.iret (v := nI 0) hx hb hr (fun t ht9 hW9 => ⟨⟨nI 0, (), rfl, (lf_m_now_4 o ktape know kread kkept ksnaps kaside kname kreadName kkeptName kisKept konces kpoured kfar ksides klines kmet ksunk ktrying ktext kline kwritten knode knowF hN), by rw [ht9]; exact hP9, va_K.moved hW9.alike hK, hD9⟩, hS.F ht9⟩) hS.2.2 dX12_now_84
    · refine lv_tableIn (off := 77) (tgt := 85) hx hb dX12_now_8 (by decide) (by decide) rfl (by decide) ?_
      refine lv_aload_n hx hb dX12_now_85 rfl (lv_at hl 1 rfl) ?_
      refine vp_callSi (W.runV (As := []) (rest := []) ⟨hx, hb, hml, hown, hts⟩ (c_m_eaten l dC dI ky o (nI 0) ktape (nI 0) (nI 0) (nI 0) (nI 0) (nI 0) (nI 0) (nI 0) (nI 0) (nI 0) (nI 0) 0 (nI 0) know kread kkept ksnaps kaside kname kreadName kkeptName kisKept konces (nI 0) (nI 0) kpoured kfar ksides (nI 0) (-1 : Int32) (nI 0) klines kmet (nI 0) ksunk ktrying (nI 0) (-1 : Int32) (-1 : Int32) ktext (nI 0) (nI 0) kline kwritten (nI 0) (nI 0) knode (nI 0) (nI 0) (nI 0) (nI 0) knowF (NowOk.b hN)) (cwV 0 hts gX12_now_X12_eaten rfl rfl rfl (by decide +kernel) ⟨(Nat.le_of_ble_eq_true rfl), (Nat.le_of_ble_eq_true rfl)⟩) (pre_PV hK hP [0, 1] rfl (ci := 12) (q0 := 0) rfl rfl) rfl rfl hl.1 rfl (lv_room (Nat.le_of_ble_eq_true rfl)) dX12_now_86 ⟨(Nat.le_of_ble_eq_true rfl), (Nat.le_of_ble_eq_true rfl)⟩) (fun r5 p6 => ?_)
      subst p6
      have hP9 := hP.sub (ws' := []) [] rfl
      have hD9 := hD.sub (ws' := []) [] (by decide) rfl
      refine W.widen (k := 0) (n := 0) (Nat.le_of_ble_eq_true rfl) (Nat.le_of_ble_eq_true rfl) ?_
      exact W.iret (v := nI 0) hx hb hr (fun t ht9 hW9 => ⟨⟨nI 0, (), rfl, (lf_m_now_5 o ktape know kread kkept ksnaps kaside kname kreadName kkeptName kisKept konces kpoured kfar ksides klines kmet ksunk ktrying ktext kline kwritten knode knowF hN), by rw [ht9]; exact hP9, va_K.moved hW9.alike hK, hD9⟩, hS.F ht9⟩) hS.2.2 dX12_now_89
    · refine lv_tableIn (off := 82) (tgt := 90) hx hb dX12_now_8 (by decide) (by decide) rfl (by decide) ?_
      refine lv_iconst (v := nI 0) hx hb dX12_now_90 (by decide) ?_
      refine lv_istore_n (lv' := [(3, .int (nI 0)), (2, .int (nI 0)), (0, .ref o), (1, .int (nI 4))]) hx hb dX12_now_91 rfl hl (by decide) rfl (fun ls hl => ?_)
      refine lv_iload_n hx hb dX12_now_92 rfl (lv_at hl 0 rfl) ?_
      refine lv_aload_n hx hb dX12_now_93 rfl (lv_at hl 2 rfl) ?_
      refine va_get (D := (dC, dI)) (ci := 12) (v := .ref know) (C := RX12) (T := TX12) (N := 52) hx hb hts hin12 hown hK hP 0 rfl rfl 14 (by decide) (hts (.fieldLink RX12 98 "PorridgeSeaModel" "now" "[I") (List.mem_of_getElem? (i := 2) rfl)) (fun _ h9 => h9) rfl dX12_now_94 ?_
      refine lv_iconst (v := nI 3) hx hb dX12_now_97 (by decide) ?_
      refine r_iald hx hb hK hP 1 rfl 3 (by decide) (by decide) (nI 0) (NowOk.b hN).2.2.2 dX12_now_98 ?_
      refine lv_icmp_ge (tgt := 122) hx hb dX12_now_99 (by decide) (fun c7 => ?_) (fun c7 => absurd (by decide) c7)
      refine lv_iload_n hx hb dX12_now_122 rfl (lv_at hl 1 rfl) ?_
      have hP9 := hP.sub (ws' := []) [] rfl
      have hD9 := hD.sub (ws' := []) [] (by decide) rfl
      refine W.widen (k := 0) (n := 0) (Nat.le_of_ble_eq_true rfl) (Nat.le_of_ble_eq_true rfl) ?_
      exact W.iret (v := nI 0) hx hb hr (fun t ht9 hW9 => ⟨⟨nI 0, (), rfl, (lf_m_now_6 o ktape know kread kkept ksnaps kaside kname kreadName kkeptName kisKept konces kpoured kfar ksides klines kmet ksunk ktrying ktext kline kwritten knode knowF hN), by rw [ht9]; exact hP9, va_K.moved hW9.alike hK, hD9⟩, hS.F ht9⟩) hS.2.2 dX12_now_123
    · refine lv_tableIn (off := 116) (tgt := 124) hx hb dX12_now_8 (by decide) (by decide) rfl (by decide) ?_
      refine lv_iconst (v := nI 0) hx hb dX12_now_124 (by decide) ?_
      refine lv_istore_n (lv' := [(3, .int (nI 0)), (2, .int (nI 0)), (0, .ref o), (1, .int (nI 5))]) hx hb dX12_now_125 rfl hl (by decide) rfl (fun ls hl => ?_)
      refine lp_m_now5 hx hb hml hown hts hK hA (Nat.le_of_ble_eq_true rfl) (Nat.le_of_ble_eq_true rfl) (Nat.le_of_ble_eq_true rfl) (Nat.le_of_ble_eq_true rfl) o ktape know kread kkept ksnaps kaside kname kreadName kkeptName kisKept konces kpoured kfar ksides klines kmet ksunk ktrying ktext kline kwritten knode knowF hN ?_ (36 + 1) 0  (by omega) (by omega)  _ _ _ hP hD hS (lv_sub hl [0, 1, 2, 3] rfl)
      intro i  hiN  H locs ls hP hD hS hl
      subst hiN
      refine lv_iload_n hx hb dX12_now_150 rfl (lv_at hl 1 rfl) ?_
      have hP9 := hP.sub (ws' := []) [] rfl
      have hD9 := hD.sub (ws' := []) [] (by decide) rfl
      refine W.widen (k := 0) (n := 0) (Nat.le_of_ble_eq_true rfl) (Nat.le_of_ble_eq_true rfl) ?_
      exact W.iret (v := nI 0) hx hb hr (fun t ht9 hW9 => ⟨⟨nI 0, (), rfl, (lf_m_now_7 o ktape know kread kkept ksnaps kaside kname kreadName kkeptName kisKept konces kpoured kfar ksides klines kmet ksunk ktrying ktext kline kwritten knode knowF hN), by rw [ht9]; exact hP9, va_K.moved hW9.alike hK, hD9⟩, hS.F ht9⟩) hS.2.2 dX12_now_151
    · refine lv_tableIn (off := 144) (tgt := 152) hx hb dX12_now_8 (by decide) (by decide) rfl (by decide) ?_
      refine lv_aload_n hx hb dX12_now_152 rfl (lv_at hl 1 rfl) ?_
      refine va_get (D := (dC, dI)) (ci := 12) (v := .ref know) (C := RX12) (T := TX12) (N := 52) hx hb hts hin12 hown hK hP 0 rfl rfl 14 (by decide) (hts (.fieldLink RX12 98 "PorridgeSeaModel" "now" "[I") (List.mem_of_getElem? (i := 2) rfl)) (fun _ h9 => h9) rfl dX12_now_153 ?_
      refine lv_bipush (v := nI 69) hx hb dX12_now_156 (by decide) ?_
      refine r_iald hx hb hK hP 1 rfl 69 (by decide) (by decide) (nI 0) (now_hi hN 69 (by decide) (by decide)) dX12_now_158 ?_
      have hP9 := hP.sub (ws' := []) [] rfl
      have hD9 := hD.sub (ws' := []) [] (by decide) rfl
      refine W.widen (k := 0) (n := 0) (Nat.le_of_ble_eq_true rfl) (Nat.le_of_ble_eq_true rfl) ?_
      exact W.iret (v := nI 0) hx hb hr (fun t ht9 hW9 => ⟨⟨nI 0, (), rfl, (lf_m_now_8 o ktape know kread kkept ksnaps kaside kname kreadName kkeptName kisKept konces kpoured kfar ksides klines kmet ksunk ktrying ktext kline kwritten knode knowF hN), by rw [ht9]; exact hP9, va_K.moved hW9.alike hK, hD9⟩, hS.F ht9⟩) hS.2.2 dX12_now_159
    · refine lv_tableIn (off := 152) (tgt := 160) hx hb dX12_now_8 (by decide) (by decide) rfl (by decide) ?_
      refine lv_aload_n hx hb dX12_now_160 rfl (lv_at hl 1 rfl) ?_
      refine va_get (D := (dC, dI)) (ci := 12) (v := .ref know) (C := RX12) (T := TX12) (N := 52) hx hb hts hin12 hown hK hP 0 rfl rfl 14 (by decide) (hts (.fieldLink RX12 98 "PorridgeSeaModel" "now" "[I") (List.mem_of_getElem? (i := 2) rfl)) (fun _ h9 => h9) rfl dX12_now_161 ?_
      refine lv_bipush (v := nI 70) hx hb dX12_now_164 (by decide) ?_
      refine r_iald hx hb hK hP 1 rfl 70 (by decide) (by decide) (nI 0) (now_hi hN 70 (by decide) (by decide)) dX12_now_166 ?_
      have hP9 := hP.sub (ws' := []) [] rfl
      have hD9 := hD.sub (ws' := []) [] (by decide) rfl
      refine W.widen (k := 0) (n := 0) (Nat.le_of_ble_eq_true rfl) (Nat.le_of_ble_eq_true rfl) ?_
      exact W.iret (v := nI 0) hx hb hr (fun t ht9 hW9 => ⟨⟨nI 0, (), rfl, (lf_m_now_9 o ktape know kread kkept ksnaps kaside kname kreadName kkeptName kisKept konces kpoured kfar ksides klines kmet ksunk ktrying ktext kline kwritten knode knowF hN), by rw [ht9]; exact hP9, va_K.moved hW9.alike hK, hD9⟩, hS.F ht9⟩) hS.2.2 dX12_now_167
set_option maxRecDepth 20000 in
theorem lf_m_count_1 (o : Nat) (ktape : Nat) (know : Nat) (kread : Nat) (kkept : Nat) (ksnaps : Nat) (kaside : Nat) (kname : Nat) (kreadName : Nat) (kkeptName : Nat) (kisKept : Nat) (konces : Nat) (kpoured : Nat) (kfar : Nat) (ksides : Nat) (klines : Nat) (kmet : Nat) (ksunk : Nat) (ktrying : Nat) (ktext : Nat) (kline : Nat) (kwritten : Nat) (knode : Nat) (knowF : Nat → Int32) (x : Int32) (hN : NowOk knowF) (hsw : x.toInt < 0 ∨ 6 < x.toInt) : ((x.toInt = 0 ∨ x.toInt = 1) ∧ (-1 : Int32) = nI 4) ∨ ((x.toInt = 2 ∨ x.toInt = 3 ∨ x.toInt = 6) ∧ (-1 : Int32) = nI 0) ∨ (x.toInt = 4 ∧ (-1 : Int32) = nI 1) ∨ (x.toInt = 5 ∧ (-1 : Int32) = nI 3) ∨ ((x.toInt < 0 ∨ 6 < x.toInt) ∧ (-1 : Int32) = (-1 : Int32)) := by
  have k_0 := ia_n 4 (by decide)
  have k_1 := ia_n 0 (by decide)
  have k_2 := ia_n 1 (by decide)
  have k_3 := ia_n 3 (by decide)
  try simp only [ia_lt, ia_le, ia_eq, ia_m1, ia_0, ia_1, ne_eq, true_and, and_true, false_and, and_false, or_false, false_or, or_true, true_or, not_true_eq_false, not_false_eq_true] at *
  all_goals omega
set_option maxRecDepth 20000 in
theorem lf_m_count_2 (o : Nat) (ktape : Nat) (know : Nat) (kread : Nat) (kkept : Nat) (ksnaps : Nat) (kaside : Nat) (kname : Nat) (kreadName : Nat) (kkeptName : Nat) (kisKept : Nat) (konces : Nat) (kpoured : Nat) (kfar : Nat) (ksides : Nat) (klines : Nat) (kmet : Nat) (ksunk : Nat) (ktrying : Nat) (ktext : Nat) (kline : Nat) (kwritten : Nat) (knode : Nat) (knowF : Nat → Int32) (hN : NowOk knowF) : (((nI 0).toInt = 0 ∨ (nI 0).toInt = 1) ∧ (nI 4) = nI 4) ∨ (((nI 0).toInt = 2 ∨ (nI 0).toInt = 3 ∨ (nI 0).toInt = 6) ∧ (nI 4) = nI 0) ∨ ((nI 0).toInt = 4 ∧ (nI 4) = nI 1) ∨ ((nI 0).toInt = 5 ∧ (nI 4) = nI 3) ∨ (((nI 0).toInt < 0 ∨ 6 < (nI 0).toInt) ∧ (nI 4) = (-1 : Int32)) := by
  have k_0 := ia_n 0 (by decide)
  have k_1 := ia_n 4 (by decide)
  have k_2 := ia_n 1 (by decide)
  have k_3 := ia_n 3 (by decide)
  try simp only [ia_lt, ia_le, ia_eq, ia_m1, ia_0, ia_1, ne_eq, true_and, and_true, false_and, and_false, or_false, false_or, or_true, true_or, not_true_eq_false, not_false_eq_true] at *
  all_goals omega
set_option maxRecDepth 20000 in
theorem lf_m_count_3 (o : Nat) (ktape : Nat) (know : Nat) (kread : Nat) (kkept : Nat) (ksnaps : Nat) (kaside : Nat) (kname : Nat) (kreadName : Nat) (kkeptName : Nat) (kisKept : Nat) (konces : Nat) (kpoured : Nat) (kfar : Nat) (ksides : Nat) (klines : Nat) (kmet : Nat) (ksunk : Nat) (ktrying : Nat) (ktext : Nat) (kline : Nat) (kwritten : Nat) (knode : Nat) (knowF : Nat → Int32) (hN : NowOk knowF) : (((nI 1).toInt = 0 ∨ (nI 1).toInt = 1) ∧ (nI 4) = nI 4) ∨ (((nI 1).toInt = 2 ∨ (nI 1).toInt = 3 ∨ (nI 1).toInt = 6) ∧ (nI 4) = nI 0) ∨ ((nI 1).toInt = 4 ∧ (nI 4) = nI 1) ∨ ((nI 1).toInt = 5 ∧ (nI 4) = nI 3) ∨ (((nI 1).toInt < 0 ∨ 6 < (nI 1).toInt) ∧ (nI 4) = (-1 : Int32)) := by
  have k_0 := ia_n 1 (by decide)
  have k_1 := ia_n 4 (by decide)
  have k_2 := ia_n 0 (by decide)
  have k_3 := ia_n 3 (by decide)
  try simp only [ia_lt, ia_le, ia_eq, ia_m1, ia_0, ia_1, ne_eq, true_and, and_true, false_and, and_false, or_false, false_or, or_true, true_or, not_true_eq_false, not_false_eq_true] at *
  all_goals omega
set_option maxRecDepth 20000 in
theorem lf_m_count_4 (o : Nat) (ktape : Nat) (know : Nat) (kread : Nat) (kkept : Nat) (ksnaps : Nat) (kaside : Nat) (kname : Nat) (kreadName : Nat) (kkeptName : Nat) (kisKept : Nat) (konces : Nat) (kpoured : Nat) (kfar : Nat) (ksides : Nat) (klines : Nat) (kmet : Nat) (ksunk : Nat) (ktrying : Nat) (ktext : Nat) (kline : Nat) (kwritten : Nat) (knode : Nat) (knowF : Nat → Int32) (hN : NowOk knowF) : (((nI 2).toInt = 0 ∨ (nI 2).toInt = 1) ∧ (nI 0) = nI 4) ∨ (((nI 2).toInt = 2 ∨ (nI 2).toInt = 3 ∨ (nI 2).toInt = 6) ∧ (nI 0) = nI 0) ∨ ((nI 2).toInt = 4 ∧ (nI 0) = nI 1) ∨ ((nI 2).toInt = 5 ∧ (nI 0) = nI 3) ∨ (((nI 2).toInt < 0 ∨ 6 < (nI 2).toInt) ∧ (nI 0) = (-1 : Int32)) := by
  have k_0 := ia_n 2 (by decide)
  have k_1 := ia_n 0 (by decide)
  have k_2 := ia_n 4 (by decide)
  have k_3 := ia_n 1 (by decide)
  have k_4 := ia_n 3 (by decide)
  try simp only [ia_lt, ia_le, ia_eq, ia_m1, ia_0, ia_1, ne_eq, true_and, and_true, false_and, and_false, or_false, false_or, or_true, true_or, not_true_eq_false, not_false_eq_true] at *
  all_goals omega
set_option maxRecDepth 20000 in
theorem lf_m_count_5 (o : Nat) (ktape : Nat) (know : Nat) (kread : Nat) (kkept : Nat) (ksnaps : Nat) (kaside : Nat) (kname : Nat) (kreadName : Nat) (kkeptName : Nat) (kisKept : Nat) (konces : Nat) (kpoured : Nat) (kfar : Nat) (ksides : Nat) (klines : Nat) (kmet : Nat) (ksunk : Nat) (ktrying : Nat) (ktext : Nat) (kline : Nat) (kwritten : Nat) (knode : Nat) (knowF : Nat → Int32) (hN : NowOk knowF) : (((nI 3).toInt = 0 ∨ (nI 3).toInt = 1) ∧ (nI 0) = nI 4) ∨ (((nI 3).toInt = 2 ∨ (nI 3).toInt = 3 ∨ (nI 3).toInt = 6) ∧ (nI 0) = nI 0) ∨ ((nI 3).toInt = 4 ∧ (nI 0) = nI 1) ∨ ((nI 3).toInt = 5 ∧ (nI 0) = nI 3) ∨ (((nI 3).toInt < 0 ∨ 6 < (nI 3).toInt) ∧ (nI 0) = (-1 : Int32)) := by
  have k_0 := ia_n 3 (by decide)
  have k_1 := ia_n 0 (by decide)
  have k_2 := ia_n 4 (by decide)
  have k_3 := ia_n 1 (by decide)
  try simp only [ia_lt, ia_le, ia_eq, ia_m1, ia_0, ia_1, ne_eq, true_and, and_true, false_and, and_false, or_false, false_or, or_true, true_or, not_true_eq_false, not_false_eq_true] at *
  all_goals omega
set_option maxRecDepth 20000 in
theorem lf_m_count_6 (o : Nat) (ktape : Nat) (know : Nat) (kread : Nat) (kkept : Nat) (ksnaps : Nat) (kaside : Nat) (kname : Nat) (kreadName : Nat) (kkeptName : Nat) (kisKept : Nat) (konces : Nat) (kpoured : Nat) (kfar : Nat) (ksides : Nat) (klines : Nat) (kmet : Nat) (ksunk : Nat) (ktrying : Nat) (ktext : Nat) (kline : Nat) (kwritten : Nat) (knode : Nat) (knowF : Nat → Int32) (hN : NowOk knowF) : (((nI 4).toInt = 0 ∨ (nI 4).toInt = 1) ∧ (nI 1) = nI 4) ∨ (((nI 4).toInt = 2 ∨ (nI 4).toInt = 3 ∨ (nI 4).toInt = 6) ∧ (nI 1) = nI 0) ∨ ((nI 4).toInt = 4 ∧ (nI 1) = nI 1) ∨ ((nI 4).toInt = 5 ∧ (nI 1) = nI 3) ∨ (((nI 4).toInt < 0 ∨ 6 < (nI 4).toInt) ∧ (nI 1) = (-1 : Int32)) := by
  have k_0 := ia_n 4 (by decide)
  have k_1 := ia_n 1 (by decide)
  have k_2 := ia_n 0 (by decide)
  have k_3 := ia_n 3 (by decide)
  try simp only [ia_lt, ia_le, ia_eq, ia_m1, ia_0, ia_1, ne_eq, true_and, and_true, false_and, and_false, or_false, false_or, or_true, true_or, not_true_eq_false, not_false_eq_true] at *
  all_goals omega
set_option maxRecDepth 20000 in
theorem lf_m_count_7 (o : Nat) (ktape : Nat) (know : Nat) (kread : Nat) (kkept : Nat) (ksnaps : Nat) (kaside : Nat) (kname : Nat) (kreadName : Nat) (kkeptName : Nat) (kisKept : Nat) (konces : Nat) (kpoured : Nat) (kfar : Nat) (ksides : Nat) (klines : Nat) (kmet : Nat) (ksunk : Nat) (ktrying : Nat) (ktext : Nat) (kline : Nat) (kwritten : Nat) (knode : Nat) (knowF : Nat → Int32) (hN : NowOk knowF) : (((nI 5).toInt = 0 ∨ (nI 5).toInt = 1) ∧ (nI 3) = nI 4) ∨ (((nI 5).toInt = 2 ∨ (nI 5).toInt = 3 ∨ (nI 5).toInt = 6) ∧ (nI 3) = nI 0) ∨ ((nI 5).toInt = 4 ∧ (nI 3) = nI 1) ∨ ((nI 5).toInt = 5 ∧ (nI 3) = nI 3) ∨ (((nI 5).toInt < 0 ∨ 6 < (nI 5).toInt) ∧ (nI 3) = (-1 : Int32)) := by
  have k_0 := ia_n 5 (by decide)
  have k_1 := ia_n 3 (by decide)
  have k_2 := ia_n 4 (by decide)
  have k_3 := ia_n 0 (by decide)
  have k_4 := ia_n 1 (by decide)
  try simp only [ia_lt, ia_le, ia_eq, ia_m1, ia_0, ia_1, ne_eq, true_and, and_true, false_and, and_false, or_false, false_or, or_true, true_or, not_true_eq_false, not_false_eq_true] at *
  all_goals omega
set_option maxRecDepth 20000 in
theorem lf_m_count_8 (o : Nat) (ktape : Nat) (know : Nat) (kread : Nat) (kkept : Nat) (ksnaps : Nat) (kaside : Nat) (kname : Nat) (kreadName : Nat) (kkeptName : Nat) (kisKept : Nat) (konces : Nat) (kpoured : Nat) (kfar : Nat) (ksides : Nat) (klines : Nat) (kmet : Nat) (ksunk : Nat) (ktrying : Nat) (ktext : Nat) (kline : Nat) (kwritten : Nat) (knode : Nat) (knowF : Nat → Int32) (hN : NowOk knowF) : (((nI 6).toInt = 0 ∨ (nI 6).toInt = 1) ∧ (nI 0) = nI 4) ∨ (((nI 6).toInt = 2 ∨ (nI 6).toInt = 3 ∨ (nI 6).toInt = 6) ∧ (nI 0) = nI 0) ∨ ((nI 6).toInt = 4 ∧ (nI 0) = nI 1) ∨ ((nI 6).toInt = 5 ∧ (nI 0) = nI 3) ∨ (((nI 6).toInt < 0 ∨ 6 < (nI 6).toInt) ∧ (nI 0) = (-1 : Int32)) := by
  have k_0 := ia_n 6 (by decide)
  have k_1 := ia_n 0 (by decide)
  have k_2 := ia_n 4 (by decide)
  have k_3 := ia_n 1 (by decide)
  have k_4 := ia_n 3 (by decide)
  try simp only [ia_lt, ia_le, ia_eq, ia_m1, ia_0, ia_1, ne_eq, true_and, and_true, false_and, and_false, or_false, false_or, or_true, true_or, not_true_eq_false, not_false_eq_true] at *
  all_goals omega
set_option maxHeartbeats 4000000 in
set_option maxRecDepth 100000 in
theorem c_m_count (l : Launch) (dC : Nat → ClassId) (dI : Nat → Nat → Nat) (ky : Nat → ClassId) (sz : Nat) (o : Nat) (ktape : Nat) (know : Nat) (kread : Nat) (kkept : Nat) (ksnaps : Nat) (kaside : Nat) (kname : Nat) (kreadName : Nat) (kkeptName : Nat) (kisKept : Nat) (konces : Nat) (kpoured : Nat) (kfar : Nat) (ksides : Nat) (klines : Nat) (kmet : Nat) (ksunk : Nat) (ktrying : Nat) (ktext : Nat) (kline : Nat) (kwritten : Nat) (knode : Nat) (knowF : Nat → Int32) (x : Int32) (hN : NowOk knowF) : Met l yX12_count wsX12_count ({ frames := 0, cells := 0, slots := 0, locals := 0 }) (PcU dC dI ky [.ref o, .int x] [(o, .inr (12, [.int (nI 0), .ref ktape, .int (nI 0), .int (nI 0), .int (nI 0), .int (nI 0), .int (nI 0), .int (nI 0), .int (nI 0), .int (nI 0), .int (nI 0), .int (nI 0), .long 0, .int (nI 0), .ref know, .ref kread, .ref kkept, .ref ksnaps, .ref kaside, .ref kname, .ref kreadName, .ref kkeptName, .ref kisKept, .ref konces, .int (nI 0), .int (nI 0), .ref kpoured, .ref kfar, .ref ksides, .int (nI 0), .int (-1 : Int32), .int (nI 0), .ref klines, .ref kmet, .int (nI 0), .ref ksunk, .ref ktrying, .int (nI 0), .int (-1 : Int32), .int (-1 : Int32), .ref ktext, .int (nI 0), .int (nI 0), .ref kline, .ref kwritten, .int (nI 0), .int (nI 0), .ref knode, .int (nI 0), .int (nI 0), .int (nI 0), .int (nI 0)])), (know, .inl (ky 0, 373, .inl knowF))] sz) (va_Qi (fun (r : Int32) (_ : Unit) => ((x.toInt = 0 ∨ x.toInt = 1) ∧ r = nI 4) ∨ ((x.toInt = 2 ∨ x.toInt = 3 ∨ x.toInt = 6) ∧ r = nI 0) ∨ (x.toInt = 4 ∧ r = nI 1) ∨ (x.toInt = 5 ∧ r = nI 3) ∨ ((x.toInt < 0 ∨ 6 < x.toInt) ∧ r = (-1 : Int32))) (BU dC dI ky (fun (_ : Unit) => []) (va_A [(o, .inr (12, [.int (nI 0), .ref ktape, .int (nI 0), .int (nI 0), .int (nI 0), .int (nI 0), .int (nI 0), .int (nI 0), .int (nI 0), .int (nI 0), .int (nI 0), .int (nI 0), .long 0, .int (nI 0), .ref know, .ref kread, .ref kkept, .ref ksnaps, .ref kaside, .ref kname, .ref kreadName, .ref kkeptName, .ref kisKept, .ref konces, .int (nI 0), .int (nI 0), .ref kpoured, .ref kfar, .ref ksides, .int (nI 0), .int (-1 : Int32), .int (nI 0), .ref klines, .ref kmet, .int (nI 0), .ref ksunk, .ref ktrying, .int (nI 0), .int (-1 : Int32), .int (-1 : Int32), .ref ktext, .int (nI 0), .int (nI 0), .ref kline, .ref kwritten, .int (nI 0), .int (nI 0), .ref knode, .int (nI 0), .int (nI 0), .int (nI 0), .int (nI 0)])), (know, .inl (ky 0, 373, .inl knowF))] sz)) (va_A [(o, .inr (12, [.int (nI 0), .ref ktape, .int (nI 0), .int (nI 0), .int (nI 0), .int (nI 0), .int (nI 0), .int (nI 0), .int (nI 0), .int (nI 0), .int (nI 0), .int (nI 0), .long 0, .int (nI 0), .ref know, .ref kread, .ref kkept, .ref ksnaps, .ref kaside, .ref kname, .ref kreadName, .ref kkeptName, .ref kisKept, .ref konces, .int (nI 0), .int (nI 0), .ref kpoured, .ref kfar, .ref ksides, .int (nI 0), .int (-1 : Int32), .int (nI 0), .ref klines, .ref kmet, .int (nI 0), .ref ksunk, .ref ktrying, .int (nI 0), .int (-1 : Int32), .int (-1 : Int32), .ref ktext, .int (nI 0), .int (nI 0), .ref kline, .ref kwritten, .int (nI 0), .int (nI 0), .ref knode, .int (nI 0), .int (nI 0), .int (nI 0), .int (nI 0)])), (know, .inl (ky 0, 373, .inl knowF))] sz)) 0 0 (va_A [(o, .inr (12, [.int (nI 0), .ref ktape, .int (nI 0), .int (nI 0), .int (nI 0), .int (nI 0), .int (nI 0), .int (nI 0), .int (nI 0), .int (nI 0), .int (nI 0), .int (nI 0), .long 0, .int (nI 0), .ref know, .ref kread, .ref kkept, .ref ksnaps, .ref kaside, .ref kname, .ref kreadName, .ref kkeptName, .ref kisKept, .ref konces, .int (nI 0), .int (nI 0), .ref kpoured, .ref kfar, .ref ksides, .int (nI 0), .int (-1 : Int32), .int (nI 0), .ref klines, .ref kmet, .int (nI 0), .ref ksunk, .ref ktrying, .int (nI 0), .int (-1 : Int32), .int (-1 : Int32), .ref ktext, .int (nI 0), .int (nI 0), .ref kline, .ref kwritten, .int (nI 0), .int (nI 0), .ref knode, .int (nI 0), .int (nI 0), .int (nI 0), .int (nI 0)])), (know, .inl (ky 0, 373, .inl knowF))] sz) := by
  refine Met.ofW (cc := cX12_count) (maxL := 2) (ret := (some .int)) (by decide) rfl ?_
  intro p e s m args below meth c s₁ B hml hv
  obtain ⟨rfl, hsz, hP, hK, hD0⟩ := hv
  have hx := B.exec
  have hb := B.bytes
  have hr := B.returns
  have hts := atoms_spec (ws := wsX12_count) B.pre
  have hown : s.vm.findClass RX12 = some m.cls := findClass_of_methodNamed B.named
  have hlocks := B.notSynchronized
  have hin12 : ∀ w ∈ u_ws RX12 TX12 52, w ∈ wsX12_count := by decide +kernel
  subst hsz
  have hD := hD0.self (sz := s.heap.size)
  generalize hAe : va_A [(o, .inr (12, [.int (nI 0), .ref ktape, .int (nI 0), .int (nI 0), .int (nI 0), .int (nI 0), .int (nI 0), .int (nI 0), .int (nI 0), .int (nI 0), .int (nI 0), .int (nI 0), .long 0, .int (nI 0), .ref know, .ref kread, .ref kkept, .ref ksnaps, .ref kaside, .ref kname, .ref kreadName, .ref kkeptName, .ref kisKept, .ref konces, .int (nI 0), .int (nI 0), .ref kpoured, .ref kfar, .ref ksides, .int (nI 0), .int (-1 : Int32), .int (nI 0), .ref klines, .ref kmet, .int (nI 0), .ref ksunk, .ref ktrying, .int (nI 0), .int (-1 : Int32), .int (-1 : Int32), .ref ktext, .int (nI 0), .int (nI 0), .ref kline, .ref kwritten, .int (nI 0), .int (nI 0), .ref knode, .int (nI 0), .int (nI 0), .int (nI 0), .int (nI 0)])), (know, .inl (ky 0, 373, .inl knowF))] s.heap.size = A at hD ⊢
  have hA : ∀ q : Nat, s.heap.size ≤ q → A q := fun q h => by rw [← hAe]; exact Or.inr h
  have hS : va_S A s.heap s.heap [] := va_S.rf
  have hP : va_P (dC, dI) vwCl [(o, .inr (12, [.int (nI 0), .ref ktape, .int (nI 0), .int (nI 0), .int (nI 0), .int (nI 0), .int (nI 0), .int (nI 0), .int (nI 0), .int (nI 0), .int (nI 0), .int (nI 0), .long 0, .int (nI 0), .ref know, .ref kread, .ref kkept, .ref ksnaps, .ref kaside, .ref kname, .ref kreadName, .ref kkeptName, .ref kisKept, .ref konces, .int (nI 0), .int (nI 0), .ref kpoured, .ref kfar, .ref ksides, .int (nI 0), .int (-1 : Int32), .int (nI 0), .ref klines, .ref kmet, .int (nI 0), .ref ksunk, .ref ktrying, .int (nI 0), .int (-1 : Int32), .int (-1 : Int32), .ref ktext, .int (nI 0), .int (nI 0), .ref kline, .ref kwritten, .int (nI 0), .int (nI 0), .ref knode, .int (nI 0), .int (nI 0), .int (nI 0), .int (nI 0)])), (know, .inl (ky 0, 373, .inl knowF))] s.heap := hP
  have hl := lv_entry ([.ref o, .int x]) (n := 2) (Nat.le_of_ble_eq_true rfl)
  rw [lg_entry_eq]
  generalize (lg_sl ([.ref o, .int x]) ++ List.replicate (2 - (lg_sl ([.ref o, .int x])).length) Slot.unset).toArray = ls at hl ⊢
  have hl : lv_has ls 2 [(0, .ref o), (1, .int x)] := hl
  have hH0 : True := trivial
  refine lv_aload_n hx hb dX12_count_0 rfl (lv_at hl 0 rfl) ?_
  refine lv_iconst (v := nI 0) hx hb dX12_count_1 (by decide) ?_
  refine va_put (D := (dC, dI)) (ci := 12) (v := .int (nI 0)) (ty := .int) (C := RX12) (T := TX12) (N := 52) hx hb hts hin12 tyX12 tyX12_ok nmX12 hown hK hP hD hS 0 rfl rfl 0 (by decide) (hts (.fieldLink RX12 1 "PorridgeSeaModel" "thrown" "I") (List.mem_of_getElem? (i := 1) rfl)) (fun _ h9 => h9) rfl (by decide +kernel) rfl rfl (Nat.le_of_ble_eq_true rfl) dX12_count_2 (fun H locs hP hD hS => ?_)
  have hP : va_P (dC, dI) vwCl [(o, .inr (12, [.int (nI 0), .ref ktape, .int (nI 0), .int (nI 0), .int (nI 0), .int (nI 0), .int (nI 0), .int (nI 0), .int (nI 0), .int (nI 0), .int (nI 0), .int (nI 0), .long 0, .int (nI 0), .ref know, .ref kread, .ref kkept, .ref ksnaps, .ref kaside, .ref kname, .ref kreadName, .ref kkeptName, .ref kisKept, .ref konces, .int (nI 0), .int (nI 0), .ref kpoured, .ref kfar, .ref ksides, .int (nI 0), .int (-1 : Int32), .int (nI 0), .ref klines, .ref kmet, .int (nI 0), .ref ksunk, .ref ktrying, .int (nI 0), .int (-1 : Int32), .int (-1 : Int32), .ref ktext, .int (nI 0), .int (nI 0), .ref kline, .ref kwritten, .int (nI 0), .int (nI 0), .ref knode, .int (nI 0), .int (nI 0), .int (nI 0), .int (nI 0)])), (know, .inl (ky 0, 373, .inl knowF))] H := hP
  have hD : va_D A [(o, .inr (12, [.int (nI 0), .ref ktape, .int (nI 0), .int (nI 0), .int (nI 0), .int (nI 0), .int (nI 0), .int (nI 0), .int (nI 0), .int (nI 0), .int (nI 0), .int (nI 0), .long 0, .int (nI 0), .ref know, .ref kread, .ref kkept, .ref ksnaps, .ref kaside, .ref kname, .ref kreadName, .ref kkeptName, .ref kisKept, .ref konces, .int (nI 0), .int (nI 0), .ref kpoured, .ref kfar, .ref ksides, .int (nI 0), .int (-1 : Int32), .int (nI 0), .ref klines, .ref kmet, .int (nI 0), .ref ksunk, .ref ktrying, .int (nI 0), .int (-1 : Int32), .int (-1 : Int32), .ref ktext, .int (nI 0), .int (nI 0), .ref kline, .ref kwritten, .int (nI 0), .int (nI 0), .ref knode, .int (nI 0), .int (nI 0), .int (nI 0), .int (nI 0)])), (know, .inl (ky 0, 373, .inl knowF))] := hD
  refine lv_iload_n hx hb dX12_count_5 rfl (lv_at hl 1 rfl) ?_
  rcases sw_in x 6 6 (by decide) (by decide) with hsw | ⟨ksw, hk1, rfl⟩
  · refine lv_tableOut (tgt := 96) hx hb dX12_count_6 hsw (by decide) ?_
    refine lv_iconst (v := (-1 : Int32)) hx hb dX12_count_96 (by decide) ?_
    have hP9 := hP.sub (ws' := []) [] rfl
    have hD9 := hD.sub (ws' := []) [] (by decide) rfl
    refine W.widen (k := 0) (n := 0) (Nat.le_of_ble_eq_true rfl) (Nat.le_of_ble_eq_true rfl) ?_
    exact W.iret (v := (-1 : Int32)) hx hb hr (fun t ht9 hW9 => ⟨⟨(-1 : Int32), (), rfl, (lf_m_count_1 o ktape know kread kkept ksnaps kaside kname kreadName kkeptName kisKept konces kpoured kfar ksides klines kmet ksunk ktrying ktext kline kwritten knode knowF x hN hsw), by rw [ht9]; exact hP9, va_K.moved hW9.alike hK, hD9⟩, hS.F ht9⟩) hS.2.2 dX12_count_97
  · rcases (show ksw = 0 ∨ ksw = 1 ∨ ksw = 2 ∨ ksw = 3 ∨ ksw = 4 ∨ ksw = 5 ∨ ksw = 6 by omega) with rfl | rfl | rfl | rfl | rfl | rfl | rfl
    · refine lv_tableIn (off := 42) (tgt := 48) hx hb dX12_count_6 (by decide) (by decide) rfl (by decide) ?_
      refine lv_aload_n hx hb dX12_count_48 rfl (lv_at hl 0 rfl) ?_
      refine va_get (D := (dC, dI)) (ci := 12) (v := .ref know) (C := RX12) (T := TX12) (N := 52) hx hb hts hin12 hown hK hP 0 rfl rfl 14 (by decide) (hts (.fieldLink RX12 98 "PorridgeSeaModel" "now" "[I") (List.mem_of_getElem? (i := 2) rfl)) (fun _ h9 => h9) rfl dX12_count_49 ?_
      refine lv_iconst (v := nI 0) hx hb dX12_count_52 (by decide) ?_
      refine r_iald hx hb hK hP 1 rfl 0 (by decide) (by decide) (nI 4) (NowOk.b hN).1 dX12_count_53 ?_
      have hP9 := hP.sub (ws' := []) [] rfl
      have hD9 := hD.sub (ws' := []) [] (by decide) rfl
      refine W.widen (k := 0) (n := 0) (Nat.le_of_ble_eq_true rfl) (Nat.le_of_ble_eq_true rfl) ?_
      exact W.iret (v := nI 4) hx hb hr (fun t ht9 hW9 => ⟨⟨nI 4, (), rfl, (lf_m_count_2 o ktape know kread kkept ksnaps kaside kname kreadName kkeptName kisKept konces kpoured kfar ksides klines kmet ksunk ktrying ktext kline kwritten knode knowF hN), by rw [ht9]; exact hP9, va_K.moved hW9.alike hK, hD9⟩, hS.F ht9⟩) hS.2.2 dX12_count_54
    · refine lv_tableIn (off := 49) (tgt := 55) hx hb dX12_count_6 (by decide) (by decide) rfl (by decide) ?_
      refine lv_aload_n hx hb dX12_count_55 rfl (lv_at hl 0 rfl) ?_
      refine va_get (D := (dC, dI)) (ci := 12) (v := .ref know) (C := RX12) (T := TX12) (N := 52) hx hb hts hin12 hown hK hP 0 rfl rfl 14 (by decide) (hts (.fieldLink RX12 98 "PorridgeSeaModel" "now" "[I") (List.mem_of_getElem? (i := 2) rfl)) (fun _ h9 => h9) rfl dX12_count_56 ?_
      refine lv_iconst (v := nI 1) hx hb dX12_count_59 (by decide) ?_
      refine r_iald hx hb hK hP 1 rfl 1 (by decide) (by decide) (nI 4) (NowOk.b hN).2.1 dX12_count_60 ?_
      have hP9 := hP.sub (ws' := []) [] rfl
      have hD9 := hD.sub (ws' := []) [] (by decide) rfl
      refine W.widen (k := 0) (n := 0) (Nat.le_of_ble_eq_true rfl) (Nat.le_of_ble_eq_true rfl) ?_
      exact W.iret (v := nI 4) hx hb hr (fun t ht9 hW9 => ⟨⟨nI 4, (), rfl, (lf_m_count_3 o ktape know kread kkept ksnaps kaside kname kreadName kkeptName kisKept konces kpoured kfar ksides klines kmet ksunk ktrying ktext kline kwritten knode knowF hN), by rw [ht9]; exact hP9, va_K.moved hW9.alike hK, hD9⟩, hS.F ht9⟩) hS.2.2 dX12_count_61
    · refine lv_tableIn (off := 56) (tgt := 62) hx hb dX12_count_6 (by decide) (by decide) rfl (by decide) ?_
      refine lv_aload_n hx hb dX12_count_62 rfl (lv_at hl 0 rfl) ?_
      refine va_get (D := (dC, dI)) (ci := 12) (v := .ref know) (C := RX12) (T := TX12) (N := 52) hx hb hts hin12 hown hK hP 0 rfl rfl 14 (by decide) (hts (.fieldLink RX12 98 "PorridgeSeaModel" "now" "[I") (List.mem_of_getElem? (i := 2) rfl)) (fun _ h9 => h9) rfl dX12_count_63 ?_
      refine lv_iconst (v := nI 2) hx hb dX12_count_66 (by decide) ?_
      refine r_iald hx hb hK hP 1 rfl 2 (by decide) (by decide) (nI 0) (NowOk.b hN).2.2.1 dX12_count_67 ?_
      have hP9 := hP.sub (ws' := []) [] rfl
      have hD9 := hD.sub (ws' := []) [] (by decide) rfl
      refine W.widen (k := 0) (n := 0) (Nat.le_of_ble_eq_true rfl) (Nat.le_of_ble_eq_true rfl) ?_
      exact W.iret (v := nI 0) hx hb hr (fun t ht9 hW9 => ⟨⟨nI 0, (), rfl, (lf_m_count_4 o ktape know kread kkept ksnaps kaside kname kreadName kkeptName kisKept konces kpoured kfar ksides klines kmet ksunk ktrying ktext kline kwritten knode knowF hN), by rw [ht9]; exact hP9, va_K.moved hW9.alike hK, hD9⟩, hS.F ht9⟩) hS.2.2 dX12_count_68
    · refine lv_tableIn (off := 63) (tgt := 69) hx hb dX12_count_6 (by decide) (by decide) rfl (by decide) ?_
      refine lv_aload_n hx hb dX12_count_69 rfl (lv_at hl 0 rfl) ?_
      refine va_get (D := (dC, dI)) (ci := 12) (v := .ref know) (C := RX12) (T := TX12) (N := 52) hx hb hts hin12 hown hK hP 0 rfl rfl 14 (by decide) (hts (.fieldLink RX12 98 "PorridgeSeaModel" "now" "[I") (List.mem_of_getElem? (i := 2) rfl)) (fun _ h9 => h9) rfl dX12_count_70 ?_
      refine lv_iconst (v := nI 3) hx hb dX12_count_73 (by decide) ?_
      refine r_iald hx hb hK hP 1 rfl 3 (by decide) (by decide) (nI 0) (NowOk.b hN).2.2.2 dX12_count_74 ?_
      have hP9 := hP.sub (ws' := []) [] rfl
      have hD9 := hD.sub (ws' := []) [] (by decide) rfl
      refine W.widen (k := 0) (n := 0) (Nat.le_of_ble_eq_true rfl) (Nat.le_of_ble_eq_true rfl) ?_
      exact W.iret (v := nI 0) hx hb hr (fun t ht9 hW9 => ⟨⟨nI 0, (), rfl, (lf_m_count_5 o ktape know kread kkept ksnaps kaside kname kreadName kkeptName kisKept konces kpoured kfar ksides klines kmet ksunk ktrying ktext kline kwritten knode knowF hN), by rw [ht9]; exact hP9, va_K.moved hW9.alike hK, hD9⟩, hS.F ht9⟩) hS.2.2 dX12_count_75
    · refine lv_tableIn (off := 70) (tgt := 76) hx hb dX12_count_6 (by decide) (by decide) rfl (by decide) ?_
      refine lv_aload_n hx hb dX12_count_76 rfl (lv_at hl 0 rfl) ?_
      refine va_get (D := (dC, dI)) (ci := 12) (v := .ref know) (C := RX12) (T := TX12) (N := 52) hx hb hts hin12 hown hK hP 0 rfl rfl 14 (by decide) (hts (.fieldLink RX12 98 "PorridgeSeaModel" "now" "[I") (List.mem_of_getElem? (i := 2) rfl)) (fun _ h9 => h9) rfl dX12_count_77 ?_
      refine lv_iconst (v := nI 5) hx hb dX12_count_80 (by decide) ?_
      refine r_iald hx hb hK hP 1 rfl 5 (by decide) (by decide) (nI 1) (now_5 hN) dX12_count_81 ?_
      have hP9 := hP.sub (ws' := []) [] rfl
      have hD9 := hD.sub (ws' := []) [] (by decide) rfl
      refine W.widen (k := 0) (n := 0) (Nat.le_of_ble_eq_true rfl) (Nat.le_of_ble_eq_true rfl) ?_
      exact W.iret (v := nI 1) hx hb hr (fun t ht9 hW9 => ⟨⟨nI 1, (), rfl, (lf_m_count_6 o ktape know kread kkept ksnaps kaside kname kreadName kkeptName kisKept konces kpoured kfar ksides klines kmet ksunk ktrying ktext kline kwritten knode knowF hN), by rw [ht9]; exact hP9, va_K.moved hW9.alike hK, hD9⟩, hS.F ht9⟩) hS.2.2 dX12_count_82
    · refine lv_tableIn (off := 77) (tgt := 83) hx hb dX12_count_6 (by decide) (by decide) rfl (by decide) ?_
      refine lv_aload_n hx hb dX12_count_83 rfl (lv_at hl 0 rfl) ?_
      refine va_get (D := (dC, dI)) (ci := 12) (v := .ref know) (C := RX12) (T := TX12) (N := 52) hx hb hts hin12 hown hK hP 0 rfl rfl 14 (by decide) (hts (.fieldLink RX12 98 "PorridgeSeaModel" "now" "[I") (List.mem_of_getElem? (i := 2) rfl)) (fun _ h9 => h9) rfl dX12_count_84 ?_
      refine lv_bipush (v := nI 6) hx hb dX12_count_87 (by decide) ?_
      refine r_iald hx hb hK hP 1 rfl 6 (by decide) (by decide) (nI 3) (now_6 hN) dX12_count_89 ?_
      have hP9 := hP.sub (ws' := []) [] rfl
      have hD9 := hD.sub (ws' := []) [] (by decide) rfl
      refine W.widen (k := 0) (n := 0) (Nat.le_of_ble_eq_true rfl) (Nat.le_of_ble_eq_true rfl) ?_
      exact W.iret (v := nI 3) hx hb hr (fun t ht9 hW9 => ⟨⟨nI 3, (), rfl, (lf_m_count_7 o ktape know kread kkept ksnaps kaside kname kreadName kkeptName kisKept konces kpoured kfar ksides klines kmet ksunk ktrying ktext kline kwritten knode knowF hN), by rw [ht9]; exact hP9, va_K.moved hW9.alike hK, hD9⟩, hS.F ht9⟩) hS.2.2 dX12_count_90
    · refine lv_tableIn (off := 85) (tgt := 91) hx hb dX12_count_6 (by decide) (by decide) rfl (by decide) ?_
      refine lv_aload_n hx hb dX12_count_91 rfl (lv_at hl 0 rfl) ?_
      refine va_get (D := (dC, dI)) (ci := 12) (v := .int (nI 0)) (C := RX12) (T := TX12) (N := 52) hx hb hts hin12 hown hK hP 0 rfl rfl 2 (by decide) (hts (.fieldLink RX12 11 "PorridgeSeaModel" "taped" "I") (List.mem_of_getElem? (i := 3) rfl)) (fun _ h9 => h9) rfl dX12_count_92 ?_
      have hP9 := hP.sub (ws' := []) [] rfl
      have hD9 := hD.sub (ws' := []) [] (by decide) rfl
      refine W.widen (k := 0) (n := 0) (Nat.le_of_ble_eq_true rfl) (Nat.le_of_ble_eq_true rfl) ?_
      exact W.iret (v := nI 0) hx hb hr (fun t ht9 hW9 => ⟨⟨nI 0, (), rfl, (lf_m_count_8 o ktape know kread kkept ksnaps kaside kname kreadName kkeptName kisKept konces kpoured kfar ksides klines kmet ksunk ktrying ktext kline kwritten knode knowF hN), by rw [ht9]; exact hP9, va_K.moved hW9.alike hK, hD9⟩, hS.F ht9⟩) hS.2.2 dX12_count_95
set_option maxHeartbeats 4000000 in
set_option maxRecDepth 100000 in
theorem lp_m_snap {p : Program} {l : Launch} {e : Env} {R : Room} {s : State} {m : MethodId} {args : Array Value} {below : List Frame} {meth : Method} {c : Code} {Q : State → Prop} {dC : Nat → ClassId} {dI : Nat → Nat → Nat} {ky : Nat → ClassId} {H0 : Heap} {A : Nat → Prop} (hx : p.tables.exec = Jvm.exec) (hb : c.code = cX12_snap) (hml : c.maxLocals = 2) (hown : s.vm.findClass RX12 = some m.cls) (hts : ∀ w ∈ wsX12_snap, w.before args s = true) (hK : Kk dC dI ky s) (hA : ∀ q, H0.size ≤ q → A q) (hRf : 0 ≤ R.frames) (hRl : 0 ≤ R.locals) (hRc : 0 ≤ R.cells) (hRs : 0 ≤ R.slots) (o : Nat) (kthrown : Int32) (ktape : Nat) (ktaped : Int32) (ksize : Int32) (klimit : Int32) (kto : Int32) (kfrom : Int32) (kkind : Int32) (knumber : Int32) (ksign : Int32) (kfault : Int32) (kplace : Int32) (kword : Int64) (ktold : Int32) (know : Nat) (kread : Nat) (kkept : Nat) (ksnaps : Nat) (kaside : Nat) (kname : Nat) (kreadName : Nat) (kkeptName : Nat) (kisKept : Nat) (konces : Nat) (khasCells : Int32) (kpoured : Nat) (kfar : Nat) (ksides : Nat) (ksideMany : Int32) (kwayDays : Int32) (khasWay : Int32) (klines : Nat) (kmet : Nat) (kmetMany : Int32) (ksunk : Nat) (ktrying : Nat) (ksunkMany : Int32) (ksending : Int32) (kfleets : Int32) (ktext : Nat) (ktexts : Int32) (kseed : Int32) (kline : Nat) (kwritten : Nat) (klineMany : Int32) (khasWritten : Int32) (knode : Nat) (knodes : Int32) (konesMany : Int32) (kwithin : Int32) (ktop : Int32) (knowF : Nat → Int32) (ksnapsF : Nat → Int32)  (kx : ∀ (i : Nat) (fs : Nat → Int32), 64 = i → ∀ (H : Heap) (locs : List Loc) (ls : Array Slot), va_P (dC, dI) vwCl [(o, .inr (12, [.int kthrown, .ref ktape, .int ktaped, .int ksize, .int klimit, .int kto, .int kfrom, .int kkind, .int knumber, .int ksign, .int kfault, .int kplace, .long kword, .int ktold, .ref know, .ref kread, .ref kkept, .ref ksnaps, .ref kaside, .ref kname, .ref kreadName, .ref kkeptName, .ref kisKept, .ref konces, .int (nI 0), .int khasCells, .ref kpoured, .ref kfar, .ref ksides, .int ksideMany, .int kwayDays, .int khasWay, .ref klines, .ref kmet, .int kmetMany, .ref ksunk, .ref ktrying, .int ksunkMany, .int ksending, .int kfleets, .ref ktext, .int ktexts, .int kseed, .ref kline, .ref kwritten, .int klineMany, .int khasWritten, .ref knode, .int knodes, .int konesMany, .int kwithin, .int ktop])), (know, .inl (ky 0, 373, .inl knowF)), (ksnaps, .inl (ky 0, 512, .inl fs))] H → va_D A [(o, .inr (12, [.int kthrown, .ref ktape, .int ktaped, .int ksize, .int klimit, .int kto, .int kfrom, .int kkind, .int knumber, .int ksign, .int kfault, .int kplace, .long kword, .int ktold, .ref know, .ref kread, .ref kkept, .ref ksnaps, .ref kaside, .ref kname, .ref kreadName, .ref kkeptName, .ref kisKept, .ref konces, .int (nI 0), .int khasCells, .ref kpoured, .ref kfar, .ref ksides, .int ksideMany, .int kwayDays, .int khasWay, .ref klines, .ref kmet, .int kmetMany, .ref ksunk, .ref ktrying, .int ksunkMany, .int ksending, .int kfleets, .ref ktext, .int ktexts, .int kseed, .ref kline, .ref kwritten, .int klineMany, .int khasWritten, .ref knode, .int knodes, .int konesMany, .int kwithin, .int ktop])), (know, .inl (ky 0, 373, .inl knowF)), (ksnaps, .inl (ky 0, 512, .inl fs))] → va_S A H0 H locs → lv_has ls 2 [(1, .int (nI i)), (0, .ref o)] → W p l e R s m args below meth c H locs 0 0 Q (F0 m 86 ls [])) :
    ∀ (nN i : Nat) (fs : Nat → Int32), i ≤ 64 → 64 + 1 ≤ i + nN → ∀ (H : Heap) (locs : List Loc) (ls : Array Slot), va_P (dC, dI) vwCl [(o, .inr (12, [.int kthrown, .ref ktape, .int ktaped, .int ksize, .int klimit, .int kto, .int kfrom, .int kkind, .int knumber, .int ksign, .int kfault, .int kplace, .long kword, .int ktold, .ref know, .ref kread, .ref kkept, .ref ksnaps, .ref kaside, .ref kname, .ref kreadName, .ref kkeptName, .ref kisKept, .ref konces, .int (nI 0), .int khasCells, .ref kpoured, .ref kfar, .ref ksides, .int ksideMany, .int kwayDays, .int khasWay, .ref klines, .ref kmet, .int kmetMany, .ref ksunk, .ref ktrying, .int ksunkMany, .int ksending, .int kfleets, .ref ktext, .int ktexts, .int kseed, .ref kline, .ref kwritten, .int klineMany, .int khasWritten, .ref knode, .int knodes, .int konesMany, .int kwithin, .int ktop])), (know, .inl (ky 0, 373, .inl knowF)), (ksnaps, .inl (ky 0, 512, .inl fs))] H → va_D A [(o, .inr (12, [.int kthrown, .ref ktape, .int ktaped, .int ksize, .int klimit, .int kto, .int kfrom, .int kkind, .int knumber, .int ksign, .int kfault, .int kplace, .long kword, .int ktold, .ref know, .ref kread, .ref kkept, .ref ksnaps, .ref kaside, .ref kname, .ref kreadName, .ref kkeptName, .ref kisKept, .ref konces, .int (nI 0), .int khasCells, .ref kpoured, .ref kfar, .ref ksides, .int ksideMany, .int kwayDays, .int khasWay, .ref klines, .ref kmet, .int kmetMany, .ref ksunk, .ref ktrying, .int ksunkMany, .int ksending, .int kfleets, .ref ktext, .int ktexts, .int kseed, .ref kline, .ref kwritten, .int klineMany, .int khasWritten, .ref knode, .int knodes, .int konesMany, .int kwithin, .int ktop])), (know, .inl (ky 0, 373, .inl knowF)), (ksnaps, .inl (ky 0, 512, .inl fs))] → va_S A H0 H locs → lv_has ls 2 [(1, .int (nI i)), (0, .ref o)] → W p l e R s m args below meth c H locs 0 0 Q (F0 m 51 ls []) := by
  have hin12 : ∀ w ∈ u_ws RX12 TX12 52, w ∈ wsX12_snap := by decide +kernel
  intro nN
  induction nN with
  | zero => intro i fs hi hnN; exfalso; omega
  | succ nN ih =>
    intro i fs hi hnN  H locs ls hP hD hS hl
    refine lv_iload_n hx hb dX12_snap_51 rfl (lv_at hl 0 rfl) ?_
    refine lv_bipush (v := nI 64) hx hb dX12_snap_52 (by decide) ?_
    refine n_icmp_ge (x := i) (y := 64) (tgt := 86) hx hb (by omega) (by omega) dX12_snap_54 (by decide) (fun c1 => ?_) (fun c1 => ?_)
    · exact kx i fs (by omega)  H locs ls hP hD hS (lv_sub hl [0, 1] rfl)
    · refine lv_aload_n hx hb dX12_snap_57 rfl (lv_at hl 1 rfl) ?_
      refine va_get (D := (dC, dI)) (ci := 12) (v := .ref ksnaps) (C := RX12) (T := TX12) (N := 52) hx hb hts hin12 hown hK hP 0 rfl rfl 17 (by decide) (hts (.fieldLink RX12 107 "PorridgeSeaModel" "snaps" "[I") (List.mem_of_getElem? (i := 2) rfl)) (fun _ h9 => h9) rfl dX12_snap_58 ?_
      refine lv_bipush (v := nI 64) hx hb dX12_snap_61 (by decide) ?_
      refine lv_aload_n hx hb dX12_snap_63 rfl (lv_at hl 1 rfl) ?_
      refine va_get (D := (dC, dI)) (ci := 12) (v := .int (nI 0)) (C := RX12) (T := TX12) (N := 52) hx hb hts hin12 hown hK hP 0 rfl rfl 24 (by decide) (hts (.fieldLink RX12 237 "PorridgeSeaModel" "snapMany" "I") (List.mem_of_getElem? (i := 1) rfl)) (fun _ h9 => h9) rfl dX12_snap_64 ?_
      refine lv_imul hx hb dX12_snap_67 ?_
      refine r_ti (nI 0) (by decide) ?_
      refine lv_iload_n hx hb dX12_snap_68 rfl (lv_at hl 0 rfl) ?_
      refine lv_iadd hx hb dX12_snap_69 ?_
      refine r_ti (nI (0 + i)) (nI_add _ _) ?_
      refine lv_aload_n hx hb dX12_snap_70 rfl (lv_at hl 1 rfl) ?_
      refine va_get (D := (dC, dI)) (ci := 12) (v := .ref know) (C := RX12) (T := TX12) (N := 52) hx hb hts hin12 hown hK hP 0 rfl rfl 14 (by decide) (hts (.fieldLink RX12 98 "PorridgeSeaModel" "now" "[I") (List.mem_of_getElem? (i := 3) rfl)) (fun _ h9 => h9) rfl dX12_snap_71 ?_
      refine lv_bipush (v := nI 67) hx hb dX12_snap_74 (by decide) ?_
      refine lv_iload_n hx hb dX12_snap_76 rfl (lv_at hl 0 rfl) ?_
      refine lv_iadd hx hb dX12_snap_77 ?_
      refine r_ti (nI (67 + i)) (nI_add _ _) ?_
      obtain ⟨y2, e3⟩ : ∃ z9, z9 = knowF (67 + i) := ⟨_, rfl⟩
      refine r_iald hx hb hK hP 1 rfl (67 + i) (by omega) (by decide) y2 e3.symm dX12_snap_78 ?_
      refine r_iast (x := y2) hx hb hK hP hD hS 2 rfl (0 + i) (by omega) (by decide) dX12_snap_79 (fun H locs hP hD hS => ?_)
      obtain ⟨g4, e5⟩ : ∃ z9, z9 = upd fs (0 + i) y2 := ⟨_, rfl⟩
      rw [← e5] at hP hD
      have hP : va_P (dC, dI) vwCl [(o, .inr (12, [.int kthrown, .ref ktape, .int ktaped, .int ksize, .int klimit, .int kto, .int kfrom, .int kkind, .int knumber, .int ksign, .int kfault, .int kplace, .long kword, .int ktold, .ref know, .ref kread, .ref kkept, .ref ksnaps, .ref kaside, .ref kname, .ref kreadName, .ref kkeptName, .ref kisKept, .ref konces, .int (nI 0), .int khasCells, .ref kpoured, .ref kfar, .ref ksides, .int ksideMany, .int kwayDays, .int khasWay, .ref klines, .ref kmet, .int kmetMany, .ref ksunk, .ref ktrying, .int ksunkMany, .int ksending, .int kfleets, .ref ktext, .int ktexts, .int kseed, .ref kline, .ref kwritten, .int klineMany, .int khasWritten, .ref knode, .int knodes, .int konesMany, .int kwithin, .int ktop])), (know, .inl (ky 0, 373, .inl knowF)), (ksnaps, .inl (ky 0, 512, .inl g4))] H := hP
      have hD : va_D A [(o, .inr (12, [.int kthrown, .ref ktape, .int ktaped, .int ksize, .int klimit, .int kto, .int kfrom, .int kkind, .int knumber, .int ksign, .int kfault, .int kplace, .long kword, .int ktold, .ref know, .ref kread, .ref kkept, .ref ksnaps, .ref kaside, .ref kname, .ref kreadName, .ref kkeptName, .ref kisKept, .ref konces, .int (nI 0), .int khasCells, .ref kpoured, .ref kfar, .ref ksides, .int ksideMany, .int kwayDays, .int khasWay, .ref klines, .ref kmet, .int kmetMany, .ref ksunk, .ref ktrying, .int ksunkMany, .int ksending, .int kfleets, .ref ktext, .int ktexts, .int kseed, .ref kline, .ref kwritten, .int klineMany, .int khasWritten, .ref knode, .int knodes, .int konesMany, .int kwithin, .int ktop])), (know, .inl (ky 0, 373, .inl knowF)), (ksnaps, .inl (ky 0, 512, .inl g4))] := hD
      refine lv_iinc (v := nI (i + 1)) (lv' := [(1, .int (nI (i + 1))), (0, .ref o)]) hx hb dX12_snap_80 hl (k := 0) rfl (show nI i + nI 1 = nI (i + 1) from nI_add _ _) (by decide) rfl (fun ls hl => ?_)
      refine lv_goto (tgt := 51) hx hb dX12_snap_83 (by decide) ?_
      exact ih (i + 1) g4 (by omega) (by omega)  _ _ _ hP hD hS (lv_sub hl [0, 1] rfl)
set_option maxHeartbeats 4000000 in
set_option maxRecDepth 100000 in
theorem c_m_snap (l : Launch) (dC : Nat → ClassId) (dI : Nat → Nat → Nat) (ky : Nat → ClassId) (sz : Nat) (o : Nat) (kthrown : Int32) (ktape : Nat) (ktaped : Int32) (ksize : Int32) (klimit : Int32) (kto : Int32) (kfrom : Int32) (kkind : Int32) (knumber : Int32) (ksign : Int32) (kfault : Int32) (kplace : Int32) (kword : Int64) (ktold : Int32) (know : Nat) (kread : Nat) (kkept : Nat) (ksnaps : Nat) (kaside : Nat) (kname : Nat) (kreadName : Nat) (kkeptName : Nat) (kisKept : Nat) (konces : Nat) (khasCells : Int32) (kpoured : Nat) (kfar : Nat) (ksides : Nat) (ksideMany : Int32) (kwayDays : Int32) (khasWay : Int32) (klines : Nat) (kmet : Nat) (kmetMany : Int32) (ksunk : Nat) (ktrying : Nat) (ksunkMany : Int32) (ksending : Int32) (kfleets : Int32) (ktext : Nat) (ktexts : Int32) (kseed : Int32) (kline : Nat) (kwritten : Nat) (klineMany : Int32) (khasWritten : Int32) (knode : Nat) (knodes : Int32) (konesMany : Int32) (kwithin : Int32) (ktop : Int32) (knowF : Nat → Int32) (ksnapsF : Nat → Int32)  : Met l yX12_snap wsX12_snap ({ frames := 0, cells := 0, slots := 0, locals := 0 }) (PcU dC dI ky [.ref o] [(o, .inr (12, [.int kthrown, .ref ktape, .int ktaped, .int ksize, .int klimit, .int kto, .int kfrom, .int kkind, .int knumber, .int ksign, .int kfault, .int kplace, .long kword, .int ktold, .ref know, .ref kread, .ref kkept, .ref ksnaps, .ref kaside, .ref kname, .ref kreadName, .ref kkeptName, .ref kisKept, .ref konces, .int (nI 0), .int khasCells, .ref kpoured, .ref kfar, .ref ksides, .int ksideMany, .int kwayDays, .int khasWay, .ref klines, .ref kmet, .int kmetMany, .ref ksunk, .ref ktrying, .int ksunkMany, .int ksending, .int kfleets, .ref ktext, .int ktexts, .int kseed, .ref kline, .ref kwritten, .int klineMany, .int khasWritten, .ref knode, .int knodes, .int konesMany, .int kwithin, .int ktop])), (know, .inl (ky 0, 373, .inl knowF)), (ksnaps, .inl (ky 0, 512, .inl ksnapsF))] sz) (va_Qv (fun (ksnapsG : (Nat → Int32)) => True) (BU dC dI ky (fun (ksnapsG : (Nat → Int32)) => [(o, .inr (12, [.int kthrown, .ref ktape, .int ktaped, .int ksize, .int klimit, .int kto, .int kfrom, .int kkind, .int knumber, .int ksign, .int kfault, .int kplace, .long kword, .int ktold, .ref know, .ref kread, .ref kkept, .ref ksnaps, .ref kaside, .ref kname, .ref kreadName, .ref kkeptName, .ref kisKept, .ref konces, .int (nI 1), .int khasCells, .ref kpoured, .ref kfar, .ref ksides, .int ksideMany, .int kwayDays, .int khasWay, .ref klines, .ref kmet, .int kmetMany, .ref ksunk, .ref ktrying, .int ksunkMany, .int ksending, .int kfleets, .ref ktext, .int ktexts, .int kseed, .ref kline, .ref kwritten, .int klineMany, .int khasWritten, .ref knode, .int knodes, .int konesMany, .int kwithin, .int ktop])), (know, .inl (ky 0, 373, .inl knowF)), (ksnaps, .inl (ky 0, 512, .inl ksnapsG))]) (va_A [(o, .inr (12, [.int kthrown, .ref ktape, .int ktaped, .int ksize, .int klimit, .int kto, .int kfrom, .int kkind, .int knumber, .int ksign, .int kfault, .int kplace, .long kword, .int ktold, .ref know, .ref kread, .ref kkept, .ref ksnaps, .ref kaside, .ref kname, .ref kreadName, .ref kkeptName, .ref kisKept, .ref konces, .int (nI 0), .int khasCells, .ref kpoured, .ref kfar, .ref ksides, .int ksideMany, .int kwayDays, .int khasWay, .ref klines, .ref kmet, .int kmetMany, .ref ksunk, .ref ktrying, .int ksunkMany, .int ksending, .int kfleets, .ref ktext, .int ktexts, .int kseed, .ref kline, .ref kwritten, .int klineMany, .int khasWritten, .ref knode, .int knodes, .int konesMany, .int kwithin, .int ktop])), (know, .inl (ky 0, 373, .inl knowF)), (ksnaps, .inl (ky 0, 512, .inl ksnapsF))] sz)) (va_A [(o, .inr (12, [.int kthrown, .ref ktape, .int ktaped, .int ksize, .int klimit, .int kto, .int kfrom, .int kkind, .int knumber, .int ksign, .int kfault, .int kplace, .long kword, .int ktold, .ref know, .ref kread, .ref kkept, .ref ksnaps, .ref kaside, .ref kname, .ref kreadName, .ref kkeptName, .ref kisKept, .ref konces, .int (nI 0), .int khasCells, .ref kpoured, .ref kfar, .ref ksides, .int ksideMany, .int kwayDays, .int khasWay, .ref klines, .ref kmet, .int kmetMany, .ref ksunk, .ref ktrying, .int ksunkMany, .int ksending, .int kfleets, .ref ktext, .int ktexts, .int kseed, .ref kline, .ref kwritten, .int klineMany, .int khasWritten, .ref knode, .int knodes, .int konesMany, .int kwithin, .int ktop])), (know, .inl (ky 0, 373, .inl knowF)), (ksnaps, .inl (ky 0, 512, .inl ksnapsF))] sz)) 0 0 (va_A [(o, .inr (12, [.int kthrown, .ref ktape, .int ktaped, .int ksize, .int klimit, .int kto, .int kfrom, .int kkind, .int knumber, .int ksign, .int kfault, .int kplace, .long kword, .int ktold, .ref know, .ref kread, .ref kkept, .ref ksnaps, .ref kaside, .ref kname, .ref kreadName, .ref kkeptName, .ref kisKept, .ref konces, .int (nI 0), .int khasCells, .ref kpoured, .ref kfar, .ref ksides, .int ksideMany, .int kwayDays, .int khasWay, .ref klines, .ref kmet, .int kmetMany, .ref ksunk, .ref ktrying, .int ksunkMany, .int ksending, .int kfleets, .ref ktext, .int ktexts, .int kseed, .ref kline, .ref kwritten, .int klineMany, .int khasWritten, .ref knode, .int knodes, .int konesMany, .int kwithin, .int ktop])), (know, .inl (ky 0, 373, .inl knowF)), (ksnaps, .inl (ky 0, 512, .inl ksnapsF))] sz) := by
  refine Met.ofW (cc := cX12_snap) (maxL := 2) (ret := none) (by decide) rfl ?_
  intro p e s m args below meth c s₁ B hml hv
  obtain ⟨rfl, hsz, hP, hK, hD0⟩ := hv
  have hx := B.exec
  have hb := B.bytes
  have hr := B.returns
  have hts := atoms_spec (ws := wsX12_snap) B.pre
  have hown : s.vm.findClass RX12 = some m.cls := findClass_of_methodNamed B.named
  have hlocks := B.notSynchronized
  have hin12 : ∀ w ∈ u_ws RX12 TX12 52, w ∈ wsX12_snap := by decide +kernel
  subst hsz
  have hD := hD0.self (sz := s.heap.size)
  generalize hAe : va_A [(o, .inr (12, [.int kthrown, .ref ktape, .int ktaped, .int ksize, .int klimit, .int kto, .int kfrom, .int kkind, .int knumber, .int ksign, .int kfault, .int kplace, .long kword, .int ktold, .ref know, .ref kread, .ref kkept, .ref ksnaps, .ref kaside, .ref kname, .ref kreadName, .ref kkeptName, .ref kisKept, .ref konces, .int (nI 0), .int khasCells, .ref kpoured, .ref kfar, .ref ksides, .int ksideMany, .int kwayDays, .int khasWay, .ref klines, .ref kmet, .int kmetMany, .ref ksunk, .ref ktrying, .int ksunkMany, .int ksending, .int kfleets, .ref ktext, .int ktexts, .int kseed, .ref kline, .ref kwritten, .int klineMany, .int khasWritten, .ref knode, .int knodes, .int konesMany, .int kwithin, .int ktop])), (know, .inl (ky 0, 373, .inl knowF)), (ksnaps, .inl (ky 0, 512, .inl ksnapsF))] s.heap.size = A at hD ⊢
  have hA : ∀ q : Nat, s.heap.size ≤ q → A q := fun q h => by rw [← hAe]; exact Or.inr h
  have hS : va_S A s.heap s.heap [] := va_S.rf
  have hP : va_P (dC, dI) vwCl [(o, .inr (12, [.int kthrown, .ref ktape, .int ktaped, .int ksize, .int klimit, .int kto, .int kfrom, .int kkind, .int knumber, .int ksign, .int kfault, .int kplace, .long kword, .int ktold, .ref know, .ref kread, .ref kkept, .ref ksnaps, .ref kaside, .ref kname, .ref kreadName, .ref kkeptName, .ref kisKept, .ref konces, .int (nI 0), .int khasCells, .ref kpoured, .ref kfar, .ref ksides, .int ksideMany, .int kwayDays, .int khasWay, .ref klines, .ref kmet, .int kmetMany, .ref ksunk, .ref ktrying, .int ksunkMany, .int ksending, .int kfleets, .ref ktext, .int ktexts, .int kseed, .ref kline, .ref kwritten, .int klineMany, .int khasWritten, .ref knode, .int knodes, .int konesMany, .int kwithin, .int ktop])), (know, .inl (ky 0, 373, .inl knowF)), (ksnaps, .inl (ky 0, 512, .inl ksnapsF))] s.heap := hP
  have hl := lv_entry ([.ref o]) (n := 2) (Nat.le_of_ble_eq_true rfl)
  rw [lg_entry_eq]
  generalize (lg_sl ([.ref o]) ++ List.replicate (2 - (lg_sl ([.ref o])).length) Slot.unset).toArray = ls at hl ⊢
  have hl : lv_has ls 2 [(0, .ref o)] := hl
  have hH0 : True := trivial
  refine lv_aload_n hx hb dX12_snap_0 rfl (lv_at hl 0 rfl) ?_
  refine va_get (D := (dC, dI)) (ci := 12) (v := .int (nI 0)) (C := RX12) (T := TX12) (N := 52) hx hb hts hin12 hown hK hP 0 rfl rfl 24 (by decide) (hts (.fieldLink RX12 237 "PorridgeSeaModel" "snapMany" "I") (List.mem_of_getElem? (i := 1) rfl)) (fun _ h9 => h9) rfl dX12_snap_1 ?_
  refine lv_bipush (v := nI 8) hx hb dX12_snap_4 (by decide) ?_
  refine lv_icmp_ne (tgt := 49) hx hb dX12_snap_6 (by decide) (fun c1 => ?_) (fun c1 => absurd c1 (by decide))
  refine lv_iconst (v := nI 0) hx hb dX12_snap_49 (by decide) ?_
  refine lv_istore_n (lv' := [(1, .int (nI 0)), (0, .ref o)]) hx hb dX12_snap_50 rfl hl (by decide) rfl (fun ls hl => ?_)
  refine lp_m_snap hx hb hml hown hts hK hA (Nat.le_of_ble_eq_true rfl) (Nat.le_of_ble_eq_true rfl) (Nat.le_of_ble_eq_true rfl) (Nat.le_of_ble_eq_true rfl) o kthrown ktape ktaped ksize klimit kto kfrom kkind knumber ksign kfault kplace kword ktold know kread kkept ksnaps kaside kname kreadName kkeptName kisKept konces khasCells kpoured kfar ksides ksideMany kwayDays khasWay klines kmet kmetMany ksunk ktrying ksunkMany ksending kfleets ktext ktexts kseed kline kwritten klineMany khasWritten knode knodes konesMany kwithin ktop knowF ksnapsF ?_ (64 + 1) 0 ksnapsF (by omega) (by omega)  _ _ _ hP hD hS (lv_sub hl [0, 1] rfl)
  intro i fs hiN  H locs ls hP hD hS hl
  subst hiN
  refine lv_aload_n hx hb dX12_snap_86 rfl (lv_at hl 1 rfl) ?_
  refine lv_dup hx hb dX12_snap_87 rfl ?_
  refine va_get (D := (dC, dI)) (ci := 12) (v := .int (nI 0)) (C := RX12) (T := TX12) (N := 52) hx hb hts hin12 hown hK hP 0 rfl rfl 24 (by decide) (hts (.fieldLink RX12 237 "PorridgeSeaModel" "snapMany" "I") (List.mem_of_getElem? (i := 1) rfl)) (fun _ h9 => h9) rfl dX12_snap_88 ?_
  refine lv_iconst (v := nI 1) hx hb dX12_snap_91 (by decide) ?_
  refine lv_iadd hx hb dX12_snap_92 ?_
  refine r_ti (nI 1) (by decide) ?_
  refine va_put (D := (dC, dI)) (ci := 12) (v := .int (nI 1)) (ty := .int) (C := RX12) (T := TX12) (N := 52) hx hb hts hin12 tyX12 tyX12_ok nmX12 hown hK hP hD hS 0 rfl rfl 24 (by decide) (hts (.fieldLink RX12 237 "PorridgeSeaModel" "snapMany" "I") (List.mem_of_getElem? (i := 1) rfl)) (fun _ h9 => h9) rfl (by decide +kernel) rfl rfl (Nat.le_of_ble_eq_true rfl) dX12_snap_93 (fun H locs hP hD hS => ?_)
  have hP : va_P (dC, dI) vwCl [(o, .inr (12, [.int kthrown, .ref ktape, .int ktaped, .int ksize, .int klimit, .int kto, .int kfrom, .int kkind, .int knumber, .int ksign, .int kfault, .int kplace, .long kword, .int ktold, .ref know, .ref kread, .ref kkept, .ref ksnaps, .ref kaside, .ref kname, .ref kreadName, .ref kkeptName, .ref kisKept, .ref konces, .int (nI 1), .int khasCells, .ref kpoured, .ref kfar, .ref ksides, .int ksideMany, .int kwayDays, .int khasWay, .ref klines, .ref kmet, .int kmetMany, .ref ksunk, .ref ktrying, .int ksunkMany, .int ksending, .int kfleets, .ref ktext, .int ktexts, .int kseed, .ref kline, .ref kwritten, .int klineMany, .int khasWritten, .ref knode, .int knodes, .int konesMany, .int kwithin, .int ktop])), (know, .inl (ky 0, 373, .inl knowF)), (ksnaps, .inl (ky 0, 512, .inl fs))] H := hP
  have hD : va_D A [(o, .inr (12, [.int kthrown, .ref ktape, .int ktaped, .int ksize, .int klimit, .int kto, .int kfrom, .int kkind, .int knumber, .int ksign, .int kfault, .int kplace, .long kword, .int ktold, .ref know, .ref kread, .ref kkept, .ref ksnaps, .ref kaside, .ref kname, .ref kreadName, .ref kkeptName, .ref kisKept, .ref konces, .int (nI 1), .int khasCells, .ref kpoured, .ref kfar, .ref ksides, .int ksideMany, .int kwayDays, .int khasWay, .ref klines, .ref kmet, .int kmetMany, .ref ksunk, .ref ktrying, .int ksunkMany, .int ksending, .int kfleets, .ref ktext, .int ktexts, .int kseed, .ref kline, .ref kwritten, .int klineMany, .int khasWritten, .ref knode, .int knodes, .int konesMany, .int kwithin, .int ktop])), (know, .inl (ky 0, 373, .inl knowF)), (ksnaps, .inl (ky 0, 512, .inl fs))] := hD
  have hP9 := hP.sub (ws' := [(o, .inr (12, [.int kthrown, .ref ktape, .int ktaped, .int ksize, .int klimit, .int kto, .int kfrom, .int kkind, .int knumber, .int ksign, .int kfault, .int kplace, .long kword, .int ktold, .ref know, .ref kread, .ref kkept, .ref ksnaps, .ref kaside, .ref kname, .ref kreadName, .ref kkeptName, .ref kisKept, .ref konces, .int (nI 1), .int khasCells, .ref kpoured, .ref kfar, .ref ksides, .int ksideMany, .int kwayDays, .int khasWay, .ref klines, .ref kmet, .int kmetMany, .ref ksunk, .ref ktrying, .int ksunkMany, .int ksending, .int kfleets, .ref ktext, .int ktexts, .int kseed, .ref kline, .ref kwritten, .int klineMany, .int khasWritten, .ref knode, .int knodes, .int konesMany, .int kwithin, .int ktop])), (know, .inl (ky 0, 373, .inl knowF)), (ksnaps, .inl (ky 0, 512, .inl fs))]) [0, 1, 2] rfl
  have hD9 := hD.sub (ws' := [(o, .inr (12, [.int kthrown, .ref ktape, .int ktaped, .int ksize, .int klimit, .int kto, .int kfrom, .int kkind, .int knumber, .int ksign, .int kfault, .int kplace, .long kword, .int ktold, .ref know, .ref kread, .ref kkept, .ref ksnaps, .ref kaside, .ref kname, .ref kreadName, .ref kkeptName, .ref kisKept, .ref konces, .int (nI 1), .int khasCells, .ref kpoured, .ref kfar, .ref ksides, .int ksideMany, .int kwayDays, .int khasWay, .ref klines, .ref kmet, .int kmetMany, .ref ksunk, .ref ktrying, .int ksunkMany, .int ksending, .int kfleets, .ref ktext, .int ktexts, .int kseed, .ref kline, .ref kwritten, .int klineMany, .int khasWritten, .ref knode, .int knodes, .int konesMany, .int kwithin, .int ktop])), (know, .inl (ky 0, 373, .inl knowF)), (ksnaps, .inl (ky 0, 512, .inl fs))]) [0, 1, 2] (by decide) rfl
  refine W.widen (k := 0) (n := 0) (Nat.le_of_ble_eq_true rfl) (Nat.le_of_ble_eq_true rfl) ?_
  exact W.vret hx hb hr (fun t ht9 hW9 => ⟨⟨fs, rfl, trivial, by rw [ht9]; exact hP9, va_K.moved hW9.alike hK, hD9⟩, hS.F ht9⟩) hS.2.2 dX12_snap_96
set_option maxHeartbeats 4000000 in
set_option maxRecDepth 100000 in
theorem lp_m_st1 {p : Program} {l : Launch} {e : Env} {R : Room} {s : State} {m : MethodId} {args : Array Value} {below : List Frame} {meth : Method} {c : Code} {Q : State → Prop} {dC : Nat → ClassId} {dI : Nat → Nat → Nat} {ky : Nat → ClassId} {H0 : Heap} {A : Nat → Prop} (hx : p.tables.exec = Jvm.exec) (hb : c.code = cX12_doStir) (hml : c.maxLocals = 3) (hown : s.vm.findClass RX12 = some m.cls) (hts : ∀ w ∈ wsX12_doStir, w.before args s = true) (hK : Kk dC dI ky s) (hA : ∀ q, H0.size ≤ q → A q) (hRf : 0 ≤ R.frames) (hRl : 0 ≤ R.locals) (hRc : 0 ≤ R.cells) (hRs : 0 ≤ R.slots) (o : Nat) (kthrown : Int32) (ktape : Nat) (ktaped : Int32) (ksize : Int32) (klimit : Int32) (kto : Int32) (kfrom : Int32) (kkind : Int32) (knumber : Int32) (ksign : Int32) (kfault : Int32) (kplace : Int32) (kword : Int64) (ktold : Int32) (know : Nat) (kread : Nat) (kkept : Nat) (ksnaps : Nat) (kaside : Nat) (kname : Nat) (kreadName : Nat) (kkeptName : Nat) (kisKept : Nat) (konces : Nat) (ksnapMany : Int32) (khasCells : Int32) (kpoured : Nat) (kfar : Nat) (ksides : Nat) (ksideMany : Int32) (kwayDays : Int32) (khasWay : Int32) (klines : Nat) (kmet : Nat) (kmetMany : Int32) (ksunk : Nat) (ktrying : Nat) (ksunkMany : Int32) (ksending : Int32) (kfleets : Int32) (ktext : Nat) (ktexts : Int32) (kseed : Int32) (kline : Nat) (kwritten : Nat) (klineMany : Int32) (khasWritten : Int32) (knode : Nat) (knodes : Int32) (konesMany : Int32) (kwithin : Int32) (ktop : Int32) (knowF : Nat → Int32) (kpouredF : Nat → Int32) (ln : Nat) (hB : NowB knowF) (hln : ln < 24) (kx : ∀ (i : Nat) (fp : Nat → Int32), 36 = i → ∀ (H : Heap) (locs : List Loc) (ls : Array Slot), va_P (dC, dI) vwCl [(o, .inr (12, [.int kthrown, .ref ktape, .int ktaped, .int ksize, .int klimit, .int kto, .int kfrom, .int kkind, .int knumber, .int ksign, .int kfault, .int kplace, .long kword, .int ktold, .ref know, .ref kread, .ref kkept, .ref ksnaps, .ref kaside, .ref kname, .ref kreadName, .ref kkeptName, .ref kisKept, .ref konces, .int ksnapMany, .int khasCells, .ref kpoured, .ref kfar, .ref ksides, .int ksideMany, .int kwayDays, .int khasWay, .ref klines, .ref kmet, .int kmetMany, .ref ksunk, .ref ktrying, .int ksunkMany, .int ksending, .int kfleets, .ref ktext, .int ktexts, .int kseed, .ref kline, .ref kwritten, .int klineMany, .int khasWritten, .ref knode, .int knodes, .int konesMany, .int kwithin, .int ktop])), (know, .inl (ky 0, 373, .inl knowF)), (kpoured, .inl (ky 0, 36, .inl fp))] H → va_D A [(o, .inr (12, [.int kthrown, .ref ktape, .int ktaped, .int ksize, .int klimit, .int kto, .int kfrom, .int kkind, .int knumber, .int ksign, .int kfault, .int kplace, .long kword, .int ktold, .ref know, .ref kread, .ref kkept, .ref ksnaps, .ref kaside, .ref kname, .ref kreadName, .ref kkeptName, .ref kisKept, .ref konces, .int ksnapMany, .int khasCells, .ref kpoured, .ref kfar, .ref ksides, .int ksideMany, .int kwayDays, .int khasWay, .ref klines, .ref kmet, .int kmetMany, .ref ksunk, .ref ktrying, .int ksunkMany, .int ksending, .int kfleets, .ref ktext, .int ktexts, .int kseed, .ref kline, .ref kwritten, .int klineMany, .int khasWritten, .ref knode, .int knodes, .int konesMany, .int kwithin, .int ktop])), (know, .inl (ky 0, 373, .inl knowF)), (kpoured, .inl (ky 0, 36, .inl fp))] → va_S A H0 H locs → lv_has ls 3 [(2, .int (nI i)), (0, .ref o), (1, .int (nI ln))] → W p l e R s m args below meth c H locs 0 0 Q (F0 m 21 ls [])) :
    ∀ (nN i : Nat) (fp : Nat → Int32), i ≤ 36 → 36 + 1 ≤ i + nN → ∀ (H : Heap) (locs : List Loc) (ls : Array Slot), va_P (dC, dI) vwCl [(o, .inr (12, [.int kthrown, .ref ktape, .int ktaped, .int ksize, .int klimit, .int kto, .int kfrom, .int kkind, .int knumber, .int ksign, .int kfault, .int kplace, .long kword, .int ktold, .ref know, .ref kread, .ref kkept, .ref ksnaps, .ref kaside, .ref kname, .ref kreadName, .ref kkeptName, .ref kisKept, .ref konces, .int ksnapMany, .int khasCells, .ref kpoured, .ref kfar, .ref ksides, .int ksideMany, .int kwayDays, .int khasWay, .ref klines, .ref kmet, .int kmetMany, .ref ksunk, .ref ktrying, .int ksunkMany, .int ksending, .int kfleets, .ref ktext, .int ktexts, .int kseed, .ref kline, .ref kwritten, .int klineMany, .int khasWritten, .ref knode, .int knodes, .int konesMany, .int kwithin, .int ktop])), (know, .inl (ky 0, 373, .inl knowF)), (kpoured, .inl (ky 0, 36, .inl fp))] H → va_D A [(o, .inr (12, [.int kthrown, .ref ktape, .int ktaped, .int ksize, .int klimit, .int kto, .int kfrom, .int kkind, .int knumber, .int ksign, .int kfault, .int kplace, .long kword, .int ktold, .ref know, .ref kread, .ref kkept, .ref ksnaps, .ref kaside, .ref kname, .ref kreadName, .ref kkeptName, .ref kisKept, .ref konces, .int ksnapMany, .int khasCells, .ref kpoured, .ref kfar, .ref ksides, .int ksideMany, .int kwayDays, .int khasWay, .ref klines, .ref kmet, .int kmetMany, .ref ksunk, .ref ktrying, .int ksunkMany, .int ksending, .int kfleets, .ref ktext, .int ktexts, .int kseed, .ref kline, .ref kwritten, .int klineMany, .int khasWritten, .ref knode, .int knodes, .int konesMany, .int kwithin, .int ktop])), (know, .inl (ky 0, 373, .inl knowF)), (kpoured, .inl (ky 0, 36, .inl fp))] → va_S A H0 H locs → lv_has ls 3 [(2, .int (nI i)), (0, .ref o), (1, .int (nI ln))] → W p l e R s m args below meth c H locs 0 0 Q (F0 m 2 ls []) := by
  have hin12 : ∀ w ∈ u_ws RX12 TX12 52, w ∈ wsX12_doStir := by decide +kernel
  intro nN
  induction nN with
  | zero => intro i fp hi hnN; exfalso; omega
  | succ nN ih =>
    intro i fp hi hnN  H locs ls hP hD hS hl
    refine lv_iload_n hx hb dX12_doStir_2 rfl (lv_at hl 0 rfl) ?_
    refine lv_bipush (v := nI 36) hx hb dX12_doStir_3 (by decide) ?_
    refine n_icmp_ge (x := i) (y := 36) (tgt := 21) hx hb (by omega) (by omega) dX12_doStir_5 (by decide) (fun c1 => ?_) (fun c1 => ?_)
    · exact kx i fp (by omega)  H locs ls hP hD hS (lv_sub hl [0, 1, 2] rfl)
    · refine lv_aload_n hx hb dX12_doStir_8 rfl (lv_at hl 1 rfl) ?_
      refine va_get (D := (dC, dI)) (ci := 12) (v := .ref kpoured) (C := RX12) (T := TX12) (N := 52) hx hb hts hin12 hown hK hP 0 rfl rfl 26 (by decide) (hts (.fieldLink RX12 130 "PorridgeSeaModel" "poured" "[I") (List.mem_of_getElem? (i := 1) rfl)) (fun _ h9 => h9) rfl dX12_doStir_9 ?_
      refine lv_iload_n hx hb dX12_doStir_12 rfl (lv_at hl 0 rfl) ?_
      refine lv_iconst (v := nI 0) hx hb dX12_doStir_13 (by decide) ?_
      refine r_iast (x := (nI 0)) hx hb hK hP hD hS 2 rfl i (by omega) (by decide) dX12_doStir_14 (fun H locs hP hD hS => ?_)
      obtain ⟨g2, e3⟩ : ∃ z9, z9 = upd fp i (nI 0) := ⟨_, rfl⟩
      rw [← e3] at hP hD
      have hP : va_P (dC, dI) vwCl [(o, .inr (12, [.int kthrown, .ref ktape, .int ktaped, .int ksize, .int klimit, .int kto, .int kfrom, .int kkind, .int knumber, .int ksign, .int kfault, .int kplace, .long kword, .int ktold, .ref know, .ref kread, .ref kkept, .ref ksnaps, .ref kaside, .ref kname, .ref kreadName, .ref kkeptName, .ref kisKept, .ref konces, .int ksnapMany, .int khasCells, .ref kpoured, .ref kfar, .ref ksides, .int ksideMany, .int kwayDays, .int khasWay, .ref klines, .ref kmet, .int kmetMany, .ref ksunk, .ref ktrying, .int ksunkMany, .int ksending, .int kfleets, .ref ktext, .int ktexts, .int kseed, .ref kline, .ref kwritten, .int klineMany, .int khasWritten, .ref knode, .int knodes, .int konesMany, .int kwithin, .int ktop])), (know, .inl (ky 0, 373, .inl knowF)), (kpoured, .inl (ky 0, 36, .inl g2))] H := hP
      have hD : va_D A [(o, .inr (12, [.int kthrown, .ref ktape, .int ktaped, .int ksize, .int klimit, .int kto, .int kfrom, .int kkind, .int knumber, .int ksign, .int kfault, .int kplace, .long kword, .int ktold, .ref know, .ref kread, .ref kkept, .ref ksnaps, .ref kaside, .ref kname, .ref kreadName, .ref kkeptName, .ref kisKept, .ref konces, .int ksnapMany, .int khasCells, .ref kpoured, .ref kfar, .ref ksides, .int ksideMany, .int kwayDays, .int khasWay, .ref klines, .ref kmet, .int kmetMany, .ref ksunk, .ref ktrying, .int ksunkMany, .int ksending, .int kfleets, .ref ktext, .int ktexts, .int kseed, .ref kline, .ref kwritten, .int klineMany, .int khasWritten, .ref knode, .int knodes, .int konesMany, .int kwithin, .int ktop])), (know, .inl (ky 0, 373, .inl knowF)), (kpoured, .inl (ky 0, 36, .inl g2))] := hD
      refine lv_iinc (v := nI (i + 1)) (lv' := [(2, .int (nI (i + 1))), (0, .ref o), (1, .int (nI ln))]) hx hb dX12_doStir_15 hl (k := 0) rfl (show nI i + nI 1 = nI (i + 1) from nI_add _ _) (by decide) rfl (fun ls hl => ?_)
      refine lv_goto (tgt := 2) hx hb dX12_doStir_18 (by decide) ?_
      exact ih (i + 1) g2 (by omega) (by omega)  _ _ _ hP hD hS (lv_sub hl [0, 1, 2] rfl)
set_option maxHeartbeats 4000000 in
set_option maxRecDepth 100000 in
theorem lp_m_st2 {p : Program} {l : Launch} {e : Env} {R : Room} {s : State} {m : MethodId} {args : Array Value} {below : List Frame} {meth : Method} {c : Code} {Q : State → Prop} {dC : Nat → ClassId} {dI : Nat → Nat → Nat} {ky : Nat → ClassId} {H0 : Heap} {A : Nat → Prop} (hx : p.tables.exec = Jvm.exec) (hb : c.code = cX12_doStir) (hml : c.maxLocals = 3) (hown : s.vm.findClass RX12 = some m.cls) (hts : ∀ w ∈ wsX12_doStir, w.before args s = true) (hK : Kk dC dI ky s) (hA : ∀ q, H0.size ≤ q → A q) (hRf : 1 ≤ R.frames) (hRl : 27 ≤ R.locals) (hRc : 0 ≤ R.cells) (hRs : 0 ≤ R.slots) (o : Nat) (kthrown : Int32) (ktape : Nat) (ktaped : Int32) (ksize : Int32) (klimit : Int32) (kto : Int32) (kfrom : Int32) (kkind : Int32) (knumber : Int32) (ksign : Int32) (kfault : Int32) (kplace : Int32) (kword : Int64) (ktold : Int32) (know : Nat) (kread : Nat) (kkept : Nat) (ksnaps : Nat) (kaside : Nat) (kname : Nat) (kreadName : Nat) (kkeptName : Nat) (kisKept : Nat) (konces : Nat) (ksnapMany : Int32) (khasCells : Int32) (kpoured : Nat) (kfar : Nat) (ksides : Nat) (ksideMany : Int32) (kwayDays : Int32) (khasWay : Int32) (klines : Nat) (kmet : Nat) (kmetMany : Int32) (ksunk : Nat) (ktrying : Nat) (ksunkMany : Int32) (ksending : Int32) (kfleets : Int32) (ktext : Nat) (ktexts : Int32) (kseed : Int32) (kline : Nat) (kwritten : Nat) (klineMany : Int32) (khasWritten : Int32) (knode : Nat) (knodes : Int32) (konesMany : Int32) (kwithin : Int32) (ktop : Int32) (knowF : Nat → Int32) (kpouredF : Nat → Int32) (ln : Nat) (fp : Nat → Int32) (hB : NowB knowF) (hln : ln < 24) (kx : ∀ (i : Nat) (fq : Nat → Int32), 36 = i → ∀ (H : Heap) (locs : List Loc) (ls : Array Slot), va_P (dC, dI) vwCl [(o, .inr (12, [.int kthrown, .ref ktape, .int ktaped, .int ksize, .int klimit, .int kto, .int kfrom, .int kkind, .int knumber, .int ksign, .int kfault, .int kplace, .long kword, .int ktold, .ref know, .ref kread, .ref kkept, .ref ksnaps, .ref kaside, .ref kname, .ref kreadName, .ref kkeptName, .ref kisKept, .ref konces, .int ksnapMany, .int khasCells, .ref kpoured, .ref kfar, .ref ksides, .int ksideMany, .int kwayDays, .int khasWay, .ref klines, .ref kmet, .int kmetMany, .ref ksunk, .ref ktrying, .int ksunkMany, .int ksending, .int kfleets, .ref ktext, .int ktexts, .int kseed, .ref kline, .ref kwritten, .int klineMany, .int khasWritten, .ref knode, .int knodes, .int konesMany, .int kwithin, .int ktop])), (know, .inl (ky 0, 373, .inl knowF)), (kpoured, .inl (ky 0, 36, .inl fq))] H → va_D A [(o, .inr (12, [.int kthrown, .ref ktape, .int ktaped, .int ksize, .int klimit, .int kto, .int kfrom, .int kkind, .int knumber, .int ksign, .int kfault, .int kplace, .long kword, .int ktold, .ref know, .ref kread, .ref kkept, .ref ksnaps, .ref kaside, .ref kname, .ref kreadName, .ref kkeptName, .ref kisKept, .ref konces, .int ksnapMany, .int khasCells, .ref kpoured, .ref kfar, .ref ksides, .int ksideMany, .int kwayDays, .int khasWay, .ref klines, .ref kmet, .int kmetMany, .ref ksunk, .ref ktrying, .int ksunkMany, .int ksending, .int kfleets, .ref ktext, .int ktexts, .int kseed, .ref kline, .ref kwritten, .int klineMany, .int khasWritten, .ref knode, .int knodes, .int konesMany, .int kwithin, .int ktop])), (know, .inl (ky 0, 373, .inl knowF)), (kpoured, .inl (ky 0, 36, .inl fq))] → va_S A H0 H locs → lv_has ls 3 [(2, .int (nI i)), (0, .ref o), (1, .int (nI ln))] → W p l e R s m args below meth c H locs 0 0 Q (F0 m 63 ls [])) :
    ∀ (nN i : Nat) (fq : Nat → Int32), i ≤ 36 → 36 + 1 ≤ i + nN → ∀ (H : Heap) (locs : List Loc) (ls : Array Slot), va_P (dC, dI) vwCl [(o, .inr (12, [.int kthrown, .ref ktape, .int ktaped, .int ksize, .int klimit, .int kto, .int kfrom, .int kkind, .int knumber, .int ksign, .int kfault, .int kplace, .long kword, .int ktold, .ref know, .ref kread, .ref kkept, .ref ksnaps, .ref kaside, .ref kname, .ref kreadName, .ref kkeptName, .ref kisKept, .ref konces, .int ksnapMany, .int khasCells, .ref kpoured, .ref kfar, .ref ksides, .int ksideMany, .int kwayDays, .int khasWay, .ref klines, .ref kmet, .int kmetMany, .ref ksunk, .ref ktrying, .int ksunkMany, .int ksending, .int kfleets, .ref ktext, .int ktexts, .int kseed, .ref kline, .ref kwritten, .int klineMany, .int khasWritten, .ref knode, .int knodes, .int konesMany, .int kwithin, .int ktop])), (know, .inl (ky 0, 373, .inl knowF)), (kpoured, .inl (ky 0, 36, .inl fq))] H → va_D A [(o, .inr (12, [.int kthrown, .ref ktape, .int ktaped, .int ksize, .int klimit, .int kto, .int kfrom, .int kkind, .int knumber, .int ksign, .int kfault, .int kplace, .long kword, .int ktold, .ref know, .ref kread, .ref kkept, .ref ksnaps, .ref kaside, .ref kname, .ref kreadName, .ref kkeptName, .ref kisKept, .ref konces, .int ksnapMany, .int khasCells, .ref kpoured, .ref kfar, .ref ksides, .int ksideMany, .int kwayDays, .int khasWay, .ref klines, .ref kmet, .int kmetMany, .ref ksunk, .ref ktrying, .int ksunkMany, .int ksending, .int kfleets, .ref ktext, .int ktexts, .int kseed, .ref kline, .ref kwritten, .int klineMany, .int khasWritten, .ref knode, .int knodes, .int konesMany, .int kwithin, .int ktop])), (know, .inl (ky 0, 373, .inl knowF)), (kpoured, .inl (ky 0, 36, .inl fq))] → va_S A H0 H locs → lv_has ls 3 [(2, .int (nI i)), (0, .ref o), (1, .int (nI ln))] → W p l e R s m args below meth c H locs 0 0 Q (F0 m 23 ls []) := by
  have hin12 : ∀ w ∈ u_ws RX12 TX12 52, w ∈ wsX12_doStir := by decide +kernel
  intro nN
  induction nN with
  | zero => intro i fq hi hnN; exfalso; omega
  | succ nN ih =>
    intro i fq hi hnN  H locs ls hP hD hS hl
    refine lv_iload_n hx hb dX12_doStir_23 rfl (lv_at hl 0 rfl) ?_
    refine lv_bipush (v := nI 36) hx hb dX12_doStir_24 (by decide) ?_
    refine n_icmp_ge (x := i) (y := 36) (tgt := 63) hx hb (by omega) (by omega) dX12_doStir_26 (by decide) (fun c1 => ?_) (fun c1 => ?_)
    · exact kx i fq (by omega)  H locs ls hP hD hS (lv_sub hl [0, 1, 2] rfl)
    · refine lv_aload_n hx hb dX12_doStir_29 rfl (lv_at hl 1 rfl) ?_
      refine lv_iload_n hx hb dX12_doStir_30 rfl (lv_at hl 0 rfl) ?_
      refine vp_callSi (W.runV (As := [.int (nI i)]) (rest := []) ⟨hx, hb, hml, hown, hts⟩ (c_m_isInSea l dC dI ky o kthrown ktape ktaped ksize klimit kto kfrom kkind knumber ksign kfault kplace kword ktold know kread kkept ksnaps kaside kname kreadName kkeptName kisKept konces ksnapMany khasCells kpoured kfar ksides ksideMany kwayDays khasWay klines kmet kmetMany ksunk ktrying ksunkMany ksending kfleets ktext ktexts kseed kline kwritten klineMany khasWritten knode knodes konesMany kwithin ktop knowF i hB (by omega)) (cwV 1 hts gX12_doStir_X12_isInSea rfl rfl rfl (by decide +kernel) ⟨(Nat.le_trans (Nat.le_of_ble_eq_true rfl) hRf), (Nat.le_trans (Nat.le_of_ble_eq_true rfl) hRl)⟩) (pre_PV hK hP [0, 1] rfl (ci := 12) (q0 := 0) rfl rfl) rfl rfl hl.1 rfl (lv_room (Nat.le_of_ble_eq_true rfl)) dX12_doStir_31 ⟨(Nat.le_trans (Nat.le_of_ble_eq_true rfl) hRc), (Nat.le_trans (Nat.le_of_ble_eq_true rfl) hRs)⟩) (fun r2 p3 => ?_)
      refine lv_if_eq (tgt := 57) hx hb dX12_doStir_34 (by decide) (fun c4 => ?_) (fun c4 => ?_)
      · refine lv_iinc (v := nI (i + 1)) (lv' := [(2, .int (nI (i + 1))), (0, .ref o), (1, .int (nI ln))]) hx hb dX12_doStir_57 hl (k := 0) rfl (show nI i + nI 1 = nI (i + 1) from nI_add _ _) (by decide) rfl (fun ls hl => ?_)
        refine lv_goto (tgt := 23) hx hb dX12_doStir_60 (by decide) ?_
        exact ih (i + 1) fq (by omega) (by omega)  _ _ _ hP hD hS (lv_sub hl [0, 1, 2] rfl)
      · refine lv_aload_n hx hb dX12_doStir_37 rfl (lv_at hl 1 rfl) ?_
        refine va_get (D := (dC, dI)) (ci := 12) (v := .ref kpoured) (C := RX12) (T := TX12) (N := 52) hx hb hts hin12 hown hK hP 0 rfl rfl 26 (by decide) (hts (.fieldLink RX12 130 "PorridgeSeaModel" "poured" "[I") (List.mem_of_getElem? (i := 1) rfl)) (fun _ h9 => h9) rfl dX12_doStir_38 ?_
        refine lv_aload_n hx hb dX12_doStir_41 rfl (lv_at hl 1 rfl) ?_
        refine lv_iload_n hx hb dX12_doStir_42 rfl (lv_at hl 0 rfl) ?_
        refine lv_iload_n hx hb dX12_doStir_43 rfl (lv_at hl 2 rfl) ?_
        refine vp_callSi (W.runV (As := [.int (nI i), .int (nI ln)]) (rest := [.ref kpoured]) ⟨hx, hb, hml, hown, hts⟩ (c_m_stirred l dC dI ky o kthrown ktape ktaped ksize klimit kto kfrom kkind knumber ksign kfault kplace kword ktold know kread kkept ksnaps kaside kname kreadName kkeptName kisKept konces ksnapMany khasCells kpoured kfar ksides ksideMany kwayDays khasWay klines kmet kmetMany ksunk ktrying ksunkMany ksending kfleets ktext ktexts kseed kline kwritten klineMany khasWritten knode knodes konesMany kwithin ktop knowF i ln hB (by omega) (by omega)) (cwV 2 hts gX12_doStir_X12_stirred rfl rfl rfl (by decide +kernel) ⟨(Nat.le_trans (Nat.le_of_ble_eq_true rfl) hRf), (Nat.le_trans (Nat.le_of_ble_eq_true rfl) hRl)⟩) (pre_PV hK hP [0, 1] rfl (ci := 12) (q0 := 0) rfl rfl) rfl rfl hl.1 rfl (lv_room (Nat.le_of_ble_eq_true rfl)) dX12_doStir_44 ⟨(Nat.le_trans (Nat.le_of_ble_eq_true rfl) hRc), (Nat.le_trans (Nat.le_of_ble_eq_true rfl) hRs)⟩) (fun r5 p6 => ?_)
        obtain ⟨k7, h8, rfl⟩ := p6
        refine lv_aload_n hx hb dX12_doStir_47 rfl (lv_at hl 1 rfl) ?_
        refine va_get (D := (dC, dI)) (ci := 12) (v := .ref know) (C := RX12) (T := TX12) (N := 52) hx hb hts hin12 hown hK hP 0 rfl rfl 14 (by decide) (hts (.fieldLink RX12 98 "PorridgeSeaModel" "now" "[I") (List.mem_of_getElem? (i := 2) rfl)) (fun _ h9 => h9) rfl dX12_doStir_48 ?_
        refine lv_bipush (v := nI 71) hx hb dX12_doStir_51 (by decide) ?_
        refine lv_iload_n hx hb dX12_doStir_53 rfl (lv_at hl 0 rfl) ?_
        refine lv_iadd hx hb dX12_doStir_54 ?_
        refine r_ti (nI (71 + i)) (nI_add _ _) ?_
        obtain ⟨y9, e10⟩ : ∃ z9, z9 = knowF (71 + i) := ⟨_, rfl⟩
        refine r_iald hx hb hK hP 1 rfl (71 + i) (by omega) (by decide) y9 e10.symm dX12_doStir_55 ?_
        refine r_iast (x := y9) hx hb hK hP hD hS 2 rfl k7 (by omega) (by decide) dX12_doStir_56 (fun H locs hP hD hS => ?_)
        obtain ⟨g11, e12⟩ : ∃ z9, z9 = upd fq k7 y9 := ⟨_, rfl⟩
        rw [← e12] at hP hD
        have hP : va_P (dC, dI) vwCl [(o, .inr (12, [.int kthrown, .ref ktape, .int ktaped, .int ksize, .int klimit, .int kto, .int kfrom, .int kkind, .int knumber, .int ksign, .int kfault, .int kplace, .long kword, .int ktold, .ref know, .ref kread, .ref kkept, .ref ksnaps, .ref kaside, .ref kname, .ref kreadName, .ref kkeptName, .ref kisKept, .ref konces, .int ksnapMany, .int khasCells, .ref kpoured, .ref kfar, .ref ksides, .int ksideMany, .int kwayDays, .int khasWay, .ref klines, .ref kmet, .int kmetMany, .ref ksunk, .ref ktrying, .int ksunkMany, .int ksending, .int kfleets, .ref ktext, .int ktexts, .int kseed, .ref kline, .ref kwritten, .int klineMany, .int khasWritten, .ref knode, .int knodes, .int konesMany, .int kwithin, .int ktop])), (know, .inl (ky 0, 373, .inl knowF)), (kpoured, .inl (ky 0, 36, .inl g11))] H := hP
        have hD : va_D A [(o, .inr (12, [.int kthrown, .ref ktape, .int ktaped, .int ksize, .int klimit, .int kto, .int kfrom, .int kkind, .int knumber, .int ksign, .int kfault, .int kplace, .long kword, .int ktold, .ref know, .ref kread, .ref kkept, .ref ksnaps, .ref kaside, .ref kname, .ref kreadName, .ref kkeptName, .ref kisKept, .ref konces, .int ksnapMany, .int khasCells, .ref kpoured, .ref kfar, .ref ksides, .int ksideMany, .int kwayDays, .int khasWay, .ref klines, .ref kmet, .int kmetMany, .ref ksunk, .ref ktrying, .int ksunkMany, .int ksending, .int kfleets, .ref ktext, .int ktexts, .int kseed, .ref kline, .ref kwritten, .int klineMany, .int khasWritten, .ref knode, .int knodes, .int konesMany, .int kwithin, .int ktop])), (know, .inl (ky 0, 373, .inl knowF)), (kpoured, .inl (ky 0, 36, .inl g11))] := hD
        refine lv_iinc (v := nI (i + 1)) (lv' := [(2, .int (nI (i + 1))), (0, .ref o), (1, .int (nI ln))]) hx hb dX12_doStir_57 hl (k := 0) rfl (show nI i + nI 1 = nI (i + 1) from nI_add _ _) (by decide) rfl (fun ls hl => ?_)
        refine lv_goto (tgt := 23) hx hb dX12_doStir_60 (by decide) ?_
        exact ih (i + 1) g11 (by omega) (by omega)  _ _ _ hP hD hS (lv_sub hl [0, 1, 2] rfl)
set_option maxRecDepth 20000 in
theorem lf_lpm_st3_1 (o : Nat) (kthrown : Int32) (ktape : Nat) (ktaped : Int32) (ksize : Int32) (klimit : Int32) (kto : Int32) (kfrom : Int32) (kkind : Int32) (knumber : Int32) (ksign : Int32) (kfault : Int32) (kplace : Int32) (kword : Int64) (ktold : Int32) (know : Nat) (kread : Nat) (kkept : Nat) (ksnaps : Nat) (kaside : Nat) (kname : Nat) (kreadName : Nat) (kkeptName : Nat) (kisKept : Nat) (konces : Nat) (ksnapMany : Int32) (khasCells : Int32) (kpoured : Nat) (kfar : Nat) (ksides : Nat) (ksideMany : Int32) (kwayDays : Int32) (khasWay : Int32) (klines : Nat) (kmet : Nat) (kmetMany : Int32) (ksunk : Nat) (ktrying : Nat) (ksunkMany : Int32) (ksending : Int32) (kfleets : Int32) (ktext : Nat) (ktexts : Int32) (kseed : Int32) (kline : Nat) (kwritten : Nat) (klineMany : Int32) (khasWritten : Int32) (knode : Nat) (knodes : Int32) (konesMany : Int32) (kwithin : Int32) (ktop : Int32) (knowF : Nat → Int32) (kpouredF : Nat → Int32) (ln : Nat) (fp : Nat → Int32) (fq : Nat → Int32) (i : Nat) (fw : Nat → Int32) (y2 : Int32) (g4 : Nat → Int32) (hB : NowB knowF) (hln : ln < 24) (hi : i ≤ 36) (hL : NowB fw) (c1 : i < 36) (e3 : y2 = fq i) (hB6 : NowB g4) : NowB g4 := by
  assumption
set_option maxHeartbeats 4000000 in
set_option maxRecDepth 100000 in
theorem lp_m_st3 {p : Program} {l : Launch} {e : Env} {R : Room} {s : State} {m : MethodId} {args : Array Value} {below : List Frame} {meth : Method} {c : Code} {Q : State → Prop} {dC : Nat → ClassId} {dI : Nat → Nat → Nat} {ky : Nat → ClassId} {H0 : Heap} {A : Nat → Prop} (hx : p.tables.exec = Jvm.exec) (hb : c.code = cX12_doStir) (hml : c.maxLocals = 3) (hown : s.vm.findClass RX12 = some m.cls) (hts : ∀ w ∈ wsX12_doStir, w.before args s = true) (hK : Kk dC dI ky s) (hA : ∀ q, H0.size ≤ q → A q) (hRf : 0 ≤ R.frames) (hRl : 0 ≤ R.locals) (hRc : 0 ≤ R.cells) (hRs : 0 ≤ R.slots) (o : Nat) (kthrown : Int32) (ktape : Nat) (ktaped : Int32) (ksize : Int32) (klimit : Int32) (kto : Int32) (kfrom : Int32) (kkind : Int32) (knumber : Int32) (ksign : Int32) (kfault : Int32) (kplace : Int32) (kword : Int64) (ktold : Int32) (know : Nat) (kread : Nat) (kkept : Nat) (ksnaps : Nat) (kaside : Nat) (kname : Nat) (kreadName : Nat) (kkeptName : Nat) (kisKept : Nat) (konces : Nat) (ksnapMany : Int32) (khasCells : Int32) (kpoured : Nat) (kfar : Nat) (ksides : Nat) (ksideMany : Int32) (kwayDays : Int32) (khasWay : Int32) (klines : Nat) (kmet : Nat) (kmetMany : Int32) (ksunk : Nat) (ktrying : Nat) (ksunkMany : Int32) (ksending : Int32) (kfleets : Int32) (ktext : Nat) (ktexts : Int32) (kseed : Int32) (kline : Nat) (kwritten : Nat) (klineMany : Int32) (khasWritten : Int32) (knode : Nat) (knodes : Int32) (konesMany : Int32) (kwithin : Int32) (ktop : Int32) (knowF : Nat → Int32) (kpouredF : Nat → Int32) (ln : Nat) (fp : Nat → Int32) (fq : Nat → Int32) (hB : NowB knowF) (hln : ln < 24) (kx : ∀ (i : Nat) (fw : Nat → Int32), 36 = i → (NowB fw) → ∀ (H : Heap) (locs : List Loc) (ls : Array Slot), va_P (dC, dI) vwCl [(o, .inr (12, [.int kthrown, .ref ktape, .int ktaped, .int ksize, .int klimit, .int kto, .int kfrom, .int kkind, .int knumber, .int ksign, .int kfault, .int kplace, .long kword, .int ktold, .ref know, .ref kread, .ref kkept, .ref ksnaps, .ref kaside, .ref kname, .ref kreadName, .ref kkeptName, .ref kisKept, .ref konces, .int ksnapMany, .int khasCells, .ref kpoured, .ref kfar, .ref ksides, .int ksideMany, .int kwayDays, .int khasWay, .ref klines, .ref kmet, .int kmetMany, .ref ksunk, .ref ktrying, .int ksunkMany, .int ksending, .int kfleets, .ref ktext, .int ktexts, .int kseed, .ref kline, .ref kwritten, .int klineMany, .int khasWritten, .ref knode, .int knodes, .int konesMany, .int kwithin, .int ktop])), (know, .inl (ky 0, 373, .inl fw)), (kpoured, .inl (ky 0, 36, .inl fq))] H → va_D A [(o, .inr (12, [.int kthrown, .ref ktape, .int ktaped, .int ksize, .int klimit, .int kto, .int kfrom, .int kkind, .int knumber, .int ksign, .int kfault, .int kplace, .long kword, .int ktold, .ref know, .ref kread, .ref kkept, .ref ksnaps, .ref kaside, .ref kname, .ref kreadName, .ref kkeptName, .ref kisKept, .ref konces, .int ksnapMany, .int khasCells, .ref kpoured, .ref kfar, .ref ksides, .int ksideMany, .int kwayDays, .int khasWay, .ref klines, .ref kmet, .int kmetMany, .ref ksunk, .ref ktrying, .int ksunkMany, .int ksending, .int kfleets, .ref ktext, .int ktexts, .int kseed, .ref kline, .ref kwritten, .int klineMany, .int khasWritten, .ref knode, .int knodes, .int konesMany, .int kwithin, .int ktop])), (know, .inl (ky 0, 373, .inl fw)), (kpoured, .inl (ky 0, 36, .inl fq))] → va_S A H0 H locs → lv_has ls 3 [(2, .int (nI i)), (0, .ref o), (1, .int (nI ln))] → W p l e R s m args below meth c H locs 0 0 Q (F0 m 92 ls [])) :
    ∀ (nN i : Nat) (fw : Nat → Int32), i ≤ 36 → 36 + 1 ≤ i + nN → (NowB fw) → ∀ (H : Heap) (locs : List Loc) (ls : Array Slot), va_P (dC, dI) vwCl [(o, .inr (12, [.int kthrown, .ref ktape, .int ktaped, .int ksize, .int klimit, .int kto, .int kfrom, .int kkind, .int knumber, .int ksign, .int kfault, .int kplace, .long kword, .int ktold, .ref know, .ref kread, .ref kkept, .ref ksnaps, .ref kaside, .ref kname, .ref kreadName, .ref kkeptName, .ref kisKept, .ref konces, .int ksnapMany, .int khasCells, .ref kpoured, .ref kfar, .ref ksides, .int ksideMany, .int kwayDays, .int khasWay, .ref klines, .ref kmet, .int kmetMany, .ref ksunk, .ref ktrying, .int ksunkMany, .int ksending, .int kfleets, .ref ktext, .int ktexts, .int kseed, .ref kline, .ref kwritten, .int klineMany, .int khasWritten, .ref knode, .int knodes, .int konesMany, .int kwithin, .int ktop])), (know, .inl (ky 0, 373, .inl fw)), (kpoured, .inl (ky 0, 36, .inl fq))] H → va_D A [(o, .inr (12, [.int kthrown, .ref ktape, .int ktaped, .int ksize, .int klimit, .int kto, .int kfrom, .int kkind, .int knumber, .int ksign, .int kfault, .int kplace, .long kword, .int ktold, .ref know, .ref kread, .ref kkept, .ref ksnaps, .ref kaside, .ref kname, .ref kreadName, .ref kkeptName, .ref kisKept, .ref konces, .int ksnapMany, .int khasCells, .ref kpoured, .ref kfar, .ref ksides, .int ksideMany, .int kwayDays, .int khasWay, .ref klines, .ref kmet, .int kmetMany, .ref ksunk, .ref ktrying, .int ksunkMany, .int ksending, .int kfleets, .ref ktext, .int ktexts, .int kseed, .ref kline, .ref kwritten, .int klineMany, .int khasWritten, .ref knode, .int knodes, .int konesMany, .int kwithin, .int ktop])), (know, .inl (ky 0, 373, .inl fw)), (kpoured, .inl (ky 0, 36, .inl fq))] → va_S A H0 H locs → lv_has ls 3 [(2, .int (nI i)), (0, .ref o), (1, .int (nI ln))] → W p l e R s m args below meth c H locs 0 0 Q (F0 m 65 ls []) := by
  have hin12 : ∀ w ∈ u_ws RX12 TX12 52, w ∈ wsX12_doStir := by decide +kernel
  intro nN
  induction nN with
  | zero => intro i fw hi hnN; exfalso; omega
  | succ nN ih =>
    intro i fw hi hnN hL H locs ls hP hD hS hl
    refine lv_iload_n hx hb dX12_doStir_65 rfl (lv_at hl 0 rfl) ?_
    refine lv_bipush (v := nI 36) hx hb dX12_doStir_66 (by decide) ?_
    refine n_icmp_ge (x := i) (y := 36) (tgt := 92) hx hb (by omega) (by omega) dX12_doStir_68 (by decide) (fun c1 => ?_) (fun c1 => ?_)
    · exact kx i fw (by omega) hL H locs ls hP hD hS (lv_sub hl [0, 1, 2] rfl)
    · refine lv_aload_n hx hb dX12_doStir_71 rfl (lv_at hl 1 rfl) ?_
      refine va_get (D := (dC, dI)) (ci := 12) (v := .ref know) (C := RX12) (T := TX12) (N := 52) hx hb hts hin12 hown hK hP 0 rfl rfl 14 (by decide) (hts (.fieldLink RX12 98 "PorridgeSeaModel" "now" "[I") (List.mem_of_getElem? (i := 2) rfl)) (fun _ h9 => h9) rfl dX12_doStir_72 ?_
      refine lv_bipush (v := nI 71) hx hb dX12_doStir_75 (by decide) ?_
      refine lv_iload_n hx hb dX12_doStir_77 rfl (lv_at hl 0 rfl) ?_
      refine lv_iadd hx hb dX12_doStir_78 ?_
      refine r_ti (nI (71 + i)) (nI_add _ _) ?_
      refine lv_aload_n hx hb dX12_doStir_79 rfl (lv_at hl 1 rfl) ?_
      refine va_get (D := (dC, dI)) (ci := 12) (v := .ref kpoured) (C := RX12) (T := TX12) (N := 52) hx hb hts hin12 hown hK hP 0 rfl rfl 26 (by decide) (hts (.fieldLink RX12 130 "PorridgeSeaModel" "poured" "[I") (List.mem_of_getElem? (i := 1) rfl)) (fun _ h9 => h9) rfl dX12_doStir_80 ?_
      refine lv_iload_n hx hb dX12_doStir_83 rfl (lv_at hl 0 rfl) ?_
      obtain ⟨y2, e3⟩ : ∃ z9, z9 = fq i := ⟨_, rfl⟩
      refine r_iald hx hb hK hP 2 rfl i (by omega) (by decide) y2 e3.symm dX12_doStir_84 ?_
      refine r_iast (x := y2) hx hb hK hP hD hS 1 rfl (71 + i) (by omega) (by decide) dX12_doStir_85 (fun H locs hP hD hS => ?_)
      obtain ⟨g4, e5⟩ : ∃ z9, z9 = upd fw (71 + i) y2 := ⟨_, rfl⟩
      rw [← e5] at hP hD
      have hB6 : NowB g4 := by rw [e5]; exact NowB.up hL (by omega)
      have hP : va_P (dC, dI) vwCl [(o, .inr (12, [.int kthrown, .ref ktape, .int ktaped, .int ksize, .int klimit, .int kto, .int kfrom, .int kkind, .int knumber, .int ksign, .int kfault, .int kplace, .long kword, .int ktold, .ref know, .ref kread, .ref kkept, .ref ksnaps, .ref kaside, .ref kname, .ref kreadName, .ref kkeptName, .ref kisKept, .ref konces, .int ksnapMany, .int khasCells, .ref kpoured, .ref kfar, .ref ksides, .int ksideMany, .int kwayDays, .int khasWay, .ref klines, .ref kmet, .int kmetMany, .ref ksunk, .ref ktrying, .int ksunkMany, .int ksending, .int kfleets, .ref ktext, .int ktexts, .int kseed, .ref kline, .ref kwritten, .int klineMany, .int khasWritten, .ref knode, .int knodes, .int konesMany, .int kwithin, .int ktop])), (know, .inl (ky 0, 373, .inl g4)), (kpoured, .inl (ky 0, 36, .inl fq))] H := hP
      have hD : va_D A [(o, .inr (12, [.int kthrown, .ref ktape, .int ktaped, .int ksize, .int klimit, .int kto, .int kfrom, .int kkind, .int knumber, .int ksign, .int kfault, .int kplace, .long kword, .int ktold, .ref know, .ref kread, .ref kkept, .ref ksnaps, .ref kaside, .ref kname, .ref kreadName, .ref kkeptName, .ref kisKept, .ref konces, .int ksnapMany, .int khasCells, .ref kpoured, .ref kfar, .ref ksides, .int ksideMany, .int kwayDays, .int khasWay, .ref klines, .ref kmet, .int kmetMany, .ref ksunk, .ref ktrying, .int ksunkMany, .int ksending, .int kfleets, .ref ktext, .int ktexts, .int kseed, .ref kline, .ref kwritten, .int klineMany, .int khasWritten, .ref knode, .int knodes, .int konesMany, .int kwithin, .int ktop])), (know, .inl (ky 0, 373, .inl g4)), (kpoured, .inl (ky 0, 36, .inl fq))] := hD
      refine lv_iinc (v := nI (i + 1)) (lv' := [(2, .int (nI (i + 1))), (0, .ref o), (1, .int (nI ln))]) hx hb dX12_doStir_86 hl (k := 0) rfl (show nI i + nI 1 = nI (i + 1) from nI_add _ _) (by decide) rfl (fun ls hl => ?_)
      refine lv_goto (tgt := 65) hx hb dX12_doStir_89 (by decide) ?_
      exact ih (i + 1) g4 (by omega) (by omega) (lf_lpm_st3_1 o kthrown ktape ktaped ksize klimit kto kfrom kkind knumber ksign kfault kplace kword ktold know kread kkept ksnaps kaside kname kreadName kkeptName kisKept konces ksnapMany khasCells kpoured kfar ksides ksideMany kwayDays khasWay klines kmet kmetMany ksunk ktrying ksunkMany ksending kfleets ktext ktexts kseed kline kwritten klineMany khasWritten knode knodes konesMany kwithin ktop knowF kpouredF ln fp fq i fw y2 g4 hB hln hi hL c1 e3 hB6) _ _ _ hP hD hS (lv_sub hl [0, 1, 2] rfl)
set_option maxRecDepth 20000 in
theorem lf_m_doStir_1 (o : Nat) (kthrown : Int32) (ktape : Nat) (ktaped : Int32) (ksize : Int32) (klimit : Int32) (kto : Int32) (kfrom : Int32) (kkind : Int32) (knumber : Int32) (ksign : Int32) (kfault : Int32) (kplace : Int32) (kword : Int64) (ktold : Int32) (know : Nat) (kread : Nat) (kkept : Nat) (ksnaps : Nat) (kaside : Nat) (kname : Nat) (kreadName : Nat) (kkeptName : Nat) (kisKept : Nat) (konces : Nat) (ksnapMany : Int32) (khasCells : Int32) (kpoured : Nat) (kfar : Nat) (ksides : Nat) (ksideMany : Int32) (kwayDays : Int32) (khasWay : Int32) (klines : Nat) (kmet : Nat) (kmetMany : Int32) (ksunk : Nat) (ktrying : Nat) (ksunkMany : Int32) (ksending : Int32) (kfleets : Int32) (ktext : Nat) (ktexts : Int32) (kseed : Int32) (kline : Nat) (kwritten : Nat) (klineMany : Int32) (khasWritten : Int32) (knode : Nat) (knodes : Int32) (konesMany : Int32) (kwithin : Int32) (ktop : Int32) (knowF : Nat → Int32) (kpouredF : Nat → Int32) (ln : Nat) (fp : Nat → Int32) (fq : Nat → Int32) (hB : NowB knowF) (hln : ln < 24) : NowB knowF := by
  assumption
set_option maxRecDepth 20000 in
theorem lf_m_doStir_2 (o : Nat) (kthrown : Int32) (ktape : Nat) (ktaped : Int32) (ksize : Int32) (klimit : Int32) (kto : Int32) (kfrom : Int32) (kkind : Int32) (knumber : Int32) (ksign : Int32) (kfault : Int32) (kplace : Int32) (kword : Int64) (ktold : Int32) (know : Nat) (kread : Nat) (kkept : Nat) (ksnaps : Nat) (kaside : Nat) (kname : Nat) (kreadName : Nat) (kkeptName : Nat) (kisKept : Nat) (konces : Nat) (ksnapMany : Int32) (khasCells : Int32) (kpoured : Nat) (kfar : Nat) (ksides : Nat) (ksideMany : Int32) (kwayDays : Int32) (khasWay : Int32) (klines : Nat) (kmet : Nat) (kmetMany : Int32) (ksunk : Nat) (ktrying : Nat) (ksunkMany : Int32) (ksending : Int32) (kfleets : Int32) (ktext : Nat) (ktexts : Int32) (kseed : Int32) (kline : Nat) (kwritten : Nat) (klineMany : Int32) (khasWritten : Int32) (knode : Nat) (knodes : Int32) (konesMany : Int32) (kwithin : Int32) (ktop : Int32) (knowF : Nat → Int32) (kpouredF : Nat → Int32) (ln : Nat) (fp : Nat → Int32) (fq : Nat → Int32) (fw : Nat → Int32) (y3 : Int32) (y5 : Int32) (g7 : Nat → Int32) (hB : NowB knowF) (hln : ln < 24) (hL : NowB fw) (e4 : y3 = fw 69) (e6 : y5 = y3 + (nI 1)) (hB9 : NowB g7) : NowB g7 := by
  assumption
set_option maxHeartbeats 4000000 in
set_option maxRecDepth 100000 in
theorem c_m_doStir (l : Launch) (dC : Nat → ClassId) (dI : Nat → Nat → Nat) (ky : Nat → ClassId) (sz : Nat) (o : Nat) (kthrown : Int32) (ktape : Nat) (ktaped : Int32) (ksize : Int32) (klimit : Int32) (kto : Int32) (kfrom : Int32) (kkind : Int32) (knumber : Int32) (ksign : Int32) (kfault : Int32) (kplace : Int32) (kword : Int64) (ktold : Int32) (know : Nat) (kread : Nat) (kkept : Nat) (ksnaps : Nat) (kaside : Nat) (kname : Nat) (kreadName : Nat) (kkeptName : Nat) (kisKept : Nat) (konces : Nat) (ksnapMany : Int32) (khasCells : Int32) (kpoured : Nat) (kfar : Nat) (ksides : Nat) (ksideMany : Int32) (kwayDays : Int32) (khasWay : Int32) (klines : Nat) (kmet : Nat) (kmetMany : Int32) (ksunk : Nat) (ktrying : Nat) (ksunkMany : Int32) (ksending : Int32) (kfleets : Int32) (ktext : Nat) (ktexts : Int32) (kseed : Int32) (kline : Nat) (kwritten : Nat) (klineMany : Int32) (khasWritten : Int32) (knode : Nat) (knodes : Int32) (konesMany : Int32) (kwithin : Int32) (ktop : Int32) (knowF : Nat → Int32) (kpouredF : Nat → Int32) (ln : Nat) (hB : NowB knowF) (hln : ln < 24) : Met l yX12_doStir wsX12_doStir ({ frames := 1, cells := 0, slots := 0, locals := 27 }) (PcU dC dI ky [.ref o, .int (nI ln)] [(o, .inr (12, [.int kthrown, .ref ktape, .int ktaped, .int ksize, .int klimit, .int kto, .int kfrom, .int kkind, .int knumber, .int ksign, .int kfault, .int kplace, .long kword, .int ktold, .ref know, .ref kread, .ref kkept, .ref ksnaps, .ref kaside, .ref kname, .ref kreadName, .ref kkeptName, .ref kisKept, .ref konces, .int ksnapMany, .int khasCells, .ref kpoured, .ref kfar, .ref ksides, .int ksideMany, .int kwayDays, .int khasWay, .ref klines, .ref kmet, .int kmetMany, .ref ksunk, .ref ktrying, .int ksunkMany, .int ksending, .int kfleets, .ref ktext, .int ktexts, .int kseed, .ref kline, .ref kwritten, .int klineMany, .int khasWritten, .ref knode, .int knodes, .int konesMany, .int kwithin, .int ktop])), (know, .inl (ky 0, 373, .inl knowF)), (kpoured, .inl (ky 0, 36, .inl kpouredF))] sz) (va_Qv (fun (u : (Nat → Int32) × (Nat → Int32)) => match u with | (knowG, kpouredG) => NowB knowG) (BU dC dI ky (fun (u : (Nat → Int32) × (Nat → Int32)) => match u with | (knowG, kpouredG) => [(o, .inr (12, [.int kthrown, .ref ktape, .int ktaped, .int ksize, .int klimit, .int kto, .int kfrom, .int kkind, .int knumber, .int ksign, .int kfault, .int kplace, .long kword, .int ktold, .ref know, .ref kread, .ref kkept, .ref ksnaps, .ref kaside, .ref kname, .ref kreadName, .ref kkeptName, .ref kisKept, .ref konces, .int ksnapMany, .int khasCells, .ref kpoured, .ref kfar, .ref ksides, .int ksideMany, .int kwayDays, .int khasWay, .ref klines, .ref kmet, .int kmetMany, .ref ksunk, .ref ktrying, .int ksunkMany, .int ksending, .int kfleets, .ref ktext, .int ktexts, .int kseed, .ref kline, .ref kwritten, .int klineMany, .int khasWritten, .ref knode, .int knodes, .int konesMany, .int kwithin, .int ktop])), (know, .inl (ky 0, 373, .inl knowG)), (kpoured, .inl (ky 0, 36, .inl kpouredG))]) (va_A [(o, .inr (12, [.int kthrown, .ref ktape, .int ktaped, .int ksize, .int klimit, .int kto, .int kfrom, .int kkind, .int knumber, .int ksign, .int kfault, .int kplace, .long kword, .int ktold, .ref know, .ref kread, .ref kkept, .ref ksnaps, .ref kaside, .ref kname, .ref kreadName, .ref kkeptName, .ref kisKept, .ref konces, .int ksnapMany, .int khasCells, .ref kpoured, .ref kfar, .ref ksides, .int ksideMany, .int kwayDays, .int khasWay, .ref klines, .ref kmet, .int kmetMany, .ref ksunk, .ref ktrying, .int ksunkMany, .int ksending, .int kfleets, .ref ktext, .int ktexts, .int kseed, .ref kline, .ref kwritten, .int klineMany, .int khasWritten, .ref knode, .int knodes, .int konesMany, .int kwithin, .int ktop])), (know, .inl (ky 0, 373, .inl knowF)), (kpoured, .inl (ky 0, 36, .inl kpouredF))] sz)) (va_A [(o, .inr (12, [.int kthrown, .ref ktape, .int ktaped, .int ksize, .int klimit, .int kto, .int kfrom, .int kkind, .int knumber, .int ksign, .int kfault, .int kplace, .long kword, .int ktold, .ref know, .ref kread, .ref kkept, .ref ksnaps, .ref kaside, .ref kname, .ref kreadName, .ref kkeptName, .ref kisKept, .ref konces, .int ksnapMany, .int khasCells, .ref kpoured, .ref kfar, .ref ksides, .int ksideMany, .int kwayDays, .int khasWay, .ref klines, .ref kmet, .int kmetMany, .ref ksunk, .ref ktrying, .int ksunkMany, .int ksending, .int kfleets, .ref ktext, .int ktexts, .int kseed, .ref kline, .ref kwritten, .int klineMany, .int khasWritten, .ref knode, .int knodes, .int konesMany, .int kwithin, .int ktop])), (know, .inl (ky 0, 373, .inl knowF)), (kpoured, .inl (ky 0, 36, .inl kpouredF))] sz)) 0 0 (va_A [(o, .inr (12, [.int kthrown, .ref ktape, .int ktaped, .int ksize, .int klimit, .int kto, .int kfrom, .int kkind, .int knumber, .int ksign, .int kfault, .int kplace, .long kword, .int ktold, .ref know, .ref kread, .ref kkept, .ref ksnaps, .ref kaside, .ref kname, .ref kreadName, .ref kkeptName, .ref kisKept, .ref konces, .int ksnapMany, .int khasCells, .ref kpoured, .ref kfar, .ref ksides, .int ksideMany, .int kwayDays, .int khasWay, .ref klines, .ref kmet, .int kmetMany, .ref ksunk, .ref ktrying, .int ksunkMany, .int ksending, .int kfleets, .ref ktext, .int ktexts, .int kseed, .ref kline, .ref kwritten, .int klineMany, .int khasWritten, .ref knode, .int knodes, .int konesMany, .int kwithin, .int ktop])), (know, .inl (ky 0, 373, .inl knowF)), (kpoured, .inl (ky 0, 36, .inl kpouredF))] sz) := by
  refine Met.ofW (cc := cX12_doStir) (maxL := 3) (ret := none) (by decide) rfl ?_
  intro p e s m args below meth c s₁ B hml hv
  obtain ⟨rfl, hsz, hP, hK, hD0⟩ := hv
  have hx := B.exec
  have hb := B.bytes
  have hr := B.returns
  have hts := atoms_spec (ws := wsX12_doStir) B.pre
  have hown : s.vm.findClass RX12 = some m.cls := findClass_of_methodNamed B.named
  have hlocks := B.notSynchronized
  have hin12 : ∀ w ∈ u_ws RX12 TX12 52, w ∈ wsX12_doStir := by decide +kernel
  subst hsz
  have hD := hD0.self (sz := s.heap.size)
  generalize hAe : va_A [(o, .inr (12, [.int kthrown, .ref ktape, .int ktaped, .int ksize, .int klimit, .int kto, .int kfrom, .int kkind, .int knumber, .int ksign, .int kfault, .int kplace, .long kword, .int ktold, .ref know, .ref kread, .ref kkept, .ref ksnaps, .ref kaside, .ref kname, .ref kreadName, .ref kkeptName, .ref kisKept, .ref konces, .int ksnapMany, .int khasCells, .ref kpoured, .ref kfar, .ref ksides, .int ksideMany, .int kwayDays, .int khasWay, .ref klines, .ref kmet, .int kmetMany, .ref ksunk, .ref ktrying, .int ksunkMany, .int ksending, .int kfleets, .ref ktext, .int ktexts, .int kseed, .ref kline, .ref kwritten, .int klineMany, .int khasWritten, .ref knode, .int knodes, .int konesMany, .int kwithin, .int ktop])), (know, .inl (ky 0, 373, .inl knowF)), (kpoured, .inl (ky 0, 36, .inl kpouredF))] s.heap.size = A at hD ⊢
  have hA : ∀ q : Nat, s.heap.size ≤ q → A q := fun q h => by rw [← hAe]; exact Or.inr h
  have hS : va_S A s.heap s.heap [] := va_S.rf
  have hP : va_P (dC, dI) vwCl [(o, .inr (12, [.int kthrown, .ref ktape, .int ktaped, .int ksize, .int klimit, .int kto, .int kfrom, .int kkind, .int knumber, .int ksign, .int kfault, .int kplace, .long kword, .int ktold, .ref know, .ref kread, .ref kkept, .ref ksnaps, .ref kaside, .ref kname, .ref kreadName, .ref kkeptName, .ref kisKept, .ref konces, .int ksnapMany, .int khasCells, .ref kpoured, .ref kfar, .ref ksides, .int ksideMany, .int kwayDays, .int khasWay, .ref klines, .ref kmet, .int kmetMany, .ref ksunk, .ref ktrying, .int ksunkMany, .int ksending, .int kfleets, .ref ktext, .int ktexts, .int kseed, .ref kline, .ref kwritten, .int klineMany, .int khasWritten, .ref knode, .int knodes, .int konesMany, .int kwithin, .int ktop])), (know, .inl (ky 0, 373, .inl knowF)), (kpoured, .inl (ky 0, 36, .inl kpouredF))] s.heap := hP
  have hl := lv_entry ([.ref o, .int (nI ln)]) (n := 3) (Nat.le_of_ble_eq_true rfl)
  rw [lg_entry_eq]
  generalize (lg_sl ([.ref o, .int (nI ln)]) ++ List.replicate (3 - (lg_sl ([.ref o, .int (nI ln)])).length) Slot.unset).toArray = ls at hl ⊢
  have hl : lv_has ls 3 [(0, .ref o), (1, .int (nI ln))] := hl
  have hH0 : True := trivial
  refine lv_iconst (v := nI 0) hx hb dX12_doStir_0 (by decide) ?_
  refine lv_istore_n (lv' := [(2, .int (nI 0)), (0, .ref o), (1, .int (nI ln))]) hx hb dX12_doStir_1 rfl hl (by decide) rfl (fun ls hl => ?_)
  refine lp_m_st1 hx hb hml hown hts hK hA (Nat.le_of_ble_eq_true rfl) (Nat.le_of_ble_eq_true rfl) (Nat.le_of_ble_eq_true rfl) (Nat.le_of_ble_eq_true rfl) o kthrown ktape ktaped ksize klimit kto kfrom kkind knumber ksign kfault kplace kword ktold know kread kkept ksnaps kaside kname kreadName kkeptName kisKept konces ksnapMany khasCells kpoured kfar ksides ksideMany kwayDays khasWay klines kmet kmetMany ksunk ktrying ksunkMany ksending kfleets ktext ktexts kseed kline kwritten klineMany khasWritten knode knodes konesMany kwithin ktop knowF kpouredF ln hB hln ?_ (36 + 1) 0 kpouredF (by omega) (by omega)  _ _ _ hP hD hS (lv_sub hl [0, 1, 2] rfl)
  intro i fp hiN  H locs ls hP hD hS hl
  subst hiN
  refine lv_iconst (v := nI 0) hx hb dX12_doStir_21 (by decide) ?_
  refine lv_istore_n (lv' := [(2, .int (nI 0)), (0, .ref o), (1, .int (nI ln))]) hx hb dX12_doStir_22 rfl hl (by decide) rfl (fun ls hl => ?_)
  refine lp_m_st2 hx hb hml hown hts hK hA (Nat.le_of_ble_eq_true rfl) (Nat.le_of_ble_eq_true rfl) (Nat.le_of_ble_eq_true rfl) (Nat.le_of_ble_eq_true rfl) o kthrown ktape ktaped ksize klimit kto kfrom kkind knumber ksign kfault kplace kword ktold know kread kkept ksnaps kaside kname kreadName kkeptName kisKept konces ksnapMany khasCells kpoured kfar ksides ksideMany kwayDays khasWay klines kmet kmetMany ksunk ktrying ksunkMany ksending kfleets ktext ktexts kseed kline kwritten klineMany khasWritten knode knodes konesMany kwithin ktop knowF kpouredF ln fp hB hln ?_ (36 + 1) 0 fp (by omega) (by omega)  _ _ _ hP hD hS (lv_sub hl [0, 1, 2] rfl)
  intro i fq hiN  H locs ls hP hD hS hl
  subst hiN
  refine lv_iconst (v := nI 0) hx hb dX12_doStir_63 (by decide) ?_
  refine lv_istore_n (lv' := [(2, .int (nI 0)), (0, .ref o), (1, .int (nI ln))]) hx hb dX12_doStir_64 rfl hl (by decide) rfl (fun ls hl => ?_)
  refine lp_m_st3 hx hb hml hown hts hK hA (Nat.le_of_ble_eq_true rfl) (Nat.le_of_ble_eq_true rfl) (Nat.le_of_ble_eq_true rfl) (Nat.le_of_ble_eq_true rfl) o kthrown ktape ktaped ksize klimit kto kfrom kkind knumber ksign kfault kplace kword ktold know kread kkept ksnaps kaside kname kreadName kkeptName kisKept konces ksnapMany khasCells kpoured kfar ksides ksideMany kwayDays khasWay klines kmet kmetMany ksunk ktrying ksunkMany ksending kfleets ktext ktexts kseed kline kwritten klineMany khasWritten knode knodes konesMany kwithin ktop knowF kpouredF ln fp fq hB hln ?_ (36 + 1) 0 knowF (by omega) (by omega) (lf_m_doStir_1 o kthrown ktape ktaped ksize klimit kto kfrom kkind knumber ksign kfault kplace kword ktold know kread kkept ksnaps kaside kname kreadName kkeptName kisKept konces ksnapMany khasCells kpoured kfar ksides ksideMany kwayDays khasWay klines kmet kmetMany ksunk ktrying ksunkMany ksending kfleets ktext ktexts kseed kline kwritten klineMany khasWritten knode knodes konesMany kwithin ktop knowF kpouredF ln fp fq hB hln) _ _ _ hP hD hS (lv_sub hl [0, 1, 2] rfl)
  intro i fw hiN hL H locs ls hP hD hS hl
  subst hiN
  refine lv_iconst (v := nI 0) hx hb dX12_doStir_92 (by decide) ?_
  refine lv_istore_n (lv' := [(2, .int (nI 0)), (0, .ref o), (1, .int (nI ln))]) hx hb dX12_doStir_93 rfl hl (by decide) rfl (fun ls hl => ?_)
  refine lv_iload_n hx hb dX12_doStir_94 rfl (lv_at hl 0 rfl) ?_
  refine lv_aload_n hx hb dX12_doStir_95 rfl (lv_at hl 1 rfl) ?_
  refine va_get (D := (dC, dI)) (ci := 12) (v := .ref know) (C := RX12) (T := TX12) (N := 52) hx hb hts hin12 hown hK hP 0 rfl rfl 14 (by decide) (hts (.fieldLink RX12 98 "PorridgeSeaModel" "now" "[I") (List.mem_of_getElem? (i := 2) rfl)) (fun _ h9 => h9) rfl dX12_doStir_96 ?_
  refine lv_iconst (v := nI 2) hx hb dX12_doStir_99 (by decide) ?_
  refine r_iald hx hb hK hP 1 rfl 2 (by decide) (by decide) (nI 0) hL.2.2.1 dX12_doStir_100 ?_
  refine lv_icmp_ge (tgt := 133) hx hb dX12_doStir_101 (by decide) (fun c1 => ?_) (fun c1 => absurd (by decide) c1)
  refine lv_iconst (v := nI 0) hx hb dX12_doStir_133 (by decide) ?_
  refine lv_istore_n (lv' := [(2, .int (nI 0)), (0, .ref o), (1, .int (nI ln))]) hx hb dX12_doStir_134 rfl hl (by decide) rfl (fun ls hl => ?_)
  refine lv_iload_n hx hb dX12_doStir_135 rfl (lv_at hl 0 rfl) ?_
  refine lv_aload_n hx hb dX12_doStir_136 rfl (lv_at hl 1 rfl) ?_
  refine va_get (D := (dC, dI)) (ci := 12) (v := .ref know) (C := RX12) (T := TX12) (N := 52) hx hb hts hin12 hown hK hP 0 rfl rfl 14 (by decide) (hts (.fieldLink RX12 98 "PorridgeSeaModel" "now" "[I") (List.mem_of_getElem? (i := 2) rfl)) (fun _ h9 => h9) rfl dX12_doStir_137 ?_
  refine lv_iconst (v := nI 3) hx hb dX12_doStir_140 (by decide) ?_
  refine r_iald hx hb hK hP 1 rfl 3 (by decide) (by decide) (nI 0) hL.2.2.2 dX12_doStir_141 ?_
  refine lv_icmp_ge (tgt := 182) hx hb dX12_doStir_142 (by decide) (fun c2 => ?_) (fun c2 => absurd (by decide) c2)
  refine lv_aload_n hx hb dX12_doStir_182 rfl (lv_at hl 1 rfl) ?_
  refine va_get (D := (dC, dI)) (ci := 12) (v := .ref know) (C := RX12) (T := TX12) (N := 52) hx hb hts hin12 hown hK hP 0 rfl rfl 14 (by decide) (hts (.fieldLink RX12 98 "PorridgeSeaModel" "now" "[I") (List.mem_of_getElem? (i := 2) rfl)) (fun _ h9 => h9) rfl dX12_doStir_183 ?_
  refine lv_bipush (v := nI 69) hx hb dX12_doStir_186 (by decide) ?_
  refine lv_dup2_11 hx hb dX12_doStir_188 rfl rfl ?_
  obtain ⟨y3, e4⟩ : ∃ z9, z9 = fw 69 := ⟨_, rfl⟩
  refine r_iald hx hb hK hP 1 rfl 69 (by decide) (by decide) y3 e4.symm dX12_doStir_189 ?_
  refine lv_iconst (v := nI 1) hx hb dX12_doStir_190 (by decide) ?_
  refine lv_iadd hx hb dX12_doStir_191 ?_
  refine lv_topi (fun y5 e6 => ?_)
  refine r_iast (x := y5) hx hb hK hP hD hS 1 rfl 69 (by decide) (by decide) dX12_doStir_192 (fun H locs hP hD hS => ?_)
  obtain ⟨g7, e8⟩ : ∃ z9, z9 = upd fw 69 y5 := ⟨_, rfl⟩
  rw [← e8] at hP hD
  have hB9 : NowB g7 := by rw [e8]; exact NowB.up hL (by omega)
  have hP : va_P (dC, dI) vwCl [(o, .inr (12, [.int kthrown, .ref ktape, .int ktaped, .int ksize, .int klimit, .int kto, .int kfrom, .int kkind, .int knumber, .int ksign, .int kfault, .int kplace, .long kword, .int ktold, .ref know, .ref kread, .ref kkept, .ref ksnaps, .ref kaside, .ref kname, .ref kreadName, .ref kkeptName, .ref kisKept, .ref konces, .int ksnapMany, .int khasCells, .ref kpoured, .ref kfar, .ref ksides, .int ksideMany, .int kwayDays, .int khasWay, .ref klines, .ref kmet, .int kmetMany, .ref ksunk, .ref ktrying, .int ksunkMany, .int ksending, .int kfleets, .ref ktext, .int ktexts, .int kseed, .ref kline, .ref kwritten, .int klineMany, .int khasWritten, .ref knode, .int knodes, .int konesMany, .int kwithin, .int ktop])), (know, .inl (ky 0, 373, .inl g7)), (kpoured, .inl (ky 0, 36, .inl fq))] H := hP
  have hD : va_D A [(o, .inr (12, [.int kthrown, .ref ktape, .int ktaped, .int ksize, .int klimit, .int kto, .int kfrom, .int kkind, .int knumber, .int ksign, .int kfault, .int kplace, .long kword, .int ktold, .ref know, .ref kread, .ref kkept, .ref ksnaps, .ref kaside, .ref kname, .ref kreadName, .ref kkeptName, .ref kisKept, .ref konces, .int ksnapMany, .int khasCells, .ref kpoured, .ref kfar, .ref ksides, .int ksideMany, .int kwayDays, .int khasWay, .ref klines, .ref kmet, .int kmetMany, .ref ksunk, .ref ktrying, .int ksunkMany, .int ksending, .int kfleets, .ref ktext, .int ktexts, .int kseed, .ref kline, .ref kwritten, .int klineMany, .int khasWritten, .ref knode, .int knodes, .int konesMany, .int kwithin, .int ktop])), (know, .inl (ky 0, 373, .inl g7)), (kpoured, .inl (ky 0, 36, .inl fq))] := hD
  have hP9 := hP.sub (ws' := [(o, .inr (12, [.int kthrown, .ref ktape, .int ktaped, .int ksize, .int klimit, .int kto, .int kfrom, .int kkind, .int knumber, .int ksign, .int kfault, .int kplace, .long kword, .int ktold, .ref know, .ref kread, .ref kkept, .ref ksnaps, .ref kaside, .ref kname, .ref kreadName, .ref kkeptName, .ref kisKept, .ref konces, .int ksnapMany, .int khasCells, .ref kpoured, .ref kfar, .ref ksides, .int ksideMany, .int kwayDays, .int khasWay, .ref klines, .ref kmet, .int kmetMany, .ref ksunk, .ref ktrying, .int ksunkMany, .int ksending, .int kfleets, .ref ktext, .int ktexts, .int kseed, .ref kline, .ref kwritten, .int klineMany, .int khasWritten, .ref knode, .int knodes, .int konesMany, .int kwithin, .int ktop])), (know, .inl (ky 0, 373, .inl g7)), (kpoured, .inl (ky 0, 36, .inl fq))]) [0, 1, 2] rfl
  have hD9 := hD.sub (ws' := [(o, .inr (12, [.int kthrown, .ref ktape, .int ktaped, .int ksize, .int klimit, .int kto, .int kfrom, .int kkind, .int knumber, .int ksign, .int kfault, .int kplace, .long kword, .int ktold, .ref know, .ref kread, .ref kkept, .ref ksnaps, .ref kaside, .ref kname, .ref kreadName, .ref kkeptName, .ref kisKept, .ref konces, .int ksnapMany, .int khasCells, .ref kpoured, .ref kfar, .ref ksides, .int ksideMany, .int kwayDays, .int khasWay, .ref klines, .ref kmet, .int kmetMany, .ref ksunk, .ref ktrying, .int ksunkMany, .int ksending, .int kfleets, .ref ktext, .int ktexts, .int kseed, .ref kline, .ref kwritten, .int klineMany, .int khasWritten, .ref knode, .int knodes, .int konesMany, .int kwithin, .int ktop])), (know, .inl (ky 0, 373, .inl g7)), (kpoured, .inl (ky 0, 36, .inl fq))]) [0, 1, 2] (by decide) rfl
  refine W.widen (k := 0) (n := 0) (Nat.le_of_ble_eq_true rfl) (Nat.le_of_ble_eq_true rfl) ?_
  exact W.vret hx hb hr (fun t ht9 hW9 => ⟨⟨(g7, fq), rfl, (lf_m_doStir_2 o kthrown ktape ktaped ksize klimit kto kfrom kkind knumber ksign kfault kplace kword ktold know kread kkept ksnaps kaside kname kreadName kkeptName kisKept konces ksnapMany khasCells kpoured kfar ksides ksideMany kwayDays khasWay klines kmet kmetMany ksunk ktrying ksunkMany ksending kfleets ktext ktexts kseed kline kwritten klineMany khasWritten knode knodes konesMany kwithin ktop knowF kpouredF ln fp fq fw y3 y5 g7 hB hln hL e4 e6 hB9), by rw [ht9]; exact hP9, va_K.moved hW9.alike hK, hD9⟩, hS.F ht9⟩) hS.2.2 dX12_doStir_193
set_option maxHeartbeats 4000000 in
set_option maxRecDepth 100000 in
theorem c_m_live0 (l : Launch) (dC : Nat → ClassId) (dI : Nat → Nat → Nat) (ky : Nat → ClassId) (sz : Nat) (o : Nat) (kthrown : Int32) (ktape : Nat) (ktaped : Int32) (ksize : Int32) (klimit : Int32) (kto : Int32) (kfrom : Int32) (kkind : Int32) (knumber : Int32) (ksign : Int32) (kfault : Int32) (kplace : Int32) (kword : Int64) (ktold : Int32) (know : Nat) (kread : Nat) (kkept : Nat) (ksnaps : Nat) (kaside : Nat) (kname : Nat) (kreadName : Nat) (kkeptName : Nat) (kisKept : Nat) (konces : Nat) (ksnapMany : Int32) (khasCells : Int32) (kpoured : Nat) (kfar : Nat) (ksides : Nat) (ksideMany : Int32) (kwayDays : Int32) (khasWay : Int32) (klines : Nat) (kmet : Nat) (kmetMany : Int32) (ksunk : Nat) (ktrying : Nat) (ksunkMany : Int32) (ksending : Int32) (kfleets : Int32) (ktext : Nat) (ktexts : Int32) (kseed : Int32) (kline : Nat) (kwritten : Nat) (klineMany : Int32) (khasWritten : Int32) (knode : Nat) (knodes : Int32) (konesMany : Int32) (kwithin : Int32) (ktop : Int32) (knowF : Nat → Int32) (kpouredF : Nat → Int32) (ln : Nat) (y : Int32) (hB : NowB knowF) (hln : ln < 24) : Met l yX12_live wsX12_live ({ frames := 2, cells := 0, slots := 0, locals := 49 }) (PcU dC dI ky [.ref o, .int (nI 0), .int (nI ln), .int y] [(o, .inr (12, [.int kthrown, .ref ktape, .int ktaped, .int ksize, .int klimit, .int kto, .int kfrom, .int kkind, .int knumber, .int ksign, .int kfault, .int kplace, .long kword, .int ktold, .ref know, .ref kread, .ref kkept, .ref ksnaps, .ref kaside, .ref kname, .ref kreadName, .ref kkeptName, .ref kisKept, .ref konces, .int ksnapMany, .int khasCells, .ref kpoured, .ref kfar, .ref ksides, .int ksideMany, .int kwayDays, .int khasWay, .ref klines, .ref kmet, .int kmetMany, .ref ksunk, .ref ktrying, .int ksunkMany, .int ksending, .int kfleets, .ref ktext, .int ktexts, .int kseed, .ref kline, .ref kwritten, .int klineMany, .int khasWritten, .ref knode, .int knodes, .int konesMany, .int kwithin, .int ktop])), (know, .inl (ky 0, 373, .inl knowF)), (kpoured, .inl (ky 0, 36, .inl kpouredF))] sz) (va_Qv (fun (_ : Unit) => True) (BU dC dI ky (fun (_ : Unit) => []) (va_A [(o, .inr (12, [.int kthrown, .ref ktape, .int ktaped, .int ksize, .int klimit, .int kto, .int kfrom, .int kkind, .int knumber, .int ksign, .int kfault, .int kplace, .long kword, .int ktold, .ref know, .ref kread, .ref kkept, .ref ksnaps, .ref kaside, .ref kname, .ref kreadName, .ref kkeptName, .ref kisKept, .ref konces, .int ksnapMany, .int khasCells, .ref kpoured, .ref kfar, .ref ksides, .int ksideMany, .int kwayDays, .int khasWay, .ref klines, .ref kmet, .int kmetMany, .ref ksunk, .ref ktrying, .int ksunkMany, .int ksending, .int kfleets, .ref ktext, .int ktexts, .int kseed, .ref kline, .ref kwritten, .int klineMany, .int khasWritten, .ref knode, .int knodes, .int konesMany, .int kwithin, .int ktop])), (know, .inl (ky 0, 373, .inl knowF)), (kpoured, .inl (ky 0, 36, .inl kpouredF))] sz)) (va_A [(o, .inr (12, [.int kthrown, .ref ktape, .int ktaped, .int ksize, .int klimit, .int kto, .int kfrom, .int kkind, .int knumber, .int ksign, .int kfault, .int kplace, .long kword, .int ktold, .ref know, .ref kread, .ref kkept, .ref ksnaps, .ref kaside, .ref kname, .ref kreadName, .ref kkeptName, .ref kisKept, .ref konces, .int ksnapMany, .int khasCells, .ref kpoured, .ref kfar, .ref ksides, .int ksideMany, .int kwayDays, .int khasWay, .ref klines, .ref kmet, .int kmetMany, .ref ksunk, .ref ktrying, .int ksunkMany, .int ksending, .int kfleets, .ref ktext, .int ktexts, .int kseed, .ref kline, .ref kwritten, .int klineMany, .int khasWritten, .ref knode, .int knodes, .int konesMany, .int kwithin, .int ktop])), (know, .inl (ky 0, 373, .inl knowF)), (kpoured, .inl (ky 0, 36, .inl kpouredF))] sz)) 0 0 (va_A [(o, .inr (12, [.int kthrown, .ref ktape, .int ktaped, .int ksize, .int klimit, .int kto, .int kfrom, .int kkind, .int knumber, .int ksign, .int kfault, .int kplace, .long kword, .int ktold, .ref know, .ref kread, .ref kkept, .ref ksnaps, .ref kaside, .ref kname, .ref kreadName, .ref kkeptName, .ref kisKept, .ref konces, .int ksnapMany, .int khasCells, .ref kpoured, .ref kfar, .ref ksides, .int ksideMany, .int kwayDays, .int khasWay, .ref klines, .ref kmet, .int kmetMany, .ref ksunk, .ref ktrying, .int ksunkMany, .int ksending, .int kfleets, .ref ktext, .int ktexts, .int kseed, .ref kline, .ref kwritten, .int klineMany, .int khasWritten, .ref knode, .int knodes, .int konesMany, .int kwithin, .int ktop])), (know, .inl (ky 0, 373, .inl knowF)), (kpoured, .inl (ky 0, 36, .inl kpouredF))] sz) := by
  refine Met.ofW (cc := cX12_live) (maxL := 4) (ret := none) (by decide) rfl ?_
  intro p e s m args below meth c s₁ B hml hv
  obtain ⟨rfl, hsz, hP, hK, hD0⟩ := hv
  have hx := B.exec
  have hb := B.bytes
  have hr := B.returns
  have hts := atoms_spec (ws := wsX12_live) B.pre
  have hown : s.vm.findClass RX12 = some m.cls := findClass_of_methodNamed B.named
  have hlocks := B.notSynchronized
  subst hsz
  have hD := hD0.self (sz := s.heap.size)
  generalize hAe : va_A [(o, .inr (12, [.int kthrown, .ref ktape, .int ktaped, .int ksize, .int klimit, .int kto, .int kfrom, .int kkind, .int knumber, .int ksign, .int kfault, .int kplace, .long kword, .int ktold, .ref know, .ref kread, .ref kkept, .ref ksnaps, .ref kaside, .ref kname, .ref kreadName, .ref kkeptName, .ref kisKept, .ref konces, .int ksnapMany, .int khasCells, .ref kpoured, .ref kfar, .ref ksides, .int ksideMany, .int kwayDays, .int khasWay, .ref klines, .ref kmet, .int kmetMany, .ref ksunk, .ref ktrying, .int ksunkMany, .int ksending, .int kfleets, .ref ktext, .int ktexts, .int kseed, .ref kline, .ref kwritten, .int klineMany, .int khasWritten, .ref knode, .int knodes, .int konesMany, .int kwithin, .int ktop])), (know, .inl (ky 0, 373, .inl knowF)), (kpoured, .inl (ky 0, 36, .inl kpouredF))] s.heap.size = A at hD ⊢
  have hA : ∀ q : Nat, s.heap.size ≤ q → A q := fun q h => by rw [← hAe]; exact Or.inr h
  have hS : va_S A s.heap s.heap [] := va_S.rf
  have hP : va_P (dC, dI) vwCl [(o, .inr (12, [.int kthrown, .ref ktape, .int ktaped, .int ksize, .int klimit, .int kto, .int kfrom, .int kkind, .int knumber, .int ksign, .int kfault, .int kplace, .long kword, .int ktold, .ref know, .ref kread, .ref kkept, .ref ksnaps, .ref kaside, .ref kname, .ref kreadName, .ref kkeptName, .ref kisKept, .ref konces, .int ksnapMany, .int khasCells, .ref kpoured, .ref kfar, .ref ksides, .int ksideMany, .int kwayDays, .int khasWay, .ref klines, .ref kmet, .int kmetMany, .ref ksunk, .ref ktrying, .int ksunkMany, .int ksending, .int kfleets, .ref ktext, .int ktexts, .int kseed, .ref kline, .ref kwritten, .int klineMany, .int khasWritten, .ref knode, .int knodes, .int konesMany, .int kwithin, .int ktop])), (know, .inl (ky 0, 373, .inl knowF)), (kpoured, .inl (ky 0, 36, .inl kpouredF))] s.heap := hP
  have hl := lv_entry ([.ref o, .int (nI 0), .int (nI ln), .int y]) (n := 4) (Nat.le_of_ble_eq_true rfl)
  rw [lg_entry_eq]
  generalize (lg_sl ([.ref o, .int (nI 0), .int (nI ln), .int y]) ++ List.replicate (4 - (lg_sl ([.ref o, .int (nI 0), .int (nI ln), .int y])).length) Slot.unset).toArray = ls at hl ⊢
  have hl : lv_has ls 4 [(0, .ref o), (1, .int (nI 0)), (2, .int (nI ln)), (3, .int y)] := hl
  have hH0 : True := trivial
  refine lv_iload_n hx hb dX12_live_0 rfl (lv_at hl 1 rfl) ?_
  refine lv_tableIn (off := 31) (tgt := 32) hx hb dX12_live_1 (by decide) (by decide) rfl (by decide) ?_
  refine lv_aload_n hx hb dX12_live_32 rfl (lv_at hl 0 rfl) ?_
  refine lv_iload_n hx hb dX12_live_33 rfl (lv_at hl 2 rfl) ?_
  refine r_call_v (wr := []) (va_runV (As := [.int (nI ln)]) (rest := []) ⟨hx, hb, hml, hown, hts⟩ (c_m_doStir l dC dI ky s.heap.size o kthrown ktape ktaped ksize klimit kto kfrom kkind knumber ksign kfault kplace kword ktold know kread kkept ksnaps kaside kname kreadName kkeptName kisKept konces ksnapMany khasCells kpoured kfar ksides ksideMany kwayDays khasWay klines kmet kmetMany ksunk ktrying ksunkMany ksending kfleets ktext ktexts kseed kline kwritten klineMany khasWritten knode knodes konesMany kwithin ktop knowF kpouredF ln hB (by omega)) (cwV 1 hts gX12_live_X12_doStir rfl rfl rfl (by decide +kernel) ⟨(Nat.le_of_ble_eq_true rfl), (Nat.le_of_ble_eq_true rfl)⟩) (pre_UV hK hP hD [0, 1, 2] (by decide) rfl (ci := 12) (q0 := 0) rfl rfl) rfl rfl hl.1 rfl (lv_room (Nat.le_of_ble_eq_true rfl)) dX12_live_34 ⟨(Nat.le_of_ble_eq_true rfl), (Nat.le_of_ble_eq_true rfl)⟩) hP hD hS hA [0, 1, 2] [] rfl rfl (by decide) (by decide) (fun  u1 H locs p2 hP hD hS => ?_)
  obtain ⟨knowG_3, kpouredG_4⟩ := u1
  try dsimp only at p2
  have p5 := p2
  refine W.widen (k := 0) (n := 0) (Nat.le_of_ble_eq_true rfl) (Nat.le_of_ble_eq_true rfl) ?_
  have hP : va_P (dC, dI) vwCl [(o, .inr (12, [.int kthrown, .ref ktape, .int ktaped, .int ksize, .int klimit, .int kto, .int kfrom, .int kkind, .int knumber, .int ksign, .int kfault, .int kplace, .long kword, .int ktold, .ref know, .ref kread, .ref kkept, .ref ksnaps, .ref kaside, .ref kname, .ref kreadName, .ref kkeptName, .ref kisKept, .ref konces, .int ksnapMany, .int khasCells, .ref kpoured, .ref kfar, .ref ksides, .int ksideMany, .int kwayDays, .int khasWay, .ref klines, .ref kmet, .int kmetMany, .ref ksunk, .ref ktrying, .int ksunkMany, .int ksending, .int kfleets, .ref ktext, .int ktexts, .int kseed, .ref kline, .ref kwritten, .int klineMany, .int khasWritten, .ref knode, .int knodes, .int konesMany, .int kwithin, .int ktop])), (know, .inl (ky 0, 373, .inl knowG_3)), (kpoured, .inl (ky 0, 36, .inl kpouredG_4))] H := hP
  have hD : va_D A [(o, .inr (12, [.int kthrown, .ref ktape, .int ktaped, .int ksize, .int klimit, .int kto, .int kfrom, .int kkind, .int knumber, .int ksign, .int kfault, .int kplace, .long kword, .int ktold, .ref know, .ref kread, .ref kkept, .ref ksnaps, .ref kaside, .ref kname, .ref kreadName, .ref kkeptName, .ref kisKept, .ref konces, .int ksnapMany, .int khasCells, .ref kpoured, .ref kfar, .ref ksides, .int ksideMany, .int kwayDays, .int khasWay, .ref klines, .ref kmet, .int kmetMany, .ref ksunk, .ref ktrying, .int ksunkMany, .int ksending, .int kfleets, .ref ktext, .int ktexts, .int kseed, .ref kline, .ref kwritten, .int klineMany, .int khasWritten, .ref knode, .int knodes, .int konesMany, .int kwithin, .int ktop])), (know, .inl (ky 0, 373, .inl knowG_3)), (kpoured, .inl (ky 0, 36, .inl kpouredG_4))] := hD
  have hP9 := hP.sub (ws' := []) [] rfl
  have hD9 := hD.sub (ws' := []) [] (by decide) rfl
  refine W.widen (k := 0) (n := 0) (Nat.le_of_ble_eq_true rfl) (Nat.le_of_ble_eq_true rfl) ?_
  exact W.vret hx hb hr (fun t ht9 hW9 => ⟨⟨(), rfl, trivial, by rw [ht9]; exact hP9, va_K.moved hW9.alike hK, hD9⟩, hS.F ht9⟩) hS.2.2 dX12_live_37
set_option maxHeartbeats 4000000 in
set_option maxRecDepth 100000 in
theorem c_m_live2 (l : Launch) (dC : Nat → ClassId) (dI : Nat → Nat → Nat) (ky : Nat → ClassId) (sz : Nat) (o : Nat) (kthrown : Int32) (ktape : Nat) (ktaped : Int32) (ksize : Int32) (klimit : Int32) (kto : Int32) (kfrom : Int32) (kkind : Int32) (knumber : Int32) (ksign : Int32) (kfault : Int32) (kplace : Int32) (kword : Int64) (ktold : Int32) (know : Nat) (kread : Nat) (kkept : Nat) (ksnaps : Nat) (kaside : Nat) (kname : Nat) (kreadName : Nat) (kkeptName : Nat) (kisKept : Nat) (konces : Nat) (ksnapMany : Int32) (khasCells : Int32) (kpoured : Nat) (kfar : Nat) (ksides : Nat) (ksideMany : Int32) (kwayDays : Int32) (khasWay : Int32) (klines : Nat) (kmet : Nat) (kmetMany : Int32) (ksunk : Nat) (ktrying : Nat) (ksunkMany : Int32) (ksending : Int32) (kfleets : Int32) (ktext : Nat) (ktexts : Int32) (kseed : Int32) (kline : Nat) (kwritten : Nat) (klineMany : Int32) (khasWritten : Int32) (knode : Nat) (knodes : Int32) (konesMany : Int32) (kwithin : Int32) (ktop : Int32) (knowF : Nat → Int32) (k : Nat) (y : Int32) (hk : k < 36) : Met l yX12_live wsX12_live ({ frames := 1, cells := 0, slots := 0, locals := 21 }) (PcU dC dI ky [.ref o, .int (nI 2), .int (nI k), .int y] [(o, .inr (12, [.int kthrown, .ref ktape, .int ktaped, .int ksize, .int klimit, .int kto, .int kfrom, .int kkind, .int knumber, .int ksign, .int kfault, .int kplace, .long kword, .int ktold, .ref know, .ref kread, .ref kkept, .ref ksnaps, .ref kaside, .ref kname, .ref kreadName, .ref kkeptName, .ref kisKept, .ref konces, .int ksnapMany, .int khasCells, .ref kpoured, .ref kfar, .ref ksides, .int ksideMany, .int kwayDays, .int khasWay, .ref klines, .ref kmet, .int kmetMany, .ref ksunk, .ref ktrying, .int ksunkMany, .int ksending, .int kfleets, .ref ktext, .int ktexts, .int kseed, .ref kline, .ref kwritten, .int klineMany, .int khasWritten, .ref knode, .int knodes, .int konesMany, .int kwithin, .int ktop])), (know, .inl (ky 0, 373, .inl knowF))] sz) (va_Qv (fun (_ : Unit) => True) (BU dC dI ky (fun (_ : Unit) => []) (va_A [(o, .inr (12, [.int kthrown, .ref ktape, .int ktaped, .int ksize, .int klimit, .int kto, .int kfrom, .int kkind, .int knumber, .int ksign, .int kfault, .int kplace, .long kword, .int ktold, .ref know, .ref kread, .ref kkept, .ref ksnaps, .ref kaside, .ref kname, .ref kreadName, .ref kkeptName, .ref kisKept, .ref konces, .int ksnapMany, .int khasCells, .ref kpoured, .ref kfar, .ref ksides, .int ksideMany, .int kwayDays, .int khasWay, .ref klines, .ref kmet, .int kmetMany, .ref ksunk, .ref ktrying, .int ksunkMany, .int ksending, .int kfleets, .ref ktext, .int ktexts, .int kseed, .ref kline, .ref kwritten, .int klineMany, .int khasWritten, .ref knode, .int knodes, .int konesMany, .int kwithin, .int ktop])), (know, .inl (ky 0, 373, .inl knowF))] sz)) (va_A [(o, .inr (12, [.int kthrown, .ref ktape, .int ktaped, .int ksize, .int klimit, .int kto, .int kfrom, .int kkind, .int knumber, .int ksign, .int kfault, .int kplace, .long kword, .int ktold, .ref know, .ref kread, .ref kkept, .ref ksnaps, .ref kaside, .ref kname, .ref kreadName, .ref kkeptName, .ref kisKept, .ref konces, .int ksnapMany, .int khasCells, .ref kpoured, .ref kfar, .ref ksides, .int ksideMany, .int kwayDays, .int khasWay, .ref klines, .ref kmet, .int kmetMany, .ref ksunk, .ref ktrying, .int ksunkMany, .int ksending, .int kfleets, .ref ktext, .int ktexts, .int kseed, .ref kline, .ref kwritten, .int klineMany, .int khasWritten, .ref knode, .int knodes, .int konesMany, .int kwithin, .int ktop])), (know, .inl (ky 0, 373, .inl knowF))] sz)) 0 0 (va_A [(o, .inr (12, [.int kthrown, .ref ktape, .int ktaped, .int ksize, .int klimit, .int kto, .int kfrom, .int kkind, .int knumber, .int ksign, .int kfault, .int kplace, .long kword, .int ktold, .ref know, .ref kread, .ref kkept, .ref ksnaps, .ref kaside, .ref kname, .ref kreadName, .ref kkeptName, .ref kisKept, .ref konces, .int ksnapMany, .int khasCells, .ref kpoured, .ref kfar, .ref ksides, .int ksideMany, .int kwayDays, .int khasWay, .ref klines, .ref kmet, .int kmetMany, .ref ksunk, .ref ktrying, .int ksunkMany, .int ksending, .int kfleets, .ref ktext, .int ktexts, .int kseed, .ref kline, .ref kwritten, .int klineMany, .int khasWritten, .ref knode, .int knodes, .int konesMany, .int kwithin, .int ktop])), (know, .inl (ky 0, 373, .inl knowF))] sz) := by
  refine Met.ofW (cc := cX12_live) (maxL := 4) (ret := none) (by decide) rfl ?_
  intro p e s m args below meth c s₁ B hml hv
  obtain ⟨rfl, hsz, hP, hK, hD0⟩ := hv
  have hx := B.exec
  have hb := B.bytes
  have hr := B.returns
  have hts := atoms_spec (ws := wsX12_live) B.pre
  have hown : s.vm.findClass RX12 = some m.cls := findClass_of_methodNamed B.named
  have hlocks := B.notSynchronized
  have hin12 : ∀ w ∈ u_ws RX12 TX12 52, w ∈ wsX12_live := by decide +kernel
  subst hsz
  have hD := hD0.self (sz := s.heap.size)
  generalize hAe : va_A [(o, .inr (12, [.int kthrown, .ref ktape, .int ktaped, .int ksize, .int klimit, .int kto, .int kfrom, .int kkind, .int knumber, .int ksign, .int kfault, .int kplace, .long kword, .int ktold, .ref know, .ref kread, .ref kkept, .ref ksnaps, .ref kaside, .ref kname, .ref kreadName, .ref kkeptName, .ref kisKept, .ref konces, .int ksnapMany, .int khasCells, .ref kpoured, .ref kfar, .ref ksides, .int ksideMany, .int kwayDays, .int khasWay, .ref klines, .ref kmet, .int kmetMany, .ref ksunk, .ref ktrying, .int ksunkMany, .int ksending, .int kfleets, .ref ktext, .int ktexts, .int kseed, .ref kline, .ref kwritten, .int klineMany, .int khasWritten, .ref knode, .int knodes, .int konesMany, .int kwithin, .int ktop])), (know, .inl (ky 0, 373, .inl knowF))] s.heap.size = A at hD ⊢
  have hA : ∀ q : Nat, s.heap.size ≤ q → A q := fun q h => by rw [← hAe]; exact Or.inr h
  have hS : va_S A s.heap s.heap [] := va_S.rf
  have hP : va_P (dC, dI) vwCl [(o, .inr (12, [.int kthrown, .ref ktape, .int ktaped, .int ksize, .int klimit, .int kto, .int kfrom, .int kkind, .int knumber, .int ksign, .int kfault, .int kplace, .long kword, .int ktold, .ref know, .ref kread, .ref kkept, .ref ksnaps, .ref kaside, .ref kname, .ref kreadName, .ref kkeptName, .ref kisKept, .ref konces, .int ksnapMany, .int khasCells, .ref kpoured, .ref kfar, .ref ksides, .int ksideMany, .int kwayDays, .int khasWay, .ref klines, .ref kmet, .int kmetMany, .ref ksunk, .ref ktrying, .int ksunkMany, .int ksending, .int kfleets, .ref ktext, .int ktexts, .int kseed, .ref kline, .ref kwritten, .int klineMany, .int khasWritten, .ref knode, .int knodes, .int konesMany, .int kwithin, .int ktop])), (know, .inl (ky 0, 373, .inl knowF))] s.heap := hP
  have hl := lv_entry ([.ref o, .int (nI 2), .int (nI k), .int y]) (n := 4) (Nat.le_of_ble_eq_true rfl)
  rw [lg_entry_eq]
  generalize (lg_sl ([.ref o, .int (nI 2), .int (nI k), .int y]) ++ List.replicate (4 - (lg_sl ([.ref o, .int (nI 2), .int (nI k), .int y])).length) Slot.unset).toArray = ls at hl ⊢
  have hl : lv_has ls 4 [(0, .ref o), (1, .int (nI 2)), (2, .int (nI k)), (3, .int y)] := hl
  have hH0 : True := trivial
  refine lv_iload_n hx hb dX12_live_0 rfl (lv_at hl 1 rfl) ?_
  refine lv_tableIn (off := 97) (tgt := 98) hx hb dX12_live_1 (by decide) (by decide) rfl (by decide) ?_
  refine lv_aload_n hx hb dX12_live_98 rfl (lv_at hl 0 rfl) ?_
  refine va_get (D := (dC, dI)) (ci := 12) (v := .ref know) (C := RX12) (T := TX12) (N := 52) hx hb hts hin12 hown hK hP 0 rfl rfl 14 (by decide) (hts (.fieldLink RX12 98 "PorridgeSeaModel" "now" "[I") (List.mem_of_getElem? (i := 1) rfl)) (fun _ h9 => h9) rfl dX12_live_99 ?_
  refine lv_bipush (v := nI 71) hx hb dX12_live_102 (by decide) ?_
  refine lv_iload_n hx hb dX12_live_104 rfl (lv_at hl 2 rfl) ?_
  refine lv_iadd hx hb dX12_live_105 ?_
  refine r_ti (nI (71 + k)) (nI_add _ _) ?_
  refine lv_bipush (v := nI 9) hx hb dX12_live_106 (by decide) ?_
  refine lv_aload_n hx hb dX12_live_108 rfl (lv_at hl 0 rfl) ?_
  refine va_get (D := (dC, dI)) (ci := 12) (v := .ref know) (C := RX12) (T := TX12) (N := 52) hx hb hts hin12 hown hK hP 0 rfl rfl 14 (by decide) (hts (.fieldLink RX12 98 "PorridgeSeaModel" "now" "[I") (List.mem_of_getElem? (i := 1) rfl)) (fun _ h9 => h9) rfl dX12_live_109 ?_
  refine lv_bipush (v := nI 71) hx hb dX12_live_112 (by decide) ?_
  refine lv_iload_n hx hb dX12_live_114 rfl (lv_at hl 2 rfl) ?_
  refine lv_iadd hx hb dX12_live_115 ?_
  refine r_ti (nI (71 + k)) (nI_add _ _) ?_
  obtain ⟨y1, e2⟩ : ∃ z9, z9 = knowF (71 + k) := ⟨_, rfl⟩
  refine r_iald hx hb hK hP 1 rfl (71 + k) (by omega) (by decide) y1 e2.symm dX12_live_116 ?_
  refine lv_iload_n hx hb dX12_live_117 rfl (lv_at hl 3 rfl) ?_
  refine lv_iadd hx hb dX12_live_118 ?_
  refine lv_topi (fun y3 e4 => ?_)
  refine vp_callSi (W.runS (As := [.int (nI 9), .int y3]) (rest := [.int (nI (71 + k)), .ref know]) ⟨hx, hb, hml, hown, hts⟩ (c_m_least l dC dI ky (nI 9) y3) (va_cwS 2 hts gX12_live_X12_least rfl rfl rfl (by decide +kernel) ⟨(Nat.le_of_ble_eq_true rfl), (Nat.le_of_ble_eq_true rfl)⟩) (pre_PS hK hP [] rfl) rfl rfl hl.1 rfl (lv_room (Nat.le_of_ble_eq_true rfl)) dX12_live_119 ⟨(Nat.le_of_ble_eq_true rfl), (Nat.le_of_ble_eq_true rfl)⟩) (fun r5 p6 => ?_)
  refine r_iast (x := r5) hx hb hK hP hD hS 1 rfl (71 + k) (by omega) (by decide) dX12_live_122 (fun H locs hP hD hS => ?_)
  obtain ⟨g7, e8⟩ : ∃ z9, z9 = upd knowF (71 + k) r5 := ⟨_, rfl⟩
  rw [← e8] at hP hD
  have hP : va_P (dC, dI) vwCl [(o, .inr (12, [.int kthrown, .ref ktape, .int ktaped, .int ksize, .int klimit, .int kto, .int kfrom, .int kkind, .int knumber, .int ksign, .int kfault, .int kplace, .long kword, .int ktold, .ref know, .ref kread, .ref kkept, .ref ksnaps, .ref kaside, .ref kname, .ref kreadName, .ref kkeptName, .ref kisKept, .ref konces, .int ksnapMany, .int khasCells, .ref kpoured, .ref kfar, .ref ksides, .int ksideMany, .int kwayDays, .int khasWay, .ref klines, .ref kmet, .int kmetMany, .ref ksunk, .ref ktrying, .int ksunkMany, .int ksending, .int kfleets, .ref ktext, .int ktexts, .int kseed, .ref kline, .ref kwritten, .int klineMany, .int khasWritten, .ref knode, .int knodes, .int konesMany, .int kwithin, .int ktop])), (know, .inl (ky 0, 373, .inl g7))] H := hP
  have hD : va_D A [(o, .inr (12, [.int kthrown, .ref ktape, .int ktaped, .int ksize, .int klimit, .int kto, .int kfrom, .int kkind, .int knumber, .int ksign, .int kfault, .int kplace, .long kword, .int ktold, .ref know, .ref kread, .ref kkept, .ref ksnaps, .ref kaside, .ref kname, .ref kreadName, .ref kkeptName, .ref kisKept, .ref konces, .int ksnapMany, .int khasCells, .ref kpoured, .ref kfar, .ref ksides, .int ksideMany, .int kwayDays, .int khasWay, .ref klines, .ref kmet, .int kmetMany, .ref ksunk, .ref ktrying, .int ksunkMany, .int ksending, .int kfleets, .ref ktext, .int ktexts, .int kseed, .ref kline, .ref kwritten, .int klineMany, .int khasWritten, .ref knode, .int knodes, .int konesMany, .int kwithin, .int ktop])), (know, .inl (ky 0, 373, .inl g7))] := hD
  have hP9 := hP.sub (ws' := []) [] rfl
  have hD9 := hD.sub (ws' := []) [] (by decide) rfl
  refine W.widen (k := 0) (n := 0) (Nat.le_of_ble_eq_true rfl) (Nat.le_of_ble_eq_true rfl) ?_
  exact W.vret hx hb hr (fun t ht9 hW9 => ⟨⟨(), rfl, trivial, by rw [ht9]; exact hP9, va_K.moved hW9.alike hK, hD9⟩, hS.F ht9⟩) hS.2.2 dX12_live_123
set_option maxHeartbeats 4000000 in
set_option maxRecDepth 100000 in
theorem c_m_live4 (l : Launch) (dC : Nat → ClassId) (dI : Nat → Nat → Nat) (ky : Nat → ClassId) (sz : Nat) (o : Nat) (kthrown : Int32) (ktape : Nat) (ktaped : Int32) (ksize : Int32) (klimit : Int32) (kto : Int32) (kfrom : Int32) (kkind : Int32) (knumber : Int32) (ksign : Int32) (kfault : Int32) (kplace : Int32) (kword : Int64) (ktold : Int32) (know : Nat) (kread : Nat) (kkept : Nat) (ksnaps : Nat) (kaside : Nat) (kname : Nat) (kreadName : Nat) (kkeptName : Nat) (kisKept : Nat) (konces : Nat) (ksnapMany : Int32) (khasCells : Int32) (kpoured : Nat) (kfar : Nat) (ksides : Nat) (ksideMany : Int32) (kwayDays : Int32) (khasWay : Int32) (klines : Nat) (kmet : Nat) (kmetMany : Int32) (ksunk : Nat) (ktrying : Nat) (ksunkMany : Int32) (ksending : Int32) (kfleets : Int32) (ktext : Nat) (ktexts : Int32) (kseed : Int32) (kline : Nat) (kwritten : Nat) (klineMany : Int32) (khasWritten : Int32) (knode : Nat) (knodes : Int32) (konesMany : Int32) (kwithin : Int32) (ktop : Int32) (knowF : Nat → Int32) (x : Int32) (y : Int32)  : Met l yX12_live wsX12_live ({ frames := 1, cells := 0, slots := 0, locals := 21 }) (PcU dC dI ky [.ref o, .int (nI 4), .int x, .int y] [(o, .inr (12, [.int kthrown, .ref ktape, .int ktaped, .int ksize, .int klimit, .int kto, .int kfrom, .int kkind, .int knumber, .int ksign, .int kfault, .int kplace, .long kword, .int ktold, .ref know, .ref kread, .ref kkept, .ref ksnaps, .ref kaside, .ref kname, .ref kreadName, .ref kkeptName, .ref kisKept, .ref konces, .int ksnapMany, .int khasCells, .ref kpoured, .ref kfar, .ref ksides, .int ksideMany, .int kwayDays, .int khasWay, .ref klines, .ref kmet, .int kmetMany, .ref ksunk, .ref ktrying, .int ksunkMany, .int ksending, .int kfleets, .ref ktext, .int ktexts, .int kseed, .ref kline, .ref kwritten, .int klineMany, .int khasWritten, .ref knode, .int knodes, .int konesMany, .int kwithin, .int ktop])), (know, .inl (ky 0, 373, .inl knowF))] sz) (va_Qv (fun (_ : Unit) => True) (BU dC dI ky (fun (_ : Unit) => []) (va_A [(o, .inr (12, [.int kthrown, .ref ktape, .int ktaped, .int ksize, .int klimit, .int kto, .int kfrom, .int kkind, .int knumber, .int ksign, .int kfault, .int kplace, .long kword, .int ktold, .ref know, .ref kread, .ref kkept, .ref ksnaps, .ref kaside, .ref kname, .ref kreadName, .ref kkeptName, .ref kisKept, .ref konces, .int ksnapMany, .int khasCells, .ref kpoured, .ref kfar, .ref ksides, .int ksideMany, .int kwayDays, .int khasWay, .ref klines, .ref kmet, .int kmetMany, .ref ksunk, .ref ktrying, .int ksunkMany, .int ksending, .int kfleets, .ref ktext, .int ktexts, .int kseed, .ref kline, .ref kwritten, .int klineMany, .int khasWritten, .ref knode, .int knodes, .int konesMany, .int kwithin, .int ktop])), (know, .inl (ky 0, 373, .inl knowF))] sz)) (va_A [(o, .inr (12, [.int kthrown, .ref ktape, .int ktaped, .int ksize, .int klimit, .int kto, .int kfrom, .int kkind, .int knumber, .int ksign, .int kfault, .int kplace, .long kword, .int ktold, .ref know, .ref kread, .ref kkept, .ref ksnaps, .ref kaside, .ref kname, .ref kreadName, .ref kkeptName, .ref kisKept, .ref konces, .int ksnapMany, .int khasCells, .ref kpoured, .ref kfar, .ref ksides, .int ksideMany, .int kwayDays, .int khasWay, .ref klines, .ref kmet, .int kmetMany, .ref ksunk, .ref ktrying, .int ksunkMany, .int ksending, .int kfleets, .ref ktext, .int ktexts, .int kseed, .ref kline, .ref kwritten, .int klineMany, .int khasWritten, .ref knode, .int knodes, .int konesMany, .int kwithin, .int ktop])), (know, .inl (ky 0, 373, .inl knowF))] sz)) 0 0 (va_A [(o, .inr (12, [.int kthrown, .ref ktape, .int ktaped, .int ksize, .int klimit, .int kto, .int kfrom, .int kkind, .int knumber, .int ksign, .int kfault, .int kplace, .long kword, .int ktold, .ref know, .ref kread, .ref kkept, .ref ksnaps, .ref kaside, .ref kname, .ref kreadName, .ref kkeptName, .ref kisKept, .ref konces, .int ksnapMany, .int khasCells, .ref kpoured, .ref kfar, .ref ksides, .int ksideMany, .int kwayDays, .int khasWay, .ref klines, .ref kmet, .int kmetMany, .ref ksunk, .ref ktrying, .int ksunkMany, .int ksending, .int kfleets, .ref ktext, .int ktexts, .int kseed, .ref kline, .ref kwritten, .int klineMany, .int khasWritten, .ref knode, .int knodes, .int konesMany, .int kwithin, .int ktop])), (know, .inl (ky 0, 373, .inl knowF))] sz) := by
  refine Met.ofW (cc := cX12_live) (maxL := 4) (ret := none) (by decide) rfl ?_
  intro p e s m args below meth c s₁ B hml hv
  obtain ⟨rfl, hsz, hP, hK, hD0⟩ := hv
  have hx := B.exec
  have hb := B.bytes
  have hr := B.returns
  have hts := atoms_spec (ws := wsX12_live) B.pre
  have hown : s.vm.findClass RX12 = some m.cls := findClass_of_methodNamed B.named
  have hlocks := B.notSynchronized
  have hin12 : ∀ w ∈ u_ws RX12 TX12 52, w ∈ wsX12_live := by decide +kernel
  subst hsz
  have hD := hD0.self (sz := s.heap.size)
  generalize hAe : va_A [(o, .inr (12, [.int kthrown, .ref ktape, .int ktaped, .int ksize, .int klimit, .int kto, .int kfrom, .int kkind, .int knumber, .int ksign, .int kfault, .int kplace, .long kword, .int ktold, .ref know, .ref kread, .ref kkept, .ref ksnaps, .ref kaside, .ref kname, .ref kreadName, .ref kkeptName, .ref kisKept, .ref konces, .int ksnapMany, .int khasCells, .ref kpoured, .ref kfar, .ref ksides, .int ksideMany, .int kwayDays, .int khasWay, .ref klines, .ref kmet, .int kmetMany, .ref ksunk, .ref ktrying, .int ksunkMany, .int ksending, .int kfleets, .ref ktext, .int ktexts, .int kseed, .ref kline, .ref kwritten, .int klineMany, .int khasWritten, .ref knode, .int knodes, .int konesMany, .int kwithin, .int ktop])), (know, .inl (ky 0, 373, .inl knowF))] s.heap.size = A at hD ⊢
  have hA : ∀ q : Nat, s.heap.size ≤ q → A q := fun q h => by rw [← hAe]; exact Or.inr h
  have hS : va_S A s.heap s.heap [] := va_S.rf
  have hP : va_P (dC, dI) vwCl [(o, .inr (12, [.int kthrown, .ref ktape, .int ktaped, .int ksize, .int klimit, .int kto, .int kfrom, .int kkind, .int knumber, .int ksign, .int kfault, .int kplace, .long kword, .int ktold, .ref know, .ref kread, .ref kkept, .ref ksnaps, .ref kaside, .ref kname, .ref kreadName, .ref kkeptName, .ref kisKept, .ref konces, .int ksnapMany, .int khasCells, .ref kpoured, .ref kfar, .ref ksides, .int ksideMany, .int kwayDays, .int khasWay, .ref klines, .ref kmet, .int kmetMany, .ref ksunk, .ref ktrying, .int ksunkMany, .int ksending, .int kfleets, .ref ktext, .int ktexts, .int kseed, .ref kline, .ref kwritten, .int klineMany, .int khasWritten, .ref knode, .int knodes, .int konesMany, .int kwithin, .int ktop])), (know, .inl (ky 0, 373, .inl knowF))] s.heap := hP
  have hl := lv_entry ([.ref o, .int (nI 4), .int x, .int y]) (n := 4) (Nat.le_of_ble_eq_true rfl)
  rw [lg_entry_eq]
  generalize (lg_sl ([.ref o, .int (nI 4), .int x, .int y]) ++ List.replicate (4 - (lg_sl ([.ref o, .int (nI 4), .int x, .int y])).length) Slot.unset).toArray = ls at hl ⊢
  have hl : lv_has ls 4 [(0, .ref o), (1, .int (nI 4)), (2, .int x), (3, .int y)] := hl
  have hH0 : True := trivial
  refine lv_iload_n hx hb dX12_live_0 rfl (lv_at hl 1 rfl) ?_
  refine lv_tableOut (tgt := 150) hx hb dX12_live_1 (by decide) (by decide) ?_
  refine lv_aload_n hx hb dX12_live_150 rfl (lv_at hl 0 rfl) ?_
  refine va_get (D := (dC, dI)) (ci := 12) (v := .ref know) (C := RX12) (T := TX12) (N := 52) hx hb hts hin12 hown hK hP 0 rfl rfl 14 (by decide) (hts (.fieldLink RX12 98 "PorridgeSeaModel" "now" "[I") (List.mem_of_getElem? (i := 1) rfl)) (fun _ h9 => h9) rfl dX12_live_151 ?_
  refine lv_bipush (v := nI 68) hx hb dX12_live_154 (by decide) ?_
  refine lv_bipush (v := nI 30) hx hb dX12_live_156 (by decide) ?_
  refine lv_aload_n hx hb dX12_live_158 rfl (lv_at hl 0 rfl) ?_
  refine va_get (D := (dC, dI)) (ci := 12) (v := .ref know) (C := RX12) (T := TX12) (N := 52) hx hb hts hin12 hown hK hP 0 rfl rfl 14 (by decide) (hts (.fieldLink RX12 98 "PorridgeSeaModel" "now" "[I") (List.mem_of_getElem? (i := 1) rfl)) (fun _ h9 => h9) rfl dX12_live_159 ?_
  refine lv_bipush (v := nI 68) hx hb dX12_live_162 (by decide) ?_
  obtain ⟨y1, e2⟩ : ∃ z9, z9 = knowF 68 := ⟨_, rfl⟩
  refine r_iald hx hb hK hP 1 rfl 68 (by decide) (by decide) y1 e2.symm dX12_live_164 ?_
  refine lv_iload_n hx hb dX12_live_165 rfl (lv_at hl 2 rfl) ?_
  refine lv_iadd hx hb dX12_live_166 ?_
  refine lv_topi (fun y3 e4 => ?_)
  refine vp_callSi (W.runS (As := [.int (nI 30), .int y3]) (rest := [.int (nI 68), .ref know]) ⟨hx, hb, hml, hown, hts⟩ (c_m_least l dC dI ky (nI 30) y3) (va_cwS 2 hts gX12_live_X12_least rfl rfl rfl (by decide +kernel) ⟨(Nat.le_of_ble_eq_true rfl), (Nat.le_of_ble_eq_true rfl)⟩) (pre_PS hK hP [] rfl) rfl rfl hl.1 rfl (lv_room (Nat.le_of_ble_eq_true rfl)) dX12_live_167 ⟨(Nat.le_of_ble_eq_true rfl), (Nat.le_of_ble_eq_true rfl)⟩) (fun r5 p6 => ?_)
  refine r_iast (x := r5) hx hb hK hP hD hS 1 rfl 68 (by decide) (by decide) dX12_live_170 (fun H locs hP hD hS => ?_)
  obtain ⟨g7, e8⟩ : ∃ z9, z9 = upd knowF 68 r5 := ⟨_, rfl⟩
  rw [← e8] at hP hD
  have hP : va_P (dC, dI) vwCl [(o, .inr (12, [.int kthrown, .ref ktape, .int ktaped, .int ksize, .int klimit, .int kto, .int kfrom, .int kkind, .int knumber, .int ksign, .int kfault, .int kplace, .long kword, .int ktold, .ref know, .ref kread, .ref kkept, .ref ksnaps, .ref kaside, .ref kname, .ref kreadName, .ref kkeptName, .ref kisKept, .ref konces, .int ksnapMany, .int khasCells, .ref kpoured, .ref kfar, .ref ksides, .int ksideMany, .int kwayDays, .int khasWay, .ref klines, .ref kmet, .int kmetMany, .ref ksunk, .ref ktrying, .int ksunkMany, .int ksending, .int kfleets, .ref ktext, .int ktexts, .int kseed, .ref kline, .ref kwritten, .int klineMany, .int khasWritten, .ref knode, .int knodes, .int konesMany, .int kwithin, .int ktop])), (know, .inl (ky 0, 373, .inl g7))] H := hP
  have hD : va_D A [(o, .inr (12, [.int kthrown, .ref ktape, .int ktaped, .int ksize, .int klimit, .int kto, .int kfrom, .int kkind, .int knumber, .int ksign, .int kfault, .int kplace, .long kword, .int ktold, .ref know, .ref kread, .ref kkept, .ref ksnaps, .ref kaside, .ref kname, .ref kreadName, .ref kkeptName, .ref kisKept, .ref konces, .int ksnapMany, .int khasCells, .ref kpoured, .ref kfar, .ref ksides, .int ksideMany, .int kwayDays, .int khasWay, .ref klines, .ref kmet, .int kmetMany, .ref ksunk, .ref ktrying, .int ksunkMany, .int ksending, .int kfleets, .ref ktext, .int ktexts, .int kseed, .ref kline, .ref kwritten, .int klineMany, .int khasWritten, .ref knode, .int knodes, .int konesMany, .int kwithin, .int ktop])), (know, .inl (ky 0, 373, .inl g7))] := hD
  have hP9 := hP.sub (ws' := []) [] rfl
  have hD9 := hD.sub (ws' := []) [] (by decide) rfl
  refine W.widen (k := 0) (n := 0) (Nat.le_of_ble_eq_true rfl) (Nat.le_of_ble_eq_true rfl) ?_
  exact W.vret hx hb hr (fun t ht9 hW9 => ⟨⟨(), rfl, trivial, by rw [ht9]; exact hP9, va_K.moved hW9.alike hK, hD9⟩, hS.F ht9⟩) hS.2.2 dX12_live_171
set_option maxHeartbeats 4000000 in
set_option maxRecDepth 100000 in
theorem c_m_why0 (l : Launch) (dC : Nat → ClassId) (dI : Nat → Nat → Nat) (ky : Nat → ClassId) (o : Nat) (kthrown : Int32) (ktape : Nat) (ktaped : Int32) (ksize : Int32) (klimit : Int32) (kto : Int32) (kfrom : Int32) (kkind : Int32) (knumber : Int32) (ksign : Int32) (kfault : Int32) (kplace : Int32) (kword : Int64) (ktold : Int32) (know : Nat) (kread : Nat) (kkept : Nat) (ksnaps : Nat) (kaside : Nat) (kname : Nat) (kreadName : Nat) (kkeptName : Nat) (kisKept : Nat) (konces : Nat) (ksnapMany : Int32) (khasCells : Int32) (kpoured : Nat) (kfar : Nat) (ksides : Nat) (ksideMany : Int32) (kwayDays : Int32) (khasWay : Int32) (klines : Nat) (kmet : Nat) (kmetMany : Int32) (ksunk : Nat) (ktrying : Nat) (ksunkMany : Int32) (ksending : Int32) (kfleets : Int32) (ktext : Nat) (ktexts : Int32) (kseed : Int32) (kline : Nat) (kwritten : Nat) (klineMany : Int32) (khasWritten : Int32) (knode : Nat) (knodes : Int32) (konesMany : Int32) (kwithin : Int32) (ktop : Int32) (knowF : Nat → Int32) (x : Int32) (y : Int32) (hN : NowOk knowF) : Met l yX12_why wsX12_why ({ frames := 1, cells := 0, slots := 0, locals := 20 }) (PcP dC dI ky [.ref o, .int (nI 0), .int x, .int y] [(o, .inr (12, [.int kthrown, .ref ktape, .int ktaped, .int ksize, .int klimit, .int kto, .int kfrom, .int kkind, .int knumber, .int ksign, .int kfault, .int kplace, .long kword, .int ktold, .ref know, .ref kread, .ref kkept, .ref ksnaps, .ref kaside, .ref kname, .ref kreadName, .ref kkeptName, .ref kisKept, .ref konces, .int ksnapMany, .int khasCells, .ref kpoured, .ref kfar, .ref ksides, .int ksideMany, .int kwayDays, .int khasWay, .ref klines, .ref kmet, .int kmetMany, .ref ksunk, .ref ktrying, .int ksunkMany, .int ksending, .int kfleets, .ref ktext, .int ktexts, .int kseed, .ref kline, .ref kwritten, .int klineMany, .int khasWritten, .ref knode, .int knodes, .int konesMany, .int kwithin, .int ktop])), (know, .inl (ky 0, 373, .inl knowF))]) (vp_Si (fun r : Int32 => r = nI 0)) 0 0 (fun _ => False) := by
  refine Met.ofW (cc := cX12_why) (maxL := 4) (ret := (some .int)) (by decide) rfl ?_
  intro p e s m args below meth c s₁ B hml hv
  obtain ⟨rfl, hP, hK⟩ := hv
  have hx := B.exec
  have hb := B.bytes
  have hr := B.returns
  have hts := atoms_spec (ws := wsX12_why) B.pre
  have hown : s.vm.findClass RX12 = some m.cls := findClass_of_methodNamed B.named
  have hlocks := B.notSynchronized
  have hl := lv_entry ([.ref o, .int (nI 0), .int x, .int y]) (n := 4) (Nat.le_of_ble_eq_true rfl)
  rw [lg_entry_eq]
  generalize (lg_sl ([.ref o, .int (nI 0), .int x, .int y]) ++ List.replicate (4 - (lg_sl ([.ref o, .int (nI 0), .int x, .int y])).length) Slot.unset).toArray = ls at hl ⊢
  have hl : lv_has ls 4 [(0, .ref o), (1, .int (nI 0)), (2, .int x), (3, .int y)] := hl
  refine lv_iload_n hx hb dX12_why_0 rfl (lv_at hl 1 rfl) ?_
  refine lv_tableIn (off := 31) (tgt := 32) hx hb dX12_why_1 (by decide) (by decide) rfl (by decide) ?_
  refine lv_aload_n hx hb dX12_why_32 rfl (lv_at hl 0 rfl) ?_
  refine vp_callSi (W.runV (As := []) (rest := []) ⟨hx, hb, hml, hown, hts⟩ (c_m_hasSkin0 l dC dI ky o kthrown ktape ktaped ksize klimit kto kfrom kkind knumber ksign kfault kplace kword ktold know kread kkept ksnaps kaside kname kreadName kkeptName kisKept konces ksnapMany khasCells kpoured kfar ksides ksideMany kwayDays khasWay klines kmet kmetMany ksunk ktrying ksunkMany ksending kfleets ktext ktexts kseed kline kwritten klineMany khasWritten knode knodes konesMany kwithin ktop knowF hN) (cwV 0 hts gX12_why_X12_hasSkin rfl rfl rfl (by decide +kernel) ⟨(Nat.le_of_ble_eq_true rfl), (Nat.le_of_ble_eq_true rfl)⟩) (pre_PV hK hP [0, 1] rfl (ci := 12) (q0 := 0) rfl rfl) rfl rfl hl.1 rfl (lv_room (Nat.le_of_ble_eq_true rfl)) dX12_why_33 ⟨(Nat.le_of_ble_eq_true rfl), (Nat.le_of_ble_eq_true rfl)⟩) (fun r1 p2 => ?_)
  subst p2
  refine lv_if_eq (tgt := 43) hx hb dX12_why_36 (by decide) (fun c3 => ?_) (fun c3 => absurd (by decide) c3)
  refine lv_iconst (v := nI 0) hx hb dX12_why_43 (by decide) ?_
  exact W.iret (v := nI 0) hx hb hr (fun t ht9 hW9 => ⟨nI 0, rfl, rfl, ht9⟩) (fun _ h => absurd h List.not_mem_nil) dX12_why_44
set_option maxHeartbeats 4000000 in
set_option maxRecDepth 100000 in
theorem c_m_why4 (l : Launch) (dC : Nat → ClassId) (dI : Nat → Nat → Nat) (ky : Nat → ClassId) (o : Nat) (kthrown : Int32) (ktape : Nat) (ktaped : Int32) (ksize : Int32) (klimit : Int32) (kto : Int32) (kfrom : Int32) (kkind : Int32) (knumber : Int32) (ksign : Int32) (kfault : Int32) (kplace : Int32) (kword : Int64) (ktold : Int32) (know : Nat) (kread : Nat) (kkept : Nat) (ksnaps : Nat) (kaside : Nat) (kname : Nat) (kreadName : Nat) (kkeptName : Nat) (kisKept : Nat) (konces : Nat) (ksnapMany : Int32) (khasCells : Int32) (kpoured : Nat) (kfar : Nat) (ksides : Nat) (ksideMany : Int32) (kwayDays : Int32) (khasWay : Int32) (klines : Nat) (kmet : Nat) (kmetMany : Int32) (ksunk : Nat) (ktrying : Nat) (ksunkMany : Int32) (ksending : Int32) (kfleets : Int32) (ktext : Nat) (ktexts : Int32) (kseed : Int32) (kline : Nat) (kwritten : Nat) (klineMany : Int32) (khasWritten : Int32) (knode : Nat) (knodes : Int32) (konesMany : Int32) (kwithin : Int32) (ktop : Int32) (knowF : Nat → Int32) (x : Int32) (y : Int32) (hN : NowOk knowF) : Met l yX12_why wsX12_why ({ frames := 0, cells := 0, slots := 0, locals := 0 }) (PcP dC dI ky [.ref o, .int (nI 4), .int x, .int y] [(o, .inr (12, [.int kthrown, .ref ktape, .int ktaped, .int ksize, .int klimit, .int kto, .int kfrom, .int kkind, .int knumber, .int ksign, .int kfault, .int kplace, .long kword, .int ktold, .ref know, .ref kread, .ref kkept, .ref ksnaps, .ref kaside, .ref kname, .ref kreadName, .ref kkeptName, .ref kisKept, .ref konces, .int ksnapMany, .int khasCells, .ref kpoured, .ref kfar, .ref ksides, .int ksideMany, .int kwayDays, .int khasWay, .ref klines, .ref kmet, .int kmetMany, .ref ksunk, .ref ktrying, .int ksunkMany, .int ksending, .int kfleets, .ref ktext, .int ktexts, .int kseed, .ref kline, .ref kwritten, .int klineMany, .int khasWritten, .ref knode, .int knodes, .int konesMany, .int kwithin, .int ktop])), (know, .inl (ky 0, 373, .inl knowF))]) (vp_Si (fun r : Int32 => r = nI 0)) 0 0 (fun _ => False) := by
  refine Met.ofW (cc := cX12_why) (maxL := 4) (ret := (some .int)) (by decide) rfl ?_
  intro p e s m args below meth c s₁ B hml hv
  obtain ⟨rfl, hP, hK⟩ := hv
  have hx := B.exec
  have hb := B.bytes
  have hr := B.returns
  have hts := atoms_spec (ws := wsX12_why) B.pre
  have hown : s.vm.findClass RX12 = some m.cls := findClass_of_methodNamed B.named
  have hlocks := B.notSynchronized
  have hin12 : ∀ w ∈ u_ws RX12 TX12 52, w ∈ wsX12_why := by decide +kernel
  have hl := lv_entry ([.ref o, .int (nI 4), .int x, .int y]) (n := 4) (Nat.le_of_ble_eq_true rfl)
  rw [lg_entry_eq]
  generalize (lg_sl ([.ref o, .int (nI 4), .int x, .int y]) ++ List.replicate (4 - (lg_sl ([.ref o, .int (nI 4), .int x, .int y])).length) Slot.unset).toArray = ls at hl ⊢
  have hl : lv_has ls 4 [(0, .ref o), (1, .int (nI 4)), (2, .int x), (3, .int y)] := hl
  refine lv_iload_n hx hb dX12_why_0 rfl (lv_at hl 1 rfl) ?_
  refine lv_tableOut (tgt := 153) hx hb dX12_why_1 (by decide) (by decide) ?_
  refine lv_aload_n hx hb dX12_why_153 rfl (lv_at hl 0 rfl) ?_
  refine va_get (D := (dC, dI)) (ci := 12) (v := .ref know) (C := RX12) (T := TX12) (N := 52) hx hb hts hin12 hown hK hP 0 rfl rfl 14 (by decide) (hts (.fieldLink RX12 98 "PorridgeSeaModel" "now" "[I") (List.mem_of_getElem? (i := 1) rfl)) (fun _ h9 => h9) rfl dX12_why_154 ?_
  refine lv_bipush (v := nI 68) hx hb dX12_why_157 (by decide) ?_
  refine r_iald hx hb hK hP 1 rfl 68 (by decide) (by decide) (nI 10) hN.2.2.1 dX12_why_159 ?_
  refine lv_bipush (v := nI 30) hx hb dX12_why_160 (by decide) ?_
  refine lv_icmp_ne (tgt := 169) hx hb dX12_why_162 (by decide) (fun c1 => ?_) (fun c1 => absurd c1 (by decide))
  refine lv_iconst (v := nI 0) hx hb dX12_why_169 (by decide) ?_
  exact W.iret (v := nI 0) hx hb hr (fun t ht9 hW9 => ⟨nI 0, rfl, rfl, ht9⟩) (fun _ h => absurd h List.not_mem_nil) dX12_why_170
set_option maxHeartbeats 4000000 in
set_option maxRecDepth 100000 in
theorem c_m_why2 (l : Launch) (dC : Nat → ClassId) (dI : Nat → Nat → Nat) (ky : Nat → ClassId) (o : Nat) (kthrown : Int32) (ktape : Nat) (ktaped : Int32) (ksize : Int32) (klimit : Int32) (kto : Int32) (kfrom : Int32) (kkind : Int32) (knumber : Int32) (ksign : Int32) (kfault : Int32) (kplace : Int32) (kword : Int64) (ktold : Int32) (know : Nat) (kread : Nat) (kkept : Nat) (ksnaps : Nat) (kaside : Nat) (kname : Nat) (kreadName : Nat) (kkeptName : Nat) (kisKept : Nat) (konces : Nat) (ksnapMany : Int32) (khasCells : Int32) (kpoured : Nat) (kfar : Nat) (ksides : Nat) (ksideMany : Int32) (kwayDays : Int32) (khasWay : Int32) (klines : Nat) (kmet : Nat) (kmetMany : Int32) (ksunk : Nat) (ktrying : Nat) (ksunkMany : Int32) (ksending : Int32) (kfleets : Int32) (ktext : Nat) (ktexts : Int32) (kseed : Int32) (kline : Nat) (kwritten : Nat) (klineMany : Int32) (khasWritten : Int32) (knode : Nat) (knodes : Int32) (konesMany : Int32) (kwithin : Int32) (ktop : Int32) (knowF : Nat → Int32) (k : Nat) (y : Int32) (hN : NowOk knowF) (hk : k < 36) : Met l yX12_why wsX12_why ({ frames := 0, cells := 0, slots := 0, locals := 0 }) (PcP dC dI ky [.ref o, .int (nI 2), .int (nI k), .int y] [(o, .inr (12, [.int kthrown, .ref ktape, .int ktaped, .int ksize, .int klimit, .int kto, .int kfrom, .int kkind, .int knumber, .int ksign, .int kfault, .int kplace, .long kword, .int ktold, .ref know, .ref kread, .ref kkept, .ref ksnaps, .ref kaside, .ref kname, .ref kreadName, .ref kkeptName, .ref kisKept, .ref konces, .int ksnapMany, .int khasCells, .ref kpoured, .ref kfar, .ref ksides, .int ksideMany, .int kwayDays, .int khasWay, .ref klines, .ref kmet, .int kmetMany, .ref ksunk, .ref ktrying, .int ksunkMany, .int ksending, .int kfleets, .ref ktext, .int ktexts, .int kseed, .ref kline, .ref kwritten, .int klineMany, .int khasWritten, .ref knode, .int knodes, .int konesMany, .int kwithin, .int ktop])), (know, .inl (ky 0, 373, .inl knowF))]) (vp_Si (fun r : Int32 => r = nI 0)) 0 0 (fun _ => False) := by
  refine Met.ofW (cc := cX12_why) (maxL := 4) (ret := (some .int)) (by decide) rfl ?_
  intro p e s m args below meth c s₁ B hml hv
  obtain ⟨rfl, hP, hK⟩ := hv
  have hx := B.exec
  have hb := B.bytes
  have hr := B.returns
  have hts := atoms_spec (ws := wsX12_why) B.pre
  have hown : s.vm.findClass RX12 = some m.cls := findClass_of_methodNamed B.named
  have hlocks := B.notSynchronized
  have hin12 : ∀ w ∈ u_ws RX12 TX12 52, w ∈ wsX12_why := by decide +kernel
  have hl := lv_entry ([.ref o, .int (nI 2), .int (nI k), .int y]) (n := 4) (Nat.le_of_ble_eq_true rfl)
  rw [lg_entry_eq]
  generalize (lg_sl ([.ref o, .int (nI 2), .int (nI k), .int y]) ++ List.replicate (4 - (lg_sl ([.ref o, .int (nI 2), .int (nI k), .int y])).length) Slot.unset).toArray = ls at hl ⊢
  have hl : lv_has ls 4 [(0, .ref o), (1, .int (nI 2)), (2, .int (nI k)), (3, .int y)] := hl
  refine lv_iload_n hx hb dX12_why_0 rfl (lv_at hl 1 rfl) ?_
  refine lv_tableIn (off := 114) (tgt := 115) hx hb dX12_why_1 (by decide) (by decide) rfl (by decide) ?_
  refine lv_aload_n hx hb dX12_why_115 rfl (lv_at hl 0 rfl) ?_
  refine va_get (D := (dC, dI)) (ci := 12) (v := .ref know) (C := RX12) (T := TX12) (N := 52) hx hb hts hin12 hown hK hP 0 rfl rfl 14 (by decide) (hts (.fieldLink RX12 98 "PorridgeSeaModel" "now" "[I") (List.mem_of_getElem? (i := 1) rfl)) (fun _ h9 => h9) rfl dX12_why_116 ?_
  refine lv_bipush (v := nI 71) hx hb dX12_why_119 (by decide) ?_
  refine lv_iload_n hx hb dX12_why_121 rfl (lv_at hl 2 rfl) ?_
  refine lv_iadd hx hb dX12_why_122 ?_
  refine r_ti (nI (71 + k)) (nI_add _ _) ?_
  refine r_iald hx hb hK hP 1 rfl (71 + k) (by omega) (by decide) (nI 0) (now_hi hN (71 + k) (by omega) (by omega)) dX12_why_123 ?_
  refine lv_bipush (v := nI 9) hx hb dX12_why_124 (by decide) ?_
  refine lv_icmp_ne (tgt := 133) hx hb dX12_why_126 (by decide) (fun c1 => ?_) (fun c1 => absurd c1 (by decide))
  refine lv_iconst (v := nI 0) hx hb dX12_why_133 (by decide) ?_
  exact W.iret (v := nI 0) hx hb hr (fun t ht9 hW9 => ⟨nI 0, rfl, rfl, ht9⟩) (fun _ h => absurd h List.not_mem_nil) dX12_why_134
set_option maxHeartbeats 4000000 in
set_option maxRecDepth 100000 in
theorem c_m_why3 (l : Launch) (dC : Nat → ClassId) (dI : Nat → Nat → Nat) (ky : Nat → ClassId) (o : Nat) (kthrown : Int32) (ktape : Nat) (ktaped : Int32) (ksize : Int32) (klimit : Int32) (kto : Int32) (kfrom : Int32) (kkind : Int32) (knumber : Int32) (ksign : Int32) (kfault : Int32) (kplace : Int32) (kword : Int64) (ktold : Int32) (know : Nat) (kread : Nat) (kkept : Nat) (ksnaps : Nat) (kaside : Nat) (kname : Nat) (kreadName : Nat) (kkeptName : Nat) (kisKept : Nat) (konces : Nat) (ksnapMany : Int32) (khasCells : Int32) (kpoured : Nat) (kfar : Nat) (ksides : Nat) (ksideMany : Int32) (kwayDays : Int32) (khasWay : Int32) (klines : Nat) (kmet : Nat) (kmetMany : Int32) (ksunk : Nat) (ktrying : Nat) (ksunkMany : Int32) (ksending : Int32) (kfleets : Int32) (ktext : Nat) (ktexts : Int32) (kseed : Int32) (kline : Nat) (kwritten : Nat) (klineMany : Int32) (khasWritten : Int32) (knode : Nat) (knodes : Int32) (konesMany : Int32) (kwithin : Int32) (ktop : Int32) (knowF : Nat → Int32) (k : Nat) (y : Int32) (hN : NowOk knowF) (hk : k < 36) : Met l yX12_why wsX12_why ({ frames := 0, cells := 0, slots := 0, locals := 0 }) (PcP dC dI ky [.ref o, .int (nI 3), .int (nI k), .int y] [(o, .inr (12, [.int kthrown, .ref ktape, .int ktaped, .int ksize, .int klimit, .int kto, .int kfrom, .int kkind, .int knumber, .int ksign, .int kfault, .int kplace, .long kword, .int ktold, .ref know, .ref kread, .ref kkept, .ref ksnaps, .ref kaside, .ref kname, .ref kreadName, .ref kkeptName, .ref kisKept, .ref konces, .int ksnapMany, .int khasCells, .ref kpoured, .ref kfar, .ref ksides, .int ksideMany, .int kwayDays, .int khasWay, .ref klines, .ref kmet, .int kmetMany, .ref ksunk, .ref ktrying, .int ksunkMany, .int ksending, .int kfleets, .ref ktext, .int ktexts, .int kseed, .ref kline, .ref kwritten, .int klineMany, .int khasWritten, .ref knode, .int knodes, .int konesMany, .int kwithin, .int ktop])), (know, .inl (ky 0, 373, .inl knowF))]) (vp_Si (fun r : Int32 => r = nI 1)) 0 0 (fun _ => False) := by
  refine Met.ofW (cc := cX12_why) (maxL := 4) (ret := (some .int)) (by decide) rfl ?_
  intro p e s m args below meth c s₁ B hml hv
  obtain ⟨rfl, hP, hK⟩ := hv
  have hx := B.exec
  have hb := B.bytes
  have hr := B.returns
  have hts := atoms_spec (ws := wsX12_why) B.pre
  have hown : s.vm.findClass RX12 = some m.cls := findClass_of_methodNamed B.named
  have hlocks := B.notSynchronized
  have hin12 : ∀ w ∈ u_ws RX12 TX12 52, w ∈ wsX12_why := by decide +kernel
  have hl := lv_entry ([.ref o, .int (nI 3), .int (nI k), .int y]) (n := 4) (Nat.le_of_ble_eq_true rfl)
  rw [lg_entry_eq]
  generalize (lg_sl ([.ref o, .int (nI 3), .int (nI k), .int y]) ++ List.replicate (4 - (lg_sl ([.ref o, .int (nI 3), .int (nI k), .int y])).length) Slot.unset).toArray = ls at hl ⊢
  have hl : lv_has ls 4 [(0, .ref o), (1, .int (nI 3)), (2, .int (nI k)), (3, .int y)] := hl
  refine lv_iload_n hx hb dX12_why_0 rfl (lv_at hl 1 rfl) ?_
  refine lv_tableIn (off := 134) (tgt := 135) hx hb dX12_why_1 (by decide) (by decide) rfl (by decide) ?_
  refine lv_aload_n hx hb dX12_why_135 rfl (lv_at hl 0 rfl) ?_
  refine va_get (D := (dC, dI)) (ci := 12) (v := .ref know) (C := RX12) (T := TX12) (N := 52) hx hb hts hin12 hown hK hP 0 rfl rfl 14 (by decide) (hts (.fieldLink RX12 98 "PorridgeSeaModel" "now" "[I") (List.mem_of_getElem? (i := 1) rfl)) (fun _ h9 => h9) rfl dX12_why_136 ?_
  refine lv_bipush (v := nI 71) hx hb dX12_why_139 (by decide) ?_
  refine lv_iload_n hx hb dX12_why_141 rfl (lv_at hl 2 rfl) ?_
  refine lv_iadd hx hb dX12_why_142 ?_
  refine r_ti (nI (71 + k)) (nI_add _ _) ?_
  refine r_iald hx hb hK hP 1 rfl (71 + k) (by omega) (by decide) (nI 0) (now_hi hN (71 + k) (by omega) (by omega)) dX12_why_143 ?_
  refine lv_if_ne (tgt := 151) hx hb dX12_why_144 (by decide) (fun c1 => absurd c1 (by decide)) (fun c1 => ?_)
  refine lv_iconst (v := nI 1) hx hb dX12_why_147 (by decide) ?_
  refine lv_goto (tgt := 152) hx hb dX12_why_148 (by decide) ?_
  exact W.iret (v := nI 1) hx hb hr (fun t ht9 hW9 => ⟨nI 1, rfl, rfl, ht9⟩) (fun _ h => absurd h List.not_mem_nil) dX12_why_152
set_option maxHeartbeats 4000000 in
set_option maxRecDepth 100000 in
theorem c_m_actNo (l : Launch) (dC : Nat → ClassId) (dI : Nat → Nat → Nat) (ky : Nat → ClassId) (o : Nat) (kthrown : Int32) (ktape : Nat) (ktaped : Int32) (ksize : Int32) (klimit : Int32) (kto : Int32) (kfrom : Int32) (kkind : Int32) (knumber : Int32) (ksign : Int32) (kfault : Int32) (kplace : Int32) (kword : Int64) (ktold : Int32) (know : Nat) (kread : Nat) (kkept : Nat) (ksnaps : Nat) (kaside : Nat) (kname : Nat) (kreadName : Nat) (kkeptName : Nat) (kisKept : Nat) (konces : Nat) (ksnapMany : Int32) (khasCells : Int32) (kpoured : Nat) (kfar : Nat) (ksides : Nat) (ksideMany : Int32) (kwayDays : Int32) (khasWay : Int32) (klines : Nat) (kmet : Nat) (kmetMany : Int32) (ksunk : Nat) (ktrying : Nat) (ksunkMany : Int32) (ksending : Int32) (kfleets : Int32) (ktext : Nat) (ktexts : Int32) (kseed : Int32) (kline : Nat) (kwritten : Nat) (klineMany : Int32) (khasWritten : Int32) (knode : Nat) (knodes : Int32) (konesMany : Int32) (kwithin : Int32) (ktop : Int32) (wh : Int32) (x : Int32) (y : Int32)  : Met l yX12_act wsX12_act ({ frames := 0, cells := 0, slots := 0, locals := 0 }) (PcP dC dI ky [.ref o, .int wh, .int x, .int y, .int (nI 0)] [(o, .inr (12, [.int kthrown, .ref ktape, .int ktaped, .int ksize, .int klimit, .int kto, .int kfrom, .int kkind, .int knumber, .int ksign, .int kfault, .int kplace, .long kword, .int ktold, .ref know, .ref kread, .ref kkept, .ref ksnaps, .ref kaside, .ref kname, .ref kreadName, .ref kkeptName, .ref kisKept, .ref konces, .int ksnapMany, .int khasCells, .ref kpoured, .ref kfar, .ref ksides, .int ksideMany, .int kwayDays, .int khasWay, .ref klines, .ref kmet, .int kmetMany, .ref ksunk, .ref ktrying, .int ksunkMany, .int ksending, .int kfleets, .ref ktext, .int ktexts, .int kseed, .ref kline, .ref kwritten, .int klineMany, .int khasWritten, .ref knode, .int knodes, .int konesMany, .int kwithin, .int ktop]))]) (vp_Si (fun r : Int32 => r = (-1 : Int32))) 0 0 (fun _ => False) := by
  refine Met.ofW (cc := cX12_act) (maxL := 6) (ret := (some .int)) (by decide) rfl ?_
  intro p e s m args below meth c s₁ B hml hv
  obtain ⟨rfl, hP, hK⟩ := hv
  have hx := B.exec
  have hb := B.bytes
  have hr := B.returns
  have hts := atoms_spec (ws := wsX12_act) B.pre
  have hown : s.vm.findClass RX12 = some m.cls := findClass_of_methodNamed B.named
  have hlocks := B.notSynchronized
  have hl := lv_entry ([.ref o, .int wh, .int x, .int y, .int (nI 0)]) (n := 6) (Nat.le_of_ble_eq_true rfl)
  rw [lg_entry_eq]
  generalize (lg_sl ([.ref o, .int wh, .int x, .int y, .int (nI 0)]) ++ List.replicate (6 - (lg_sl ([.ref o, .int wh, .int x, .int y, .int (nI 0)])).length) Slot.unset).toArray = ls at hl ⊢
  have hl : lv_has ls 6 [(0, .ref o), (1, .int wh), (2, .int x), (3, .int y), (4, .int (nI 0))] := hl
  refine lv_iload hx hb dX12_act_0 (lv_at hl 4 rfl) ?_
  refine lv_if_ne (tgt := 7) hx hb dX12_act_2 (by decide) (fun c1 => absurd c1 (by decide)) (fun c1 => ?_)
  refine lv_iconst (v := (-1 : Int32)) hx hb dX12_act_5 (by decide) ?_
  exact W.iret (v := (-1 : Int32)) hx hb hr (fun t ht9 hW9 => ⟨(-1 : Int32), rfl, rfl, ht9⟩) (fun _ h => absurd h List.not_mem_nil) dX12_act_6
set_option maxHeartbeats 4000000 in
set_option maxRecDepth 100000 in
theorem c_m_act0 (l : Launch) (dC : Nat → ClassId) (dI : Nat → Nat → Nat) (ky : Nat → ClassId) (sz : Nat) (o : Nat) (kthrown : Int32) (ktape : Nat) (ktaped : Int32) (ksize : Int32) (klimit : Int32) (kto : Int32) (kfrom : Int32) (kkind : Int32) (knumber : Int32) (ksign : Int32) (kfault : Int32) (kplace : Int32) (kword : Int64) (ktold : Int32) (know : Nat) (kread : Nat) (kkept : Nat) (ksnaps : Nat) (kaside : Nat) (kname : Nat) (kreadName : Nat) (kkeptName : Nat) (kisKept : Nat) (konces : Nat) (khasCells : Int32) (kpoured : Nat) (kfar : Nat) (ksides : Nat) (ksideMany : Int32) (kwayDays : Int32) (khasWay : Int32) (klines : Nat) (kmet : Nat) (kmetMany : Int32) (ksunk : Nat) (ktrying : Nat) (ksunkMany : Int32) (ksending : Int32) (kfleets : Int32) (ktext : Nat) (ktexts : Int32) (kseed : Int32) (kline : Nat) (kwritten : Nat) (klineMany : Int32) (khasWritten : Int32) (knode : Nat) (knodes : Int32) (konesMany : Int32) (kwithin : Int32) (ktop : Int32) (knowF : Nat → Int32) (ksnapsF : Nat → Int32) (kpouredF : Nat → Int32) (ln : Nat) (y : Int32) (hN : NowOk knowF) (hln : ln < 24) : Met l yX12_act wsX12_act ({ frames := 3, cells := 0, slots := 0, locals := 72 }) (PcU dC dI ky [.ref o, .int (nI 0), .int (nI ln), .int y, .int (nI 1)] [(o, .inr (12, [.int kthrown, .ref ktape, .int ktaped, .int ksize, .int klimit, .int kto, .int kfrom, .int kkind, .int knumber, .int ksign, .int kfault, .int kplace, .long kword, .int ktold, .ref know, .ref kread, .ref kkept, .ref ksnaps, .ref kaside, .ref kname, .ref kreadName, .ref kkeptName, .ref kisKept, .ref konces, .int (nI 0), .int khasCells, .ref kpoured, .ref kfar, .ref ksides, .int ksideMany, .int kwayDays, .int khasWay, .ref klines, .ref kmet, .int kmetMany, .ref ksunk, .ref ktrying, .int ksunkMany, .int ksending, .int kfleets, .ref ktext, .int ktexts, .int kseed, .ref kline, .ref kwritten, .int klineMany, .int khasWritten, .ref knode, .int knodes, .int konesMany, .int kwithin, .int ktop])), (know, .inl (ky 0, 373, .inl knowF)), (ksnaps, .inl (ky 0, 512, .inl ksnapsF)), (kpoured, .inl (ky 0, 36, .inl kpouredF))] sz) (va_Qi (fun (r : Int32) (_ : Unit) => r = nI 0) (BU dC dI ky (fun (_ : Unit) => []) (va_A [(o, .inr (12, [.int kthrown, .ref ktape, .int ktaped, .int ksize, .int klimit, .int kto, .int kfrom, .int kkind, .int knumber, .int ksign, .int kfault, .int kplace, .long kword, .int ktold, .ref know, .ref kread, .ref kkept, .ref ksnaps, .ref kaside, .ref kname, .ref kreadName, .ref kkeptName, .ref kisKept, .ref konces, .int (nI 0), .int khasCells, .ref kpoured, .ref kfar, .ref ksides, .int ksideMany, .int kwayDays, .int khasWay, .ref klines, .ref kmet, .int kmetMany, .ref ksunk, .ref ktrying, .int ksunkMany, .int ksending, .int kfleets, .ref ktext, .int ktexts, .int kseed, .ref kline, .ref kwritten, .int klineMany, .int khasWritten, .ref knode, .int knodes, .int konesMany, .int kwithin, .int ktop])), (know, .inl (ky 0, 373, .inl knowF)), (ksnaps, .inl (ky 0, 512, .inl ksnapsF)), (kpoured, .inl (ky 0, 36, .inl kpouredF))] sz)) (va_A [(o, .inr (12, [.int kthrown, .ref ktape, .int ktaped, .int ksize, .int klimit, .int kto, .int kfrom, .int kkind, .int knumber, .int ksign, .int kfault, .int kplace, .long kword, .int ktold, .ref know, .ref kread, .ref kkept, .ref ksnaps, .ref kaside, .ref kname, .ref kreadName, .ref kkeptName, .ref kisKept, .ref konces, .int (nI 0), .int khasCells, .ref kpoured, .ref kfar, .ref ksides, .int ksideMany, .int kwayDays, .int khasWay, .ref klines, .ref kmet, .int kmetMany, .ref ksunk, .ref ktrying, .int ksunkMany, .int ksending, .int kfleets, .ref ktext, .int ktexts, .int kseed, .ref kline, .ref kwritten, .int klineMany, .int khasWritten, .ref knode, .int knodes, .int konesMany, .int kwithin, .int ktop])), (know, .inl (ky 0, 373, .inl knowF)), (ksnaps, .inl (ky 0, 512, .inl ksnapsF)), (kpoured, .inl (ky 0, 36, .inl kpouredF))] sz)) 0 0 (va_A [(o, .inr (12, [.int kthrown, .ref ktape, .int ktaped, .int ksize, .int klimit, .int kto, .int kfrom, .int kkind, .int knumber, .int ksign, .int kfault, .int kplace, .long kword, .int ktold, .ref know, .ref kread, .ref kkept, .ref ksnaps, .ref kaside, .ref kname, .ref kreadName, .ref kkeptName, .ref kisKept, .ref konces, .int (nI 0), .int khasCells, .ref kpoured, .ref kfar, .ref ksides, .int ksideMany, .int kwayDays, .int khasWay, .ref klines, .ref kmet, .int kmetMany, .ref ksunk, .ref ktrying, .int ksunkMany, .int ksending, .int kfleets, .ref ktext, .int ktexts, .int kseed, .ref kline, .ref kwritten, .int klineMany, .int khasWritten, .ref knode, .int knodes, .int konesMany, .int kwithin, .int ktop])), (know, .inl (ky 0, 373, .inl knowF)), (ksnaps, .inl (ky 0, 512, .inl ksnapsF)), (kpoured, .inl (ky 0, 36, .inl kpouredF))] sz) := by
  refine Met.ofW (cc := cX12_act) (maxL := 6) (ret := (some .int)) (by decide) rfl ?_
  intro p e s m args below meth c s₁ B hml hv
  obtain ⟨rfl, hsz, hP, hK, hD0⟩ := hv
  have hx := B.exec
  have hb := B.bytes
  have hr := B.returns
  have hts := atoms_spec (ws := wsX12_act) B.pre
  have hown : s.vm.findClass RX12 = some m.cls := findClass_of_methodNamed B.named
  have hlocks := B.notSynchronized
  subst hsz
  have hD := hD0.self (sz := s.heap.size)
  generalize hAe : va_A [(o, .inr (12, [.int kthrown, .ref ktape, .int ktaped, .int ksize, .int klimit, .int kto, .int kfrom, .int kkind, .int knumber, .int ksign, .int kfault, .int kplace, .long kword, .int ktold, .ref know, .ref kread, .ref kkept, .ref ksnaps, .ref kaside, .ref kname, .ref kreadName, .ref kkeptName, .ref kisKept, .ref konces, .int (nI 0), .int khasCells, .ref kpoured, .ref kfar, .ref ksides, .int ksideMany, .int kwayDays, .int khasWay, .ref klines, .ref kmet, .int kmetMany, .ref ksunk, .ref ktrying, .int ksunkMany, .int ksending, .int kfleets, .ref ktext, .int ktexts, .int kseed, .ref kline, .ref kwritten, .int klineMany, .int khasWritten, .ref knode, .int knodes, .int konesMany, .int kwithin, .int ktop])), (know, .inl (ky 0, 373, .inl knowF)), (ksnaps, .inl (ky 0, 512, .inl ksnapsF)), (kpoured, .inl (ky 0, 36, .inl kpouredF))] s.heap.size = A at hD ⊢
  have hA : ∀ q : Nat, s.heap.size ≤ q → A q := fun q h => by rw [← hAe]; exact Or.inr h
  have hS : va_S A s.heap s.heap [] := va_S.rf
  have hP : va_P (dC, dI) vwCl [(o, .inr (12, [.int kthrown, .ref ktape, .int ktaped, .int ksize, .int klimit, .int kto, .int kfrom, .int kkind, .int knumber, .int ksign, .int kfault, .int kplace, .long kword, .int ktold, .ref know, .ref kread, .ref kkept, .ref ksnaps, .ref kaside, .ref kname, .ref kreadName, .ref kkeptName, .ref kisKept, .ref konces, .int (nI 0), .int khasCells, .ref kpoured, .ref kfar, .ref ksides, .int ksideMany, .int kwayDays, .int khasWay, .ref klines, .ref kmet, .int kmetMany, .ref ksunk, .ref ktrying, .int ksunkMany, .int ksending, .int kfleets, .ref ktext, .int ktexts, .int kseed, .ref kline, .ref kwritten, .int klineMany, .int khasWritten, .ref knode, .int knodes, .int konesMany, .int kwithin, .int ktop])), (know, .inl (ky 0, 373, .inl knowF)), (ksnaps, .inl (ky 0, 512, .inl ksnapsF)), (kpoured, .inl (ky 0, 36, .inl kpouredF))] s.heap := hP
  have hl := lv_entry ([.ref o, .int (nI 0), .int (nI ln), .int y, .int (nI 1)]) (n := 6) (Nat.le_of_ble_eq_true rfl)
  rw [lg_entry_eq]
  generalize (lg_sl ([.ref o, .int (nI 0), .int (nI ln), .int y, .int (nI 1)]) ++ List.replicate (6 - (lg_sl ([.ref o, .int (nI 0), .int (nI ln), .int y, .int (nI 1)])).length) Slot.unset).toArray = ls at hl ⊢
  have hl : lv_has ls 6 [(0, .ref o), (1, .int (nI 0)), (2, .int (nI ln)), (3, .int y), (4, .int (nI 1))] := hl
  have hH0 : True := trivial
  refine lv_iload hx hb dX12_act_0 (lv_at hl 4 rfl) ?_
  refine lv_if_ne (tgt := 7) hx hb dX12_act_2 (by decide) (fun c1 => ?_) (fun c1 => absurd c1 (by decide))
  refine lv_aload_n hx hb dX12_act_7 rfl (lv_at hl 0 rfl) ?_
  refine lv_iload_n hx hb dX12_act_8 rfl (lv_at hl 1 rfl) ?_
  refine lv_iload_n hx hb dX12_act_9 rfl (lv_at hl 2 rfl) ?_
  refine lv_iload_n hx hb dX12_act_10 rfl (lv_at hl 3 rfl) ?_
  refine vp_callSi (W.runV (As := [.int (nI 0), .int (nI ln), .int y]) (rest := []) ⟨hx, hb, hml, hown, hts⟩ (c_m_why0 l dC dI ky o kthrown ktape ktaped ksize klimit kto kfrom kkind knumber ksign kfault kplace kword ktold know kread kkept ksnaps kaside kname kreadName kkeptName kisKept konces (nI 0) khasCells kpoured kfar ksides ksideMany kwayDays khasWay klines kmet kmetMany ksunk ktrying ksunkMany ksending kfleets ktext ktexts kseed kline kwritten klineMany khasWritten knode knodes konesMany kwithin ktop knowF (nI ln) y hN) (cwV 3 hts gX12_act_X12_why rfl rfl rfl (by decide +kernel) ⟨(Nat.le_of_ble_eq_true rfl), (Nat.le_of_ble_eq_true rfl)⟩) (pre_PV hK hP [0, 1] rfl (ci := 12) (q0 := 0) rfl rfl) rfl rfl hl.1 rfl (lv_room (Nat.le_of_ble_eq_true rfl)) dX12_act_11 ⟨(Nat.le_of_ble_eq_true rfl), (Nat.le_of_ble_eq_true rfl)⟩) (fun r2 p3 => ?_)
  subst p3
  refine lv_istore (lv' := [(5, .int (nI 0)), (0, .ref o), (1, .int (nI 0)), (2, .int (nI ln)), (3, .int y), (4, .int (nI 1))]) hx hb dX12_act_14 hl (by decide) rfl (fun ls hl => ?_)
  refine lv_iload hx hb dX12_act_16 (lv_at hl 0 rfl) ?_
  refine lv_if_eq (tgt := 24) hx hb dX12_act_18 (by decide) (fun c4 => ?_) (fun c4 => absurd (by decide) c4)
  refine lv_aload_n hx hb dX12_act_24 rfl (lv_at hl 1 rfl) ?_
  refine r_call_v (wr := [(kpoured, .inl (ky 0, 36, .inl kpouredF))]) (va_runV (As := []) (rest := []) ⟨hx, hb, hml, hown, hts⟩ (c_m_snap l dC dI ky s.heap.size o kthrown ktape ktaped ksize klimit kto kfrom kkind knumber ksign kfault kplace kword ktold know kread kkept ksnaps kaside kname kreadName kkeptName kisKept konces khasCells kpoured kfar ksides ksideMany kwayDays khasWay klines kmet kmetMany ksunk ktrying ksunkMany ksending kfleets ktext ktexts kseed kline kwritten klineMany khasWritten knode knodes konesMany kwithin ktop knowF ksnapsF) (cwV 0 hts gX12_act_X12_snap rfl rfl rfl (by decide +kernel) ⟨(Nat.le_of_ble_eq_true rfl), (Nat.le_of_ble_eq_true rfl)⟩) (pre_UV hK hP hD [0, 1, 2] (by decide) rfl (ci := 12) (q0 := 0) rfl rfl) rfl rfl hl.1 rfl (lv_room (Nat.le_of_ble_eq_true rfl)) dX12_act_25 ⟨(Nat.le_of_ble_eq_true rfl), (Nat.le_of_ble_eq_true rfl)⟩) hP hD hS hA [0, 1, 2] [3] rfl rfl (by decide) (by decide) (fun  u5 H locs p6 hP hD hS => ?_)
  obtain ⟨ksnapsG_7, rfl⟩ : ∃ z, z = u5 := ⟨_, rfl⟩
  refine W.widen (k := 0) (n := 0) (Nat.le_of_ble_eq_true rfl) (Nat.le_of_ble_eq_true rfl) ?_
  have hP : va_P (dC, dI) vwCl [(kpoured, .inl (ky 0, 36, .inl kpouredF)), (o, .inr (12, [.int kthrown, .ref ktape, .int ktaped, .int ksize, .int klimit, .int kto, .int kfrom, .int kkind, .int knumber, .int ksign, .int kfault, .int kplace, .long kword, .int ktold, .ref know, .ref kread, .ref kkept, .ref ksnaps, .ref kaside, .ref kname, .ref kreadName, .ref kkeptName, .ref kisKept, .ref konces, .int (nI 1), .int khasCells, .ref kpoured, .ref kfar, .ref ksides, .int ksideMany, .int kwayDays, .int khasWay, .ref klines, .ref kmet, .int kmetMany, .ref ksunk, .ref ktrying, .int ksunkMany, .int ksending, .int kfleets, .ref ktext, .int ktexts, .int kseed, .ref kline, .ref kwritten, .int klineMany, .int khasWritten, .ref knode, .int knodes, .int konesMany, .int kwithin, .int ktop])), (know, .inl (ky 0, 373, .inl knowF)), (ksnaps, .inl (ky 0, 512, .inl ksnapsG_7))] H := hP
  have hD : va_D A [(kpoured, .inl (ky 0, 36, .inl kpouredF)), (o, .inr (12, [.int kthrown, .ref ktape, .int ktaped, .int ksize, .int klimit, .int kto, .int kfrom, .int kkind, .int knumber, .int ksign, .int kfault, .int kplace, .long kword, .int ktold, .ref know, .ref kread, .ref kkept, .ref ksnaps, .ref kaside, .ref kname, .ref kreadName, .ref kkeptName, .ref kisKept, .ref konces, .int (nI 1), .int khasCells, .ref kpoured, .ref kfar, .ref ksides, .int ksideMany, .int kwayDays, .int khasWay, .ref klines, .ref kmet, .int kmetMany, .ref ksunk, .ref ktrying, .int ksunkMany, .int ksending, .int kfleets, .ref ktext, .int ktexts, .int kseed, .ref kline, .ref kwritten, .int klineMany, .int khasWritten, .ref knode, .int knodes, .int konesMany, .int kwithin, .int ktop])), (know, .inl (ky 0, 373, .inl knowF)), (ksnaps, .inl (ky 0, 512, .inl ksnapsG_7))] := hD
  refine lv_aload_n hx hb dX12_act_28 rfl (lv_at hl 1 rfl) ?_
  refine lv_iload_n hx hb dX12_act_29 rfl (lv_at hl 2 rfl) ?_
  refine lv_iload_n hx hb dX12_act_30 rfl (lv_at hl 3 rfl) ?_
  refine lv_iload_n hx hb dX12_act_31 rfl (lv_at hl 4 rfl) ?_
  refine r_call_v (wr := [(ksnaps, .inl (ky 0, 512, .inl ksnapsG_7))]) (va_runV (As := [.int (nI 0), .int (nI ln), .int y]) (rest := []) ⟨hx, hb, hml, hown, hts⟩ (c_m_live0 l dC dI ky H.size o kthrown ktape ktaped ksize klimit kto kfrom kkind knumber ksign kfault kplace kword ktold know kread kkept ksnaps kaside kname kreadName kkeptName kisKept konces (nI 1) khasCells kpoured kfar ksides ksideMany kwayDays khasWay klines kmet kmetMany ksunk ktrying ksunkMany ksending kfleets ktext ktexts kseed kline kwritten klineMany khasWritten knode knodes konesMany kwithin ktop knowF kpouredF ln y (NowOk.b hN) (by omega)) (cwV 3 hts gX12_act_X12_live rfl rfl rfl (by decide +kernel) ⟨(Nat.le_of_ble_eq_true rfl), (Nat.le_of_ble_eq_true rfl)⟩) (pre_UV hK hP hD [1, 2, 0] (by decide) rfl (ci := 12) (q0 := 1) rfl rfl) rfl rfl hl.1 rfl (lv_room (Nat.le_of_ble_eq_true rfl)) dX12_act_32 ⟨(Nat.le_of_ble_eq_true rfl), (Nat.le_of_ble_eq_true rfl)⟩) hP hD hS hA [1, 2, 0] [3] rfl rfl (by decide) (by decide) (fun  u8 H locs p9 hP hD hS => ?_)
  refine W.widen (k := 0) (n := 0) (Nat.le_of_ble_eq_true rfl) (Nat.le_of_ble_eq_true rfl) ?_
  have hP : va_P (dC, dI) vwCl [(ksnaps, .inl (ky 0, 512, .inl ksnapsG_7))] H := hP
  have hD : va_D A [(ksnaps, .inl (ky 0, 512, .inl ksnapsG_7))] := hD
  refine lv_iconst (v := nI 0) hx hb dX12_act_35 (by decide) ?_
  have hP9 := hP.sub (ws' := []) [] rfl
  have hD9 := hD.sub (ws' := []) [] (by decide) rfl
  refine W.widen (k := 0) (n := 0) (Nat.le_of_ble_eq_true rfl) (Nat.le_of_ble_eq_true rfl) ?_
  exact W.iret (v := nI 0) hx hb hr (fun t ht9 hW9 => ⟨⟨nI 0, (), rfl, rfl, by rw [ht9]; exact hP9, va_K.moved hW9.alike hK, hD9⟩, hS.F ht9⟩) hS.2.2 dX12_act_36
set_option maxHeartbeats 4000000 in
set_option maxRecDepth 100000 in
theorem c_m_act2 (l : Launch) (dC : Nat → ClassId) (dI : Nat → Nat → Nat) (ky : Nat → ClassId) (sz : Nat) (o : Nat) (kthrown : Int32) (ktape : Nat) (ktaped : Int32) (ksize : Int32) (klimit : Int32) (kto : Int32) (kfrom : Int32) (kkind : Int32) (knumber : Int32) (ksign : Int32) (kfault : Int32) (kplace : Int32) (kword : Int64) (ktold : Int32) (know : Nat) (kread : Nat) (kkept : Nat) (ksnaps : Nat) (kaside : Nat) (kname : Nat) (kreadName : Nat) (kkeptName : Nat) (kisKept : Nat) (konces : Nat) (khasCells : Int32) (kpoured : Nat) (kfar : Nat) (ksides : Nat) (ksideMany : Int32) (kwayDays : Int32) (khasWay : Int32) (klines : Nat) (kmet : Nat) (kmetMany : Int32) (ksunk : Nat) (ktrying : Nat) (ksunkMany : Int32) (ksending : Int32) (kfleets : Int32) (ktext : Nat) (ktexts : Int32) (kseed : Int32) (kline : Nat) (kwritten : Nat) (klineMany : Int32) (khasWritten : Int32) (knode : Nat) (knodes : Int32) (konesMany : Int32) (kwithin : Int32) (ktop : Int32) (knowF : Nat → Int32) (ksnapsF : Nat → Int32) (k : Nat) (y : Int32) (hN : NowOk knowF) (hk : k < 36) : Met l yX12_act wsX12_act ({ frames := 2, cells := 0, slots := 0, locals := 44 }) (PcU dC dI ky [.ref o, .int (nI 2), .int (nI k), .int y, .int (nI 1)] [(o, .inr (12, [.int kthrown, .ref ktape, .int ktaped, .int ksize, .int klimit, .int kto, .int kfrom, .int kkind, .int knumber, .int ksign, .int kfault, .int kplace, .long kword, .int ktold, .ref know, .ref kread, .ref kkept, .ref ksnaps, .ref kaside, .ref kname, .ref kreadName, .ref kkeptName, .ref kisKept, .ref konces, .int (nI 0), .int khasCells, .ref kpoured, .ref kfar, .ref ksides, .int ksideMany, .int kwayDays, .int khasWay, .ref klines, .ref kmet, .int kmetMany, .ref ksunk, .ref ktrying, .int ksunkMany, .int ksending, .int kfleets, .ref ktext, .int ktexts, .int kseed, .ref kline, .ref kwritten, .int klineMany, .int khasWritten, .ref knode, .int knodes, .int konesMany, .int kwithin, .int ktop])), (know, .inl (ky 0, 373, .inl knowF)), (ksnaps, .inl (ky 0, 512, .inl ksnapsF))] sz) (va_Qi (fun (r : Int32) (_ : Unit) => r = nI 0) (BU dC dI ky (fun (_ : Unit) => []) (va_A [(o, .inr (12, [.int kthrown, .ref ktape, .int ktaped, .int ksize, .int klimit, .int kto, .int kfrom, .int kkind, .int knumber, .int ksign, .int kfault, .int kplace, .long kword, .int ktold, .ref know, .ref kread, .ref kkept, .ref ksnaps, .ref kaside, .ref kname, .ref kreadName, .ref kkeptName, .ref kisKept, .ref konces, .int (nI 0), .int khasCells, .ref kpoured, .ref kfar, .ref ksides, .int ksideMany, .int kwayDays, .int khasWay, .ref klines, .ref kmet, .int kmetMany, .ref ksunk, .ref ktrying, .int ksunkMany, .int ksending, .int kfleets, .ref ktext, .int ktexts, .int kseed, .ref kline, .ref kwritten, .int klineMany, .int khasWritten, .ref knode, .int knodes, .int konesMany, .int kwithin, .int ktop])), (know, .inl (ky 0, 373, .inl knowF)), (ksnaps, .inl (ky 0, 512, .inl ksnapsF))] sz)) (va_A [(o, .inr (12, [.int kthrown, .ref ktape, .int ktaped, .int ksize, .int klimit, .int kto, .int kfrom, .int kkind, .int knumber, .int ksign, .int kfault, .int kplace, .long kword, .int ktold, .ref know, .ref kread, .ref kkept, .ref ksnaps, .ref kaside, .ref kname, .ref kreadName, .ref kkeptName, .ref kisKept, .ref konces, .int (nI 0), .int khasCells, .ref kpoured, .ref kfar, .ref ksides, .int ksideMany, .int kwayDays, .int khasWay, .ref klines, .ref kmet, .int kmetMany, .ref ksunk, .ref ktrying, .int ksunkMany, .int ksending, .int kfleets, .ref ktext, .int ktexts, .int kseed, .ref kline, .ref kwritten, .int klineMany, .int khasWritten, .ref knode, .int knodes, .int konesMany, .int kwithin, .int ktop])), (know, .inl (ky 0, 373, .inl knowF)), (ksnaps, .inl (ky 0, 512, .inl ksnapsF))] sz)) 0 0 (va_A [(o, .inr (12, [.int kthrown, .ref ktape, .int ktaped, .int ksize, .int klimit, .int kto, .int kfrom, .int kkind, .int knumber, .int ksign, .int kfault, .int kplace, .long kword, .int ktold, .ref know, .ref kread, .ref kkept, .ref ksnaps, .ref kaside, .ref kname, .ref kreadName, .ref kkeptName, .ref kisKept, .ref konces, .int (nI 0), .int khasCells, .ref kpoured, .ref kfar, .ref ksides, .int ksideMany, .int kwayDays, .int khasWay, .ref klines, .ref kmet, .int kmetMany, .ref ksunk, .ref ktrying, .int ksunkMany, .int ksending, .int kfleets, .ref ktext, .int ktexts, .int kseed, .ref kline, .ref kwritten, .int klineMany, .int khasWritten, .ref knode, .int knodes, .int konesMany, .int kwithin, .int ktop])), (know, .inl (ky 0, 373, .inl knowF)), (ksnaps, .inl (ky 0, 512, .inl ksnapsF))] sz) := by
  refine Met.ofW (cc := cX12_act) (maxL := 6) (ret := (some .int)) (by decide) rfl ?_
  intro p e s m args below meth c s₁ B hml hv
  obtain ⟨rfl, hsz, hP, hK, hD0⟩ := hv
  have hx := B.exec
  have hb := B.bytes
  have hr := B.returns
  have hts := atoms_spec (ws := wsX12_act) B.pre
  have hown : s.vm.findClass RX12 = some m.cls := findClass_of_methodNamed B.named
  have hlocks := B.notSynchronized
  subst hsz
  have hD := hD0.self (sz := s.heap.size)
  generalize hAe : va_A [(o, .inr (12, [.int kthrown, .ref ktape, .int ktaped, .int ksize, .int klimit, .int kto, .int kfrom, .int kkind, .int knumber, .int ksign, .int kfault, .int kplace, .long kword, .int ktold, .ref know, .ref kread, .ref kkept, .ref ksnaps, .ref kaside, .ref kname, .ref kreadName, .ref kkeptName, .ref kisKept, .ref konces, .int (nI 0), .int khasCells, .ref kpoured, .ref kfar, .ref ksides, .int ksideMany, .int kwayDays, .int khasWay, .ref klines, .ref kmet, .int kmetMany, .ref ksunk, .ref ktrying, .int ksunkMany, .int ksending, .int kfleets, .ref ktext, .int ktexts, .int kseed, .ref kline, .ref kwritten, .int klineMany, .int khasWritten, .ref knode, .int knodes, .int konesMany, .int kwithin, .int ktop])), (know, .inl (ky 0, 373, .inl knowF)), (ksnaps, .inl (ky 0, 512, .inl ksnapsF))] s.heap.size = A at hD ⊢
  have hA : ∀ q : Nat, s.heap.size ≤ q → A q := fun q h => by rw [← hAe]; exact Or.inr h
  have hS : va_S A s.heap s.heap [] := va_S.rf
  have hP : va_P (dC, dI) vwCl [(o, .inr (12, [.int kthrown, .ref ktape, .int ktaped, .int ksize, .int klimit, .int kto, .int kfrom, .int kkind, .int knumber, .int ksign, .int kfault, .int kplace, .long kword, .int ktold, .ref know, .ref kread, .ref kkept, .ref ksnaps, .ref kaside, .ref kname, .ref kreadName, .ref kkeptName, .ref kisKept, .ref konces, .int (nI 0), .int khasCells, .ref kpoured, .ref kfar, .ref ksides, .int ksideMany, .int kwayDays, .int khasWay, .ref klines, .ref kmet, .int kmetMany, .ref ksunk, .ref ktrying, .int ksunkMany, .int ksending, .int kfleets, .ref ktext, .int ktexts, .int kseed, .ref kline, .ref kwritten, .int klineMany, .int khasWritten, .ref knode, .int knodes, .int konesMany, .int kwithin, .int ktop])), (know, .inl (ky 0, 373, .inl knowF)), (ksnaps, .inl (ky 0, 512, .inl ksnapsF))] s.heap := hP
  have hl := lv_entry ([.ref o, .int (nI 2), .int (nI k), .int y, .int (nI 1)]) (n := 6) (Nat.le_of_ble_eq_true rfl)
  rw [lg_entry_eq]
  generalize (lg_sl ([.ref o, .int (nI 2), .int (nI k), .int y, .int (nI 1)]) ++ List.replicate (6 - (lg_sl ([.ref o, .int (nI 2), .int (nI k), .int y, .int (nI 1)])).length) Slot.unset).toArray = ls at hl ⊢
  have hl : lv_has ls 6 [(0, .ref o), (1, .int (nI 2)), (2, .int (nI k)), (3, .int y), (4, .int (nI 1))] := hl
  have hH0 : True := trivial
  refine lv_iload hx hb dX12_act_0 (lv_at hl 4 rfl) ?_
  refine lv_if_ne (tgt := 7) hx hb dX12_act_2 (by decide) (fun c1 => ?_) (fun c1 => absurd c1 (by decide))
  refine lv_aload_n hx hb dX12_act_7 rfl (lv_at hl 0 rfl) ?_
  refine lv_iload_n hx hb dX12_act_8 rfl (lv_at hl 1 rfl) ?_
  refine lv_iload_n hx hb dX12_act_9 rfl (lv_at hl 2 rfl) ?_
  refine lv_iload_n hx hb dX12_act_10 rfl (lv_at hl 3 rfl) ?_
  refine vp_callSi (W.runV (As := [.int (nI 2), .int (nI k), .int y]) (rest := []) ⟨hx, hb, hml, hown, hts⟩ (c_m_why2 l dC dI ky o kthrown ktape ktaped ksize klimit kto kfrom kkind knumber ksign kfault kplace kword ktold know kread kkept ksnaps kaside kname kreadName kkeptName kisKept konces (nI 0) khasCells kpoured kfar ksides ksideMany kwayDays khasWay klines kmet kmetMany ksunk ktrying ksunkMany ksending kfleets ktext ktexts kseed kline kwritten klineMany khasWritten knode knodes konesMany kwithin ktop knowF k y hN (by omega)) (cwV 3 hts gX12_act_X12_why rfl rfl rfl (by decide +kernel) ⟨(Nat.le_of_ble_eq_true rfl), (Nat.le_of_ble_eq_true rfl)⟩) (pre_PV hK hP [0, 1] rfl (ci := 12) (q0 := 0) rfl rfl) rfl rfl hl.1 rfl (lv_room (Nat.le_of_ble_eq_true rfl)) dX12_act_11 ⟨(Nat.le_of_ble_eq_true rfl), (Nat.le_of_ble_eq_true rfl)⟩) (fun r2 p3 => ?_)
  subst p3
  refine lv_istore (lv' := [(5, .int (nI 0)), (0, .ref o), (1, .int (nI 2)), (2, .int (nI k)), (3, .int y), (4, .int (nI 1))]) hx hb dX12_act_14 hl (by decide) rfl (fun ls hl => ?_)
  refine lv_iload hx hb dX12_act_16 (lv_at hl 0 rfl) ?_
  refine lv_if_eq (tgt := 24) hx hb dX12_act_18 (by decide) (fun c4 => ?_) (fun c4 => absurd (by decide) c4)
  refine lv_aload_n hx hb dX12_act_24 rfl (lv_at hl 1 rfl) ?_
  refine r_call_v (wr := []) (va_runV (As := []) (rest := []) ⟨hx, hb, hml, hown, hts⟩ (c_m_snap l dC dI ky s.heap.size o kthrown ktape ktaped ksize klimit kto kfrom kkind knumber ksign kfault kplace kword ktold know kread kkept ksnaps kaside kname kreadName kkeptName kisKept konces khasCells kpoured kfar ksides ksideMany kwayDays khasWay klines kmet kmetMany ksunk ktrying ksunkMany ksending kfleets ktext ktexts kseed kline kwritten klineMany khasWritten knode knodes konesMany kwithin ktop knowF ksnapsF) (cwV 0 hts gX12_act_X12_snap rfl rfl rfl (by decide +kernel) ⟨(Nat.le_of_ble_eq_true rfl), (Nat.le_of_ble_eq_true rfl)⟩) (pre_UV hK hP hD [0, 1, 2] (by decide) rfl (ci := 12) (q0 := 0) rfl rfl) rfl rfl hl.1 rfl (lv_room (Nat.le_of_ble_eq_true rfl)) dX12_act_25 ⟨(Nat.le_of_ble_eq_true rfl), (Nat.le_of_ble_eq_true rfl)⟩) hP hD hS hA [0, 1, 2] [] rfl rfl (by decide) (by decide) (fun  u5 H locs p6 hP hD hS => ?_)
  obtain ⟨ksnapsG_7, rfl⟩ : ∃ z, z = u5 := ⟨_, rfl⟩
  refine W.widen (k := 0) (n := 0) (Nat.le_of_ble_eq_true rfl) (Nat.le_of_ble_eq_true rfl) ?_
  have hP : va_P (dC, dI) vwCl [(o, .inr (12, [.int kthrown, .ref ktape, .int ktaped, .int ksize, .int klimit, .int kto, .int kfrom, .int kkind, .int knumber, .int ksign, .int kfault, .int kplace, .long kword, .int ktold, .ref know, .ref kread, .ref kkept, .ref ksnaps, .ref kaside, .ref kname, .ref kreadName, .ref kkeptName, .ref kisKept, .ref konces, .int (nI 1), .int khasCells, .ref kpoured, .ref kfar, .ref ksides, .int ksideMany, .int kwayDays, .int khasWay, .ref klines, .ref kmet, .int kmetMany, .ref ksunk, .ref ktrying, .int ksunkMany, .int ksending, .int kfleets, .ref ktext, .int ktexts, .int kseed, .ref kline, .ref kwritten, .int klineMany, .int khasWritten, .ref knode, .int knodes, .int konesMany, .int kwithin, .int ktop])), (know, .inl (ky 0, 373, .inl knowF)), (ksnaps, .inl (ky 0, 512, .inl ksnapsG_7))] H := hP
  have hD : va_D A [(o, .inr (12, [.int kthrown, .ref ktape, .int ktaped, .int ksize, .int klimit, .int kto, .int kfrom, .int kkind, .int knumber, .int ksign, .int kfault, .int kplace, .long kword, .int ktold, .ref know, .ref kread, .ref kkept, .ref ksnaps, .ref kaside, .ref kname, .ref kreadName, .ref kkeptName, .ref kisKept, .ref konces, .int (nI 1), .int khasCells, .ref kpoured, .ref kfar, .ref ksides, .int ksideMany, .int kwayDays, .int khasWay, .ref klines, .ref kmet, .int kmetMany, .ref ksunk, .ref ktrying, .int ksunkMany, .int ksending, .int kfleets, .ref ktext, .int ktexts, .int kseed, .ref kline, .ref kwritten, .int klineMany, .int khasWritten, .ref knode, .int knodes, .int konesMany, .int kwithin, .int ktop])), (know, .inl (ky 0, 373, .inl knowF)), (ksnaps, .inl (ky 0, 512, .inl ksnapsG_7))] := hD
  refine lv_aload_n hx hb dX12_act_28 rfl (lv_at hl 1 rfl) ?_
  refine lv_iload_n hx hb dX12_act_29 rfl (lv_at hl 2 rfl) ?_
  refine lv_iload_n hx hb dX12_act_30 rfl (lv_at hl 3 rfl) ?_
  refine lv_iload_n hx hb dX12_act_31 rfl (lv_at hl 4 rfl) ?_
  refine r_call_v (wr := [(ksnaps, .inl (ky 0, 512, .inl ksnapsG_7))]) (va_runV (As := [.int (nI 2), .int (nI k), .int y]) (rest := []) ⟨hx, hb, hml, hown, hts⟩ (c_m_live2 l dC dI ky H.size o kthrown ktape ktaped ksize klimit kto kfrom kkind knumber ksign kfault kplace kword ktold know kread kkept ksnaps kaside kname kreadName kkeptName kisKept konces (nI 1) khasCells kpoured kfar ksides ksideMany kwayDays khasWay klines kmet kmetMany ksunk ktrying ksunkMany ksending kfleets ktext ktexts kseed kline kwritten klineMany khasWritten knode knodes konesMany kwithin ktop knowF k y (by omega)) (cwV 3 hts gX12_act_X12_live rfl rfl rfl (by decide +kernel) ⟨(Nat.le_of_ble_eq_true rfl), (Nat.le_of_ble_eq_true rfl)⟩) (pre_UV hK hP hD [0, 1] (by decide) rfl (ci := 12) (q0 := 0) rfl rfl) rfl rfl hl.1 rfl (lv_room (Nat.le_of_ble_eq_true rfl)) dX12_act_32 ⟨(Nat.le_of_ble_eq_true rfl), (Nat.le_of_ble_eq_true rfl)⟩) hP hD hS hA [0, 1] [2] rfl rfl (by decide) (by decide) (fun  u8 H locs p9 hP hD hS => ?_)
  refine W.widen (k := 0) (n := 0) (Nat.le_of_ble_eq_true rfl) (Nat.le_of_ble_eq_true rfl) ?_
  have hP : va_P (dC, dI) vwCl [(ksnaps, .inl (ky 0, 512, .inl ksnapsG_7))] H := hP
  have hD : va_D A [(ksnaps, .inl (ky 0, 512, .inl ksnapsG_7))] := hD
  refine lv_iconst (v := nI 0) hx hb dX12_act_35 (by decide) ?_
  have hP9 := hP.sub (ws' := []) [] rfl
  have hD9 := hD.sub (ws' := []) [] (by decide) rfl
  refine W.widen (k := 0) (n := 0) (Nat.le_of_ble_eq_true rfl) (Nat.le_of_ble_eq_true rfl) ?_
  exact W.iret (v := nI 0) hx hb hr (fun t ht9 hW9 => ⟨⟨nI 0, (), rfl, rfl, by rw [ht9]; exact hP9, va_K.moved hW9.alike hK, hD9⟩, hS.F ht9⟩) hS.2.2 dX12_act_36
set_option maxHeartbeats 4000000 in
set_option maxRecDepth 100000 in
theorem c_m_act3 (l : Launch) (dC : Nat → ClassId) (dI : Nat → Nat → Nat) (ky : Nat → ClassId) (o : Nat) (kthrown : Int32) (ktape : Nat) (ktaped : Int32) (ksize : Int32) (klimit : Int32) (kto : Int32) (kfrom : Int32) (kkind : Int32) (knumber : Int32) (ksign : Int32) (kfault : Int32) (kplace : Int32) (kword : Int64) (ktold : Int32) (know : Nat) (kread : Nat) (kkept : Nat) (ksnaps : Nat) (kaside : Nat) (kname : Nat) (kreadName : Nat) (kkeptName : Nat) (kisKept : Nat) (konces : Nat) (ksnapMany : Int32) (khasCells : Int32) (kpoured : Nat) (kfar : Nat) (ksides : Nat) (ksideMany : Int32) (kwayDays : Int32) (khasWay : Int32) (klines : Nat) (kmet : Nat) (kmetMany : Int32) (ksunk : Nat) (ktrying : Nat) (ksunkMany : Int32) (ksending : Int32) (kfleets : Int32) (ktext : Nat) (ktexts : Int32) (kseed : Int32) (kline : Nat) (kwritten : Nat) (klineMany : Int32) (khasWritten : Int32) (knode : Nat) (knodes : Int32) (konesMany : Int32) (kwithin : Int32) (ktop : Int32) (knowF : Nat → Int32) (k : Nat) (y : Int32) (hN : NowOk knowF) (hk : k < 36) : Met l yX12_act wsX12_act ({ frames := 1, cells := 0, slots := 0, locals := 23 }) (PcP dC dI ky [.ref o, .int (nI 3), .int (nI k), .int y, .int (nI 1)] [(o, .inr (12, [.int kthrown, .ref ktape, .int ktaped, .int ksize, .int klimit, .int kto, .int kfrom, .int kkind, .int knumber, .int ksign, .int kfault, .int kplace, .long kword, .int ktold, .ref know, .ref kread, .ref kkept, .ref ksnaps, .ref kaside, .ref kname, .ref kreadName, .ref kkeptName, .ref kisKept, .ref konces, .int ksnapMany, .int khasCells, .ref kpoured, .ref kfar, .ref ksides, .int ksideMany, .int kwayDays, .int khasWay, .ref klines, .ref kmet, .int kmetMany, .ref ksunk, .ref ktrying, .int ksunkMany, .int ksending, .int kfleets, .ref ktext, .int ktexts, .int kseed, .ref kline, .ref kwritten, .int klineMany, .int khasWritten, .ref knode, .int knodes, .int konesMany, .int kwithin, .int ktop])), (know, .inl (ky 0, 373, .inl knowF))]) (vp_Si (fun r : Int32 => r = nI 1)) 0 0 (fun _ => False) := by
  refine Met.ofW (cc := cX12_act) (maxL := 6) (ret := (some .int)) (by decide) rfl ?_
  intro p e s m args below meth c s₁ B hml hv
  obtain ⟨rfl, hP, hK⟩ := hv
  have hx := B.exec
  have hb := B.bytes
  have hr := B.returns
  have hts := atoms_spec (ws := wsX12_act) B.pre
  have hown : s.vm.findClass RX12 = some m.cls := findClass_of_methodNamed B.named
  have hlocks := B.notSynchronized
  have hl := lv_entry ([.ref o, .int (nI 3), .int (nI k), .int y, .int (nI 1)]) (n := 6) (Nat.le_of_ble_eq_true rfl)
  rw [lg_entry_eq]
  generalize (lg_sl ([.ref o, .int (nI 3), .int (nI k), .int y, .int (nI 1)]) ++ List.replicate (6 - (lg_sl ([.ref o, .int (nI 3), .int (nI k), .int y, .int (nI 1)])).length) Slot.unset).toArray = ls at hl ⊢
  have hl : lv_has ls 6 [(0, .ref o), (1, .int (nI 3)), (2, .int (nI k)), (3, .int y), (4, .int (nI 1))] := hl
  refine lv_iload hx hb dX12_act_0 (lv_at hl 4 rfl) ?_
  refine lv_if_ne (tgt := 7) hx hb dX12_act_2 (by decide) (fun c1 => ?_) (fun c1 => absurd c1 (by decide))
  refine lv_aload_n hx hb dX12_act_7 rfl (lv_at hl 0 rfl) ?_
  refine lv_iload_n hx hb dX12_act_8 rfl (lv_at hl 1 rfl) ?_
  refine lv_iload_n hx hb dX12_act_9 rfl (lv_at hl 2 rfl) ?_
  refine lv_iload_n hx hb dX12_act_10 rfl (lv_at hl 3 rfl) ?_
  refine vp_callSi (W.runV (As := [.int (nI 3), .int (nI k), .int y]) (rest := []) ⟨hx, hb, hml, hown, hts⟩ (c_m_why3 l dC dI ky o kthrown ktape ktaped ksize klimit kto kfrom kkind knumber ksign kfault kplace kword ktold know kread kkept ksnaps kaside kname kreadName kkeptName kisKept konces ksnapMany khasCells kpoured kfar ksides ksideMany kwayDays khasWay klines kmet kmetMany ksunk ktrying ksunkMany ksending kfleets ktext ktexts kseed kline kwritten klineMany khasWritten knode knodes konesMany kwithin ktop knowF k y hN (by omega)) (cwV 3 hts gX12_act_X12_why rfl rfl rfl (by decide +kernel) ⟨(Nat.le_of_ble_eq_true rfl), (Nat.le_of_ble_eq_true rfl)⟩) (pre_PV hK hP [0, 1] rfl (ci := 12) (q0 := 0) rfl rfl) rfl rfl hl.1 rfl (lv_room (Nat.le_of_ble_eq_true rfl)) dX12_act_11 ⟨(Nat.le_of_ble_eq_true rfl), (Nat.le_of_ble_eq_true rfl)⟩) (fun r2 p3 => ?_)
  subst p3
  refine lv_istore (lv' := [(5, .int (nI 1)), (0, .ref o), (1, .int (nI 3)), (2, .int (nI k)), (3, .int y), (4, .int (nI 1))]) hx hb dX12_act_14 hl (by decide) rfl (fun ls hl => ?_)
  refine lv_iload hx hb dX12_act_16 (lv_at hl 0 rfl) ?_
  refine lv_if_eq (tgt := 24) hx hb dX12_act_18 (by decide) (fun c4 => absurd c4 (by decide)) (fun c4 => ?_)
  refine lv_iload hx hb dX12_act_21 (lv_at hl 0 rfl) ?_
  exact W.iret (v := nI 1) hx hb hr (fun t ht9 hW9 => ⟨nI 1, rfl, rfl, ht9⟩) (fun _ h => absurd h List.not_mem_nil) dX12_act_23
set_option maxHeartbeats 4000000 in
set_option maxRecDepth 100000 in
theorem c_m_act4 (l : Launch) (dC : Nat → ClassId) (dI : Nat → Nat → Nat) (ky : Nat → ClassId) (sz : Nat) (o : Nat) (kthrown : Int32) (ktape : Nat) (ktaped : Int32) (ksize : Int32) (klimit : Int32) (kto : Int32) (kfrom : Int32) (kkind : Int32) (knumber : Int32) (ksign : Int32) (kfault : Int32) (kplace : Int32) (kword : Int64) (ktold : Int32) (know : Nat) (kread : Nat) (kkept : Nat) (ksnaps : Nat) (kaside : Nat) (kname : Nat) (kreadName : Nat) (kkeptName : Nat) (kisKept : Nat) (konces : Nat) (khasCells : Int32) (kpoured : Nat) (kfar : Nat) (ksides : Nat) (ksideMany : Int32) (kwayDays : Int32) (khasWay : Int32) (klines : Nat) (kmet : Nat) (kmetMany : Int32) (ksunk : Nat) (ktrying : Nat) (ksunkMany : Int32) (ksending : Int32) (kfleets : Int32) (ktext : Nat) (ktexts : Int32) (kseed : Int32) (kline : Nat) (kwritten : Nat) (klineMany : Int32) (khasWritten : Int32) (knode : Nat) (knodes : Int32) (konesMany : Int32) (kwithin : Int32) (ktop : Int32) (knowF : Nat → Int32) (ksnapsF : Nat → Int32) (x : Int32) (y : Int32) (hN : NowOk knowF) : Met l yX12_act wsX12_act ({ frames := 2, cells := 0, slots := 0, locals := 44 }) (PcU dC dI ky [.ref o, .int (nI 4), .int x, .int y, .int (nI 1)] [(o, .inr (12, [.int kthrown, .ref ktape, .int ktaped, .int ksize, .int klimit, .int kto, .int kfrom, .int kkind, .int knumber, .int ksign, .int kfault, .int kplace, .long kword, .int ktold, .ref know, .ref kread, .ref kkept, .ref ksnaps, .ref kaside, .ref kname, .ref kreadName, .ref kkeptName, .ref kisKept, .ref konces, .int (nI 0), .int khasCells, .ref kpoured, .ref kfar, .ref ksides, .int ksideMany, .int kwayDays, .int khasWay, .ref klines, .ref kmet, .int kmetMany, .ref ksunk, .ref ktrying, .int ksunkMany, .int ksending, .int kfleets, .ref ktext, .int ktexts, .int kseed, .ref kline, .ref kwritten, .int klineMany, .int khasWritten, .ref knode, .int knodes, .int konesMany, .int kwithin, .int ktop])), (know, .inl (ky 0, 373, .inl knowF)), (ksnaps, .inl (ky 0, 512, .inl ksnapsF))] sz) (va_Qi (fun (r : Int32) (_ : Unit) => r = nI 0) (BU dC dI ky (fun (_ : Unit) => []) (va_A [(o, .inr (12, [.int kthrown, .ref ktape, .int ktaped, .int ksize, .int klimit, .int kto, .int kfrom, .int kkind, .int knumber, .int ksign, .int kfault, .int kplace, .long kword, .int ktold, .ref know, .ref kread, .ref kkept, .ref ksnaps, .ref kaside, .ref kname, .ref kreadName, .ref kkeptName, .ref kisKept, .ref konces, .int (nI 0), .int khasCells, .ref kpoured, .ref kfar, .ref ksides, .int ksideMany, .int kwayDays, .int khasWay, .ref klines, .ref kmet, .int kmetMany, .ref ksunk, .ref ktrying, .int ksunkMany, .int ksending, .int kfleets, .ref ktext, .int ktexts, .int kseed, .ref kline, .ref kwritten, .int klineMany, .int khasWritten, .ref knode, .int knodes, .int konesMany, .int kwithin, .int ktop])), (know, .inl (ky 0, 373, .inl knowF)), (ksnaps, .inl (ky 0, 512, .inl ksnapsF))] sz)) (va_A [(o, .inr (12, [.int kthrown, .ref ktape, .int ktaped, .int ksize, .int klimit, .int kto, .int kfrom, .int kkind, .int knumber, .int ksign, .int kfault, .int kplace, .long kword, .int ktold, .ref know, .ref kread, .ref kkept, .ref ksnaps, .ref kaside, .ref kname, .ref kreadName, .ref kkeptName, .ref kisKept, .ref konces, .int (nI 0), .int khasCells, .ref kpoured, .ref kfar, .ref ksides, .int ksideMany, .int kwayDays, .int khasWay, .ref klines, .ref kmet, .int kmetMany, .ref ksunk, .ref ktrying, .int ksunkMany, .int ksending, .int kfleets, .ref ktext, .int ktexts, .int kseed, .ref kline, .ref kwritten, .int klineMany, .int khasWritten, .ref knode, .int knodes, .int konesMany, .int kwithin, .int ktop])), (know, .inl (ky 0, 373, .inl knowF)), (ksnaps, .inl (ky 0, 512, .inl ksnapsF))] sz)) 0 0 (va_A [(o, .inr (12, [.int kthrown, .ref ktape, .int ktaped, .int ksize, .int klimit, .int kto, .int kfrom, .int kkind, .int knumber, .int ksign, .int kfault, .int kplace, .long kword, .int ktold, .ref know, .ref kread, .ref kkept, .ref ksnaps, .ref kaside, .ref kname, .ref kreadName, .ref kkeptName, .ref kisKept, .ref konces, .int (nI 0), .int khasCells, .ref kpoured, .ref kfar, .ref ksides, .int ksideMany, .int kwayDays, .int khasWay, .ref klines, .ref kmet, .int kmetMany, .ref ksunk, .ref ktrying, .int ksunkMany, .int ksending, .int kfleets, .ref ktext, .int ktexts, .int kseed, .ref kline, .ref kwritten, .int klineMany, .int khasWritten, .ref knode, .int knodes, .int konesMany, .int kwithin, .int ktop])), (know, .inl (ky 0, 373, .inl knowF)), (ksnaps, .inl (ky 0, 512, .inl ksnapsF))] sz) := by
  refine Met.ofW (cc := cX12_act) (maxL := 6) (ret := (some .int)) (by decide) rfl ?_
  intro p e s m args below meth c s₁ B hml hv
  obtain ⟨rfl, hsz, hP, hK, hD0⟩ := hv
  have hx := B.exec
  have hb := B.bytes
  have hr := B.returns
  have hts := atoms_spec (ws := wsX12_act) B.pre
  have hown : s.vm.findClass RX12 = some m.cls := findClass_of_methodNamed B.named
  have hlocks := B.notSynchronized
  subst hsz
  have hD := hD0.self (sz := s.heap.size)
  generalize hAe : va_A [(o, .inr (12, [.int kthrown, .ref ktape, .int ktaped, .int ksize, .int klimit, .int kto, .int kfrom, .int kkind, .int knumber, .int ksign, .int kfault, .int kplace, .long kword, .int ktold, .ref know, .ref kread, .ref kkept, .ref ksnaps, .ref kaside, .ref kname, .ref kreadName, .ref kkeptName, .ref kisKept, .ref konces, .int (nI 0), .int khasCells, .ref kpoured, .ref kfar, .ref ksides, .int ksideMany, .int kwayDays, .int khasWay, .ref klines, .ref kmet, .int kmetMany, .ref ksunk, .ref ktrying, .int ksunkMany, .int ksending, .int kfleets, .ref ktext, .int ktexts, .int kseed, .ref kline, .ref kwritten, .int klineMany, .int khasWritten, .ref knode, .int knodes, .int konesMany, .int kwithin, .int ktop])), (know, .inl (ky 0, 373, .inl knowF)), (ksnaps, .inl (ky 0, 512, .inl ksnapsF))] s.heap.size = A at hD ⊢
  have hA : ∀ q : Nat, s.heap.size ≤ q → A q := fun q h => by rw [← hAe]; exact Or.inr h
  have hS : va_S A s.heap s.heap [] := va_S.rf
  have hP : va_P (dC, dI) vwCl [(o, .inr (12, [.int kthrown, .ref ktape, .int ktaped, .int ksize, .int klimit, .int kto, .int kfrom, .int kkind, .int knumber, .int ksign, .int kfault, .int kplace, .long kword, .int ktold, .ref know, .ref kread, .ref kkept, .ref ksnaps, .ref kaside, .ref kname, .ref kreadName, .ref kkeptName, .ref kisKept, .ref konces, .int (nI 0), .int khasCells, .ref kpoured, .ref kfar, .ref ksides, .int ksideMany, .int kwayDays, .int khasWay, .ref klines, .ref kmet, .int kmetMany, .ref ksunk, .ref ktrying, .int ksunkMany, .int ksending, .int kfleets, .ref ktext, .int ktexts, .int kseed, .ref kline, .ref kwritten, .int klineMany, .int khasWritten, .ref knode, .int knodes, .int konesMany, .int kwithin, .int ktop])), (know, .inl (ky 0, 373, .inl knowF)), (ksnaps, .inl (ky 0, 512, .inl ksnapsF))] s.heap := hP
  have hl := lv_entry ([.ref o, .int (nI 4), .int x, .int y, .int (nI 1)]) (n := 6) (Nat.le_of_ble_eq_true rfl)
  rw [lg_entry_eq]
  generalize (lg_sl ([.ref o, .int (nI 4), .int x, .int y, .int (nI 1)]) ++ List.replicate (6 - (lg_sl ([.ref o, .int (nI 4), .int x, .int y, .int (nI 1)])).length) Slot.unset).toArray = ls at hl ⊢
  have hl : lv_has ls 6 [(0, .ref o), (1, .int (nI 4)), (2, .int x), (3, .int y), (4, .int (nI 1))] := hl
  have hH0 : True := trivial
  refine lv_iload hx hb dX12_act_0 (lv_at hl 4 rfl) ?_
  refine lv_if_ne (tgt := 7) hx hb dX12_act_2 (by decide) (fun c1 => ?_) (fun c1 => absurd c1 (by decide))
  refine lv_aload_n hx hb dX12_act_7 rfl (lv_at hl 0 rfl) ?_
  refine lv_iload_n hx hb dX12_act_8 rfl (lv_at hl 1 rfl) ?_
  refine lv_iload_n hx hb dX12_act_9 rfl (lv_at hl 2 rfl) ?_
  refine lv_iload_n hx hb dX12_act_10 rfl (lv_at hl 3 rfl) ?_
  refine vp_callSi (W.runV (As := [.int (nI 4), .int x, .int y]) (rest := []) ⟨hx, hb, hml, hown, hts⟩ (c_m_why4 l dC dI ky o kthrown ktape ktaped ksize klimit kto kfrom kkind knumber ksign kfault kplace kword ktold know kread kkept ksnaps kaside kname kreadName kkeptName kisKept konces (nI 0) khasCells kpoured kfar ksides ksideMany kwayDays khasWay klines kmet kmetMany ksunk ktrying ksunkMany ksending kfleets ktext ktexts kseed kline kwritten klineMany khasWritten knode knodes konesMany kwithin ktop knowF x y hN) (cwV 3 hts gX12_act_X12_why rfl rfl rfl (by decide +kernel) ⟨(Nat.le_of_ble_eq_true rfl), (Nat.le_of_ble_eq_true rfl)⟩) (pre_PV hK hP [0, 1] rfl (ci := 12) (q0 := 0) rfl rfl) rfl rfl hl.1 rfl (lv_room (Nat.le_of_ble_eq_true rfl)) dX12_act_11 ⟨(Nat.le_of_ble_eq_true rfl), (Nat.le_of_ble_eq_true rfl)⟩) (fun r2 p3 => ?_)
  subst p3
  refine lv_istore (lv' := [(5, .int (nI 0)), (0, .ref o), (1, .int (nI 4)), (2, .int x), (3, .int y), (4, .int (nI 1))]) hx hb dX12_act_14 hl (by decide) rfl (fun ls hl => ?_)
  refine lv_iload hx hb dX12_act_16 (lv_at hl 0 rfl) ?_
  refine lv_if_eq (tgt := 24) hx hb dX12_act_18 (by decide) (fun c4 => ?_) (fun c4 => absurd (by decide) c4)
  refine lv_aload_n hx hb dX12_act_24 rfl (lv_at hl 1 rfl) ?_
  refine r_call_v (wr := []) (va_runV (As := []) (rest := []) ⟨hx, hb, hml, hown, hts⟩ (c_m_snap l dC dI ky s.heap.size o kthrown ktape ktaped ksize klimit kto kfrom kkind knumber ksign kfault kplace kword ktold know kread kkept ksnaps kaside kname kreadName kkeptName kisKept konces khasCells kpoured kfar ksides ksideMany kwayDays khasWay klines kmet kmetMany ksunk ktrying ksunkMany ksending kfleets ktext ktexts kseed kline kwritten klineMany khasWritten knode knodes konesMany kwithin ktop knowF ksnapsF) (cwV 0 hts gX12_act_X12_snap rfl rfl rfl (by decide +kernel) ⟨(Nat.le_of_ble_eq_true rfl), (Nat.le_of_ble_eq_true rfl)⟩) (pre_UV hK hP hD [0, 1, 2] (by decide) rfl (ci := 12) (q0 := 0) rfl rfl) rfl rfl hl.1 rfl (lv_room (Nat.le_of_ble_eq_true rfl)) dX12_act_25 ⟨(Nat.le_of_ble_eq_true rfl), (Nat.le_of_ble_eq_true rfl)⟩) hP hD hS hA [0, 1, 2] [] rfl rfl (by decide) (by decide) (fun  u5 H locs p6 hP hD hS => ?_)
  obtain ⟨ksnapsG_7, rfl⟩ : ∃ z, z = u5 := ⟨_, rfl⟩
  refine W.widen (k := 0) (n := 0) (Nat.le_of_ble_eq_true rfl) (Nat.le_of_ble_eq_true rfl) ?_
  have hP : va_P (dC, dI) vwCl [(o, .inr (12, [.int kthrown, .ref ktape, .int ktaped, .int ksize, .int klimit, .int kto, .int kfrom, .int kkind, .int knumber, .int ksign, .int kfault, .int kplace, .long kword, .int ktold, .ref know, .ref kread, .ref kkept, .ref ksnaps, .ref kaside, .ref kname, .ref kreadName, .ref kkeptName, .ref kisKept, .ref konces, .int (nI 1), .int khasCells, .ref kpoured, .ref kfar, .ref ksides, .int ksideMany, .int kwayDays, .int khasWay, .ref klines, .ref kmet, .int kmetMany, .ref ksunk, .ref ktrying, .int ksunkMany, .int ksending, .int kfleets, .ref ktext, .int ktexts, .int kseed, .ref kline, .ref kwritten, .int klineMany, .int khasWritten, .ref knode, .int knodes, .int konesMany, .int kwithin, .int ktop])), (know, .inl (ky 0, 373, .inl knowF)), (ksnaps, .inl (ky 0, 512, .inl ksnapsG_7))] H := hP
  have hD : va_D A [(o, .inr (12, [.int kthrown, .ref ktape, .int ktaped, .int ksize, .int klimit, .int kto, .int kfrom, .int kkind, .int knumber, .int ksign, .int kfault, .int kplace, .long kword, .int ktold, .ref know, .ref kread, .ref kkept, .ref ksnaps, .ref kaside, .ref kname, .ref kreadName, .ref kkeptName, .ref kisKept, .ref konces, .int (nI 1), .int khasCells, .ref kpoured, .ref kfar, .ref ksides, .int ksideMany, .int kwayDays, .int khasWay, .ref klines, .ref kmet, .int kmetMany, .ref ksunk, .ref ktrying, .int ksunkMany, .int ksending, .int kfleets, .ref ktext, .int ktexts, .int kseed, .ref kline, .ref kwritten, .int klineMany, .int khasWritten, .ref knode, .int knodes, .int konesMany, .int kwithin, .int ktop])), (know, .inl (ky 0, 373, .inl knowF)), (ksnaps, .inl (ky 0, 512, .inl ksnapsG_7))] := hD
  refine lv_aload_n hx hb dX12_act_28 rfl (lv_at hl 1 rfl) ?_
  refine lv_iload_n hx hb dX12_act_29 rfl (lv_at hl 2 rfl) ?_
  refine lv_iload_n hx hb dX12_act_30 rfl (lv_at hl 3 rfl) ?_
  refine lv_iload_n hx hb dX12_act_31 rfl (lv_at hl 4 rfl) ?_
  refine r_call_v (wr := [(ksnaps, .inl (ky 0, 512, .inl ksnapsG_7))]) (va_runV (As := [.int (nI 4), .int x, .int y]) (rest := []) ⟨hx, hb, hml, hown, hts⟩ (c_m_live4 l dC dI ky H.size o kthrown ktape ktaped ksize klimit kto kfrom kkind knumber ksign kfault kplace kword ktold know kread kkept ksnaps kaside kname kreadName kkeptName kisKept konces (nI 1) khasCells kpoured kfar ksides ksideMany kwayDays khasWay klines kmet kmetMany ksunk ktrying ksunkMany ksending kfleets ktext ktexts kseed kline kwritten klineMany khasWritten knode knodes konesMany kwithin ktop knowF x y) (cwV 3 hts gX12_act_X12_live rfl rfl rfl (by decide +kernel) ⟨(Nat.le_of_ble_eq_true rfl), (Nat.le_of_ble_eq_true rfl)⟩) (pre_UV hK hP hD [0, 1] (by decide) rfl (ci := 12) (q0 := 0) rfl rfl) rfl rfl hl.1 rfl (lv_room (Nat.le_of_ble_eq_true rfl)) dX12_act_32 ⟨(Nat.le_of_ble_eq_true rfl), (Nat.le_of_ble_eq_true rfl)⟩) hP hD hS hA [0, 1] [2] rfl rfl (by decide) (by decide) (fun  u8 H locs p9 hP hD hS => ?_)
  refine W.widen (k := 0) (n := 0) (Nat.le_of_ble_eq_true rfl) (Nat.le_of_ble_eq_true rfl) ?_
  have hP : va_P (dC, dI) vwCl [(ksnaps, .inl (ky 0, 512, .inl ksnapsG_7))] H := hP
  have hD : va_D A [(ksnaps, .inl (ky 0, 512, .inl ksnapsG_7))] := hD
  refine lv_iconst (v := nI 0) hx hb dX12_act_35 (by decide) ?_
  have hP9 := hP.sub (ws' := []) [] rfl
  have hD9 := hD.sub (ws' := []) [] (by decide) rfl
  refine W.widen (k := 0) (n := 0) (Nat.le_of_ble_eq_true rfl) (Nat.le_of_ble_eq_true rfl) ?_
  exact W.iret (v := nI 0) hx hb hr (fun t ht9 hW9 => ⟨⟨nI 0, (), rfl, rfl, by rw [ht9]; exact hP9, va_K.moved hW9.alike hK, hD9⟩, hS.F ht9⟩) hS.2.2 dX12_act_36
