theorem dX12_thick_0 : decode cX12_thick 0 = .ok (.aload_n 0, 1) := by decide +kernel
theorem dX12_thick_1 : decode cX12_thick 1 = .ok (.iconst 0, 1) := by decide +kernel
theorem dX12_thick_2 : decode cX12_thick 2 = .ok (.putfield 1, 3) := by decide +kernel
theorem dX12_thick_5 : decode cX12_thick 5 = .ok (.aload_n 0, 1) := by decide +kernel
theorem dX12_thick_6 : decode cX12_thick 6 = .ok (.iload_n 1, 1) := by decide +kernel
theorem dX12_thick_7 : decode cX12_thick 7 = .ok (.iload_n 2, 1) := by decide +kernel
theorem dX12_thick_8 : decode cX12_thick 8 = .ok (.invokevirtual 252, 3) := by decide +kernel
theorem dX12_thick_11 : decode cX12_thick 11 = .ok (.ifCond .eq 20, 3) := by decide +kernel
theorem dX12_thick_14 : decode cX12_thick 14 = .ok (.aload_n 0, 1) := by decide +kernel
theorem dX12_thick_15 : decode cX12_thick 15 = .ok (.getfield 98, 3) := by decide +kernel
theorem dX12_thick_18 : decode cX12_thick 18 = .ok (.bipush 71, 2) := by decide +kernel
theorem dX12_thick_20 : decode cX12_thick 20 = .ok (.bipush 6, 2) := by decide +kernel
theorem dX12_thick_22 : decode cX12_thick 22 = .ok (.iload_n 2, 1) := by decide +kernel
theorem dX12_thick_23 : decode cX12_thick 23 = .ok (.imul, 1) := by decide +kernel
theorem dX12_thick_24 : decode cX12_thick 24 = .ok (.iadd, 1) := by decide +kernel
theorem dX12_thick_25 : decode cX12_thick 25 = .ok (.iload_n 1, 1) := by decide +kernel
theorem dX12_thick_26 : decode cX12_thick 26 = .ok (.iadd, 1) := by decide +kernel
theorem dX12_thick_27 : decode cX12_thick 27 = .ok (.iaload, 1) := by decide +kernel
theorem dX12_thick_28 : decode cX12_thick 28 = .ok (.goto 4, 3) := by decide +kernel
theorem dX12_thick_32 : decode cX12_thick 32 = .ok (.ireturn, 1) := by decide +kernel
theorem dX12_thick_31 : decode cX12_thick 31 = .ok (.iconst (-1), 1) := by decide +kernel
theorem dX12_lump_0 : decode cX12_lump 0 = .ok (.aload_n 0, 1) := by decide +kernel
theorem dX12_lump_1 : decode cX12_lump 1 = .ok (.iconst 0, 1) := by decide +kernel
theorem dX12_lump_2 : decode cX12_lump 2 = .ok (.putfield 1, 3) := by decide +kernel
theorem dX12_lump_5 : decode cX12_lump 5 = .ok (.aload_n 0, 1) := by decide +kernel
theorem dX12_lump_6 : decode cX12_lump 6 = .ok (.iload_n 1, 1) := by decide +kernel
theorem dX12_lump_7 : decode cX12_lump 7 = .ok (.invokevirtual 257, 3) := by decide +kernel
theorem dX12_lump_10 : decode cX12_lump 10 = .ok (.ifCond .eq 12, 3) := by decide +kernel
theorem dX12_lump_13 : decode cX12_lump 13 = .ok (.iload_n 2, 1) := by decide +kernel
theorem dX12_lump_14 : decode cX12_lump 14 = .ok (.iconst 0, 1) := by decide +kernel
theorem dX12_lump_15 : decode cX12_lump 15 = .ok (.iconst 1, 1) := by decide +kernel
theorem dX12_lump_16 : decode cX12_lump 16 = .ok (.invokestatic 75, 3) := by decide +kernel
theorem dX12_lump_19 : decode cX12_lump 19 = .ok (.ifCond .ne 5, 3) := by decide +kernel
theorem dX12_lump_24 : decode cX12_lump 24 = .ok (.iload_n 2, 1) := by decide +kernel
theorem dX12_lump_25 : decode cX12_lump 25 = .ok (.ifCond .ne 18, 3) := by decide +kernel
theorem dX12_lump_43 : decode cX12_lump 43 = .ok (.aload_n 0, 1) := by decide +kernel
theorem dX12_lump_44 : decode cX12_lump 44 = .ok (.getfield 98, 3) := by decide +kernel
theorem dX12_lump_47 : decode cX12_lump 47 = .ok (.bipush 107, 2) := by decide +kernel
theorem dX12_lump_49 : decode cX12_lump 49 = .ok (.iload_n 1, 1) := by decide +kernel
theorem dX12_lump_50 : decode cX12_lump 50 = .ok (.iadd, 1) := by decide +kernel
theorem dX12_lump_51 : decode cX12_lump 51 = .ok (.iaload, 1) := by decide +kernel
theorem dX12_lump_52 : decode cX12_lump 52 = .ok (.bipush 6, 2) := by decide +kernel
theorem dX12_lump_54 : decode cX12_lump 54 = .ok (.idiv, 1) := by decide +kernel
theorem dX12_lump_55 : decode cX12_lump 55 = .ok (.ireturn, 1) := by decide +kernel
theorem dX12_lump_28 : decode cX12_lump 28 = .ok (.aload_n 0, 1) := by decide +kernel
theorem dX12_lump_29 : decode cX12_lump 29 = .ok (.getfield 98, 3) := by decide +kernel
theorem dX12_lump_32 : decode cX12_lump 32 = .ok (.bipush 107, 2) := by decide +kernel
theorem dX12_lump_34 : decode cX12_lump 34 = .ok (.iload_n 1, 1) := by decide +kernel
theorem dX12_lump_35 : decode cX12_lump 35 = .ok (.iadd, 1) := by decide +kernel
theorem dX12_lump_36 : decode cX12_lump 36 = .ok (.iaload, 1) := by decide +kernel
theorem dX12_lump_37 : decode cX12_lump 37 = .ok (.bipush 6, 2) := by decide +kernel
theorem dX12_lump_39 : decode cX12_lump 39 = .ok (.irem, 1) := by decide +kernel
theorem dX12_lump_40 : decode cX12_lump 40 = .ok (.goto 15, 3) := by decide +kernel
theorem dX12_lump_22 : decode cX12_lump 22 = .ok (.iconst (-1), 1) := by decide +kernel
theorem dX12_lump_23 : decode cX12_lump 23 = .ok (.ireturn, 1) := by decide +kernel
theorem dX12_boat_0 : decode cX12_boat 0 = .ok (.aload_n 0, 1) := by decide +kernel
theorem dX12_boat_1 : decode cX12_boat 1 = .ok (.iconst 0, 1) := by decide +kernel
theorem dX12_boat_2 : decode cX12_boat 2 = .ok (.putfield 1, 3) := by decide +kernel
theorem dX12_boat_5 : decode cX12_boat 5 = .ok (.aload_n 0, 1) := by decide +kernel
theorem dX12_boat_6 : decode cX12_boat 6 = .ok (.iload_n 1, 1) := by decide +kernel
theorem dX12_boat_7 : decode cX12_boat 7 = .ok (.invokevirtual 260, 3) := by decide +kernel
theorem dX12_boat_10 : decode cX12_boat 10 = .ok (.ifCond .ne 8, 3) := by decide +kernel
theorem dX12_boat_18 : decode cX12_boat 18 = .ok (.iload_n 2, 1) := by decide +kernel
theorem dX12_boat_19 : decode cX12_boat 19 = .ok (.tableswitch 139 0 7 #[45, 58, 71, 81, 91, 101, 111, 125], 45) := by decide +kernel
theorem dX12_boat_158 : decode cX12_boat 158 = .ok (.aload_n 0, 1) := by decide +kernel
theorem dX12_boat_159 : decode cX12_boat 159 = .ok (.invokevirtual 263, 3) := by decide +kernel
theorem dX12_boat_162 : decode cX12_boat 162 = .ok (.ireturn, 1) := by decide +kernel
theorem dX12_boat_64 : decode cX12_boat 64 = .ok (.aload_n 0, 1) := by decide +kernel
theorem dX12_boat_65 : decode cX12_boat 65 = .ok (.getfield 98, 3) := by decide +kernel
theorem dX12_boat_68 : decode cX12_boat 68 = .ok (.bipush 113, 2) := by decide +kernel
theorem dX12_boat_70 : decode cX12_boat 70 = .ok (.iload_n 1, 1) := by decide +kernel
theorem dX12_boat_71 : decode cX12_boat 71 = .ok (.iadd, 1) := by decide +kernel
theorem dX12_boat_72 : decode cX12_boat 72 = .ok (.iaload, 1) := by decide +kernel
theorem dX12_boat_73 : decode cX12_boat 73 = .ok (.bipush 6, 2) := by decide +kernel
theorem dX12_boat_75 : decode cX12_boat 75 = .ok (.irem, 1) := by decide +kernel
theorem dX12_boat_76 : decode cX12_boat 76 = .ok (.ireturn, 1) := by decide +kernel
theorem dX12_boat_77 : decode cX12_boat 77 = .ok (.aload_n 0, 1) := by decide +kernel
theorem dX12_boat_78 : decode cX12_boat 78 = .ok (.getfield 98, 3) := by decide +kernel
theorem dX12_boat_81 : decode cX12_boat 81 = .ok (.bipush 113, 2) := by decide +kernel
theorem dX12_boat_83 : decode cX12_boat 83 = .ok (.iload_n 1, 1) := by decide +kernel
theorem dX12_boat_84 : decode cX12_boat 84 = .ok (.iadd, 1) := by decide +kernel
theorem dX12_boat_85 : decode cX12_boat 85 = .ok (.iaload, 1) := by decide +kernel
theorem dX12_boat_86 : decode cX12_boat 86 = .ok (.bipush 6, 2) := by decide +kernel
theorem dX12_boat_88 : decode cX12_boat 88 = .ok (.idiv, 1) := by decide +kernel
theorem dX12_boat_89 : decode cX12_boat 89 = .ok (.ireturn, 1) := by decide +kernel
theorem dX12_boat_90 : decode cX12_boat 90 = .ok (.aload_n 0, 1) := by decide +kernel
theorem dX12_boat_91 : decode cX12_boat 91 = .ok (.getfield 98, 3) := by decide +kernel
theorem dX12_boat_94 : decode cX12_boat 94 = .ok (.bipush 55, 2) := by decide +kernel
theorem dX12_boat_96 : decode cX12_boat 96 = .ok (.iload_n 1, 1) := by decide +kernel
theorem dX12_boat_97 : decode cX12_boat 97 = .ok (.iadd, 1) := by decide +kernel
theorem dX12_boat_98 : decode cX12_boat 98 = .ok (.iaload, 1) := by decide +kernel
theorem dX12_boat_99 : decode cX12_boat 99 = .ok (.ireturn, 1) := by decide +kernel
theorem dX12_boat_100 : decode cX12_boat 100 = .ok (.aload_n 0, 1) := by decide +kernel
theorem dX12_boat_101 : decode cX12_boat 101 = .ok (.getfield 98, 3) := by decide +kernel
theorem dX12_boat_104 : decode cX12_boat 104 = .ok (.bipush 61, 2) := by decide +kernel
theorem dX12_boat_106 : decode cX12_boat 106 = .ok (.iload_n 1, 1) := by decide +kernel
theorem dX12_boat_107 : decode cX12_boat 107 = .ok (.iadd, 1) := by decide +kernel
theorem dX12_boat_108 : decode cX12_boat 108 = .ok (.iaload, 1) := by decide +kernel
theorem dX12_boat_109 : decode cX12_boat 109 = .ok (.ireturn, 1) := by decide +kernel
theorem dX12_boat_110 : decode cX12_boat 110 = .ok (.aload_n 0, 1) := by decide +kernel
theorem dX12_boat_111 : decode cX12_boat 111 = .ok (.getfield 98, 3) := by decide +kernel
theorem dX12_boat_114 : decode cX12_boat 114 = .ok (.bipush 119, 2) := by decide +kernel
theorem dX12_boat_116 : decode cX12_boat 116 = .ok (.iload_n 1, 1) := by decide +kernel
theorem dX12_boat_117 : decode cX12_boat 117 = .ok (.iadd, 1) := by decide +kernel
theorem dX12_boat_118 : decode cX12_boat 118 = .ok (.iaload, 1) := by decide +kernel
theorem dX12_boat_119 : decode cX12_boat 119 = .ok (.ireturn, 1) := by decide +kernel
theorem dX12_boat_120 : decode cX12_boat 120 = .ok (.aload_n 0, 1) := by decide +kernel
theorem dX12_boat_121 : decode cX12_boat 121 = .ok (.getfield 98, 3) := by decide +kernel
theorem dX12_boat_124 : decode cX12_boat 124 = .ok (.bipush 125, 2) := by decide +kernel
theorem dX12_boat_126 : decode cX12_boat 126 = .ok (.iload_n 1, 1) := by decide +kernel
theorem dX12_boat_127 : decode cX12_boat 127 = .ok (.iadd, 1) := by decide +kernel
theorem dX12_boat_128 : decode cX12_boat 128 = .ok (.iaload, 1) := by decide +kernel
theorem dX12_boat_129 : decode cX12_boat 129 = .ok (.ireturn, 1) := by decide +kernel
theorem dX12_boat_130 : decode cX12_boat 130 = .ok (.aload_n 0, 1) := by decide +kernel
theorem dX12_boat_131 : decode cX12_boat 131 = .ok (.iload_n 1, 1) := by decide +kernel
theorem dX12_boat_132 : decode cX12_boat 132 = .ok (.invokevirtual 246, 3) := by decide +kernel
theorem dX12_boat_135 : decode cX12_boat 135 = .ok (.ifCond .eq 7, 3) := by decide +kernel
theorem dX12_boat_142 : decode cX12_boat 142 = .ok (.iconst 0, 1) := by decide +kernel
theorem dX12_boat_143 : decode cX12_boat 143 = .ok (.ireturn, 1) := by decide +kernel
theorem dX12_boat_138 : decode cX12_boat 138 = .ok (.iconst 1, 1) := by decide +kernel
theorem dX12_boat_139 : decode cX12_boat 139 = .ok (.goto 4, 3) := by decide +kernel
theorem dX12_boat_144 : decode cX12_boat 144 = .ok (.aload_n 0, 1) := by decide +kernel
theorem dX12_boat_145 : decode cX12_boat 145 = .ok (.iload_n 1, 1) := by decide +kernel
theorem dX12_boat_146 : decode cX12_boat 146 = .ok (.invokevirtual 266, 3) := by decide +kernel
theorem dX12_boat_149 : decode cX12_boat 149 = .ok (.ifCond .eq 7, 3) := by decide +kernel
theorem dX12_boat_156 : decode cX12_boat 156 = .ok (.iconst 0, 1) := by decide +kernel
theorem dX12_boat_157 : decode cX12_boat 157 = .ok (.ireturn, 1) := by decide +kernel
theorem dX12_boat_152 : decode cX12_boat 152 = .ok (.iconst 1, 1) := by decide +kernel
theorem dX12_boat_153 : decode cX12_boat 153 = .ok (.goto 4, 3) := by decide +kernel
theorem dX12_boat_13 : decode cX12_boat 13 = .ok (.aload_n 0, 1) := by decide +kernel
theorem dX12_boat_14 : decode cX12_boat 14 = .ok (.invokevirtual 263, 3) := by decide +kernel
theorem dX12_boat_17 : decode cX12_boat 17 = .ok (.ireturn, 1) := by decide +kernel
theorem dX12_eaten_0 : decode cX12_eaten 0 = .ok (.iconst 0, 1) := by decide +kernel
theorem dX12_eaten_1 : decode cX12_eaten 1 = .ok (.istore_n 1, 1) := by decide +kernel
theorem dX12_eaten_2 : decode cX12_eaten 2 = .ok (.iconst 0, 1) := by decide +kernel
theorem dX12_eaten_3 : decode cX12_eaten 3 = .ok (.istore_n 2, 1) := by decide +kernel
theorem dX12_eaten_4 : decode cX12_eaten 4 = .ok (.iload_n 2, 1) := by decide +kernel
theorem dX12_eaten_5 : decode cX12_eaten 5 = .ok (.aload_n 0, 1) := by decide +kernel
theorem dX12_eaten_6 : decode cX12_eaten 6 = .ok (.getfield 98, 3) := by decide +kernel
theorem dX12_eaten_9 : decode cX12_eaten 9 = .ok (.iconst 3, 1) := by decide +kernel
theorem dX12_eaten_10 : decode cX12_eaten 10 = .ok (.iaload, 1) := by decide +kernel
theorem dX12_eaten_11 : decode cX12_eaten 11 = .ok (.if_icmp .ge 23, 3) := by decide +kernel
theorem dX12_eaten_34 : decode cX12_eaten 34 = .ok (.iload_n 1, 1) := by decide +kernel
theorem dX12_eaten_35 : decode cX12_eaten 35 = .ok (.ireturn, 1) := by decide +kernel
theorem dX12_eaten_14 : decode cX12_eaten 14 = .ok (.aload_n 0, 1) := by decide +kernel
theorem dX12_eaten_15 : decode cX12_eaten 15 = .ok (.iload_n 2, 1) := by decide +kernel
theorem dX12_eaten_16 : decode cX12_eaten 16 = .ok (.invokevirtual 246, 3) := by decide +kernel
theorem dX12_eaten_19 : decode cX12_eaten 19 = .ok (.ifCond .eq 9, 3) := by decide +kernel
theorem dX12_eaten_28 : decode cX12_eaten 28 = .ok (.iinc 2 1, 3) := by decide +kernel
theorem dX12_eaten_31 : decode cX12_eaten 31 = .ok (.goto (-27), 3) := by decide +kernel
theorem dX12_eaten_22 : decode cX12_eaten 22 = .ok (.iload_n 1, 1) := by decide +kernel
theorem dX12_eaten_23 : decode cX12_eaten 23 = .ok (.iconst 1, 1) := by decide +kernel
theorem dX12_eaten_24 : decode cX12_eaten 24 = .ok (.iload_n 2, 1) := by decide +kernel
theorem dX12_eaten_25 : decode cX12_eaten 25 = .ok (.ishl, 1) := by decide +kernel
theorem dX12_eaten_26 : decode cX12_eaten 26 = .ok (.ior, 1) := by decide +kernel
theorem dX12_eaten_27 : decode cX12_eaten 27 = .ok (.istore_n 1, 1) := by decide +kernel
theorem dX12_now_0 : decode cX12_now 0 = .ok (.aload_n 0, 1) := by decide +kernel
theorem dX12_now_1 : decode cX12_now 1 = .ok (.iconst 0, 1) := by decide +kernel
theorem dX12_now_2 : decode cX12_now 2 = .ok (.putfield 1, 3) := by decide +kernel
theorem dX12_now_5 : decode cX12_now 5 = .ok (.iconst 0, 1) := by decide +kernel
theorem dX12_now_6 : decode cX12_now 6 = .ok (.istore_n 2, 1) := by decide +kernel
theorem dX12_now_7 : decode cX12_now 7 = .ok (.iload_n 1, 1) := by decide +kernel
theorem dX12_now_8 : decode cX12_now 8 = .ok (.tableswitch 160 0 7 #[48, 56, 64, 77, 82, 116, 144, 152], 48) := by decide +kernel
theorem dX12_now_168 : decode cX12_now 168 = .ok (.iconst (-1), 1) := by decide +kernel
theorem dX12_now_169 : decode cX12_now 169 = .ok (.ireturn, 1) := by decide +kernel
theorem dX12_now_56 : decode cX12_now 56 = .ok (.aload_n 0, 1) := by decide +kernel
theorem dX12_now_57 : decode cX12_now 57 = .ok (.getfield 98, 3) := by decide +kernel
theorem dX12_now_60 : decode cX12_now 60 = .ok (.bipush 67, 2) := by decide +kernel
theorem dX12_now_62 : decode cX12_now 62 = .ok (.iaload, 1) := by decide +kernel
theorem dX12_now_63 : decode cX12_now 63 = .ok (.ireturn, 1) := by decide +kernel
theorem dX12_now_64 : decode cX12_now 64 = .ok (.aload_n 0, 1) := by decide +kernel
theorem dX12_now_65 : decode cX12_now 65 = .ok (.getfield 98, 3) := by decide +kernel
theorem dX12_now_68 : decode cX12_now 68 = .ok (.bipush 68, 2) := by decide +kernel
theorem dX12_now_70 : decode cX12_now 70 = .ok (.iaload, 1) := by decide +kernel
theorem dX12_now_71 : decode cX12_now 71 = .ok (.ireturn, 1) := by decide +kernel
theorem dX12_now_72 : decode cX12_now 72 = .ok (.aload_n 0, 1) := by decide +kernel
theorem dX12_now_73 : decode cX12_now 73 = .ok (.invokevirtual 240, 3) := by decide +kernel
theorem dX12_now_76 : decode cX12_now 76 = .ok (.ifCond .eq 7, 3) := by decide +kernel
theorem dX12_now_83 : decode cX12_now 83 = .ok (.iconst 0, 1) := by decide +kernel
theorem dX12_now_84 : decode cX12_now 84 = .ok (.ireturn, 1) := by decide +kernel
theorem dX12_now_79 : decode cX12_now 79 = .ok (.iconst 1, 1) := by decide +kernel
theorem dX12_now_80 : decode cX12_now 80 = .ok (.goto 4, 3) := by decide +kernel
theorem dX12_now_85 : decode cX12_now 85 = .ok (.aload_n 0, 1) := by decide +kernel
theorem dX12_now_86 : decode cX12_now 86 = .ok (.invokevirtual 269, 3) := by decide +kernel
theorem dX12_now_89 : decode cX12_now 89 = .ok (.ireturn, 1) := by decide +kernel
theorem dX12_now_90 : decode cX12_now 90 = .ok (.iconst 0, 1) := by decide +kernel
theorem dX12_now_91 : decode cX12_now 91 = .ok (.istore_n 3, 1) := by decide +kernel
theorem dX12_now_92 : decode cX12_now 92 = .ok (.iload_n 3, 1) := by decide +kernel
theorem dX12_now_93 : decode cX12_now 93 = .ok (.aload_n 0, 1) := by decide +kernel
theorem dX12_now_94 : decode cX12_now 94 = .ok (.getfield 98, 3) := by decide +kernel
theorem dX12_now_97 : decode cX12_now 97 = .ok (.iconst 3, 1) := by decide +kernel
theorem dX12_now_98 : decode cX12_now 98 = .ok (.iaload, 1) := by decide +kernel
theorem dX12_now_99 : decode cX12_now 99 = .ok (.if_icmp .ge 23, 3) := by decide +kernel
theorem dX12_now_122 : decode cX12_now 122 = .ok (.iload_n 2, 1) := by decide +kernel
theorem dX12_now_123 : decode cX12_now 123 = .ok (.ireturn, 1) := by decide +kernel
theorem dX12_now_102 : decode cX12_now 102 = .ok (.aload_n 0, 1) := by decide +kernel
theorem dX12_now_103 : decode cX12_now 103 = .ok (.iload_n 3, 1) := by decide +kernel
theorem dX12_now_104 : decode cX12_now 104 = .ok (.invokevirtual 266, 3) := by decide +kernel
theorem dX12_now_107 : decode cX12_now 107 = .ok (.ifCond .eq 9, 3) := by decide +kernel
theorem dX12_now_116 : decode cX12_now 116 = .ok (.iinc 3 1, 3) := by decide +kernel
theorem dX12_now_119 : decode cX12_now 119 = .ok (.goto (-27), 3) := by decide +kernel
theorem dX12_now_110 : decode cX12_now 110 = .ok (.iload_n 2, 1) := by decide +kernel
theorem dX12_now_111 : decode cX12_now 111 = .ok (.iconst 1, 1) := by decide +kernel
theorem dX12_now_112 : decode cX12_now 112 = .ok (.iload_n 3, 1) := by decide +kernel
theorem dX12_now_113 : decode cX12_now 113 = .ok (.ishl, 1) := by decide +kernel
theorem dX12_now_114 : decode cX12_now 114 = .ok (.ior, 1) := by decide +kernel
theorem dX12_now_115 : decode cX12_now 115 = .ok (.istore_n 2, 1) := by decide +kernel
theorem dX12_now_124 : decode cX12_now 124 = .ok (.iconst 0, 1) := by decide +kernel
theorem dX12_now_125 : decode cX12_now 125 = .ok (.istore_n 3, 1) := by decide +kernel
theorem dX12_now_126 : decode cX12_now 126 = .ok (.iload_n 3, 1) := by decide +kernel
theorem dX12_now_127 : decode cX12_now 127 = .ok (.bipush 36, 2) := by decide +kernel
theorem dX12_now_129 : decode cX12_now 129 = .ok (.if_icmp .ge 21, 3) := by decide +kernel
theorem dX12_now_132 : decode cX12_now 132 = .ok (.iload_n 2, 1) := by decide +kernel
theorem dX12_now_133 : decode cX12_now 133 = .ok (.aload_n 0, 1) := by decide +kernel
theorem dX12_now_134 : decode cX12_now 134 = .ok (.getfield 98, 3) := by decide +kernel
theorem dX12_now_137 : decode cX12_now 137 = .ok (.bipush 71, 2) := by decide +kernel
theorem dX12_now_139 : decode cX12_now 139 = .ok (.iload_n 3, 1) := by decide +kernel
theorem dX12_now_140 : decode cX12_now 140 = .ok (.iadd, 1) := by decide +kernel
theorem dX12_now_141 : decode cX12_now 141 = .ok (.iaload, 1) := by decide +kernel
theorem dX12_now_142 : decode cX12_now 142 = .ok (.iadd, 1) := by decide +kernel
theorem dX12_now_143 : decode cX12_now 143 = .ok (.istore_n 2, 1) := by decide +kernel
theorem dX12_now_144 : decode cX12_now 144 = .ok (.iinc 3 1, 3) := by decide +kernel
theorem dX12_now_147 : decode cX12_now 147 = .ok (.goto (-21), 3) := by decide +kernel
theorem dX12_now_150 : decode cX12_now 150 = .ok (.iload_n 2, 1) := by decide +kernel
theorem dX12_now_151 : decode cX12_now 151 = .ok (.ireturn, 1) := by decide +kernel
theorem dX12_now_152 : decode cX12_now 152 = .ok (.aload_n 0, 1) := by decide +kernel
theorem dX12_now_153 : decode cX12_now 153 = .ok (.getfield 98, 3) := by decide +kernel
theorem dX12_now_156 : decode cX12_now 156 = .ok (.bipush 69, 2) := by decide +kernel
theorem dX12_now_158 : decode cX12_now 158 = .ok (.iaload, 1) := by decide +kernel
theorem dX12_now_159 : decode cX12_now 159 = .ok (.ireturn, 1) := by decide +kernel
theorem dX12_now_160 : decode cX12_now 160 = .ok (.aload_n 0, 1) := by decide +kernel
theorem dX12_now_161 : decode cX12_now 161 = .ok (.getfield 98, 3) := by decide +kernel
theorem dX12_now_164 : decode cX12_now 164 = .ok (.bipush 70, 2) := by decide +kernel
theorem dX12_now_166 : decode cX12_now 166 = .ok (.iaload, 1) := by decide +kernel
theorem dX12_now_167 : decode cX12_now 167 = .ok (.ireturn, 1) := by decide +kernel
theorem dX12_isLine_0 : decode cX12_isLine 0 = .ok (.iload_n 1, 1) := by decide +kernel
theorem dX12_isLine_1 : decode cX12_isLine 1 = .ok (.bipush 12, 2) := by decide +kernel
theorem dX12_isLine_3 : decode cX12_isLine 3 = .ok (.irem, 1) := by decide +kernel
theorem dX12_isLine_4 : decode cX12_isLine 4 = .ok (.iconst 2, 1) := by decide +kernel
theorem dX12_isLine_5 : decode cX12_isLine 5 = .ok (.idiv, 1) := by decide +kernel
theorem dX12_isLine_6 : decode cX12_isLine 6 = .ok (.aload_n 0, 1) := by decide +kernel
theorem dX12_isLine_7 : decode cX12_isLine 7 = .ok (.getfield 98, 3) := by decide +kernel
theorem dX12_isLine_10 : decode cX12_isLine 10 = .ok (.iload_n 1, 1) := by decide +kernel
theorem dX12_isLine_11 : decode cX12_isLine 11 = .ok (.bipush 12, 2) := by decide +kernel
theorem dX12_isLine_13 : decode cX12_isLine 13 = .ok (.if_icmp .lt 7, 3) := by decide +kernel
theorem dX12_isLine_20 : decode cX12_isLine 20 = .ok (.iconst 1, 1) := by decide +kernel
theorem dX12_isLine_21 : decode cX12_isLine 21 = .ok (.iaload, 1) := by decide +kernel
theorem dX12_isLine_22 : decode cX12_isLine 22 = .ok (.if_icmp .ge 7, 3) := by decide +kernel
theorem dX12_isLine_29 : decode cX12_isLine 29 = .ok (.iconst 0, 1) := by decide +kernel
theorem dX12_isLine_30 : decode cX12_isLine 30 = .ok (.ireturn, 1) := by decide +kernel
theorem dX12_isLine_25 : decode cX12_isLine 25 = .ok (.iconst 1, 1) := by decide +kernel
theorem dX12_isLine_26 : decode cX12_isLine 26 = .ok (.goto 4, 3) := by decide +kernel
theorem dX12_isLine_16 : decode cX12_isLine 16 = .ok (.iconst 0, 1) := by decide +kernel
theorem dX12_isLine_17 : decode cX12_isLine 17 = .ok (.goto 4, 3) := by decide +kernel
theorem dX12_stirred_0 : decode cX12_stirred 0 = .ok (.iload_n 1, 1) := by decide +kernel
theorem dX12_stirred_1 : decode cX12_stirred 1 = .ok (.bipush 6, 2) := by decide +kernel
theorem dX12_stirred_3 : decode cX12_stirred 3 = .ok (.irem, 1) := by decide +kernel
theorem dX12_stirred_4 : decode cX12_stirred 4 = .ok (.istore_n 3, 1) := by decide +kernel
theorem dX12_stirred_5 : decode cX12_stirred 5 = .ok (.iload_n 1, 1) := by decide +kernel
theorem dX12_stirred_6 : decode cX12_stirred 6 = .ok (.bipush 6, 2) := by decide +kernel
theorem dX12_stirred_8 : decode cX12_stirred 8 = .ok (.idiv, 1) := by decide +kernel
theorem dX12_stirred_9 : decode cX12_stirred 9 = .ok (.istore 4, 2) := by decide +kernel
theorem dX12_stirred_11 : decode cX12_stirred 11 = .ok (.iload_n 2, 1) := by decide +kernel
theorem dX12_stirred_12 : decode cX12_stirred 12 = .ok (.bipush 12, 2) := by decide +kernel
theorem dX12_stirred_14 : decode cX12_stirred 14 = .ok (.if_icmp .lt 7, 3) := by decide +kernel
theorem dX12_stirred_21 : decode cX12_stirred 21 = .ok (.iconst 0, 1) := by decide +kernel
theorem dX12_stirred_22 : decode cX12_stirred 22 = .ok (.istore 5, 2) := by decide +kernel
theorem dX12_stirred_24 : decode cX12_stirred 24 = .ok (.iload 5, 2) := by decide +kernel
theorem dX12_stirred_26 : decode cX12_stirred 26 = .ok (.ifCond .eq 7, 3) := by decide +kernel
theorem dX12_stirred_33 : decode cX12_stirred 33 = .ok (.iload 4, 2) := by decide +kernel
theorem dX12_stirred_35 : decode cX12_stirred 35 = .ok (.iload_n 2, 1) := by decide +kernel
theorem dX12_stirred_36 : decode cX12_stirred 36 = .ok (.bipush 12, 2) := by decide +kernel
theorem dX12_stirred_38 : decode cX12_stirred 38 = .ok (.irem, 1) := by decide +kernel
theorem dX12_stirred_39 : decode cX12_stirred 39 = .ok (.iconst 2, 1) := by decide +kernel
theorem dX12_stirred_40 : decode cX12_stirred 40 = .ok (.idiv, 1) := by decide +kernel
theorem dX12_stirred_41 : decode cX12_stirred 41 = .ok (.if_icmp .eq 5, 3) := by decide +kernel
theorem dX12_stirred_46 : decode cX12_stirred 46 = .ok (.aload_n 0, 1) := by decide +kernel
theorem dX12_stirred_47 : decode cX12_stirred 47 = .ok (.getfield 98, 3) := by decide +kernel
theorem dX12_stirred_50 : decode cX12_stirred 50 = .ok (.iload 5, 2) := by decide +kernel
theorem dX12_stirred_52 : decode cX12_stirred 52 = .ok (.ifCond .eq 7, 3) := by decide +kernel
theorem dX12_stirred_59 : decode cX12_stirred 59 = .ok (.iconst 0, 1) := by decide +kernel
theorem dX12_stirred_60 : decode cX12_stirred 60 = .ok (.iaload, 1) := by decide +kernel
theorem dX12_stirred_61 : decode cX12_stirred 61 = .ok (.istore 6, 2) := by decide +kernel
theorem dX12_stirred_63 : decode cX12_stirred 63 = .ok (.iload 5, 2) := by decide +kernel
theorem dX12_stirred_65 : decode cX12_stirred 65 = .ok (.ifCond .eq 8, 3) := by decide +kernel
theorem dX12_stirred_73 : decode cX12_stirred 73 = .ok (.iload_n 3, 1) := by decide +kernel
theorem dX12_stirred_74 : decode cX12_stirred 74 = .ok (.iload_n 2, 1) := by decide +kernel
theorem dX12_stirred_75 : decode cX12_stirred 75 = .ok (.iconst 2, 1) := by decide +kernel
theorem dX12_stirred_76 : decode cX12_stirred 76 = .ok (.irem, 1) := by decide +kernel
theorem dX12_stirred_77 : decode cX12_stirred 77 = .ok (.ifCond .ne 7, 3) := by decide +kernel
theorem dX12_stirred_84 : decode cX12_stirred 84 = .ok (.iload 6, 2) := by decide +kernel
theorem dX12_stirred_86 : decode cX12_stirred 86 = .ok (.iconst 1, 1) := by decide +kernel
theorem dX12_stirred_87 : decode cX12_stirred 87 = .ok (.isub, 1) := by decide +kernel
theorem dX12_stirred_88 : decode cX12_stirred 88 = .ok (.iadd, 1) := by decide +kernel
theorem dX12_stirred_89 : decode cX12_stirred 89 = .ok (.iload 6, 2) := by decide +kernel
theorem dX12_stirred_91 : decode cX12_stirred 91 = .ok (.irem, 1) := by decide +kernel
theorem dX12_stirred_92 : decode cX12_stirred 92 = .ok (.istore 7, 2) := by decide +kernel
theorem dX12_stirred_94 : decode cX12_stirred 94 = .ok (.iload 5, 2) := by decide +kernel
theorem dX12_stirred_96 : decode cX12_stirred 96 = .ok (.ifCond .eq 13, 3) := by decide +kernel
theorem dX12_stirred_109 : decode cX12_stirred 109 = .ok (.bipush 6, 2) := by decide +kernel
theorem dX12_stirred_111 : decode cX12_stirred 111 = .ok (.iload 4, 2) := by decide +kernel
theorem dX12_stirred_113 : decode cX12_stirred 113 = .ok (.imul, 1) := by decide +kernel
theorem dX12_stirred_114 : decode cX12_stirred 114 = .ok (.iload 7, 2) := by decide +kernel
theorem dX12_stirred_116 : decode cX12_stirred 116 = .ok (.iadd, 1) := by decide +kernel
theorem dX12_stirred_117 : decode cX12_stirred 117 = .ok (.ireturn, 1) := by decide +kernel
theorem dX12_stirred_80 : decode cX12_stirred 80 = .ok (.iconst 1, 1) := by decide +kernel
theorem dX12_stirred_81 : decode cX12_stirred 81 = .ok (.goto 7, 3) := by decide +kernel
theorem dX12_stirred_44 : decode cX12_stirred 44 = .ok (.iload_n 1, 1) := by decide +kernel
theorem dX12_stirred_45 : decode cX12_stirred 45 = .ok (.ireturn, 1) := by decide +kernel
theorem dX12_stirred_17 : decode cX12_stirred 17 = .ok (.iconst 1, 1) := by decide +kernel
theorem dX12_stirred_18 : decode cX12_stirred 18 = .ok (.goto 4, 3) := by decide +kernel
theorem dX12_stirred_29 : decode cX12_stirred 29 = .ok (.iload_n 3, 1) := by decide +kernel
theorem dX12_stirred_30 : decode cX12_stirred 30 = .ok (.goto 5, 3) := by decide +kernel
theorem dX12_stirred_55 : decode cX12_stirred 55 = .ok (.iconst 1, 1) := by decide +kernel
theorem dX12_stirred_56 : decode cX12_stirred 56 = .ok (.goto 4, 3) := by decide +kernel
theorem dX12_stirred_68 : decode cX12_stirred 68 = .ok (.iload 4, 2) := by decide +kernel
theorem dX12_stirred_70 : decode cX12_stirred 70 = .ok (.goto 4, 3) := by decide +kernel
theorem dX12_stirred_99 : decode cX12_stirred 99 = .ok (.bipush 6, 2) := by decide +kernel
theorem dX12_stirred_101 : decode cX12_stirred 101 = .ok (.iload 7, 2) := by decide +kernel
theorem dX12_stirred_103 : decode cX12_stirred 103 = .ok (.imul, 1) := by decide +kernel
theorem dX12_stirred_104 : decode cX12_stirred 104 = .ok (.iload_n 3, 1) := by decide +kernel
theorem dX12_stirred_105 : decode cX12_stirred 105 = .ok (.iadd, 1) := by decide +kernel
theorem dX12_stirred_106 : decode cX12_stirred 106 = .ok (.goto 11, 3) := by decide +kernel
theorem dX12_fault_0 : decode cX12_fault 0 = .ok (.aload_n 0, 1) := by decide +kernel
theorem dX12_fault_1 : decode cX12_fault 1 = .ok (.iconst 0, 1) := by decide +kernel
theorem dX12_fault_2 : decode cX12_fault 2 = .ok (.putfield 1, 3) := by decide +kernel
theorem dX12_fault_5 : decode cX12_fault 5 = .ok (.aload_n 0, 1) := by decide +kernel
theorem dX12_fault_6 : decode cX12_fault 6 = .ok (.getfield 66, 3) := by decide +kernel
theorem dX12_fault_9 : decode cX12_fault 9 = .ok (.ireturn, 1) := by decide +kernel
theorem dX12_cost_0 : decode cX12_cost 0 = .ok (.aload_n 0, 1) := by decide +kernel
theorem dX12_cost_1 : decode cX12_cost 1 = .ok (.iconst 0, 1) := by decide +kernel
theorem dX12_cost_2 : decode cX12_cost 2 = .ok (.putfield 1, 3) := by decide +kernel
theorem dX12_cost_5 : decode cX12_cost 5 = .ok (.aload_n 0, 1) := by decide +kernel
theorem dX12_cost_6 : decode cX12_cost 6 = .ok (.iload_n 1, 1) := by decide +kernel
theorem dX12_cost_7 : decode cX12_cost 7 = .ok (.iload_n 2, 1) := by decide +kernel
theorem dX12_cost_8 : decode cX12_cost 8 = .ok (.invokevirtual 252, 3) := by decide +kernel
theorem dX12_cost_11 : decode cX12_cost 11 = .ok (.ifCond .eq 16, 3) := by decide +kernel
theorem dX12_cost_14 : decode cX12_cost 14 = .ok (.aload_n 0, 1) := by decide +kernel
theorem dX12_cost_15 : decode cX12_cost 15 = .ok (.bipush 6, 2) := by decide +kernel
theorem dX12_cost_17 : decode cX12_cost 17 = .ok (.iload_n 2, 1) := by decide +kernel
theorem dX12_cost_18 : decode cX12_cost 18 = .ok (.imul, 1) := by decide +kernel
theorem dX12_cost_19 : decode cX12_cost 19 = .ok (.iload_n 1, 1) := by decide +kernel
theorem dX12_cost_20 : decode cX12_cost 20 = .ok (.iadd, 1) := by decide +kernel
theorem dX12_cost_21 : decode cX12_cost 21 = .ok (.invokevirtual 276, 3) := by decide +kernel
theorem dX12_cost_24 : decode cX12_cost 24 = .ok (.goto 4, 3) := by decide +kernel
theorem dX12_cost_28 : decode cX12_cost 28 = .ok (.ireturn, 1) := by decide +kernel
theorem dX12_cost_27 : decode cX12_cost 27 = .ok (.iconst (-1), 1) := by decide +kernel
theorem dX12_skin_0 : decode cX12_skin 0 = .ok (.aload_n 0, 1) := by decide +kernel
theorem dX12_skin_1 : decode cX12_skin 1 = .ok (.iconst 0, 1) := by decide +kernel
theorem dX12_skin_2 : decode cX12_skin 2 = .ok (.putfield 1, 3) := by decide +kernel
theorem dX12_skin_5 : decode cX12_skin 5 = .ok (.aload_n 0, 1) := by decide +kernel
theorem dX12_skin_6 : decode cX12_skin 6 = .ok (.invokevirtual 240, 3) := by decide +kernel
theorem dX12_skin_9 : decode cX12_skin 9 = .ok (.ifCond .eq 5, 3) := by decide +kernel
theorem dX12_skin_14 : decode cX12_skin 14 = .ok (.aload_n 0, 1) := by decide +kernel
theorem dX12_skin_15 : decode cX12_skin 15 = .ok (.getfield 98, 3) := by decide +kernel
theorem dX12_skin_18 : decode cX12_skin 18 = .ok (.iconst 5, 1) := by decide +kernel
theorem dX12_skin_19 : decode cX12_skin 19 = .ok (.iaload, 1) := by decide +kernel
theorem dX12_skin_20 : decode cX12_skin 20 = .ok (.ifCond .ne 5, 3) := by decide +kernel
theorem dX12_skin_25 : decode cX12_skin 25 = .ok (.aload_n 0, 1) := by decide +kernel
theorem dX12_skin_26 : decode cX12_skin 26 = .ok (.getfield 98, 3) := by decide +kernel
theorem dX12_skin_29 : decode cX12_skin 29 = .ok (.bipush 68, 2) := by decide +kernel
theorem dX12_skin_31 : decode cX12_skin 31 = .ok (.iaload, 1) := by decide +kernel
theorem dX12_skin_32 : decode cX12_skin 32 = .ok (.aload_n 0, 1) := by decide +kernel
theorem dX12_skin_33 : decode cX12_skin 33 = .ok (.getfield 98, 3) := by decide +kernel
theorem dX12_skin_36 : decode cX12_skin 36 = .ok (.bipush 6, 2) := by decide +kernel
theorem dX12_skin_38 : decode cX12_skin 38 = .ok (.iaload, 1) := by decide +kernel
theorem dX12_skin_39 : decode cX12_skin 39 = .ok (.isub, 1) := by decide +kernel
theorem dX12_skin_40 : decode cX12_skin 40 = .ok (.aload_n 0, 1) := by decide +kernel
theorem dX12_skin_41 : decode cX12_skin 41 = .ok (.getfield 98, 3) := by decide +kernel
theorem dX12_skin_44 : decode cX12_skin 44 = .ok (.iconst 5, 1) := by decide +kernel
theorem dX12_skin_45 : decode cX12_skin 45 = .ok (.iaload, 1) := by decide +kernel
theorem dX12_skin_46 : decode cX12_skin 46 = .ok (.iadd, 1) := by decide +kernel
theorem dX12_skin_47 : decode cX12_skin 47 = .ok (.iconst 1, 1) := by decide +kernel
theorem dX12_skin_48 : decode cX12_skin 48 = .ok (.isub, 1) := by decide +kernel
theorem dX12_skin_49 : decode cX12_skin 49 = .ok (.aload_n 0, 1) := by decide +kernel
theorem dX12_skin_50 : decode cX12_skin 50 = .ok (.getfield 98, 3) := by decide +kernel
theorem dX12_skin_53 : decode cX12_skin 53 = .ok (.iconst 5, 1) := by decide +kernel
theorem dX12_skin_54 : decode cX12_skin 54 = .ok (.iaload, 1) := by decide +kernel
theorem dX12_skin_55 : decode cX12_skin 55 = .ok (.idiv, 1) := by decide +kernel
theorem dX12_skin_56 : decode cX12_skin 56 = .ok (.istore_n 1, 1) := by decide +kernel
theorem dX12_skin_57 : decode cX12_skin 57 = .ok (.aload_n 0, 1) := by decide +kernel
theorem dX12_skin_58 : decode cX12_skin 58 = .ok (.getfield 98, 3) := by decide +kernel
theorem dX12_skin_61 : decode cX12_skin 61 = .ok (.bipush 67, 2) := by decide +kernel
theorem dX12_skin_63 : decode cX12_skin 63 = .ok (.iaload, 1) := by decide +kernel
theorem dX12_skin_64 : decode cX12_skin 64 = .ok (.iload_n 1, 1) := by decide +kernel
theorem dX12_skin_65 : decode cX12_skin 65 = .ok (.iadd, 1) := by decide +kernel
theorem dX12_skin_66 : decode cX12_skin 66 = .ok (.sipush 400, 3) := by decide +kernel
theorem dX12_skin_69 : decode cX12_skin 69 = .ok (.if_icmp .le 7, 3) := by decide +kernel
theorem dX12_skin_76 : decode cX12_skin 76 = .ok (.iload_n 1, 1) := by decide +kernel
theorem dX12_skin_77 : decode cX12_skin 77 = .ok (.ireturn, 1) := by decide +kernel
theorem dX12_skin_72 : decode cX12_skin 72 = .ok (.iconst (-1), 1) := by decide +kernel
theorem dX12_skin_73 : decode cX12_skin 73 = .ok (.goto 4, 3) := by decide +kernel
theorem dX12_skin_23 : decode cX12_skin 23 = .ok (.iconst (-1), 1) := by decide +kernel
theorem dX12_skin_24 : decode cX12_skin 24 = .ok (.ireturn, 1) := by decide +kernel
theorem dX12_skin_12 : decode cX12_skin 12 = .ok (.iconst 0, 1) := by decide +kernel
theorem dX12_skin_13 : decode cX12_skin 13 = .ok (.ireturn, 1) := by decide +kernel
theorem dX12_count_0 : decode cX12_count 0 = .ok (.aload_n 0, 1) := by decide +kernel
theorem dX12_count_1 : decode cX12_count 1 = .ok (.iconst 0, 1) := by decide +kernel
theorem dX12_count_2 : decode cX12_count 2 = .ok (.putfield 1, 3) := by decide +kernel
theorem dX12_count_5 : decode cX12_count 5 = .ok (.iload_n 1, 1) := by decide +kernel
theorem dX12_count_6 : decode cX12_count 6 = .ok (.tableswitch 90 0 6 #[42, 49, 56, 63, 70, 77, 85], 42) := by decide +kernel
theorem dX12_count_96 : decode cX12_count 96 = .ok (.iconst (-1), 1) := by decide +kernel
theorem dX12_count_97 : decode cX12_count 97 = .ok (.ireturn, 1) := by decide +kernel
theorem dX12_count_48 : decode cX12_count 48 = .ok (.aload_n 0, 1) := by decide +kernel
theorem dX12_count_49 : decode cX12_count 49 = .ok (.getfield 98, 3) := by decide +kernel
theorem dX12_count_52 : decode cX12_count 52 = .ok (.iconst 0, 1) := by decide +kernel
theorem dX12_count_53 : decode cX12_count 53 = .ok (.iaload, 1) := by decide +kernel
theorem dX12_count_54 : decode cX12_count 54 = .ok (.ireturn, 1) := by decide +kernel
theorem dX12_count_55 : decode cX12_count 55 = .ok (.aload_n 0, 1) := by decide +kernel
theorem dX12_count_56 : decode cX12_count 56 = .ok (.getfield 98, 3) := by decide +kernel
theorem dX12_count_59 : decode cX12_count 59 = .ok (.iconst 1, 1) := by decide +kernel
theorem dX12_count_60 : decode cX12_count 60 = .ok (.iaload, 1) := by decide +kernel
theorem dX12_count_61 : decode cX12_count 61 = .ok (.ireturn, 1) := by decide +kernel
theorem dX12_count_62 : decode cX12_count 62 = .ok (.aload_n 0, 1) := by decide +kernel
theorem dX12_count_63 : decode cX12_count 63 = .ok (.getfield 98, 3) := by decide +kernel
theorem dX12_count_66 : decode cX12_count 66 = .ok (.iconst 2, 1) := by decide +kernel
theorem dX12_count_67 : decode cX12_count 67 = .ok (.iaload, 1) := by decide +kernel
theorem dX12_count_68 : decode cX12_count 68 = .ok (.ireturn, 1) := by decide +kernel
theorem dX12_count_69 : decode cX12_count 69 = .ok (.aload_n 0, 1) := by decide +kernel
theorem dX12_count_70 : decode cX12_count 70 = .ok (.getfield 98, 3) := by decide +kernel
theorem dX12_count_73 : decode cX12_count 73 = .ok (.iconst 3, 1) := by decide +kernel
theorem dX12_count_74 : decode cX12_count 74 = .ok (.iaload, 1) := by decide +kernel
theorem dX12_count_75 : decode cX12_count 75 = .ok (.ireturn, 1) := by decide +kernel
theorem dX12_count_76 : decode cX12_count 76 = .ok (.aload_n 0, 1) := by decide +kernel
theorem dX12_count_77 : decode cX12_count 77 = .ok (.getfield 98, 3) := by decide +kernel
theorem dX12_count_80 : decode cX12_count 80 = .ok (.iconst 5, 1) := by decide +kernel
theorem dX12_count_81 : decode cX12_count 81 = .ok (.iaload, 1) := by decide +kernel
theorem dX12_count_82 : decode cX12_count 82 = .ok (.ireturn, 1) := by decide +kernel
theorem dX12_count_83 : decode cX12_count 83 = .ok (.aload_n 0, 1) := by decide +kernel
theorem dX12_count_84 : decode cX12_count 84 = .ok (.getfield 98, 3) := by decide +kernel
theorem dX12_count_87 : decode cX12_count 87 = .ok (.bipush 6, 2) := by decide +kernel
theorem dX12_count_89 : decode cX12_count 89 = .ok (.iaload, 1) := by decide +kernel
theorem dX12_count_90 : decode cX12_count 90 = .ok (.ireturn, 1) := by decide +kernel
theorem dX12_count_91 : decode cX12_count 91 = .ok (.aload_n 0, 1) := by decide +kernel
theorem dX12_count_92 : decode cX12_count 92 = .ok (.getfield 11, 3) := by decide +kernel
theorem dX12_count_95 : decode cX12_count 95 = .ok (.ireturn, 1) := by decide +kernel
theorem dX12_wayAt_0 : decode cX12_wayAt 0 = .ok (.aload_n 0, 1) := by decide +kernel
theorem dX12_wayAt_1 : decode cX12_wayAt 1 = .ok (.iconst 0, 1) := by decide +kernel
theorem dX12_wayAt_2 : decode cX12_wayAt 2 = .ok (.putfield 1, 3) := by decide +kernel
theorem dX12_wayAt_5 : decode cX12_wayAt 5 = .ok (.iload_n 1, 1) := by decide +kernel
theorem dX12_wayAt_6 : decode cX12_wayAt 6 = .ok (.iconst 0, 1) := by decide +kernel
theorem dX12_wayAt_7 : decode cX12_wayAt 7 = .ok (.aload_n 0, 1) := by decide +kernel
theorem dX12_wayAt_8 : decode cX12_wayAt 8 = .ok (.getfield 323, 3) := by decide +kernel
theorem dX12_wayAt_11 : decode cX12_wayAt 11 = .ok (.iconst 1, 1) := by decide +kernel
theorem dX12_wayAt_12 : decode cX12_wayAt 12 = .ok (.isub, 1) := by decide +kernel
theorem dX12_wayAt_13 : decode cX12_wayAt 13 = .ok (.invokestatic 75, 3) := by decide +kernel
theorem dX12_wayAt_16 : decode cX12_wayAt 16 = .ok (.ifCond .eq 12, 3) := by decide +kernel
theorem dX12_wayAt_19 : decode cX12_wayAt 19 = .ok (.aload_n 0, 1) := by decide +kernel
theorem dX12_wayAt_20 : decode cX12_wayAt 20 = .ok (.getfield 136, 3) := by decide +kernel
theorem dX12_wayAt_23 : decode cX12_wayAt 23 = .ok (.iload_n 1, 1) := by decide +kernel
theorem dX12_wayAt_24 : decode cX12_wayAt 24 = .ok (.iaload, 1) := by decide +kernel
theorem dX12_wayAt_25 : decode cX12_wayAt 25 = .ok (.goto 4, 3) := by decide +kernel
theorem dX12_wayAt_29 : decode cX12_wayAt 29 = .ok (.ireturn, 1) := by decide +kernel
theorem dX12_wayAt_28 : decode cX12_wayAt 28 = .ok (.iconst (-1), 1) := by decide +kernel
theorem dX12_wayDays_0 : decode cX12_wayDays 0 = .ok (.aload_n 0, 1) := by decide +kernel
theorem dX12_wayDays_1 : decode cX12_wayDays 1 = .ok (.iconst 0, 1) := by decide +kernel
theorem dX12_wayDays_2 : decode cX12_wayDays 2 = .ok (.putfield 1, 3) := by decide +kernel
theorem dX12_wayDays_5 : decode cX12_wayDays 5 = .ok (.aload_n 0, 1) := by decide +kernel
theorem dX12_wayDays_6 : decode cX12_wayDays 6 = .ok (.getfield 326, 3) := by decide +kernel
theorem dX12_wayDays_9 : decode cX12_wayDays 9 = .ok (.ifCond .eq 10, 3) := by decide +kernel
theorem dX12_wayDays_19 : decode cX12_wayDays 19 = .ok (.iconst (-1), 1) := by decide +kernel
theorem dX12_wayDays_20 : decode cX12_wayDays 20 = .ok (.ireturn, 1) := by decide +kernel
theorem dX12_wayDays_12 : decode cX12_wayDays 12 = .ok (.aload_n 0, 1) := by decide +kernel
theorem dX12_wayDays_13 : decode cX12_wayDays 13 = .ok (.getfield 139, 3) := by decide +kernel
theorem dX12_wayDays_16 : decode cX12_wayDays 16 = .ok (.goto 4, 3) := by decide +kernel
theorem dX12_meetAt_0 : decode cX12_meetAt 0 = .ok (.aload_n 0, 1) := by decide +kernel
theorem dX12_meetAt_1 : decode cX12_meetAt 1 = .ok (.iconst 0, 1) := by decide +kernel
theorem dX12_meetAt_2 : decode cX12_meetAt 2 = .ok (.putfield 1, 3) := by decide +kernel
theorem dX12_meetAt_5 : decode cX12_meetAt 5 = .ok (.iload_n 1, 1) := by decide +kernel
theorem dX12_meetAt_6 : decode cX12_meetAt 6 = .ok (.iconst 0, 1) := by decide +kernel
theorem dX12_meetAt_7 : decode cX12_meetAt 7 = .ok (.aload_n 0, 1) := by decide +kernel
theorem dX12_meetAt_8 : decode cX12_meetAt 8 = .ok (.getfield 339, 3) := by decide +kernel
theorem dX12_meetAt_11 : decode cX12_meetAt 11 = .ok (.iconst 1, 1) := by decide +kernel
theorem dX12_meetAt_12 : decode cX12_meetAt 12 = .ok (.isub, 1) := by decide +kernel
theorem dX12_meetAt_13 : decode cX12_meetAt 13 = .ok (.invokestatic 75, 3) := by decide +kernel
theorem dX12_meetAt_16 : decode cX12_meetAt 16 = .ok (.ifCond .ne 5, 3) := by decide +kernel
theorem dX12_meetAt_21 : decode cX12_meetAt 21 = .ok (.iload_n 2, 1) := by decide +kernel
theorem dX12_meetAt_22 : decode cX12_meetAt 22 = .ok (.tableswitch 57 0 2 #[26, 36, 48], 26) := by decide +kernel
theorem dX12_meetAt_79 : decode cX12_meetAt 79 = .ok (.iconst (-1), 1) := by decide +kernel
theorem dX12_meetAt_80 : decode cX12_meetAt 80 = .ok (.ireturn, 1) := by decide +kernel
theorem dX12_meetAt_48 : decode cX12_meetAt 48 = .ok (.aload_n 0, 1) := by decide +kernel
theorem dX12_meetAt_49 : decode cX12_meetAt 49 = .ok (.getfield 145, 3) := by decide +kernel
theorem dX12_meetAt_52 : decode cX12_meetAt 52 = .ok (.iload_n 1, 1) := by decide +kernel
theorem dX12_meetAt_53 : decode cX12_meetAt 53 = .ok (.iaload, 1) := by decide +kernel
theorem dX12_meetAt_54 : decode cX12_meetAt 54 = .ok (.bipush 12, 2) := by decide +kernel
theorem dX12_meetAt_56 : decode cX12_meetAt 56 = .ok (.idiv, 1) := by decide +kernel
theorem dX12_meetAt_57 : decode cX12_meetAt 57 = .ok (.ireturn, 1) := by decide +kernel
theorem dX12_meetAt_58 : decode cX12_meetAt 58 = .ok (.aload_n 0, 1) := by decide +kernel
theorem dX12_meetAt_59 : decode cX12_meetAt 59 = .ok (.getfield 145, 3) := by decide +kernel
theorem dX12_meetAt_62 : decode cX12_meetAt 62 = .ok (.iload_n 1, 1) := by decide +kernel
theorem dX12_meetAt_63 : decode cX12_meetAt 63 = .ok (.iaload, 1) := by decide +kernel
theorem dX12_meetAt_64 : decode cX12_meetAt 64 = .ok (.bipush 12, 2) := by decide +kernel
theorem dX12_meetAt_66 : decode cX12_meetAt 66 = .ok (.irem, 1) := by decide +kernel
theorem dX12_meetAt_67 : decode cX12_meetAt 67 = .ok (.iconst 2, 1) := by decide +kernel
theorem dX12_meetAt_68 : decode cX12_meetAt 68 = .ok (.idiv, 1) := by decide +kernel
theorem dX12_meetAt_69 : decode cX12_meetAt 69 = .ok (.ireturn, 1) := by decide +kernel
theorem dX12_meetAt_70 : decode cX12_meetAt 70 = .ok (.aload_n 0, 1) := by decide +kernel
theorem dX12_meetAt_71 : decode cX12_meetAt 71 = .ok (.getfield 145, 3) := by decide +kernel
theorem dX12_meetAt_74 : decode cX12_meetAt 74 = .ok (.iload_n 1, 1) := by decide +kernel
theorem dX12_meetAt_75 : decode cX12_meetAt 75 = .ok (.iaload, 1) := by decide +kernel
theorem dX12_meetAt_76 : decode cX12_meetAt 76 = .ok (.iconst 2, 1) := by decide +kernel
theorem dX12_meetAt_77 : decode cX12_meetAt 77 = .ok (.irem, 1) := by decide +kernel
theorem dX12_meetAt_78 : decode cX12_meetAt 78 = .ok (.ireturn, 1) := by decide +kernel
theorem dX12_meetAt_19 : decode cX12_meetAt 19 = .ok (.iconst (-1), 1) := by decide +kernel
theorem dX12_meetAt_20 : decode cX12_meetAt 20 = .ok (.ireturn, 1) := by decide +kernel
theorem dX12_sunkAt_0 : decode cX12_sunkAt 0 = .ok (.aload_n 0, 1) := by decide +kernel
theorem dX12_sunkAt_1 : decode cX12_sunkAt 1 = .ok (.iconst 0, 1) := by decide +kernel
theorem dX12_sunkAt_2 : decode cX12_sunkAt 2 = .ok (.putfield 1, 3) := by decide +kernel
theorem dX12_sunkAt_5 : decode cX12_sunkAt 5 = .ok (.iload_n 1, 1) := by decide +kernel
theorem dX12_sunkAt_6 : decode cX12_sunkAt 6 = .ok (.iconst 0, 1) := by decide +kernel
theorem dX12_sunkAt_7 : decode cX12_sunkAt 7 = .ok (.aload_n 0, 1) := by decide +kernel
theorem dX12_sunkAt_8 : decode cX12_sunkAt 8 = .ok (.getfield 342, 3) := by decide +kernel
theorem dX12_sunkAt_11 : decode cX12_sunkAt 11 = .ok (.iconst 1, 1) := by decide +kernel
theorem dX12_sunkAt_12 : decode cX12_sunkAt 12 = .ok (.isub, 1) := by decide +kernel
theorem dX12_sunkAt_13 : decode cX12_sunkAt 13 = .ok (.invokestatic 75, 3) := by decide +kernel
theorem dX12_sunkAt_16 : decode cX12_sunkAt 16 = .ok (.ifCond .eq 12, 3) := by decide +kernel
theorem dX12_sunkAt_19 : decode cX12_sunkAt 19 = .ok (.aload_n 0, 1) := by decide +kernel
theorem dX12_sunkAt_20 : decode cX12_sunkAt 20 = .ok (.getfield 148, 3) := by decide +kernel
theorem dX12_sunkAt_23 : decode cX12_sunkAt 23 = .ok (.iload_n 1, 1) := by decide +kernel
theorem dX12_sunkAt_24 : decode cX12_sunkAt 24 = .ok (.iaload, 1) := by decide +kernel
theorem dX12_sunkAt_25 : decode cX12_sunkAt 25 = .ok (.goto 4, 3) := by decide +kernel
theorem dX12_sunkAt_29 : decode cX12_sunkAt 29 = .ok (.ireturn, 1) := by decide +kernel
theorem dX12_sunkAt_28 : decode cX12_sunkAt 28 = .ok (.iconst (-1), 1) := by decide +kernel
theorem dX12_send_0 : decode cX12_send 0 = .ok (.aload_n 0, 1) := by decide +kernel
theorem dX12_send_1 : decode cX12_send 1 = .ok (.iconst 0, 1) := by decide +kernel
theorem dX12_send_2 : decode cX12_send 2 = .ok (.putfield 1, 3) := by decide +kernel
theorem dX12_send_5 : decode cX12_send 5 = .ok (.aload_n 0, 1) := by decide +kernel
theorem dX12_send_6 : decode cX12_send 6 = .ok (.getfield 154, 3) := by decide +kernel
theorem dX12_send_9 : decode cX12_send 9 = .ok (.ireturn, 1) := by decide +kernel
theorem dX12_fleets_0 : decode cX12_fleets 0 = .ok (.aload_n 0, 1) := by decide +kernel
theorem dX12_fleets_1 : decode cX12_fleets 1 = .ok (.iconst 0, 1) := by decide +kernel
theorem dX12_fleets_2 : decode cX12_fleets 2 = .ok (.putfield 1, 3) := by decide +kernel
theorem dX12_fleets_5 : decode cX12_fleets 5 = .ok (.aload_n 0, 1) := by decide +kernel
theorem dX12_fleets_6 : decode cX12_fleets 6 = .ok (.getfield 157, 3) := by decide +kernel
theorem dX12_fleets_9 : decode cX12_fleets 9 = .ok (.ireturn, 1) := by decide +kernel
theorem dX12_byteAt_0 : decode cX12_byteAt 0 = .ok (.aload_n 0, 1) := by decide +kernel
theorem dX12_byteAt_1 : decode cX12_byteAt 1 = .ok (.iconst 0, 1) := by decide +kernel
theorem dX12_byteAt_2 : decode cX12_byteAt 2 = .ok (.putfield 1, 3) := by decide +kernel
theorem dX12_byteAt_5 : decode cX12_byteAt 5 = .ok (.iload_n 1, 1) := by decide +kernel
theorem dX12_byteAt_6 : decode cX12_byteAt 6 = .ok (.iconst 0, 1) := by decide +kernel
theorem dX12_byteAt_7 : decode cX12_byteAt 7 = .ok (.aload_n 0, 1) := by decide +kernel
theorem dX12_byteAt_8 : decode cX12_byteAt 8 = .ok (.getfield 360, 3) := by decide +kernel
theorem dX12_byteAt_11 : decode cX12_byteAt 11 = .ok (.iconst 1, 1) := by decide +kernel
theorem dX12_byteAt_12 : decode cX12_byteAt 12 = .ok (.isub, 1) := by decide +kernel
theorem dX12_byteAt_13 : decode cX12_byteAt 13 = .ok (.invokestatic 75, 3) := by decide +kernel
theorem dX12_byteAt_16 : decode cX12_byteAt 16 = .ok (.ifCond .eq 12, 3) := by decide +kernel
theorem dX12_byteAt_19 : decode cX12_byteAt 19 = .ok (.aload_n 0, 1) := by decide +kernel
theorem dX12_byteAt_20 : decode cX12_byteAt 20 = .ok (.getfield 160, 3) := by decide +kernel
theorem dX12_byteAt_23 : decode cX12_byteAt 23 = .ok (.iload_n 1, 1) := by decide +kernel
theorem dX12_byteAt_24 : decode cX12_byteAt 24 = .ok (.iaload, 1) := by decide +kernel
theorem dX12_byteAt_25 : decode cX12_byteAt 25 = .ok (.goto 4, 3) := by decide +kernel
theorem dX12_byteAt_29 : decode cX12_byteAt 29 = .ok (.ireturn, 1) := by decide +kernel
theorem dX12_byteAt_28 : decode cX12_byteAt 28 = .ok (.iconst (-1), 1) := by decide +kernel
theorem dX12_told_0 : decode cX12_told 0 = .ok (.aload_n 0, 1) := by decide +kernel
theorem dX12_told_1 : decode cX12_told 1 = .ok (.iconst 0, 1) := by decide +kernel
theorem dX12_told_2 : decode cX12_told 2 = .ok (.putfield 1, 3) := by decide +kernel
theorem dX12_told_5 : decode cX12_told 5 = .ok (.aload_n 0, 1) := by decide +kernel
theorem dX12_told_6 : decode cX12_told 6 = .ok (.getfield 419, 3) := by decide +kernel
theorem dX12_told_9 : decode cX12_told 9 = .ok (.ifCond .eq 21, 3) := by decide +kernel
theorem dX12_told_30 : decode cX12_told 30 = .ok (.iconst (-1), 1) := by decide +kernel
theorem dX12_told_31 : decode cX12_told 31 = .ok (.ireturn, 1) := by decide +kernel
theorem dX12_told_12 : decode cX12_told 12 = .ok (.iload_n 1, 1) := by decide +kernel
theorem dX12_told_13 : decode cX12_told 13 = .ok (.iconst 0, 1) := by decide +kernel
theorem dX12_told_14 : decode cX12_told 14 = .ok (.iconst 3, 1) := by decide +kernel
theorem dX12_told_15 : decode cX12_told 15 = .ok (.invokestatic 75, 3) := by decide +kernel
theorem dX12_told_18 : decode cX12_told 18 = .ok (.ifCond .eq 12, 3) := by decide +kernel
theorem dX12_told_21 : decode cX12_told 21 = .ok (.aload_n 0, 1) := by decide +kernel
theorem dX12_told_22 : decode cX12_told 22 = .ok (.getfield 166, 3) := by decide +kernel
theorem dX12_told_25 : decode cX12_told 25 = .ok (.iload_n 1, 1) := by decide +kernel
theorem dX12_told_26 : decode cX12_told 26 = .ok (.iaload, 1) := by decide +kernel
theorem dX12_told_27 : decode cX12_told 27 = .ok (.goto 4, 3) := by decide +kernel
theorem dX12_draw_0 : decode cX12_draw 0 = .ok (.aload_n 0, 1) := by decide +kernel
theorem dX12_draw_1 : decode cX12_draw 1 = .ok (.aload_n 0, 1) := by decide +kernel
theorem dX12_draw_2 : decode cX12_draw 2 = .ok (.getfield 376, 3) := by decide +kernel
theorem dX12_draw_5 : decode cX12_draw 5 = .ok (.ldc_w 379, 3) := by decide +kernel
theorem dX12_draw_8 : decode cX12_draw 8 = .ok (.imul, 1) := by decide +kernel
theorem dX12_draw_9 : decode cX12_draw 9 = .ok (.sipush 12345, 3) := by decide +kernel
theorem dX12_draw_12 : decode cX12_draw 12 = .ok (.iadd, 1) := by decide +kernel
theorem dX12_draw_13 : decode cX12_draw 13 = .ok (.putfield 376, 3) := by decide +kernel
theorem dX12_draw_16 : decode cX12_draw 16 = .ok (.aload_n 0, 1) := by decide +kernel
theorem dX12_draw_17 : decode cX12_draw 17 = .ok (.getfield 376, 3) := by decide +kernel
theorem dX12_draw_20 : decode cX12_draw 20 = .ok (.bipush 8, 2) := by decide +kernel
theorem dX12_draw_22 : decode cX12_draw 22 = .ok (.iushr, 1) := by decide +kernel
theorem dX12_draw_23 : decode cX12_draw 23 = .ok (.iload_n 1, 1) := by decide +kernel
theorem dX12_draw_24 : decode cX12_draw 24 = .ok (.irem, 1) := by decide +kernel
theorem dX12_draw_25 : decode cX12_draw 25 = .ok (.ireturn, 1) := by decide +kernel
set_option maxRecDepth 100000 in
theorem ggX12_thick_X12_isCell : GoodIn wsX12_thick wsX12_isCell := goodIn_r _ [7, 2, 8, 9, 6, 10, 11, 12, 13, 14, 15, 16, 17, 18, 19, 20, 21, 22, 23, 24, 25, 26, 27, 28, 29, 30, 31, 32, 33, 34, 35, 36, 37, 38, 39, 40, 41, 42, 43, 44, 45, 46, 47, 48, 49, 50, 51, 52, 53, 54, 55, 56, 57, 58, 59, 60, 61, 62] rfl (by decide +kernel)
set_option maxRecDepth 100000 in
theorem ggX12_lump_X12_isLump : GoodIn wsX12_lump wsX12_isLump := goodIn_r _ [7, 2, 8, 9, 6, 10, 11, 12, 13, 14, 15, 16, 17, 18, 19, 20, 21, 22, 23, 24, 25, 26, 27, 28, 29, 30, 31, 32, 33, 34, 35, 36, 37, 38, 39, 40, 41, 42, 43, 44, 45, 46, 47, 48, 49, 50, 51, 52, 53, 54, 55, 56, 57, 58, 59, 60, 61, 62] rfl (by decide +kernel)
set_option maxRecDepth 100000 in
theorem ggX12_lump_X12_isIn : GoodIn wsX12_lump wsX12_isIn := goodIn_r _ [10] rfl (by decide +kernel)
set_option maxRecDepth 100000 in
theorem ggX12_boat_X12_isBoat : GoodIn wsX12_boat wsX12_isBoat := goodIn_r _ [7, 2, 8, 9, 6, 10, 35, 36, 37, 38, 39, 40, 41, 42, 43, 44, 45, 46, 47, 48, 49, 50, 51, 52, 53, 54, 55, 56, 57, 58, 59, 60, 61, 62, 63, 64, 65, 66, 67, 68, 69, 70, 71, 72, 73, 74, 75, 76, 77, 78, 79, 80, 81, 82, 83, 84, 85, 86] rfl (by decide +kernel)
set_option maxRecDepth 100000 in
theorem ggX12_boat_X12_refuse : GoodIn wsX12_boat wsX12_refuse := goodIn_r _ [14, 1, 35, 36, 37, 38, 39, 40, 41, 42, 43, 44, 45, 46, 47, 48, 49, 50, 51, 52, 53, 54, 55, 56, 57, 58, 59, 60, 61, 62, 63, 64, 65, 66, 67, 68, 69, 70, 71, 72, 73, 74, 75, 76, 77, 78, 79, 80, 81, 82, 83, 84, 85, 86] rfl (by decide +kernel)
set_option maxRecDepth 100000 in
theorem ggX12_boat_X12_isEaten : GoodIn wsX12_boat wsX12_isEaten := goodIn_r _ [18, 2, 35, 36, 37, 38, 39, 40, 41, 42, 43, 44, 45, 46, 47, 48, 49, 50, 51, 52, 53, 54, 55, 56, 57, 58, 59, 60, 61, 62, 63, 64, 65, 66, 67, 68, 69, 70, 71, 72, 73, 74, 75, 76, 77, 78, 79, 80, 81, 82, 83, 84, 85, 86] rfl (by decide +kernel)
set_option maxRecDepth 100000 in
theorem ggX12_boat_X12_isAfloat : GoodIn wsX12_boat wsX12_isAfloat := goodIn_r _ [22, 2, 15, 16, 17, 6, 18, 23, 24, 25, 26, 27, 28, 29, 30, 31, 32, 33, 34, 35, 36, 37, 38, 39, 40, 41, 42, 43, 44, 45, 46, 47, 48, 49, 50, 51, 52, 53, 54, 55, 56, 57, 58, 59, 60, 61, 62, 63, 64, 65, 66, 67, 68, 69, 70, 71, 72, 73, 74, 75, 76, 77, 78, 79, 80, 81, 82, 83, 84, 85, 86] rfl (by decide +kernel)
set_option maxRecDepth 100000 in
theorem ggX12_eaten_X12_isEaten : GoodIn wsX12_eaten wsX12_isEaten := goodIn_r _ [6, 1, 7, 8, 9, 10, 11, 12, 13, 14, 15, 16, 17, 18, 19, 20, 21, 22, 23, 24, 25, 26, 27, 28, 29, 30, 31, 32, 33, 34, 35, 36, 37, 38, 39, 40, 41, 42, 43, 44, 45, 46, 47, 48, 49, 50, 51, 52, 53, 54, 55, 56, 57, 58] rfl (by decide +kernel)
set_option maxRecDepth 100000 in
theorem ggX12_now_X12_hasSkin : GoodIn wsX12_now wsX12_hasSkin := goodIn_r _ [7, 2, 28, 29, 30, 31, 32, 33, 34, 35, 36, 37, 38, 39, 40, 41, 42, 43, 44, 45, 46, 47, 48, 49, 50, 51, 52, 53, 54, 55, 56, 57, 58, 59, 60, 61, 62, 63, 64, 65, 66, 67, 68, 69, 70, 71, 72, 73, 74, 75, 76, 77, 78, 79] rfl (by decide +kernel)
set_option maxRecDepth 100000 in
theorem ggX12_now_X12_eaten : GoodIn wsX12_now wsX12_eaten := goodIn_r _ [11, 2, 12, 13, 14, 6, 15, 28, 29, 30, 31, 32, 33, 34, 35, 36, 37, 38, 39, 40, 41, 42, 43, 44, 45, 46, 47, 48, 49, 50, 51, 52, 53, 54, 55, 56, 57, 58, 59, 60, 61, 62, 63, 64, 65, 66, 67, 68, 69, 70, 71, 72, 73, 74, 75, 76, 77, 78, 79] rfl (by decide +kernel)
set_option maxRecDepth 100000 in
theorem ggX12_now_X12_isAfloat : GoodIn wsX12_now wsX12_isAfloat := goodIn_r _ [19, 2, 12, 13, 14, 6, 15, 20, 21, 22, 23, 3, 4, 5, 7, 24, 25, 26, 27, 28, 29, 30, 31, 32, 33, 34, 35, 36, 37, 38, 39, 40, 41, 42, 43, 44, 45, 46, 47, 48, 49, 50, 51, 52, 53, 54, 55, 56, 57, 58, 59, 60, 61, 62, 63, 64, 65, 66, 67, 68, 69, 70, 71, 72, 73, 74, 75, 76, 77, 78, 79] rfl (by decide +kernel)
set_option maxRecDepth 100000 in
theorem ggX12_cost_X12_isCell : GoodIn wsX12_cost wsX12_isCell := goodIn_r _ [6, 7, 8, 9, 5, 10, 19, 20, 21, 22, 23, 24, 25, 26, 27, 28, 29, 30, 31, 32, 33, 34, 35, 36, 37, 38, 39, 40, 41, 42, 43, 44, 45, 46, 47, 48, 49, 50, 51, 52, 53, 54, 55, 56, 57, 58, 59, 60, 61, 62, 63, 64, 65, 66, 67, 68, 69, 70] rfl (by decide +kernel)
set_option maxRecDepth 100000 in
theorem ggX12_cost_X12_costOf : GoodIn wsX12_cost wsX12_costOf := goodIn_r _ [14, 7, 15, 16, 17, 5, 18, 19, 20, 21, 22, 23, 24, 25, 26, 27, 28, 29, 30, 31, 32, 33, 34, 35, 36, 37, 38, 39, 40, 41, 42, 43, 44, 45, 46, 47, 48, 49, 50, 51, 52, 53, 54, 55, 56, 57, 58, 59, 60, 61, 62, 63, 64, 65, 66, 67, 68, 69, 70] rfl (by decide +kernel)
set_option maxRecDepth 100000 in
theorem ggX12_skin_X12_hasSkin : GoodIn wsX12_skin wsX12_hasSkin := goodIn_r _ [7, 2, 8, 9, 10, 11, 12, 13, 14, 15, 16, 17, 18, 19, 20, 21, 22, 23, 24, 25, 26, 27, 28, 29, 30, 31, 32, 33, 34, 35, 36, 37, 38, 39, 40, 41, 42, 43, 44, 45, 46, 47, 48, 49, 50, 51, 52, 53, 54, 55, 56, 57, 58, 59] rfl (by decide +kernel)
set_option maxRecDepth 100000 in
theorem ggX12_wayAt_X12_isIn : GoodIn wsX12_wayAt wsX12_isIn := goodIn_r _ [7] rfl (by decide +kernel)
set_option maxRecDepth 100000 in
theorem ggX12_meetAt_X12_isIn : GoodIn wsX12_meetAt wsX12_isIn := goodIn_r _ [7] rfl (by decide +kernel)
set_option maxRecDepth 100000 in
theorem ggX12_sunkAt_X12_isIn : GoodIn wsX12_sunkAt wsX12_isIn := goodIn_r _ [7] rfl (by decide +kernel)
set_option maxRecDepth 100000 in
theorem ggX12_byteAt_X12_isIn : GoodIn wsX12_byteAt wsX12_isIn := goodIn_r _ [7] rfl (by decide +kernel)
set_option maxRecDepth 100000 in
theorem ggX12_told_X12_isIn : GoodIn wsX12_told wsX12_isIn := goodIn_r _ [7] rfl (by decide +kernel)
set_option maxRecDepth 100000 in
theorem gX12_thick_X12_isCell : GoodIn wsX12_thick (wsV RX12 252 RX12 yX12_isCell wsX12_isCell) := goodIn_app (goodIn_of _ (by decide +kernel)) ggX12_thick_X12_isCell
set_option maxRecDepth 100000 in
theorem gX12_lump_X12_isLump : GoodIn wsX12_lump (wsV RX12 257 RX12 yX12_isLump wsX12_isLump) := goodIn_app (goodIn_of _ (by decide +kernel)) ggX12_lump_X12_isLump
set_option maxRecDepth 100000 in
theorem gX12_lump_X12_isIn : GoodIn wsX12_lump (va_wsS RX12 75 yX12_isIn wsX12_isIn) := goodIn_app (goodIn_of _ (by decide +kernel)) ggX12_lump_X12_isIn
set_option maxRecDepth 100000 in
theorem gX12_boat_X12_isBoat : GoodIn wsX12_boat (wsV RX12 260 RX12 yX12_isBoat wsX12_isBoat) := goodIn_app (goodIn_of _ (by decide +kernel)) ggX12_boat_X12_isBoat
set_option maxRecDepth 100000 in
theorem gX12_boat_X12_refuse : GoodIn wsX12_boat (wsV RX12 263 RX12 yX12_refuse wsX12_refuse) := goodIn_app (goodIn_of _ (by decide +kernel)) ggX12_boat_X12_refuse
set_option maxRecDepth 100000 in
theorem gX12_boat_X12_isEaten : GoodIn wsX12_boat (wsV RX12 246 RX12 yX12_isEaten wsX12_isEaten) := goodIn_app (goodIn_of _ (by decide +kernel)) ggX12_boat_X12_isEaten
set_option maxRecDepth 100000 in
theorem gX12_boat_X12_isAfloat : GoodIn wsX12_boat (wsV RX12 266 RX12 yX12_isAfloat wsX12_isAfloat) := goodIn_app (goodIn_of _ (by decide +kernel)) ggX12_boat_X12_isAfloat
set_option maxRecDepth 100000 in
theorem gX12_eaten_X12_isEaten : GoodIn wsX12_eaten (wsV RX12 246 RX12 yX12_isEaten wsX12_isEaten) := goodIn_app (goodIn_of _ (by decide +kernel)) ggX12_eaten_X12_isEaten
set_option maxRecDepth 100000 in
theorem gX12_now_X12_hasSkin : GoodIn wsX12_now (wsV RX12 240 RX12 yX12_hasSkin wsX12_hasSkin) := goodIn_app (goodIn_of _ (by decide +kernel)) ggX12_now_X12_hasSkin
set_option maxRecDepth 100000 in
theorem gX12_now_X12_eaten : GoodIn wsX12_now (wsV RX12 269 RX12 yX12_eaten wsX12_eaten) := goodIn_app (goodIn_of _ (by decide +kernel)) ggX12_now_X12_eaten
set_option maxRecDepth 100000 in
theorem gX12_now_X12_isAfloat : GoodIn wsX12_now (wsV RX12 266 RX12 yX12_isAfloat wsX12_isAfloat) := goodIn_app (goodIn_of _ (by decide +kernel)) ggX12_now_X12_isAfloat
set_option maxRecDepth 100000 in
theorem gX12_cost_X12_isCell : GoodIn wsX12_cost (wsV RX12 252 RX12 yX12_isCell wsX12_isCell) := goodIn_app (goodIn_of _ (by decide +kernel)) ggX12_cost_X12_isCell
set_option maxRecDepth 100000 in
theorem gX12_cost_X12_costOf : GoodIn wsX12_cost (wsV RX12 276 RX12 yX12_costOf wsX12_costOf) := goodIn_app (goodIn_of _ (by decide +kernel)) ggX12_cost_X12_costOf
set_option maxRecDepth 100000 in
theorem gX12_skin_X12_hasSkin : GoodIn wsX12_skin (wsV RX12 240 RX12 yX12_hasSkin wsX12_hasSkin) := goodIn_app (goodIn_of _ (by decide +kernel)) ggX12_skin_X12_hasSkin
set_option maxRecDepth 100000 in
theorem gX12_wayAt_X12_isIn : GoodIn wsX12_wayAt (va_wsS RX12 75 yX12_isIn wsX12_isIn) := goodIn_app (goodIn_of _ (by decide +kernel)) ggX12_wayAt_X12_isIn
set_option maxRecDepth 100000 in
theorem gX12_meetAt_X12_isIn : GoodIn wsX12_meetAt (va_wsS RX12 75 yX12_isIn wsX12_isIn) := goodIn_app (goodIn_of _ (by decide +kernel)) ggX12_meetAt_X12_isIn
set_option maxRecDepth 100000 in
theorem gX12_sunkAt_X12_isIn : GoodIn wsX12_sunkAt (va_wsS RX12 75 yX12_isIn wsX12_isIn) := goodIn_app (goodIn_of _ (by decide +kernel)) ggX12_sunkAt_X12_isIn
set_option maxRecDepth 100000 in
theorem gX12_byteAt_X12_isIn : GoodIn wsX12_byteAt (va_wsS RX12 75 yX12_isIn wsX12_isIn) := goodIn_app (goodIn_of _ (by decide +kernel)) ggX12_byteAt_X12_isIn
set_option maxRecDepth 100000 in
theorem gX12_told_X12_isIn : GoodIn wsX12_told (va_wsS RX12 75 yX12_isIn wsX12_isIn) := goodIn_app (goodIn_of _ (by decide +kernel)) ggX12_told_X12_isIn
set_option maxRecDepth 20000 in
theorem lf_x_thick_1 (knowF : Nat → Int32) (x : Int32) (y : Int32) (ab_now : NB knowF) (t3 : 0 ≤ x.toInt) (t4 : x.toInt < (knowF 0).toInt) (t5 : 0 ≤ y.toInt) (t6 : y.toInt < (knowF 1).toInt) (t7 : x.toInt ≤ 5) (t8 : y.toInt ≤ 5) : 0 ≤ y.toInt ∧ y.toInt < ((6 : Nat) : Int) := by
  have b_x := ia_b x
  have b_y := ia_b y
  try simp only [ia_lt, ia_le, ia_eq, ia_m1, ia_0, ia_1, ne_eq, true_and, and_true, false_and, and_false, or_false, false_or, or_true, true_or, not_true_eq_false, not_false_eq_true] at *
  all_goals omega
set_option maxRecDepth 20000 in
theorem lf_x_thick_2 (knowF : Nat → Int32) (x : Int32) (y : Int32) (n11 : Nat) (ab_now : NB knowF) (t3 : 0 ≤ x.toInt) (t4 : x.toInt < (knowF 0).toInt) (t5 : 0 ≤ y.toInt) (t6 : y.toInt < (knowF 1).toInt) (t7 : x.toInt ≤ 5) (t8 : y.toInt ≤ 5) (h12 : n11 < 6) (e13 : y = nI n11) : 0 ≤ x.toInt ∧ x.toInt < ((6 : Nat) : Int) := by
  have b_x := ia_b x
  have b_y := ia_b y
  try have k_0 := ia_n n11 (by first | decide | omega)
  try simp only [ia_lt, ia_le, ia_eq, ia_m1, ia_0, ia_1, ne_eq, true_and, and_true, false_and, and_false, or_false, false_or, or_true, true_or, not_true_eq_false, not_false_eq_true] at *
  all_goals omega
set_option maxRecDepth 20000 in
theorem lf_x_thick_3 (knowF : Nat → Int32) (x : Int32) (y : Int32) (n11 : Nat) (n14 : Nat) (y17 : Int32) (ab_now : NB knowF) (t3 : 0 ≤ x.toInt) (t4 : x.toInt < (knowF 0).toInt) (t5 : 0 ≤ y.toInt) (t6 : y.toInt < (knowF 1).toInt) (t7 : x.toInt ≤ 5) (t8 : y.toInt ≤ 5) (h12 : n11 < 6) (e13 : y = nI n11) (h15 : n14 < 6) (e16 : x = nI n14) (e18 : y17 = knowF ((71 + (6 * n11)) + n14)) : ((71 + (6 * n11)) + n14) < 373 := by
  have b_x := ia_b x
  have b_y := ia_b y
  have b_y17 := ia_b y17
  try have k_0 := ia_n n11 (by first | decide | omega)
  try have k_1 := ia_n n14 (by first | decide | omega)
  try simp only [ia_lt, ia_le, ia_eq, ia_m1, ia_0, ia_1, ne_eq, true_and, and_true, false_and, and_false, or_false, false_or, or_true, true_or, not_true_eq_false, not_false_eq_true] at *
  all_goals omega
set_option maxRecDepth 20000 in
theorem lf_x_thick_4 (knowF : Nat → Int32) (x : Int32) (y : Int32) (n11 : Nat) (n14 : Nat) (y17 : Int32) (ab_now : NB knowF) (t3 : 0 ≤ x.toInt) (t4 : x.toInt < (knowF 0).toInt) (t5 : 0 ≤ y.toInt) (t6 : y.toInt < (knowF 1).toInt) (t7 : x.toInt ≤ 5) (t8 : y.toInt ≤ 5) (h12 : n11 < 6) (e13 : y = nI n11) (h15 : n14 < 6) (e16 : x = nI n14) (e18 : y17 = knowF ((71 + (6 * n11)) + n14)) : 71 ≤ ((71 + (6 * n11)) + n14) := by
  have b_x := ia_b x
  have b_y := ia_b y
  have b_y17 := ia_b y17
  try have k_0 := ia_n n11 (by first | decide | omega)
  try have k_1 := ia_n n14 (by first | decide | omega)
  try simp only [ia_lt, ia_le, ia_eq, ia_m1, ia_0, ia_1, ne_eq, true_and, and_true, false_and, and_false, or_false, false_or, or_true, true_or, not_true_eq_false, not_false_eq_true] at *
  all_goals omega
set_option maxRecDepth 20000 in
theorem lf_x_thick_5 (knowF : Nat → Int32) (x : Int32) (y : Int32) (n11 : Nat) (n14 : Nat) (y17 : Int32) (ab_now : NB knowF) (t3 : 0 ≤ x.toInt) (t4 : x.toInt < (knowF 0).toInt) (t5 : 0 ≤ y.toInt) (t6 : y.toInt < (knowF 1).toInt) (t7 : x.toInt ≤ 5) (t8 : y.toInt ≤ 5) (h12 : n11 < 6) (e13 : y = nI n11) (h15 : n14 < 6) (e16 : x = nI n14) (e18 : y17 = knowF ((71 + (6 * n11)) + n14)) : ((71 + (6 * n11)) + n14) < 107 := by
  have b_x := ia_b x
  have b_y := ia_b y
  have b_y17 := ia_b y17
  try have k_0 := ia_n n11 (by first | decide | omega)
  try have k_1 := ia_n n14 (by first | decide | omega)
  try simp only [ia_lt, ia_le, ia_eq, ia_m1, ia_0, ia_1, ne_eq, true_and, and_true, false_and, and_false, or_false, false_or, or_true, true_or, not_true_eq_false, not_false_eq_true] at *
  all_goals omega
set_option maxHeartbeats 4000000 in
set_option maxRecDepth 100000 in
theorem c_x_thick (l : Launch) (dC : Nat → ClassId) (dI : Nat → Nat → Nat) (ky : Nat → ClassId) (sz : Nat) (o : Nat) (kthrown : Int32) (ktape : Nat) (ktaped : Nat) (ksize : Nat) (klimit : Nat) (kto : Nat) (kfrom : Nat) (kkind : Int32) (knumber : Int32) (ksign : Int32) (kfault : Int32) (kplace : Int32) (kword : Int64) (ktold : Int32) (know : Nat) (kread : Nat) (kkept : Nat) (ksnaps : Nat) (kaside : Nat) (kname : Nat) (kreadName : Nat) (kkeptName : Nat) (kisKept : Nat) (konces : Nat) (ksnapMany : Nat) (khasCells : Int32) (kpoured : Nat) (kfar : Nat) (ksides : Nat) (ksideMany : Nat) (kwayDays : Int32) (khasWay : Int32) (klines : Nat) (kmet : Nat) (kmetMany : Nat) (ksunk : Nat) (ktrying : Nat) (ksunkMany : Nat) (ksending : Int32) (kfleets : Int32) (ktext : Nat) (ktexts : Nat) (kseed : Int32) (kline : Nat) (kwritten : Nat) (klineMany : Nat) (khasWritten : Int32) (knode : Nat) (knodes : Nat) (konesMany : Nat) (kwithin : Nat) (ktop : Nat) (knowF : Nat → Int32) (x : Int32) (y : Int32) (iv_ko_0 : ktaped ≤ 940) (iv_ko_1 : ksize ≤ 940) (iv_ko_2 : klimit ≤ 900) (iv_ko_3 : kto ≤ ksize) (iv_ko_4 : kfrom ≤ 940) (iv_ko_5 : ksnapMany ≤ 8) (iv_ko_6 : ksideMany ≤ 36) (iv_ko_7 : kmetMany ≤ 3) (iv_ko_8 : ksunkMany ≤ 36) (iv_ko_9 : ktexts ≤ 64) (iv_ko_10 : klineMany ≤ 40) (iv_ko_11 : knodes ≤ 60) (iv_ko_12 : konesMany ≤ 20) (iv_ko_13 : kwithin ≤ 8) (iv_ko_14 : ktop ≤ 59) (ab_now : NB knowF) : Met l yX12_thick wsX12_thick ({ frames := 2, cells := 0, slots := 0, locals := 44 }) (PcU dC dI ky [.ref o, .int x, .int y] [(o, .inr (12, [.int kthrown, .ref ktape, .int (nI ktaped), .int (nI ksize), .int (nI klimit), .int (nI kto), .int (nI kfrom), .int kkind, .int knumber, .int ksign, .int kfault, .int kplace, .long kword, .int ktold, .ref know, .ref kread, .ref kkept, .ref ksnaps, .ref kaside, .ref kname, .ref kreadName, .ref kkeptName, .ref kisKept, .ref konces, .int (nI ksnapMany), .int khasCells, .ref kpoured, .ref kfar, .ref ksides, .int (nI ksideMany), .int kwayDays, .int khasWay, .ref klines, .ref kmet, .int (nI kmetMany), .ref ksunk, .ref ktrying, .int (nI ksunkMany), .int ksending, .int kfleets, .ref ktext, .int (nI ktexts), .int kseed, .ref kline, .ref kwritten, .int (nI klineMany), .int khasWritten, .ref knode, .int (nI knodes), .int (nI konesMany), .int (nI kwithin), .int (nI ktop)])), (know, .inl (ky 0, 373, .inl knowF))] sz) (va_Qi (fun (r : Int32) (kthrownG : Int32) => True) (BU dC dI ky (fun (kthrownG : Int32) => [(o, .inr (12, [.int kthrownG, .ref ktape, .int (nI ktaped), .int (nI ksize), .int (nI klimit), .int (nI kto), .int (nI kfrom), .int kkind, .int knumber, .int ksign, .int kfault, .int kplace, .long kword, .int ktold, .ref know, .ref kread, .ref kkept, .ref ksnaps, .ref kaside, .ref kname, .ref kreadName, .ref kkeptName, .ref kisKept, .ref konces, .int (nI ksnapMany), .int khasCells, .ref kpoured, .ref kfar, .ref ksides, .int (nI ksideMany), .int kwayDays, .int khasWay, .ref klines, .ref kmet, .int (nI kmetMany), .ref ksunk, .ref ktrying, .int (nI ksunkMany), .int ksending, .int kfleets, .ref ktext, .int (nI ktexts), .int kseed, .ref kline, .ref kwritten, .int (nI klineMany), .int khasWritten, .ref knode, .int (nI knodes), .int (nI konesMany), .int (nI kwithin), .int (nI ktop)])), (know, .inl (ky 0, 373, .inl knowF))]) (va_A [(o, .inr (12, [.int kthrown, .ref ktape, .int (nI ktaped), .int (nI ksize), .int (nI klimit), .int (nI kto), .int (nI kfrom), .int kkind, .int knumber, .int ksign, .int kfault, .int kplace, .long kword, .int ktold, .ref know, .ref kread, .ref kkept, .ref ksnaps, .ref kaside, .ref kname, .ref kreadName, .ref kkeptName, .ref kisKept, .ref konces, .int (nI ksnapMany), .int khasCells, .ref kpoured, .ref kfar, .ref ksides, .int (nI ksideMany), .int kwayDays, .int khasWay, .ref klines, .ref kmet, .int (nI kmetMany), .ref ksunk, .ref ktrying, .int (nI ksunkMany), .int ksending, .int kfleets, .ref ktext, .int (nI ktexts), .int kseed, .ref kline, .ref kwritten, .int (nI klineMany), .int khasWritten, .ref knode, .int (nI knodes), .int (nI konesMany), .int (nI kwithin), .int (nI ktop)])), (know, .inl (ky 0, 373, .inl knowF))] sz)) (va_A [(o, .inr (12, [.int kthrown, .ref ktape, .int (nI ktaped), .int (nI ksize), .int (nI klimit), .int (nI kto), .int (nI kfrom), .int kkind, .int knumber, .int ksign, .int kfault, .int kplace, .long kword, .int ktold, .ref know, .ref kread, .ref kkept, .ref ksnaps, .ref kaside, .ref kname, .ref kreadName, .ref kkeptName, .ref kisKept, .ref konces, .int (nI ksnapMany), .int khasCells, .ref kpoured, .ref kfar, .ref ksides, .int (nI ksideMany), .int kwayDays, .int khasWay, .ref klines, .ref kmet, .int (nI kmetMany), .ref ksunk, .ref ktrying, .int (nI ksunkMany), .int ksending, .int kfleets, .ref ktext, .int (nI ktexts), .int kseed, .ref kline, .ref kwritten, .int (nI klineMany), .int khasWritten, .ref knode, .int (nI knodes), .int (nI konesMany), .int (nI kwithin), .int (nI ktop)])), (know, .inl (ky 0, 373, .inl knowF))] sz)) 0 0 (va_A [(o, .inr (12, [.int kthrown, .ref ktape, .int (nI ktaped), .int (nI ksize), .int (nI klimit), .int (nI kto), .int (nI kfrom), .int kkind, .int knumber, .int ksign, .int kfault, .int kplace, .long kword, .int ktold, .ref know, .ref kread, .ref kkept, .ref ksnaps, .ref kaside, .ref kname, .ref kreadName, .ref kkeptName, .ref kisKept, .ref konces, .int (nI ksnapMany), .int khasCells, .ref kpoured, .ref kfar, .ref ksides, .int (nI ksideMany), .int kwayDays, .int khasWay, .ref klines, .ref kmet, .int (nI kmetMany), .ref ksunk, .ref ktrying, .int (nI ksunkMany), .int ksending, .int kfleets, .ref ktext, .int (nI ktexts), .int kseed, .ref kline, .ref kwritten, .int (nI klineMany), .int khasWritten, .ref knode, .int (nI knodes), .int (nI konesMany), .int (nI kwithin), .int (nI ktop)])), (know, .inl (ky 0, 373, .inl knowF))] sz) := by
  refine Met.ofW (cc := cX12_thick) (maxL := 3) (ret := (some .int)) (by decide) rfl ?_
  intro p e s m args below meth c s₁ B hml hv
  obtain ⟨rfl, hsz, hP, hK, hD0⟩ := hv
  have hx := B.exec
  have hb := B.bytes
  have hr := B.returns
  have hts := atoms_spec (ws := wsX12_thick) B.pre
  have hown : s.vm.findClass RX12 = some m.cls := findClass_of_methodNamed B.named
  have hlocks := B.notSynchronized
  have hin12 : ∀ w ∈ u_ws RX12 TX12 52, w ∈ wsX12_thick := by decide +kernel
  subst hsz
  have hD := hD0.self (sz := s.heap.size)
  generalize hAe : va_A [(o, .inr (12, [.int kthrown, .ref ktape, .int (nI ktaped), .int (nI ksize), .int (nI klimit), .int (nI kto), .int (nI kfrom), .int kkind, .int knumber, .int ksign, .int kfault, .int kplace, .long kword, .int ktold, .ref know, .ref kread, .ref kkept, .ref ksnaps, .ref kaside, .ref kname, .ref kreadName, .ref kkeptName, .ref kisKept, .ref konces, .int (nI ksnapMany), .int khasCells, .ref kpoured, .ref kfar, .ref ksides, .int (nI ksideMany), .int kwayDays, .int khasWay, .ref klines, .ref kmet, .int (nI kmetMany), .ref ksunk, .ref ktrying, .int (nI ksunkMany), .int ksending, .int kfleets, .ref ktext, .int (nI ktexts), .int kseed, .ref kline, .ref kwritten, .int (nI klineMany), .int khasWritten, .ref knode, .int (nI knodes), .int (nI konesMany), .int (nI kwithin), .int (nI ktop)])), (know, .inl (ky 0, 373, .inl knowF))] s.heap.size = A at hD ⊢
  have hA : ∀ q : Nat, s.heap.size ≤ q → A q := fun q h => by rw [← hAe]; exact Or.inr h
  have hS : va_S A s.heap s.heap [] := va_S.rf
  have hl := lv_entry ([.ref o, .int x, .int y]) (n := 3) (Nat.le_of_ble_eq_true rfl)
  rw [lg_entry_eq]
  generalize (lg_sl ([.ref o, .int x, .int y]) ++ List.replicate (3 - (lg_sl ([.ref o, .int x, .int y])).length) Slot.unset).toArray = ls at hl ⊢
  have hl : lv_has ls 3 [(0, .ref o), (1, .int x), (2, .int y)] := hl
  refine q_name (fun Q hQ => ?_)
  generalize ([.ref o, .int x, .int y] : List Value).toArray = args at hts hQ ⊢
  refine lv_aload_n hx hb dX12_thick_0 rfl (lv_at hl 0 rfl) ?_
  refine lv_iconst (v := nI 0) hx hb dX12_thick_1 (by decide) ?_
  refine va_put (D := (dC, dI)) (ci := 12) (v := .int (nI 0)) (ty := .int) (C := RX12) (T := TX12) (N := 52) hx hb hts hin12 tyX12 tyX12_ok nmX12 hown hK hP hD hS 0 rfl rfl 0 (by decide) (hts (.fieldLink RX12 1 "PorridgeSeaModel" "thrown" "I") (List.mem_of_getElem? (i := 1) rfl)) (fun _ h9 => h9) rfl (by decide +kernel) rfl rfl (Nat.le_of_ble_eq_true rfl) dX12_thick_2 (fun H locs hP hD hS => ?_)
  have hP : va_P (dC, dI) vwCl [(o, .inr (12, [.int (nI 0), .ref ktape, .int (nI ktaped), .int (nI ksize), .int (nI klimit), .int (nI kto), .int (nI kfrom), .int kkind, .int knumber, .int ksign, .int kfault, .int kplace, .long kword, .int ktold, .ref know, .ref kread, .ref kkept, .ref ksnaps, .ref kaside, .ref kname, .ref kreadName, .ref kkeptName, .ref kisKept, .ref konces, .int (nI ksnapMany), .int khasCells, .ref kpoured, .ref kfar, .ref ksides, .int (nI ksideMany), .int kwayDays, .int khasWay, .ref klines, .ref kmet, .int (nI kmetMany), .ref ksunk, .ref ktrying, .int (nI ksunkMany), .int ksending, .int kfleets, .ref ktext, .int (nI ktexts), .int kseed, .ref kline, .ref kwritten, .int (nI klineMany), .int khasWritten, .ref knode, .int (nI knodes), .int (nI konesMany), .int (nI kwithin), .int (nI ktop)])), (know, .inl (ky 0, 373, .inl knowF))] H := hP
  have hD : va_D A [(o, .inr (12, [.int (nI 0), .ref ktape, .int (nI ktaped), .int (nI ksize), .int (nI klimit), .int (nI kto), .int (nI kfrom), .int kkind, .int knumber, .int ksign, .int kfault, .int kplace, .long kword, .int ktold, .ref know, .ref kread, .ref kkept, .ref ksnaps, .ref kaside, .ref kname, .ref kreadName, .ref kkeptName, .ref kisKept, .ref konces, .int (nI ksnapMany), .int khasCells, .ref kpoured, .ref kfar, .ref ksides, .int (nI ksideMany), .int kwayDays, .int khasWay, .ref klines, .ref kmet, .int (nI kmetMany), .ref ksunk, .ref ktrying, .int (nI ksunkMany), .int ksending, .int kfleets, .ref ktext, .int (nI ktexts), .int kseed, .ref kline, .ref kwritten, .int (nI klineMany), .int khasWritten, .ref knode, .int (nI knodes), .int (nI konesMany), .int (nI kwithin), .int (nI ktop)])), (know, .inl (ky 0, 373, .inl knowF))] := hD
  refine lv_aload_n hx hb dX12_thick_5 rfl (lv_at hl 0 rfl) ?_
  refine lv_iload_n hx hb dX12_thick_6 rfl (lv_at hl 1 rfl) ?_
  refine lv_iload_n hx hb dX12_thick_7 rfl (lv_at hl 2 rfl) ?_
  refine vp_callSi (W.runV (As := [.int x, .int y]) (rest := []) ⟨hx, hb, hml, hown, hts⟩ (c_x_isCell l dC dI ky o (nI 0) ktape ktaped ksize klimit kto kfrom kkind knumber ksign kfault kplace kword ktold know kread kkept ksnaps kaside kname kreadName kkeptName kisKept konces ksnapMany khasCells kpoured kfar ksides ksideMany kwayDays khasWay klines kmet kmetMany ksunk ktrying ksunkMany ksending kfleets ktext ktexts kseed kline kwritten klineMany khasWritten knode knodes konesMany kwithin ktop knowF x y iv_ko_0 iv_ko_1 iv_ko_2 iv_ko_3 iv_ko_4 iv_ko_5 iv_ko_6 iv_ko_7 iv_ko_8 iv_ko_9 iv_ko_10 iv_ko_11 iv_ko_12 iv_ko_13 iv_ko_14 ab_now) (cwV 2 hts gX12_thick_X12_isCell rfl rfl rfl (by decide +kernel) ⟨(Nat.le_of_ble_eq_true rfl), (Nat.le_of_ble_eq_true rfl)⟩) (pre_PV hK hP [0, 1] rfl (ci := 12) (q0 := 0) rfl rfl) rfl rfl hl.1 rfl (lv_room (Nat.le_of_ble_eq_true rfl)) dX12_thick_8 ⟨(Nat.le_of_ble_eq_true rfl), (Nat.le_of_ble_eq_true rfl)⟩) (fun r1 p2 => ?_)
  rcases p2 with ⟨rfl, t3, t4, t5, t6, t7, t8⟩ | ⟨rfl, t9⟩
  · refine lv_if_eq (tgt := 31) hx hb dX12_thick_11 (by decide) (fun c10 => absurd c10 (by decide)) (fun c10 => ?_)
    refine lv_aload_n hx hb dX12_thick_14 rfl (lv_at hl 0 rfl) ?_
    refine va_get (D := (dC, dI)) (ci := 12) (v := .ref know) (C := RX12) (T := TX12) (N := 52) hx hb hts hin12 hown hK hP 0 rfl rfl 14 (by decide) (hts (.fieldLink RX12 98 "PorridgeSeaModel" "now" "[I") (List.mem_of_getElem? (i := 2) rfl)) (fun _ h9 => h9) rfl dX12_thick_15 ?_
    refine lv_bipush (v := nI 71) hx hb dX12_thick_18 (by decide) ?_
    refine lv_bipush (v := nI 6) hx hb dX12_thick_20 (by decide) ?_
    refine lv_iload_n hx hb dX12_thick_22 rfl (lv_at hl 2 rfl) ?_
    obtain ⟨n11, h12, e13⟩ := nat_of y 6 (by decide) (lf_x_thick_1 knowF x y ab_now t3 t4 t5 t6 t7 t8)
    rw [e13]
    refine lv_imul hx hb dX12_thick_23 ?_
    refine r_ti (nI (6 * n11)) (pk_mul _ _) ?_
    refine lv_iadd hx hb dX12_thick_24 ?_
    refine r_ti (nI (71 + (6 * n11))) (nI_add _ _) ?_
    refine lv_iload_n hx hb dX12_thick_25 rfl (lv_at hl 1 rfl) ?_
    obtain ⟨n14, h15, e16⟩ := nat_of x 6 (by decide) (lf_x_thick_2 knowF x y n11 ab_now t3 t4 t5 t6 t7 t8 h12 e13)
    rw [e16]
    refine lv_iadd hx hb dX12_thick_26 ?_
    refine r_ti (nI ((71 + (6 * n11)) + n14)) (nI_add _ _) ?_
    obtain ⟨y17, e18⟩ : ∃ z9, z9 = knowF ((71 + (6 * n11)) + n14) := ⟨_, rfl⟩
    refine r_iald hx hb hK hP 1 rfl ((71 + (6 * n11)) + n14) (lf_x_thick_3 knowF x y n11 n14 y17 ab_now t3 t4 t5 t6 t7 t8 h12 e13 h15 e16 e18) (by decide) y17 e18.symm dX12_thick_27 ?_
    obtain ⟨b19, b20⟩ : (0 : Int) ≤ y17.toInt ∧ y17.toInt ≤ 9 := by rw [e18]; exact ld_NB_71 ab_now ((71 + (6 * n11)) + n14) (lf_x_thick_4 knowF x y n11 n14 y17 ab_now t3 t4 t5 t6 t7 t8 h12 e13 h15 e16 e18) (lf_x_thick_5 knowF x y n11 n14 y17 ab_now t3 t4 t5 t6 t7 t8 h12 e13 h15 e16 e18)
    refine lv_goto (tgt := 32) hx hb dX12_thick_28 (by decide) ?_
    rw [hQ]
    exact W.iret (v := y17) hx hb hr (fun t9 ht9 hW9 => ⟨⟨y17, (nI 0), rfl, trivial, by rw [ht9]; exact hP, va_K.moved hW9.alike hK, hD⟩, hS.F ht9⟩) hS.2.2 dX12_thick_32
  · refine lv_if_eq (tgt := 31) hx hb dX12_thick_11 (by decide) (fun c21 => ?_) (fun c21 => absurd (by decide) c21)
    refine lv_iconst (v := (-1 : Int32)) hx hb dX12_thick_31 (by decide) ?_
    rw [hQ]
    exact W.iret (v := (-1 : Int32)) hx hb hr (fun t9 ht9 hW9 => ⟨⟨(-1 : Int32), (nI 0), rfl, trivial, by rw [ht9]; exact hP, va_K.moved hW9.alike hK, hD⟩, hS.F ht9⟩) hS.2.2 dX12_thick_32
set_option maxRecDepth 20000 in
theorem lf_x_lump_1 (knowF : Nat → Int32) (x : Int32) (ab_now : NB knowF) (t3 : 0 ≤ x.toInt) (t4 : x.toInt < (knowF 2).toInt) (t5 : x.toInt ≤ 5) : 0 ≤ x.toInt ∧ x.toInt < ((6 : Nat) : Int) := by
  have b_x := ia_b x
  try simp only [ia_lt, ia_le, ia_eq, ia_m1, ia_0, ia_1, ne_eq, true_and, and_true, false_and, and_false, or_false, false_or, or_true, true_or, not_true_eq_false, not_false_eq_true] at *
  all_goals omega
set_option maxRecDepth 20000 in
theorem lf_x_lump_2 (knowF : Nat → Int32) (x : Int32) (n15 : Nat) (y18 : Int32) (ab_now : NB knowF) (t3 : 0 ≤ x.toInt) (t4 : x.toInt < (knowF 2).toInt) (t5 : x.toInt ≤ 5) (h16 : n15 < 6) (e17 : x = nI n15) (e19 : y18 = knowF (107 + n15)) : (107 + n15) < 373 := by
  have b_x := ia_b x
  have b_y18 := ia_b y18
  try have k_0 := ia_n n15 (by first | decide | omega)
  try simp only [ia_lt, ia_le, ia_eq, ia_m1, ia_0, ia_1, ne_eq, true_and, and_true, false_and, and_false, or_false, false_or, or_true, true_or, not_true_eq_false, not_false_eq_true] at *
  all_goals omega
set_option maxRecDepth 20000 in
theorem lf_x_lump_3 (knowF : Nat → Int32) (x : Int32) (n15 : Nat) (y18 : Int32) (ab_now : NB knowF) (t3 : 0 ≤ x.toInt) (t4 : x.toInt < (knowF 2).toInt) (t5 : x.toInt ≤ 5) (h16 : n15 < 6) (e17 : x = nI n15) (e19 : y18 = knowF (107 + n15)) : 107 ≤ (107 + n15) := by
  have b_x := ia_b x
  have b_y18 := ia_b y18
  try have k_0 := ia_n n15 (by first | decide | omega)
  try simp only [ia_lt, ia_le, ia_eq, ia_m1, ia_0, ia_1, ne_eq, true_and, and_true, false_and, and_false, or_false, false_or, or_true, true_or, not_true_eq_false, not_false_eq_true] at *
  all_goals omega
set_option maxRecDepth 20000 in
theorem lf_x_lump_4 (knowF : Nat → Int32) (x : Int32) (n15 : Nat) (y18 : Int32) (ab_now : NB knowF) (t3 : 0 ≤ x.toInt) (t4 : x.toInt < (knowF 2).toInt) (t5 : x.toInt ≤ 5) (h16 : n15 < 6) (e17 : x = nI n15) (e19 : y18 = knowF (107 + n15)) : (107 + n15) < 119 := by
  have b_x := ia_b x
  have b_y18 := ia_b y18
  try have k_0 := ia_n n15 (by first | decide | omega)
  try simp only [ia_lt, ia_le, ia_eq, ia_m1, ia_0, ia_1, ne_eq, true_and, and_true, false_and, and_false, or_false, false_or, or_true, true_or, not_true_eq_false, not_false_eq_true] at *
  all_goals omega
set_option maxRecDepth 20000 in
theorem lf_x_lump_5 (knowF : Nat → Int32) (x : Int32) (n15 : Nat) (y18 : Int32) (ab_now : NB knowF) (t3 : 0 ≤ x.toInt) (t4 : x.toInt < (knowF 2).toInt) (t5 : x.toInt ≤ 5) (h16 : n15 < 6) (e17 : x = nI n15) (e19 : y18 = knowF (107 + n15)) (b20 : 0 ≤ y18.toInt) (b21 : y18.toInt ≤ 35) : 0 ≤ y18.toInt ∧ y18.toInt < ((36 : Nat) : Int) := by
  have b_x := ia_b x
  have b_y18 := ia_b y18
  try have k_0 := ia_n n15 (by first | decide | omega)
  try simp only [ia_lt, ia_le, ia_eq, ia_m1, ia_0, ia_1, ne_eq, true_and, and_true, false_and, and_false, or_false, false_or, or_true, true_or, not_true_eq_false, not_false_eq_true] at *
  all_goals omega
set_option maxRecDepth 20000 in
theorem lf_x_lump_6 (knowF : Nat → Int32) (x : Int32) (ab_now : NB knowF) (t3 : 0 ≤ x.toInt) (t4 : x.toInt < (knowF 2).toInt) (t5 : x.toInt ≤ 5) : 0 ≤ x.toInt ∧ x.toInt < ((6 : Nat) : Int) := by
  have b_x := ia_b x
  try simp only [ia_lt, ia_le, ia_eq, ia_m1, ia_0, ia_1, ne_eq, true_and, and_true, false_and, and_false, or_false, false_or, or_true, true_or, not_true_eq_false, not_false_eq_true] at *
  all_goals omega
set_option maxRecDepth 20000 in
theorem lf_x_lump_7 (knowF : Nat → Int32) (x : Int32) (n25 : Nat) (y28 : Int32) (ab_now : NB knowF) (t3 : 0 ≤ x.toInt) (t4 : x.toInt < (knowF 2).toInt) (t5 : x.toInt ≤ 5) (h26 : n25 < 6) (e27 : x = nI n25) (e29 : y28 = knowF (107 + n25)) : (107 + n25) < 373 := by
  have b_x := ia_b x
  have b_y28 := ia_b y28
  try have k_0 := ia_n n25 (by first | decide | omega)
  try simp only [ia_lt, ia_le, ia_eq, ia_m1, ia_0, ia_1, ne_eq, true_and, and_true, false_and, and_false, or_false, false_or, or_true, true_or, not_true_eq_false, not_false_eq_true] at *
  all_goals omega
set_option maxRecDepth 20000 in
theorem lf_x_lump_8 (knowF : Nat → Int32) (x : Int32) (n25 : Nat) (y28 : Int32) (ab_now : NB knowF) (t3 : 0 ≤ x.toInt) (t4 : x.toInt < (knowF 2).toInt) (t5 : x.toInt ≤ 5) (h26 : n25 < 6) (e27 : x = nI n25) (e29 : y28 = knowF (107 + n25)) : 107 ≤ (107 + n25) := by
  have b_x := ia_b x
  have b_y28 := ia_b y28
  try have k_0 := ia_n n25 (by first | decide | omega)
  try simp only [ia_lt, ia_le, ia_eq, ia_m1, ia_0, ia_1, ne_eq, true_and, and_true, false_and, and_false, or_false, false_or, or_true, true_or, not_true_eq_false, not_false_eq_true] at *
  all_goals omega
set_option maxRecDepth 20000 in
theorem lf_x_lump_9 (knowF : Nat → Int32) (x : Int32) (n25 : Nat) (y28 : Int32) (ab_now : NB knowF) (t3 : 0 ≤ x.toInt) (t4 : x.toInt < (knowF 2).toInt) (t5 : x.toInt ≤ 5) (h26 : n25 < 6) (e27 : x = nI n25) (e29 : y28 = knowF (107 + n25)) : (107 + n25) < 119 := by
  have b_x := ia_b x
  have b_y28 := ia_b y28
  try have k_0 := ia_n n25 (by first | decide | omega)
  try simp only [ia_lt, ia_le, ia_eq, ia_m1, ia_0, ia_1, ne_eq, true_and, and_true, false_and, and_false, or_false, false_or, or_true, true_or, not_true_eq_false, not_false_eq_true] at *
  all_goals omega
set_option maxRecDepth 20000 in
theorem lf_x_lump_10 (knowF : Nat → Int32) (x : Int32) (n25 : Nat) (y28 : Int32) (ab_now : NB knowF) (t3 : 0 ≤ x.toInt) (t4 : x.toInt < (knowF 2).toInt) (t5 : x.toInt ≤ 5) (h26 : n25 < 6) (e27 : x = nI n25) (e29 : y28 = knowF (107 + n25)) (b30 : 0 ≤ y28.toInt) (b31 : y28.toInt ≤ 35) : 0 ≤ y28.toInt ∧ y28.toInt < ((36 : Nat) : Int) := by
  have b_x := ia_b x
  have b_y28 := ia_b y28
  try have k_0 := ia_n n25 (by first | decide | omega)
  try simp only [ia_lt, ia_le, ia_eq, ia_m1, ia_0, ia_1, ne_eq, true_and, and_true, false_and, and_false, or_false, false_or, or_true, true_or, not_true_eq_false, not_false_eq_true] at *
  all_goals omega
set_option maxHeartbeats 4000000 in
set_option maxRecDepth 100000 in
theorem c_x_lump (l : Launch) (dC : Nat → ClassId) (dI : Nat → Nat → Nat) (ky : Nat → ClassId) (sz : Nat) (o : Nat) (kthrown : Int32) (ktape : Nat) (ktaped : Nat) (ksize : Nat) (klimit : Nat) (kto : Nat) (kfrom : Nat) (kkind : Int32) (knumber : Int32) (ksign : Int32) (kfault : Int32) (kplace : Int32) (kword : Int64) (ktold : Int32) (know : Nat) (kread : Nat) (kkept : Nat) (ksnaps : Nat) (kaside : Nat) (kname : Nat) (kreadName : Nat) (kkeptName : Nat) (kisKept : Nat) (konces : Nat) (ksnapMany : Nat) (khasCells : Int32) (kpoured : Nat) (kfar : Nat) (ksides : Nat) (ksideMany : Nat) (kwayDays : Int32) (khasWay : Int32) (klines : Nat) (kmet : Nat) (kmetMany : Nat) (ksunk : Nat) (ktrying : Nat) (ksunkMany : Nat) (ksending : Int32) (kfleets : Int32) (ktext : Nat) (ktexts : Nat) (kseed : Int32) (kline : Nat) (kwritten : Nat) (klineMany : Nat) (khasWritten : Int32) (knode : Nat) (knodes : Nat) (konesMany : Nat) (kwithin : Nat) (ktop : Nat) (knowF : Nat → Int32) (x : Int32) (y : Int32) (iv_ko_0 : ktaped ≤ 940) (iv_ko_1 : ksize ≤ 940) (iv_ko_2 : klimit ≤ 900) (iv_ko_3 : kto ≤ ksize) (iv_ko_4 : kfrom ≤ 940) (iv_ko_5 : ksnapMany ≤ 8) (iv_ko_6 : ksideMany ≤ 36) (iv_ko_7 : kmetMany ≤ 3) (iv_ko_8 : ksunkMany ≤ 36) (iv_ko_9 : ktexts ≤ 64) (iv_ko_10 : klineMany ≤ 40) (iv_ko_11 : knodes ≤ 60) (iv_ko_12 : konesMany ≤ 20) (iv_ko_13 : kwithin ≤ 8) (iv_ko_14 : ktop ≤ 59) (ab_now : NB knowF) : Met l yX12_lump wsX12_lump ({ frames := 2, cells := 0, slots := 0, locals := 43 }) (PcU dC dI ky [.ref o, .int x, .int y] [(o, .inr (12, [.int kthrown, .ref ktape, .int (nI ktaped), .int (nI ksize), .int (nI klimit), .int (nI kto), .int (nI kfrom), .int kkind, .int knumber, .int ksign, .int kfault, .int kplace, .long kword, .int ktold, .ref know, .ref kread, .ref kkept, .ref ksnaps, .ref kaside, .ref kname, .ref kreadName, .ref kkeptName, .ref kisKept, .ref konces, .int (nI ksnapMany), .int khasCells, .ref kpoured, .ref kfar, .ref ksides, .int (nI ksideMany), .int kwayDays, .int khasWay, .ref klines, .ref kmet, .int (nI kmetMany), .ref ksunk, .ref ktrying, .int (nI ksunkMany), .int ksending, .int kfleets, .ref ktext, .int (nI ktexts), .int kseed, .ref kline, .ref kwritten, .int (nI klineMany), .int khasWritten, .ref knode, .int (nI knodes), .int (nI konesMany), .int (nI kwithin), .int (nI ktop)])), (know, .inl (ky 0, 373, .inl knowF))] sz) (va_Qi (fun (r : Int32) (kthrownG : Int32) => True) (BU dC dI ky (fun (kthrownG : Int32) => [(o, .inr (12, [.int kthrownG, .ref ktape, .int (nI ktaped), .int (nI ksize), .int (nI klimit), .int (nI kto), .int (nI kfrom), .int kkind, .int knumber, .int ksign, .int kfault, .int kplace, .long kword, .int ktold, .ref know, .ref kread, .ref kkept, .ref ksnaps, .ref kaside, .ref kname, .ref kreadName, .ref kkeptName, .ref kisKept, .ref konces, .int (nI ksnapMany), .int khasCells, .ref kpoured, .ref kfar, .ref ksides, .int (nI ksideMany), .int kwayDays, .int khasWay, .ref klines, .ref kmet, .int (nI kmetMany), .ref ksunk, .ref ktrying, .int (nI ksunkMany), .int ksending, .int kfleets, .ref ktext, .int (nI ktexts), .int kseed, .ref kline, .ref kwritten, .int (nI klineMany), .int khasWritten, .ref knode, .int (nI knodes), .int (nI konesMany), .int (nI kwithin), .int (nI ktop)])), (know, .inl (ky 0, 373, .inl knowF))]) (va_A [(o, .inr (12, [.int kthrown, .ref ktape, .int (nI ktaped), .int (nI ksize), .int (nI klimit), .int (nI kto), .int (nI kfrom), .int kkind, .int knumber, .int ksign, .int kfault, .int kplace, .long kword, .int ktold, .ref know, .ref kread, .ref kkept, .ref ksnaps, .ref kaside, .ref kname, .ref kreadName, .ref kkeptName, .ref kisKept, .ref konces, .int (nI ksnapMany), .int khasCells, .ref kpoured, .ref kfar, .ref ksides, .int (nI ksideMany), .int kwayDays, .int khasWay, .ref klines, .ref kmet, .int (nI kmetMany), .ref ksunk, .ref ktrying, .int (nI ksunkMany), .int ksending, .int kfleets, .ref ktext, .int (nI ktexts), .int kseed, .ref kline, .ref kwritten, .int (nI klineMany), .int khasWritten, .ref knode, .int (nI knodes), .int (nI konesMany), .int (nI kwithin), .int (nI ktop)])), (know, .inl (ky 0, 373, .inl knowF))] sz)) (va_A [(o, .inr (12, [.int kthrown, .ref ktape, .int (nI ktaped), .int (nI ksize), .int (nI klimit), .int (nI kto), .int (nI kfrom), .int kkind, .int knumber, .int ksign, .int kfault, .int kplace, .long kword, .int ktold, .ref know, .ref kread, .ref kkept, .ref ksnaps, .ref kaside, .ref kname, .ref kreadName, .ref kkeptName, .ref kisKept, .ref konces, .int (nI ksnapMany), .int khasCells, .ref kpoured, .ref kfar, .ref ksides, .int (nI ksideMany), .int kwayDays, .int khasWay, .ref klines, .ref kmet, .int (nI kmetMany), .ref ksunk, .ref ktrying, .int (nI ksunkMany), .int ksending, .int kfleets, .ref ktext, .int (nI ktexts), .int kseed, .ref kline, .ref kwritten, .int (nI klineMany), .int khasWritten, .ref knode, .int (nI knodes), .int (nI konesMany), .int (nI kwithin), .int (nI ktop)])), (know, .inl (ky 0, 373, .inl knowF))] sz)) 0 0 (va_A [(o, .inr (12, [.int kthrown, .ref ktape, .int (nI ktaped), .int (nI ksize), .int (nI klimit), .int (nI kto), .int (nI kfrom), .int kkind, .int knumber, .int ksign, .int kfault, .int kplace, .long kword, .int ktold, .ref know, .ref kread, .ref kkept, .ref ksnaps, .ref kaside, .ref kname, .ref kreadName, .ref kkeptName, .ref kisKept, .ref konces, .int (nI ksnapMany), .int khasCells, .ref kpoured, .ref kfar, .ref ksides, .int (nI ksideMany), .int kwayDays, .int khasWay, .ref klines, .ref kmet, .int (nI kmetMany), .ref ksunk, .ref ktrying, .int (nI ksunkMany), .int ksending, .int kfleets, .ref ktext, .int (nI ktexts), .int kseed, .ref kline, .ref kwritten, .int (nI klineMany), .int khasWritten, .ref knode, .int (nI knodes), .int (nI konesMany), .int (nI kwithin), .int (nI ktop)])), (know, .inl (ky 0, 373, .inl knowF))] sz) := by
  refine Met.ofW (cc := cX12_lump) (maxL := 3) (ret := (some .int)) (by decide) rfl ?_
  intro p e s m args below meth c s₁ B hml hv
  obtain ⟨rfl, hsz, hP, hK, hD0⟩ := hv
  have hx := B.exec
  have hb := B.bytes
  have hr := B.returns
  have hts := atoms_spec (ws := wsX12_lump) B.pre
  have hown : s.vm.findClass RX12 = some m.cls := findClass_of_methodNamed B.named
  have hlocks := B.notSynchronized
  have hin12 : ∀ w ∈ u_ws RX12 TX12 52, w ∈ wsX12_lump := by decide +kernel
  subst hsz
  have hD := hD0.self (sz := s.heap.size)
  generalize hAe : va_A [(o, .inr (12, [.int kthrown, .ref ktape, .int (nI ktaped), .int (nI ksize), .int (nI klimit), .int (nI kto), .int (nI kfrom), .int kkind, .int knumber, .int ksign, .int kfault, .int kplace, .long kword, .int ktold, .ref know, .ref kread, .ref kkept, .ref ksnaps, .ref kaside, .ref kname, .ref kreadName, .ref kkeptName, .ref kisKept, .ref konces, .int (nI ksnapMany), .int khasCells, .ref kpoured, .ref kfar, .ref ksides, .int (nI ksideMany), .int kwayDays, .int khasWay, .ref klines, .ref kmet, .int (nI kmetMany), .ref ksunk, .ref ktrying, .int (nI ksunkMany), .int ksending, .int kfleets, .ref ktext, .int (nI ktexts), .int kseed, .ref kline, .ref kwritten, .int (nI klineMany), .int khasWritten, .ref knode, .int (nI knodes), .int (nI konesMany), .int (nI kwithin), .int (nI ktop)])), (know, .inl (ky 0, 373, .inl knowF))] s.heap.size = A at hD ⊢
  have hA : ∀ q : Nat, s.heap.size ≤ q → A q := fun q h => by rw [← hAe]; exact Or.inr h
  have hS : va_S A s.heap s.heap [] := va_S.rf
  have hl := lv_entry ([.ref o, .int x, .int y]) (n := 3) (Nat.le_of_ble_eq_true rfl)
  rw [lg_entry_eq]
  generalize (lg_sl ([.ref o, .int x, .int y]) ++ List.replicate (3 - (lg_sl ([.ref o, .int x, .int y])).length) Slot.unset).toArray = ls at hl ⊢
  have hl : lv_has ls 3 [(0, .ref o), (1, .int x), (2, .int y)] := hl
  refine q_name (fun Q hQ => ?_)
  generalize ([.ref o, .int x, .int y] : List Value).toArray = args at hts hQ ⊢
  refine lv_aload_n hx hb dX12_lump_0 rfl (lv_at hl 0 rfl) ?_
  refine lv_iconst (v := nI 0) hx hb dX12_lump_1 (by decide) ?_
  refine va_put (D := (dC, dI)) (ci := 12) (v := .int (nI 0)) (ty := .int) (C := RX12) (T := TX12) (N := 52) hx hb hts hin12 tyX12 tyX12_ok nmX12 hown hK hP hD hS 0 rfl rfl 0 (by decide) (hts (.fieldLink RX12 1 "PorridgeSeaModel" "thrown" "I") (List.mem_of_getElem? (i := 1) rfl)) (fun _ h9 => h9) rfl (by decide +kernel) rfl rfl (Nat.le_of_ble_eq_true rfl) dX12_lump_2 (fun H locs hP hD hS => ?_)
  have hP : va_P (dC, dI) vwCl [(o, .inr (12, [.int (nI 0), .ref ktape, .int (nI ktaped), .int (nI ksize), .int (nI klimit), .int (nI kto), .int (nI kfrom), .int kkind, .int knumber, .int ksign, .int kfault, .int kplace, .long kword, .int ktold, .ref know, .ref kread, .ref kkept, .ref ksnaps, .ref kaside, .ref kname, .ref kreadName, .ref kkeptName, .ref kisKept, .ref konces, .int (nI ksnapMany), .int khasCells, .ref kpoured, .ref kfar, .ref ksides, .int (nI ksideMany), .int kwayDays, .int khasWay, .ref klines, .ref kmet, .int (nI kmetMany), .ref ksunk, .ref ktrying, .int (nI ksunkMany), .int ksending, .int kfleets, .ref ktext, .int (nI ktexts), .int kseed, .ref kline, .ref kwritten, .int (nI klineMany), .int khasWritten, .ref knode, .int (nI knodes), .int (nI konesMany), .int (nI kwithin), .int (nI ktop)])), (know, .inl (ky 0, 373, .inl knowF))] H := hP
  have hD : va_D A [(o, .inr (12, [.int (nI 0), .ref ktape, .int (nI ktaped), .int (nI ksize), .int (nI klimit), .int (nI kto), .int (nI kfrom), .int kkind, .int knumber, .int ksign, .int kfault, .int kplace, .long kword, .int ktold, .ref know, .ref kread, .ref kkept, .ref ksnaps, .ref kaside, .ref kname, .ref kreadName, .ref kkeptName, .ref kisKept, .ref konces, .int (nI ksnapMany), .int khasCells, .ref kpoured, .ref kfar, .ref ksides, .int (nI ksideMany), .int kwayDays, .int khasWay, .ref klines, .ref kmet, .int (nI kmetMany), .ref ksunk, .ref ktrying, .int (nI ksunkMany), .int ksending, .int kfleets, .ref ktext, .int (nI ktexts), .int kseed, .ref kline, .ref kwritten, .int (nI klineMany), .int khasWritten, .ref knode, .int (nI knodes), .int (nI konesMany), .int (nI kwithin), .int (nI ktop)])), (know, .inl (ky 0, 373, .inl knowF))] := hD
  refine lv_aload_n hx hb dX12_lump_5 rfl (lv_at hl 0 rfl) ?_
  refine lv_iload_n hx hb dX12_lump_6 rfl (lv_at hl 1 rfl) ?_
  refine vp_callSi (W.runV (As := [.int x]) (rest := []) ⟨hx, hb, hml, hown, hts⟩ (c_x_isLump l dC dI ky o (nI 0) ktape ktaped ksize klimit kto kfrom kkind knumber ksign kfault kplace kword ktold know kread kkept ksnaps kaside kname kreadName kkeptName kisKept konces ksnapMany khasCells kpoured kfar ksides ksideMany kwayDays khasWay klines kmet kmetMany ksunk ktrying ksunkMany ksending kfleets ktext ktexts kseed kline kwritten klineMany khasWritten knode knodes konesMany kwithin ktop knowF x iv_ko_0 iv_ko_1 iv_ko_2 iv_ko_3 iv_ko_4 iv_ko_5 iv_ko_6 iv_ko_7 iv_ko_8 iv_ko_9 iv_ko_10 iv_ko_11 iv_ko_12 iv_ko_13 iv_ko_14 ab_now) (cwV 1 hts gX12_lump_X12_isLump rfl rfl rfl (by decide +kernel) ⟨(Nat.le_of_ble_eq_true rfl), (Nat.le_of_ble_eq_true rfl)⟩) (pre_PV hK hP [0, 1] rfl (ci := 12) (q0 := 0) rfl rfl) rfl rfl hl.1 rfl (lv_room (Nat.le_of_ble_eq_true rfl)) dX12_lump_7 ⟨(Nat.le_of_ble_eq_true rfl), (Nat.le_of_ble_eq_true rfl)⟩) (fun r1 p2 => ?_)
  rcases p2 with ⟨rfl, t3, t4, t5⟩ | ⟨rfl, t6⟩
  · refine lv_if_eq (tgt := 22) hx hb dX12_lump_10 (by decide) (fun c7 => absurd c7 (by decide)) (fun c7 => ?_)
    refine lv_iload_n hx hb dX12_lump_13 rfl (lv_at hl 2 rfl) ?_
    refine lv_iconst (v := nI 0) hx hb dX12_lump_14 (by decide) ?_
    refine lv_iconst (v := nI 1) hx hb dX12_lump_15 (by decide) ?_
    refine vp_callSi (W.runS (As := [.int y, .int (nI 0), .int (nI 1)]) (rest := []) ⟨hx, hb, hml, hown, hts⟩ (c_x_isIn l dC dI ky y (nI 0) (nI 1)) (va_cwS 3 hts gX12_lump_X12_isIn rfl rfl rfl (by decide +kernel) ⟨(Nat.le_of_ble_eq_true rfl), (Nat.le_of_ble_eq_true rfl)⟩) (pre_PS hK hP [] rfl) rfl rfl hl.1 rfl (lv_room (Nat.le_of_ble_eq_true rfl)) dX12_lump_16 ⟨(Nat.le_of_ble_eq_true rfl), (Nat.le_of_ble_eq_true rfl)⟩) (fun r8 p9 => ?_)
    rcases p9 with ⟨rfl, t10, t11⟩ | ⟨rfl, t12⟩
    · refine lv_if_ne (tgt := 24) hx hb dX12_lump_19 (by decide) (fun c13 => ?_) (fun c13 => absurd c13 (by decide))
      refine lv_iload_n hx hb dX12_lump_24 rfl (lv_at hl 2 rfl) ?_
      refine lv_if_ne (tgt := 43) hx hb dX12_lump_25 (by decide) (fun c14 => ?_) (fun c14 => ?_)
      · refine lv_aload_n hx hb dX12_lump_43 rfl (lv_at hl 0 rfl) ?_
        refine va_get (D := (dC, dI)) (ci := 12) (v := .ref know) (C := RX12) (T := TX12) (N := 52) hx hb hts hin12 hown hK hP 0 rfl rfl 14 (by decide) (hts (.fieldLink RX12 98 "PorridgeSeaModel" "now" "[I") (List.mem_of_getElem? (i := 2) rfl)) (fun _ h9 => h9) rfl dX12_lump_44 ?_
        refine lv_bipush (v := nI 107) hx hb dX12_lump_47 (by decide) ?_
        refine lv_iload_n hx hb dX12_lump_49 rfl (lv_at hl 1 rfl) ?_
        obtain ⟨n15, h16, e17⟩ := nat_of x 6 (by decide) (lf_x_lump_1 knowF x ab_now t3 t4 t5)
        rw [e17]
        refine lv_iadd hx hb dX12_lump_50 ?_
        refine r_ti (nI (107 + n15)) (nI_add _ _) ?_
        obtain ⟨y18, e19⟩ : ∃ z9, z9 = knowF (107 + n15) := ⟨_, rfl⟩
        refine r_iald hx hb hK hP 1 rfl (107 + n15) (lf_x_lump_2 knowF x n15 y18 ab_now t3 t4 t5 h16 e17 e19) (by decide) y18 e19.symm dX12_lump_51 ?_
        obtain ⟨b20, b21⟩ : (0 : Int) ≤ y18.toInt ∧ y18.toInt ≤ 35 := by rw [e19]; exact ld_NB_107 ab_now (107 + n15) (lf_x_lump_3 knowF x n15 y18 ab_now t3 t4 t5 h16 e17 e19) (lf_x_lump_4 knowF x n15 y18 ab_now t3 t4 t5 h16 e17 e19)
        refine lv_bipush (v := nI 6) hx hb dX12_lump_52 (by decide) ?_
        obtain ⟨n22, h23, e24⟩ := nat_of y18 36 (by decide) (lf_x_lump_5 knowF x n15 y18 ab_now t3 t4 t5 h16 e17 e19 b20 b21)
        rw [e24]
        refine lv_idiv hx hb dX12_lump_54 (by decide) ?_
        refine r_ti (nI (n22 / 6)) (pk_div (by omega) (by omega) (by omega)) ?_
        rw [hQ]
        exact W.iret (v := nI (n22 / 6)) hx hb hr (fun t9 ht9 hW9 => ⟨⟨nI (n22 / 6), (nI 0), rfl, trivial, by rw [ht9]; exact hP, va_K.moved hW9.alike hK, hD⟩, hS.F ht9⟩) hS.2.2 dX12_lump_55
      · refine lv_aload_n hx hb dX12_lump_28 rfl (lv_at hl 0 rfl) ?_
        refine va_get (D := (dC, dI)) (ci := 12) (v := .ref know) (C := RX12) (T := TX12) (N := 52) hx hb hts hin12 hown hK hP 0 rfl rfl 14 (by decide) (hts (.fieldLink RX12 98 "PorridgeSeaModel" "now" "[I") (List.mem_of_getElem? (i := 2) rfl)) (fun _ h9 => h9) rfl dX12_lump_29 ?_
        refine lv_bipush (v := nI 107) hx hb dX12_lump_32 (by decide) ?_
        refine lv_iload_n hx hb dX12_lump_34 rfl (lv_at hl 1 rfl) ?_
        obtain ⟨n25, h26, e27⟩ := nat_of x 6 (by decide) (lf_x_lump_6 knowF x ab_now t3 t4 t5)
        rw [e27]
        refine lv_iadd hx hb dX12_lump_35 ?_
        refine r_ti (nI (107 + n25)) (nI_add _ _) ?_
        obtain ⟨y28, e29⟩ : ∃ z9, z9 = knowF (107 + n25) := ⟨_, rfl⟩
        refine r_iald hx hb hK hP 1 rfl (107 + n25) (lf_x_lump_7 knowF x n25 y28 ab_now t3 t4 t5 h26 e27 e29) (by decide) y28 e29.symm dX12_lump_36 ?_
        obtain ⟨b30, b31⟩ : (0 : Int) ≤ y28.toInt ∧ y28.toInt ≤ 35 := by rw [e29]; exact ld_NB_107 ab_now (107 + n25) (lf_x_lump_8 knowF x n25 y28 ab_now t3 t4 t5 h26 e27 e29) (lf_x_lump_9 knowF x n25 y28 ab_now t3 t4 t5 h26 e27 e29)
        refine lv_bipush (v := nI 6) hx hb dX12_lump_37 (by decide) ?_
        obtain ⟨n32, h33, e34⟩ := nat_of y28 36 (by decide) (lf_x_lump_10 knowF x n25 y28 ab_now t3 t4 t5 h26 e27 e29 b30 b31)
        rw [e34]
        refine lv_irem hx hb dX12_lump_39 (by decide) ?_
        refine r_ti (nI (n32 % 6)) (pk_rem (by omega) (by omega) (by omega)) ?_
        refine lv_goto (tgt := 55) hx hb dX12_lump_40 (by decide) ?_
        rw [hQ]
        exact W.iret (v := nI (n32 % 6)) hx hb hr (fun t9 ht9 hW9 => ⟨⟨nI (n32 % 6), (nI 0), rfl, trivial, by rw [ht9]; exact hP, va_K.moved hW9.alike hK, hD⟩, hS.F ht9⟩) hS.2.2 dX12_lump_55
    · refine lv_if_ne (tgt := 24) hx hb dX12_lump_19 (by decide) (fun c35 => absurd c35 (by decide)) (fun c35 => ?_)
      refine lv_iconst (v := (-1 : Int32)) hx hb dX12_lump_22 (by decide) ?_
      rw [hQ]
      exact W.iret (v := (-1 : Int32)) hx hb hr (fun t9 ht9 hW9 => ⟨⟨(-1 : Int32), (nI 0), rfl, trivial, by rw [ht9]; exact hP, va_K.moved hW9.alike hK, hD⟩, hS.F ht9⟩) hS.2.2 dX12_lump_23
  · refine lv_if_eq (tgt := 22) hx hb dX12_lump_10 (by decide) (fun c36 => ?_) (fun c36 => absurd (by decide) c36)
    refine lv_iconst (v := (-1 : Int32)) hx hb dX12_lump_22 (by decide) ?_
    rw [hQ]
    exact W.iret (v := (-1 : Int32)) hx hb hr (fun t9 ht9 hW9 => ⟨⟨(-1 : Int32), (nI 0), rfl, trivial, by rw [ht9]; exact hP, va_K.moved hW9.alike hK, hD⟩, hS.F ht9⟩) hS.2.2 dX12_lump_23
set_option maxRecDepth 20000 in
theorem lf_x_boat_1 (knowF : Nat → Int32) (x : Int32) (ab_now : NB knowF) (t3 : 0 ≤ x.toInt) (t4 : x.toInt < (knowF 3).toInt) (t5 : x.toInt ≤ 5) : 0 ≤ x.toInt ∧ x.toInt < ((6 : Nat) : Int) := by
  have b_x := ia_b x
  try simp only [ia_lt, ia_le, ia_eq, ia_m1, ia_0, ia_1, ne_eq, true_and, and_true, false_and, and_false, or_false, false_or, or_true, true_or, not_true_eq_false, not_false_eq_true] at *
  all_goals omega
set_option maxRecDepth 20000 in
theorem lf_x_boat_2 (knowF : Nat → Int32) (x : Int32) (n23 : Nat) (y26 : Int32) (ab_now : NB knowF) (t3 : 0 ≤ x.toInt) (t4 : x.toInt < (knowF 3).toInt) (t5 : x.toInt ≤ 5) (h24 : n23 < 6) (e25 : x = nI n23) (e27 : y26 = knowF (113 + n23)) : (113 + n23) < 373 := by
  have b_x := ia_b x
  have b_y26 := ia_b y26
  try have k_0 := ia_n n23 (by first | decide | omega)
  try simp only [ia_lt, ia_le, ia_eq, ia_m1, ia_0, ia_1, ne_eq, true_and, and_true, false_and, and_false, or_false, false_or, or_true, true_or, not_true_eq_false, not_false_eq_true] at *
  all_goals omega
set_option maxRecDepth 20000 in
theorem lf_x_boat_3 (knowF : Nat → Int32) (x : Int32) (n23 : Nat) (y26 : Int32) (ab_now : NB knowF) (t3 : 0 ≤ x.toInt) (t4 : x.toInt < (knowF 3).toInt) (t5 : x.toInt ≤ 5) (h24 : n23 < 6) (e25 : x = nI n23) (e27 : y26 = knowF (113 + n23)) : 107 ≤ (113 + n23) := by
  have b_x := ia_b x
  have b_y26 := ia_b y26
  try have k_0 := ia_n n23 (by first | decide | omega)
  try simp only [ia_lt, ia_le, ia_eq, ia_m1, ia_0, ia_1, ne_eq, true_and, and_true, false_and, and_false, or_false, false_or, or_true, true_or, not_true_eq_false, not_false_eq_true] at *
  all_goals omega
set_option maxRecDepth 20000 in
theorem lf_x_boat_4 (knowF : Nat → Int32) (x : Int32) (n23 : Nat) (y26 : Int32) (ab_now : NB knowF) (t3 : 0 ≤ x.toInt) (t4 : x.toInt < (knowF 3).toInt) (t5 : x.toInt ≤ 5) (h24 : n23 < 6) (e25 : x = nI n23) (e27 : y26 = knowF (113 + n23)) : (113 + n23) < 119 := by
  have b_x := ia_b x
  have b_y26 := ia_b y26
  try have k_0 := ia_n n23 (by first | decide | omega)
  try simp only [ia_lt, ia_le, ia_eq, ia_m1, ia_0, ia_1, ne_eq, true_and, and_true, false_and, and_false, or_false, false_or, or_true, true_or, not_true_eq_false, not_false_eq_true] at *
  all_goals omega
set_option maxRecDepth 20000 in
theorem lf_x_boat_5 (knowF : Nat → Int32) (x : Int32) (n23 : Nat) (y26 : Int32) (ab_now : NB knowF) (t3 : 0 ≤ x.toInt) (t4 : x.toInt < (knowF 3).toInt) (t5 : x.toInt ≤ 5) (h24 : n23 < 6) (e25 : x = nI n23) (e27 : y26 = knowF (113 + n23)) (b28 : 0 ≤ y26.toInt) (b29 : y26.toInt ≤ 35) : 0 ≤ y26.toInt ∧ y26.toInt < ((36 : Nat) : Int) := by
  have b_x := ia_b x
  have b_y26 := ia_b y26
  try have k_0 := ia_n n23 (by first | decide | omega)
  try simp only [ia_lt, ia_le, ia_eq, ia_m1, ia_0, ia_1, ne_eq, true_and, and_true, false_and, and_false, or_false, false_or, or_true, true_or, not_true_eq_false, not_false_eq_true] at *
  all_goals omega
set_option maxRecDepth 20000 in
theorem lf_x_boat_6 (knowF : Nat → Int32) (x : Int32) (ab_now : NB knowF) (t3 : 0 ≤ x.toInt) (t4 : x.toInt < (knowF 3).toInt) (t5 : x.toInt ≤ 5) : 0 ≤ x.toInt ∧ x.toInt < ((6 : Nat) : Int) := by
  have b_x := ia_b x
  try simp only [ia_lt, ia_le, ia_eq, ia_m1, ia_0, ia_1, ne_eq, true_and, and_true, false_and, and_false, or_false, false_or, or_true, true_or, not_true_eq_false, not_false_eq_true] at *
  all_goals omega
set_option maxRecDepth 20000 in
theorem lf_x_boat_7 (knowF : Nat → Int32) (x : Int32) (n33 : Nat) (y36 : Int32) (ab_now : NB knowF) (t3 : 0 ≤ x.toInt) (t4 : x.toInt < (knowF 3).toInt) (t5 : x.toInt ≤ 5) (h34 : n33 < 6) (e35 : x = nI n33) (e37 : y36 = knowF (113 + n33)) : (113 + n33) < 373 := by
  have b_x := ia_b x
  have b_y36 := ia_b y36
  try have k_0 := ia_n n33 (by first | decide | omega)
  try simp only [ia_lt, ia_le, ia_eq, ia_m1, ia_0, ia_1, ne_eq, true_and, and_true, false_and, and_false, or_false, false_or, or_true, true_or, not_true_eq_false, not_false_eq_true] at *
  all_goals omega
set_option maxRecDepth 20000 in
theorem lf_x_boat_8 (knowF : Nat → Int32) (x : Int32) (n33 : Nat) (y36 : Int32) (ab_now : NB knowF) (t3 : 0 ≤ x.toInt) (t4 : x.toInt < (knowF 3).toInt) (t5 : x.toInt ≤ 5) (h34 : n33 < 6) (e35 : x = nI n33) (e37 : y36 = knowF (113 + n33)) : 107 ≤ (113 + n33) := by
  have b_x := ia_b x
  have b_y36 := ia_b y36
  try have k_0 := ia_n n33 (by first | decide | omega)
  try simp only [ia_lt, ia_le, ia_eq, ia_m1, ia_0, ia_1, ne_eq, true_and, and_true, false_and, and_false, or_false, false_or, or_true, true_or, not_true_eq_false, not_false_eq_true] at *
  all_goals omega
set_option maxRecDepth 20000 in
theorem lf_x_boat_9 (knowF : Nat → Int32) (x : Int32) (n33 : Nat) (y36 : Int32) (ab_now : NB knowF) (t3 : 0 ≤ x.toInt) (t4 : x.toInt < (knowF 3).toInt) (t5 : x.toInt ≤ 5) (h34 : n33 < 6) (e35 : x = nI n33) (e37 : y36 = knowF (113 + n33)) : (113 + n33) < 119 := by
  have b_x := ia_b x
  have b_y36 := ia_b y36
  try have k_0 := ia_n n33 (by first | decide | omega)
  try simp only [ia_lt, ia_le, ia_eq, ia_m1, ia_0, ia_1, ne_eq, true_and, and_true, false_and, and_false, or_false, false_or, or_true, true_or, not_true_eq_false, not_false_eq_true] at *
  all_goals omega
set_option maxRecDepth 20000 in
theorem lf_x_boat_10 (knowF : Nat → Int32) (x : Int32) (n33 : Nat) (y36 : Int32) (ab_now : NB knowF) (t3 : 0 ≤ x.toInt) (t4 : x.toInt < (knowF 3).toInt) (t5 : x.toInt ≤ 5) (h34 : n33 < 6) (e35 : x = nI n33) (e37 : y36 = knowF (113 + n33)) (b38 : 0 ≤ y36.toInt) (b39 : y36.toInt ≤ 35) : 0 ≤ y36.toInt ∧ y36.toInt < ((36 : Nat) : Int) := by
  have b_x := ia_b x
  have b_y36 := ia_b y36
  try have k_0 := ia_n n33 (by first | decide | omega)
  try simp only [ia_lt, ia_le, ia_eq, ia_m1, ia_0, ia_1, ne_eq, true_and, and_true, false_and, and_false, or_false, false_or, or_true, true_or, not_true_eq_false, not_false_eq_true] at *
  all_goals omega
set_option maxRecDepth 20000 in
theorem lf_x_boat_11 (knowF : Nat → Int32) (x : Int32) (ab_now : NB knowF) (t3 : 0 ≤ x.toInt) (t4 : x.toInt < (knowF 3).toInt) (t5 : x.toInt ≤ 5) : 0 ≤ x.toInt ∧ x.toInt < ((6 : Nat) : Int) := by
  have b_x := ia_b x
  try simp only [ia_lt, ia_le, ia_eq, ia_m1, ia_0, ia_1, ne_eq, true_and, and_true, false_and, and_false, or_false, false_or, or_true, true_or, not_true_eq_false, not_false_eq_true] at *
  all_goals omega
set_option maxRecDepth 20000 in
theorem lf_x_boat_12 (knowF : Nat → Int32) (x : Int32) (n43 : Nat) (y46 : Int32) (ab_now : NB knowF) (t3 : 0 ≤ x.toInt) (t4 : x.toInt < (knowF 3).toInt) (t5 : x.toInt ≤ 5) (h44 : n43 < 6) (e45 : x = nI n43) (e47 : y46 = knowF (55 + n43)) : (55 + n43) < 373 := by
  have b_x := ia_b x
  have b_y46 := ia_b y46
  try have k_0 := ia_n n43 (by first | decide | omega)
  try simp only [ia_lt, ia_le, ia_eq, ia_m1, ia_0, ia_1, ne_eq, true_and, and_true, false_and, and_false, or_false, false_or, or_true, true_or, not_true_eq_false, not_false_eq_true] at *
  all_goals omega
set_option maxRecDepth 20000 in
theorem lf_x_boat_13 (knowF : Nat → Int32) (x : Int32) (ab_now : NB knowF) (t3 : 0 ≤ x.toInt) (t4 : x.toInt < (knowF 3).toInt) (t5 : x.toInt ≤ 5) : 0 ≤ x.toInt ∧ x.toInt < ((6 : Nat) : Int) := by
  have b_x := ia_b x
  try simp only [ia_lt, ia_le, ia_eq, ia_m1, ia_0, ia_1, ne_eq, true_and, and_true, false_and, and_false, or_false, false_or, or_true, true_or, not_true_eq_false, not_false_eq_true] at *
  all_goals omega
set_option maxRecDepth 20000 in
theorem lf_x_boat_14 (knowF : Nat → Int32) (x : Int32) (n48 : Nat) (y51 : Int32) (ab_now : NB knowF) (t3 : 0 ≤ x.toInt) (t4 : x.toInt < (knowF 3).toInt) (t5 : x.toInt ≤ 5) (h49 : n48 < 6) (e50 : x = nI n48) (e52 : y51 = knowF (61 + n48)) : (61 + n48) < 373 := by
  have b_x := ia_b x
  have b_y51 := ia_b y51
  try have k_0 := ia_n n48 (by first | decide | omega)
  try simp only [ia_lt, ia_le, ia_eq, ia_m1, ia_0, ia_1, ne_eq, true_and, and_true, false_and, and_false, or_false, false_or, or_true, true_or, not_true_eq_false, not_false_eq_true] at *
  all_goals omega
set_option maxRecDepth 20000 in
theorem lf_x_boat_15 (knowF : Nat → Int32) (x : Int32) (ab_now : NB knowF) (t3 : 0 ≤ x.toInt) (t4 : x.toInt < (knowF 3).toInt) (t5 : x.toInt ≤ 5) : 0 ≤ x.toInt ∧ x.toInt < ((6 : Nat) : Int) := by
  have b_x := ia_b x
  try simp only [ia_lt, ia_le, ia_eq, ia_m1, ia_0, ia_1, ne_eq, true_and, and_true, false_and, and_false, or_false, false_or, or_true, true_or, not_true_eq_false, not_false_eq_true] at *
  all_goals omega
set_option maxRecDepth 20000 in
theorem lf_x_boat_16 (knowF : Nat → Int32) (x : Int32) (n53 : Nat) (y56 : Int32) (ab_now : NB knowF) (t3 : 0 ≤ x.toInt) (t4 : x.toInt < (knowF 3).toInt) (t5 : x.toInt ≤ 5) (h54 : n53 < 6) (e55 : x = nI n53) (e57 : y56 = knowF (119 + n53)) : (119 + n53) < 373 := by
  have b_x := ia_b x
  have b_y56 := ia_b y56
  try have k_0 := ia_n n53 (by first | decide | omega)
  try simp only [ia_lt, ia_le, ia_eq, ia_m1, ia_0, ia_1, ne_eq, true_and, and_true, false_and, and_false, or_false, false_or, or_true, true_or, not_true_eq_false, not_false_eq_true] at *
  all_goals omega
set_option maxRecDepth 20000 in
theorem lf_x_boat_17 (knowF : Nat → Int32) (x : Int32) (ab_now : NB knowF) (t3 : 0 ≤ x.toInt) (t4 : x.toInt < (knowF 3).toInt) (t5 : x.toInt ≤ 5) : 0 ≤ x.toInt ∧ x.toInt < ((6 : Nat) : Int) := by
  have b_x := ia_b x
  try simp only [ia_lt, ia_le, ia_eq, ia_m1, ia_0, ia_1, ne_eq, true_and, and_true, false_and, and_false, or_false, false_or, or_true, true_or, not_true_eq_false, not_false_eq_true] at *
  all_goals omega
set_option maxRecDepth 20000 in
theorem lf_x_boat_18 (knowF : Nat → Int32) (x : Int32) (n58 : Nat) (y61 : Int32) (ab_now : NB knowF) (t3 : 0 ≤ x.toInt) (t4 : x.toInt < (knowF 3).toInt) (t5 : x.toInt ≤ 5) (h59 : n58 < 6) (e60 : x = nI n58) (e62 : y61 = knowF (125 + n58)) : (125 + n58) < 373 := by
  have b_x := ia_b x
  have b_y61 := ia_b y61
  try have k_0 := ia_n n58 (by first | decide | omega)
  try simp only [ia_lt, ia_le, ia_eq, ia_m1, ia_0, ia_1, ne_eq, true_and, and_true, false_and, and_false, or_false, false_or, or_true, true_or, not_true_eq_false, not_false_eq_true] at *
  all_goals omega
set_option maxRecDepth 20000 in
theorem lf_x_boat_19 (knowF : Nat → Int32) (x : Int32) (ab_now : NB knowF) (t3 : 0 ≤ x.toInt) (t4 : x.toInt < (knowF 3).toInt) (t5 : x.toInt ≤ 5) : 0 ≤ x.toInt ∧ x.toInt ≤ 5 := by
  have b_x := ia_b x
  try simp only [ia_lt, ia_le, ia_eq, ia_m1, ia_0, ia_1, ne_eq, true_and, and_true, false_and, and_false, or_false, false_or, or_true, true_or, not_true_eq_false, not_false_eq_true] at *
  all_goals omega
set_option maxRecDepth 20000 in
theorem lf_x_boat_20 (knowF : Nat → Int32) (x : Int32) (ab_now : NB knowF) (t3 : 0 ≤ x.toInt) (t4 : x.toInt < (knowF 3).toInt) (t5 : x.toInt ≤ 5) : 0 ≤ x.toInt ∧ x.toInt ≤ 5 := by
  have b_x := ia_b x
  try simp only [ia_lt, ia_le, ia_eq, ia_m1, ia_0, ia_1, ne_eq, true_and, and_true, false_and, and_false, or_false, false_or, or_true, true_or, not_true_eq_false, not_false_eq_true] at *
  all_goals omega
set_option maxHeartbeats 4000000 in
set_option maxRecDepth 100000 in
theorem c_x_boat (l : Launch) (dC : Nat → ClassId) (dI : Nat → Nat → Nat) (ky : Nat → ClassId) (sz : Nat) (o : Nat) (kthrown : Int32) (ktape : Nat) (ktaped : Nat) (ksize : Nat) (klimit : Nat) (kto : Nat) (kfrom : Nat) (kkind : Int32) (knumber : Int32) (ksign : Int32) (kfault : Int32) (kplace : Int32) (kword : Int64) (ktold : Int32) (know : Nat) (kread : Nat) (kkept : Nat) (ksnaps : Nat) (kaside : Nat) (kname : Nat) (kreadName : Nat) (kkeptName : Nat) (kisKept : Nat) (konces : Nat) (ksnapMany : Nat) (khasCells : Int32) (kpoured : Nat) (kfar : Nat) (ksides : Nat) (ksideMany : Nat) (kwayDays : Int32) (khasWay : Int32) (klines : Nat) (kmet : Nat) (kmetMany : Nat) (ksunk : Nat) (ktrying : Nat) (ksunkMany : Nat) (ksending : Int32) (kfleets : Int32) (ktext : Nat) (ktexts : Nat) (kseed : Int32) (kline : Nat) (kwritten : Nat) (klineMany : Nat) (khasWritten : Int32) (knode : Nat) (knodes : Nat) (konesMany : Nat) (kwithin : Nat) (ktop : Nat) (knowF : Nat → Int32) (x : Int32) (y : Int32) (iv_ko_0 : ktaped ≤ 940) (iv_ko_1 : ksize ≤ 940) (iv_ko_2 : klimit ≤ 900) (iv_ko_3 : kto ≤ ksize) (iv_ko_4 : kfrom ≤ 940) (iv_ko_5 : ksnapMany ≤ 8) (iv_ko_6 : ksideMany ≤ 36) (iv_ko_7 : kmetMany ≤ 3) (iv_ko_8 : ksunkMany ≤ 36) (iv_ko_9 : ktexts ≤ 64) (iv_ko_10 : klineMany ≤ 40) (iv_ko_11 : knodes ≤ 60) (iv_ko_12 : konesMany ≤ 20) (iv_ko_13 : kwithin ≤ 8) (iv_ko_14 : ktop ≤ 59) (ab_now : NB knowF) : Met l yX12_boat wsX12_boat ({ frames := 3, cells := 0, slots := 0, locals := 65 }) (PcU dC dI ky [.ref o, .int x, .int y] [(o, .inr (12, [.int kthrown, .ref ktape, .int (nI ktaped), .int (nI ksize), .int (nI klimit), .int (nI kto), .int (nI kfrom), .int kkind, .int knumber, .int ksign, .int kfault, .int kplace, .long kword, .int ktold, .ref know, .ref kread, .ref kkept, .ref ksnaps, .ref kaside, .ref kname, .ref kreadName, .ref kkeptName, .ref kisKept, .ref konces, .int (nI ksnapMany), .int khasCells, .ref kpoured, .ref kfar, .ref ksides, .int (nI ksideMany), .int kwayDays, .int khasWay, .ref klines, .ref kmet, .int (nI kmetMany), .ref ksunk, .ref ktrying, .int (nI ksunkMany), .int ksending, .int kfleets, .ref ktext, .int (nI ktexts), .int kseed, .ref kline, .ref kwritten, .int (nI klineMany), .int khasWritten, .ref knode, .int (nI knodes), .int (nI konesMany), .int (nI kwithin), .int (nI ktop)])), (know, .inl (ky 0, 373, .inl knowF))] sz) (va_Qi (fun (r : Int32) (kthrownG : Int32) => True) (BU dC dI ky (fun (kthrownG : Int32) => [(o, .inr (12, [.int kthrownG, .ref ktape, .int (nI ktaped), .int (nI ksize), .int (nI klimit), .int (nI kto), .int (nI kfrom), .int kkind, .int knumber, .int ksign, .int kfault, .int kplace, .long kword, .int ktold, .ref know, .ref kread, .ref kkept, .ref ksnaps, .ref kaside, .ref kname, .ref kreadName, .ref kkeptName, .ref kisKept, .ref konces, .int (nI ksnapMany), .int khasCells, .ref kpoured, .ref kfar, .ref ksides, .int (nI ksideMany), .int kwayDays, .int khasWay, .ref klines, .ref kmet, .int (nI kmetMany), .ref ksunk, .ref ktrying, .int (nI ksunkMany), .int ksending, .int kfleets, .ref ktext, .int (nI ktexts), .int kseed, .ref kline, .ref kwritten, .int (nI klineMany), .int khasWritten, .ref knode, .int (nI knodes), .int (nI konesMany), .int (nI kwithin), .int (nI ktop)])), (know, .inl (ky 0, 373, .inl knowF))]) (va_A [(o, .inr (12, [.int kthrown, .ref ktape, .int (nI ktaped), .int (nI ksize), .int (nI klimit), .int (nI kto), .int (nI kfrom), .int kkind, .int knumber, .int ksign, .int kfault, .int kplace, .long kword, .int ktold, .ref know, .ref kread, .ref kkept, .ref ksnaps, .ref kaside, .ref kname, .ref kreadName, .ref kkeptName, .ref kisKept, .ref konces, .int (nI ksnapMany), .int khasCells, .ref kpoured, .ref kfar, .ref ksides, .int (nI ksideMany), .int kwayDays, .int khasWay, .ref klines, .ref kmet, .int (nI kmetMany), .ref ksunk, .ref ktrying, .int (nI ksunkMany), .int ksending, .int kfleets, .ref ktext, .int (nI ktexts), .int kseed, .ref kline, .ref kwritten, .int (nI klineMany), .int khasWritten, .ref knode, .int (nI knodes), .int (nI konesMany), .int (nI kwithin), .int (nI ktop)])), (know, .inl (ky 0, 373, .inl knowF))] sz)) (va_A [(o, .inr (12, [.int kthrown, .ref ktape, .int (nI ktaped), .int (nI ksize), .int (nI klimit), .int (nI kto), .int (nI kfrom), .int kkind, .int knumber, .int ksign, .int kfault, .int kplace, .long kword, .int ktold, .ref know, .ref kread, .ref kkept, .ref ksnaps, .ref kaside, .ref kname, .ref kreadName, .ref kkeptName, .ref kisKept, .ref konces, .int (nI ksnapMany), .int khasCells, .ref kpoured, .ref kfar, .ref ksides, .int (nI ksideMany), .int kwayDays, .int khasWay, .ref klines, .ref kmet, .int (nI kmetMany), .ref ksunk, .ref ktrying, .int (nI ksunkMany), .int ksending, .int kfleets, .ref ktext, .int (nI ktexts), .int kseed, .ref kline, .ref kwritten, .int (nI klineMany), .int khasWritten, .ref knode, .int (nI knodes), .int (nI konesMany), .int (nI kwithin), .int (nI ktop)])), (know, .inl (ky 0, 373, .inl knowF))] sz)) 0 0 (va_A [(o, .inr (12, [.int kthrown, .ref ktape, .int (nI ktaped), .int (nI ksize), .int (nI klimit), .int (nI kto), .int (nI kfrom), .int kkind, .int knumber, .int ksign, .int kfault, .int kplace, .long kword, .int ktold, .ref know, .ref kread, .ref kkept, .ref ksnaps, .ref kaside, .ref kname, .ref kreadName, .ref kkeptName, .ref kisKept, .ref konces, .int (nI ksnapMany), .int khasCells, .ref kpoured, .ref kfar, .ref ksides, .int (nI ksideMany), .int kwayDays, .int khasWay, .ref klines, .ref kmet, .int (nI kmetMany), .ref ksunk, .ref ktrying, .int (nI ksunkMany), .int ksending, .int kfleets, .ref ktext, .int (nI ktexts), .int kseed, .ref kline, .ref kwritten, .int (nI klineMany), .int khasWritten, .ref knode, .int (nI knodes), .int (nI konesMany), .int (nI kwithin), .int (nI ktop)])), (know, .inl (ky 0, 373, .inl knowF))] sz) := by
  refine Met.ofW (cc := cX12_boat) (maxL := 3) (ret := (some .int)) (by decide) rfl ?_
  intro p e s m args below meth c s₁ B hml hv
  obtain ⟨rfl, hsz, hP, hK, hD0⟩ := hv
  have hx := B.exec
  have hb := B.bytes
  have hr := B.returns
  have hts := atoms_spec (ws := wsX12_boat) B.pre
  have hown : s.vm.findClass RX12 = some m.cls := findClass_of_methodNamed B.named
  have hlocks := B.notSynchronized
  have hin12 : ∀ w ∈ u_ws RX12 TX12 52, w ∈ wsX12_boat := by decide +kernel
  subst hsz
  have hD := hD0.self (sz := s.heap.size)
  generalize hAe : va_A [(o, .inr (12, [.int kthrown, .ref ktape, .int (nI ktaped), .int (nI ksize), .int (nI klimit), .int (nI kto), .int (nI kfrom), .int kkind, .int knumber, .int ksign, .int kfault, .int kplace, .long kword, .int ktold, .ref know, .ref kread, .ref kkept, .ref ksnaps, .ref kaside, .ref kname, .ref kreadName, .ref kkeptName, .ref kisKept, .ref konces, .int (nI ksnapMany), .int khasCells, .ref kpoured, .ref kfar, .ref ksides, .int (nI ksideMany), .int kwayDays, .int khasWay, .ref klines, .ref kmet, .int (nI kmetMany), .ref ksunk, .ref ktrying, .int (nI ksunkMany), .int ksending, .int kfleets, .ref ktext, .int (nI ktexts), .int kseed, .ref kline, .ref kwritten, .int (nI klineMany), .int khasWritten, .ref knode, .int (nI knodes), .int (nI konesMany), .int (nI kwithin), .int (nI ktop)])), (know, .inl (ky 0, 373, .inl knowF))] s.heap.size = A at hD ⊢
  have hA : ∀ q : Nat, s.heap.size ≤ q → A q := fun q h => by rw [← hAe]; exact Or.inr h
  have hS : va_S A s.heap s.heap [] := va_S.rf
  have hl := lv_entry ([.ref o, .int x, .int y]) (n := 3) (Nat.le_of_ble_eq_true rfl)
  rw [lg_entry_eq]
  generalize (lg_sl ([.ref o, .int x, .int y]) ++ List.replicate (3 - (lg_sl ([.ref o, .int x, .int y])).length) Slot.unset).toArray = ls at hl ⊢
  have hl : lv_has ls 3 [(0, .ref o), (1, .int x), (2, .int y)] := hl
  refine q_name (fun Q hQ => ?_)
  generalize ([.ref o, .int x, .int y] : List Value).toArray = args at hts hQ ⊢
  refine lv_aload_n hx hb dX12_boat_0 rfl (lv_at hl 0 rfl) ?_
  refine lv_iconst (v := nI 0) hx hb dX12_boat_1 (by decide) ?_
  refine va_put (D := (dC, dI)) (ci := 12) (v := .int (nI 0)) (ty := .int) (C := RX12) (T := TX12) (N := 52) hx hb hts hin12 tyX12 tyX12_ok nmX12 hown hK hP hD hS 0 rfl rfl 0 (by decide) (hts (.fieldLink RX12 1 "PorridgeSeaModel" "thrown" "I") (List.mem_of_getElem? (i := 1) rfl)) (fun _ h9 => h9) rfl (by decide +kernel) rfl rfl (Nat.le_of_ble_eq_true rfl) dX12_boat_2 (fun H locs hP hD hS => ?_)
  have hP : va_P (dC, dI) vwCl [(o, .inr (12, [.int (nI 0), .ref ktape, .int (nI ktaped), .int (nI ksize), .int (nI klimit), .int (nI kto), .int (nI kfrom), .int kkind, .int knumber, .int ksign, .int kfault, .int kplace, .long kword, .int ktold, .ref know, .ref kread, .ref kkept, .ref ksnaps, .ref kaside, .ref kname, .ref kreadName, .ref kkeptName, .ref kisKept, .ref konces, .int (nI ksnapMany), .int khasCells, .ref kpoured, .ref kfar, .ref ksides, .int (nI ksideMany), .int kwayDays, .int khasWay, .ref klines, .ref kmet, .int (nI kmetMany), .ref ksunk, .ref ktrying, .int (nI ksunkMany), .int ksending, .int kfleets, .ref ktext, .int (nI ktexts), .int kseed, .ref kline, .ref kwritten, .int (nI klineMany), .int khasWritten, .ref knode, .int (nI knodes), .int (nI konesMany), .int (nI kwithin), .int (nI ktop)])), (know, .inl (ky 0, 373, .inl knowF))] H := hP
  have hD : va_D A [(o, .inr (12, [.int (nI 0), .ref ktape, .int (nI ktaped), .int (nI ksize), .int (nI klimit), .int (nI kto), .int (nI kfrom), .int kkind, .int knumber, .int ksign, .int kfault, .int kplace, .long kword, .int ktold, .ref know, .ref kread, .ref kkept, .ref ksnaps, .ref kaside, .ref kname, .ref kreadName, .ref kkeptName, .ref kisKept, .ref konces, .int (nI ksnapMany), .int khasCells, .ref kpoured, .ref kfar, .ref ksides, .int (nI ksideMany), .int kwayDays, .int khasWay, .ref klines, .ref kmet, .int (nI kmetMany), .ref ksunk, .ref ktrying, .int (nI ksunkMany), .int ksending, .int kfleets, .ref ktext, .int (nI ktexts), .int kseed, .ref kline, .ref kwritten, .int (nI klineMany), .int khasWritten, .ref knode, .int (nI knodes), .int (nI konesMany), .int (nI kwithin), .int (nI ktop)])), (know, .inl (ky 0, 373, .inl knowF))] := hD
  refine lv_aload_n hx hb dX12_boat_5 rfl (lv_at hl 0 rfl) ?_
  refine lv_iload_n hx hb dX12_boat_6 rfl (lv_at hl 1 rfl) ?_
  refine vp_callSi (W.runV (As := [.int x]) (rest := []) ⟨hx, hb, hml, hown, hts⟩ (c_x_isBoat l dC dI ky o (nI 0) ktape ktaped ksize klimit kto kfrom kkind knumber ksign kfault kplace kword ktold know kread kkept ksnaps kaside kname kreadName kkeptName kisKept konces ksnapMany khasCells kpoured kfar ksides ksideMany kwayDays khasWay klines kmet kmetMany ksunk ktrying ksunkMany ksending kfleets ktext ktexts kseed kline kwritten klineMany khasWritten knode knodes konesMany kwithin ktop knowF x iv_ko_0 iv_ko_1 iv_ko_2 iv_ko_3 iv_ko_4 iv_ko_5 iv_ko_6 iv_ko_7 iv_ko_8 iv_ko_9 iv_ko_10 iv_ko_11 iv_ko_12 iv_ko_13 iv_ko_14 ab_now) (cwV 1 hts gX12_boat_X12_isBoat rfl rfl rfl (by decide +kernel) ⟨(Nat.le_of_ble_eq_true rfl), (Nat.le_of_ble_eq_true rfl)⟩) (pre_PV hK hP [0, 1] rfl (ci := 12) (q0 := 0) rfl rfl) rfl rfl hl.1 rfl (lv_room (Nat.le_of_ble_eq_true rfl)) dX12_boat_7 ⟨(Nat.le_of_ble_eq_true rfl), (Nat.le_of_ble_eq_true rfl)⟩) (fun r1 p2 => ?_)
  rcases p2 with ⟨rfl, t3, t4, t5⟩ | ⟨rfl, t6⟩
  · refine lv_if_ne (tgt := 18) hx hb dX12_boat_10 (by decide) (fun c7 => ?_) (fun c7 => absurd c7 (by decide))
    refine lv_iload_n hx hb dX12_boat_18 rfl (lv_at hl 2 rfl) ?_
    rcases sw_0_7 y with c9 | c10 | c11 | c12 | c13 | c14 | c15 | c16 | c17
    · refine lv_tableOut (tgt := 158) hx hb dX12_boat_19 c9 (by decide) ?_
      refine lv_aload_n hx hb dX12_boat_158 rfl (lv_at hl 0 rfl) ?_
      refine r_call_i (wr := [(know, .inl (ky 0, 373, .inl knowF))]) (va_runV (As := []) (rest := []) ⟨hx, hb, hml, hown, hts⟩ (c_x_refuse l dC dI ky H.size o (nI 0) ktape ktaped ksize klimit kto kfrom kkind knumber ksign kfault kplace kword ktold know kread kkept ksnaps kaside kname kreadName kkeptName kisKept konces ksnapMany khasCells kpoured kfar ksides ksideMany kwayDays khasWay klines kmet kmetMany ksunk ktrying ksunkMany ksending kfleets ktext ktexts kseed kline kwritten klineMany khasWritten knode knodes konesMany kwithin ktop iv_ko_0 iv_ko_1 iv_ko_2 iv_ko_3 iv_ko_4 iv_ko_5 iv_ko_6 iv_ko_7 iv_ko_8 iv_ko_9 iv_ko_10 iv_ko_11 iv_ko_12 iv_ko_13 iv_ko_14) (cwV 0 hts gX12_boat_X12_refuse rfl rfl rfl (by decide +kernel) ⟨(Nat.le_of_ble_eq_true rfl), (Nat.le_of_ble_eq_true rfl)⟩) (pre_UV hK hP hD [0] (by decide) rfl (ci := 12) (q0 := 0) rfl rfl) rfl rfl hl.1 rfl (lv_room (Nat.le_of_ble_eq_true rfl)) dX12_boat_159 ⟨(Nat.le_of_ble_eq_true rfl), (Nat.le_of_ble_eq_true rfl)⟩) hP hD hS hA [0] [1] rfl rfl (by decide) (by decide) (fun r20 u18 H locs p19 hP hD hS => ?_)
      obtain ⟨kthrownG_21, rfl⟩ : ∃ z, z = u18 := ⟨_, rfl⟩
      try dsimp only at p19
      have p22 := p19
      refine W.widen (k := 0) (n := 0) (Nat.le_of_ble_eq_true rfl) (Nat.le_of_ble_eq_true rfl) ?_
      have hP : va_P (dC, dI) vwCl [(know, .inl (ky 0, 373, .inl knowF)), (o, .inr (12, [.int kthrownG_21, .ref ktape, .int (nI ktaped), .int (nI ksize), .int (nI klimit), .int (nI kto), .int (nI kfrom), .int kkind, .int knumber, .int ksign, .int kfault, .int kplace, .long kword, .int ktold, .ref know, .ref kread, .ref kkept, .ref ksnaps, .ref kaside, .ref kname, .ref kreadName, .ref kkeptName, .ref kisKept, .ref konces, .int (nI ksnapMany), .int khasCells, .ref kpoured, .ref kfar, .ref ksides, .int (nI ksideMany), .int kwayDays, .int khasWay, .ref klines, .ref kmet, .int (nI kmetMany), .ref ksunk, .ref ktrying, .int (nI ksunkMany), .int ksending, .int kfleets, .ref ktext, .int (nI ktexts), .int kseed, .ref kline, .ref kwritten, .int (nI klineMany), .int khasWritten, .ref knode, .int (nI knodes), .int (nI konesMany), .int (nI kwithin), .int (nI ktop)]))] H := hP
      have hD : va_D A [(know, .inl (ky 0, 373, .inl knowF)), (o, .inr (12, [.int kthrownG_21, .ref ktape, .int (nI ktaped), .int (nI ksize), .int (nI klimit), .int (nI kto), .int (nI kfrom), .int kkind, .int knumber, .int ksign, .int kfault, .int kplace, .long kword, .int ktold, .ref know, .ref kread, .ref kkept, .ref ksnaps, .ref kaside, .ref kname, .ref kreadName, .ref kkeptName, .ref kisKept, .ref konces, .int (nI ksnapMany), .int khasCells, .ref kpoured, .ref kfar, .ref ksides, .int (nI ksideMany), .int kwayDays, .int khasWay, .ref klines, .ref kmet, .int (nI kmetMany), .ref ksunk, .ref ktrying, .int (nI ksunkMany), .int ksending, .int kfleets, .ref ktext, .int (nI ktexts), .int kseed, .ref kline, .ref kwritten, .int (nI klineMany), .int khasWritten, .ref knode, .int (nI knodes), .int (nI konesMany), .int (nI kwithin), .int (nI ktop)]))] := hD
      subst p22
      rw [hQ]
      have hP9 := hP.sub (ws' := [(o, .inr (12, [.int kthrownG_21, .ref ktape, .int (nI ktaped), .int (nI ksize), .int (nI klimit), .int (nI kto), .int (nI kfrom), .int kkind, .int knumber, .int ksign, .int kfault, .int kplace, .long kword, .int ktold, .ref know, .ref kread, .ref kkept, .ref ksnaps, .ref kaside, .ref kname, .ref kreadName, .ref kkeptName, .ref kisKept, .ref konces, .int (nI ksnapMany), .int khasCells, .ref kpoured, .ref kfar, .ref ksides, .int (nI ksideMany), .int kwayDays, .int khasWay, .ref klines, .ref kmet, .int (nI kmetMany), .ref ksunk, .ref ktrying, .int (nI ksunkMany), .int ksending, .int kfleets, .ref ktext, .int (nI ktexts), .int kseed, .ref kline, .ref kwritten, .int (nI klineMany), .int khasWritten, .ref knode, .int (nI knodes), .int (nI konesMany), .int (nI kwithin), .int (nI ktop)])), (know, .inl (ky 0, 373, .inl knowF))]) [1, 0] rfl
      have hD9 := hD.sub (ws' := [(o, .inr (12, [.int kthrownG_21, .ref ktape, .int (nI ktaped), .int (nI ksize), .int (nI klimit), .int (nI kto), .int (nI kfrom), .int kkind, .int knumber, .int ksign, .int kfault, .int kplace, .long kword, .int ktold, .ref know, .ref kread, .ref kkept, .ref ksnaps, .ref kaside, .ref kname, .ref kreadName, .ref kkeptName, .ref kisKept, .ref konces, .int (nI ksnapMany), .int khasCells, .ref kpoured, .ref kfar, .ref ksides, .int (nI ksideMany), .int kwayDays, .int khasWay, .ref klines, .ref kmet, .int (nI kmetMany), .ref ksunk, .ref ktrying, .int (nI ksunkMany), .int ksending, .int kfleets, .ref ktext, .int (nI ktexts), .int kseed, .ref kline, .ref kwritten, .int (nI klineMany), .int khasWritten, .ref knode, .int (nI knodes), .int (nI konesMany), .int (nI kwithin), .int (nI ktop)])), (know, .inl (ky 0, 373, .inl knowF))]) [1, 0] (by decide) rfl
      exact W.iret (v := nI 0) hx hb hr (fun t9 ht9 hW9 => ⟨⟨nI 0, kthrownG_21, rfl, trivial, by rw [ht9]; exact hP9, va_K.moved hW9.alike hK, hD9⟩, hS.F ht9⟩) hS.2.2 dX12_boat_162
    · refine r_ti (nI 0) c10 ?_
      rw [c10] at hl
      refine lv_tableIn (off := 45) (tgt := 64) hx hb dX12_boat_19 (by decide) (by decide) rfl (by decide) ?_
      refine lv_aload_n hx hb dX12_boat_64 rfl (lv_at hl 0 rfl) ?_
      refine va_get (D := (dC, dI)) (ci := 12) (v := .ref know) (C := RX12) (T := TX12) (N := 52) hx hb hts hin12 hown hK hP 0 rfl rfl 14 (by decide) (hts (.fieldLink RX12 98 "PorridgeSeaModel" "now" "[I") (List.mem_of_getElem? (i := 2) rfl)) (fun _ h9 => h9) rfl dX12_boat_65 ?_
      refine lv_bipush (v := nI 113) hx hb dX12_boat_68 (by decide) ?_
      refine lv_iload_n hx hb dX12_boat_70 rfl (lv_at hl 1 rfl) ?_
      obtain ⟨n23, h24, e25⟩ := nat_of x 6 (by decide) (lf_x_boat_1 knowF x ab_now t3 t4 t5)
      rw [e25]
      refine lv_iadd hx hb dX12_boat_71 ?_
      refine r_ti (nI (113 + n23)) (nI_add _ _) ?_
      obtain ⟨y26, e27⟩ : ∃ z9, z9 = knowF (113 + n23) := ⟨_, rfl⟩
      refine r_iald hx hb hK hP 1 rfl (113 + n23) (lf_x_boat_2 knowF x n23 y26 ab_now t3 t4 t5 h24 e25 e27) (by decide) y26 e27.symm dX12_boat_72 ?_
      obtain ⟨b28, b29⟩ : (0 : Int) ≤ y26.toInt ∧ y26.toInt ≤ 35 := by rw [e27]; exact ld_NB_107 ab_now (113 + n23) (lf_x_boat_3 knowF x n23 y26 ab_now t3 t4 t5 h24 e25 e27) (lf_x_boat_4 knowF x n23 y26 ab_now t3 t4 t5 h24 e25 e27)
      refine lv_bipush (v := nI 6) hx hb dX12_boat_73 (by decide) ?_
      obtain ⟨n30, h31, e32⟩ := nat_of y26 36 (by decide) (lf_x_boat_5 knowF x n23 y26 ab_now t3 t4 t5 h24 e25 e27 b28 b29)
      rw [e32]
      refine lv_irem hx hb dX12_boat_75 (by decide) ?_
      refine r_ti (nI (n30 % 6)) (pk_rem (by omega) (by omega) (by omega)) ?_
      rw [hQ]
      exact W.iret (v := nI (n30 % 6)) hx hb hr (fun t9 ht9 hW9 => ⟨⟨nI (n30 % 6), (nI 0), rfl, trivial, by rw [ht9]; exact hP, va_K.moved hW9.alike hK, hD⟩, hS.F ht9⟩) hS.2.2 dX12_boat_76
    · refine r_ti (nI 1) c11 ?_
      rw [c11] at hl
      refine lv_tableIn (off := 58) (tgt := 77) hx hb dX12_boat_19 (by decide) (by decide) rfl (by decide) ?_
      refine lv_aload_n hx hb dX12_boat_77 rfl (lv_at hl 0 rfl) ?_
      refine va_get (D := (dC, dI)) (ci := 12) (v := .ref know) (C := RX12) (T := TX12) (N := 52) hx hb hts hin12 hown hK hP 0 rfl rfl 14 (by decide) (hts (.fieldLink RX12 98 "PorridgeSeaModel" "now" "[I") (List.mem_of_getElem? (i := 2) rfl)) (fun _ h9 => h9) rfl dX12_boat_78 ?_
      refine lv_bipush (v := nI 113) hx hb dX12_boat_81 (by decide) ?_
      refine lv_iload_n hx hb dX12_boat_83 rfl (lv_at hl 1 rfl) ?_
      obtain ⟨n33, h34, e35⟩ := nat_of x 6 (by decide) (lf_x_boat_6 knowF x ab_now t3 t4 t5)
      rw [e35]
      refine lv_iadd hx hb dX12_boat_84 ?_
      refine r_ti (nI (113 + n33)) (nI_add _ _) ?_
      obtain ⟨y36, e37⟩ : ∃ z9, z9 = knowF (113 + n33) := ⟨_, rfl⟩
      refine r_iald hx hb hK hP 1 rfl (113 + n33) (lf_x_boat_7 knowF x n33 y36 ab_now t3 t4 t5 h34 e35 e37) (by decide) y36 e37.symm dX12_boat_85 ?_
      obtain ⟨b38, b39⟩ : (0 : Int) ≤ y36.toInt ∧ y36.toInt ≤ 35 := by rw [e37]; exact ld_NB_107 ab_now (113 + n33) (lf_x_boat_8 knowF x n33 y36 ab_now t3 t4 t5 h34 e35 e37) (lf_x_boat_9 knowF x n33 y36 ab_now t3 t4 t5 h34 e35 e37)
      refine lv_bipush (v := nI 6) hx hb dX12_boat_86 (by decide) ?_
      obtain ⟨n40, h41, e42⟩ := nat_of y36 36 (by decide) (lf_x_boat_10 knowF x n33 y36 ab_now t3 t4 t5 h34 e35 e37 b38 b39)
      rw [e42]
      refine lv_idiv hx hb dX12_boat_88 (by decide) ?_
      refine r_ti (nI (n40 / 6)) (pk_div (by omega) (by omega) (by omega)) ?_
      rw [hQ]
      exact W.iret (v := nI (n40 / 6)) hx hb hr (fun t9 ht9 hW9 => ⟨⟨nI (n40 / 6), (nI 0), rfl, trivial, by rw [ht9]; exact hP, va_K.moved hW9.alike hK, hD⟩, hS.F ht9⟩) hS.2.2 dX12_boat_89
    · refine r_ti (nI 2) c12 ?_
      rw [c12] at hl
      refine lv_tableIn (off := 71) (tgt := 90) hx hb dX12_boat_19 (by decide) (by decide) rfl (by decide) ?_
      refine lv_aload_n hx hb dX12_boat_90 rfl (lv_at hl 0 rfl) ?_
      refine va_get (D := (dC, dI)) (ci := 12) (v := .ref know) (C := RX12) (T := TX12) (N := 52) hx hb hts hin12 hown hK hP 0 rfl rfl 14 (by decide) (hts (.fieldLink RX12 98 "PorridgeSeaModel" "now" "[I") (List.mem_of_getElem? (i := 2) rfl)) (fun _ h9 => h9) rfl dX12_boat_91 ?_
      refine lv_bipush (v := nI 55) hx hb dX12_boat_94 (by decide) ?_
      refine lv_iload_n hx hb dX12_boat_96 rfl (lv_at hl 1 rfl) ?_
      obtain ⟨n43, h44, e45⟩ := nat_of x 6 (by decide) (lf_x_boat_11 knowF x ab_now t3 t4 t5)
      rw [e45]
      refine lv_iadd hx hb dX12_boat_97 ?_
      refine r_ti (nI (55 + n43)) (nI_add _ _) ?_
      obtain ⟨y46, e47⟩ : ∃ z9, z9 = knowF (55 + n43) := ⟨_, rfl⟩
      refine r_iald hx hb hK hP 1 rfl (55 + n43) (lf_x_boat_12 knowF x n43 y46 ab_now t3 t4 t5 h44 e45 e47) (by decide) y46 e47.symm dX12_boat_98 ?_
      rw [hQ]
      exact W.iret (v := y46) hx hb hr (fun t9 ht9 hW9 => ⟨⟨y46, (nI 0), rfl, trivial, by rw [ht9]; exact hP, va_K.moved hW9.alike hK, hD⟩, hS.F ht9⟩) hS.2.2 dX12_boat_99
    · refine r_ti (nI 3) c13 ?_
      rw [c13] at hl
      refine lv_tableIn (off := 81) (tgt := 100) hx hb dX12_boat_19 (by decide) (by decide) rfl (by decide) ?_
      refine lv_aload_n hx hb dX12_boat_100 rfl (lv_at hl 0 rfl) ?_
      refine va_get (D := (dC, dI)) (ci := 12) (v := .ref know) (C := RX12) (T := TX12) (N := 52) hx hb hts hin12 hown hK hP 0 rfl rfl 14 (by decide) (hts (.fieldLink RX12 98 "PorridgeSeaModel" "now" "[I") (List.mem_of_getElem? (i := 2) rfl)) (fun _ h9 => h9) rfl dX12_boat_101 ?_
      refine lv_bipush (v := nI 61) hx hb dX12_boat_104 (by decide) ?_
      refine lv_iload_n hx hb dX12_boat_106 rfl (lv_at hl 1 rfl) ?_
      obtain ⟨n48, h49, e50⟩ := nat_of x 6 (by decide) (lf_x_boat_13 knowF x ab_now t3 t4 t5)
      rw [e50]
      refine lv_iadd hx hb dX12_boat_107 ?_
      refine r_ti (nI (61 + n48)) (nI_add _ _) ?_
      obtain ⟨y51, e52⟩ : ∃ z9, z9 = knowF (61 + n48) := ⟨_, rfl⟩
      refine r_iald hx hb hK hP 1 rfl (61 + n48) (lf_x_boat_14 knowF x n48 y51 ab_now t3 t4 t5 h49 e50 e52) (by decide) y51 e52.symm dX12_boat_108 ?_
      rw [hQ]
      exact W.iret (v := y51) hx hb hr (fun t9 ht9 hW9 => ⟨⟨y51, (nI 0), rfl, trivial, by rw [ht9]; exact hP, va_K.moved hW9.alike hK, hD⟩, hS.F ht9⟩) hS.2.2 dX12_boat_109
    · refine r_ti (nI 4) c14 ?_
      rw [c14] at hl
      refine lv_tableIn (off := 91) (tgt := 110) hx hb dX12_boat_19 (by decide) (by decide) rfl (by decide) ?_
      refine lv_aload_n hx hb dX12_boat_110 rfl (lv_at hl 0 rfl) ?_
      refine va_get (D := (dC, dI)) (ci := 12) (v := .ref know) (C := RX12) (T := TX12) (N := 52) hx hb hts hin12 hown hK hP 0 rfl rfl 14 (by decide) (hts (.fieldLink RX12 98 "PorridgeSeaModel" "now" "[I") (List.mem_of_getElem? (i := 2) rfl)) (fun _ h9 => h9) rfl dX12_boat_111 ?_
      refine lv_bipush (v := nI 119) hx hb dX12_boat_114 (by decide) ?_
      refine lv_iload_n hx hb dX12_boat_116 rfl (lv_at hl 1 rfl) ?_
      obtain ⟨n53, h54, e55⟩ := nat_of x 6 (by decide) (lf_x_boat_15 knowF x ab_now t3 t4 t5)
      rw [e55]
      refine lv_iadd hx hb dX12_boat_117 ?_
      refine r_ti (nI (119 + n53)) (nI_add _ _) ?_
      obtain ⟨y56, e57⟩ : ∃ z9, z9 = knowF (119 + n53) := ⟨_, rfl⟩
      refine r_iald hx hb hK hP 1 rfl (119 + n53) (lf_x_boat_16 knowF x n53 y56 ab_now t3 t4 t5 h54 e55 e57) (by decide) y56 e57.symm dX12_boat_118 ?_
      rw [hQ]
      exact W.iret (v := y56) hx hb hr (fun t9 ht9 hW9 => ⟨⟨y56, (nI 0), rfl, trivial, by rw [ht9]; exact hP, va_K.moved hW9.alike hK, hD⟩, hS.F ht9⟩) hS.2.2 dX12_boat_119
    · refine r_ti (nI 5) c15 ?_
      rw [c15] at hl
      refine lv_tableIn (off := 101) (tgt := 120) hx hb dX12_boat_19 (by decide) (by decide) rfl (by decide) ?_
      refine lv_aload_n hx hb dX12_boat_120 rfl (lv_at hl 0 rfl) ?_
      refine va_get (D := (dC, dI)) (ci := 12) (v := .ref know) (C := RX12) (T := TX12) (N := 52) hx hb hts hin12 hown hK hP 0 rfl rfl 14 (by decide) (hts (.fieldLink RX12 98 "PorridgeSeaModel" "now" "[I") (List.mem_of_getElem? (i := 2) rfl)) (fun _ h9 => h9) rfl dX12_boat_121 ?_
      refine lv_bipush (v := nI 125) hx hb dX12_boat_124 (by decide) ?_
      refine lv_iload_n hx hb dX12_boat_126 rfl (lv_at hl 1 rfl) ?_
      obtain ⟨n58, h59, e60⟩ := nat_of x 6 (by decide) (lf_x_boat_17 knowF x ab_now t3 t4 t5)
      rw [e60]
      refine lv_iadd hx hb dX12_boat_127 ?_
      refine r_ti (nI (125 + n58)) (nI_add _ _) ?_
      obtain ⟨y61, e62⟩ : ∃ z9, z9 = knowF (125 + n58) := ⟨_, rfl⟩
      refine r_iald hx hb hK hP 1 rfl (125 + n58) (lf_x_boat_18 knowF x n58 y61 ab_now t3 t4 t5 h59 e60 e62) (by decide) y61 e62.symm dX12_boat_128 ?_
      rw [hQ]
      exact W.iret (v := y61) hx hb hr (fun t9 ht9 hW9 => ⟨⟨y61, (nI 0), rfl, trivial, by rw [ht9]; exact hP, va_K.moved hW9.alike hK, hD⟩, hS.F ht9⟩) hS.2.2 dX12_boat_129
    · refine r_ti (nI 6) c16 ?_
      rw [c16] at hl
      refine lv_tableIn (off := 111) (tgt := 130) hx hb dX12_boat_19 (by decide) (by decide) rfl (by decide) ?_
      refine lv_aload_n hx hb dX12_boat_130 rfl (lv_at hl 0 rfl) ?_
      refine lv_iload_n hx hb dX12_boat_131 rfl (lv_at hl 1 rfl) ?_
      refine vp_callSi (W.runV (As := [.int x]) (rest := []) ⟨hx, hb, hml, hown, hts⟩ (c_x_isEaten l dC dI ky o (nI 0) ktape ktaped ksize klimit kto kfrom kkind knumber ksign kfault kplace kword ktold know kread kkept ksnaps kaside kname kreadName kkeptName kisKept konces ksnapMany khasCells kpoured kfar ksides ksideMany kwayDays khasWay klines kmet kmetMany ksunk ktrying ksunkMany ksending kfleets ktext ktexts kseed kline kwritten klineMany khasWritten knode knodes konesMany kwithin ktop knowF x iv_ko_0 iv_ko_1 iv_ko_2 iv_ko_3 iv_ko_4 iv_ko_5 iv_ko_6 iv_ko_7 iv_ko_8 iv_ko_9 iv_ko_10 iv_ko_11 iv_ko_12 iv_ko_13 iv_ko_14 ab_now (lf_x_boat_19 knowF x ab_now t3 t4 t5)) (cwV 1 hts gX12_boat_X12_isEaten rfl rfl rfl (by decide +kernel) ⟨(Nat.le_of_ble_eq_true rfl), (Nat.le_of_ble_eq_true rfl)⟩) (pre_PV hK hP [0, 1] rfl (ci := 12) (q0 := 0) rfl rfl) rfl rfl hl.1 rfl (lv_room (Nat.le_of_ble_eq_true rfl)) dX12_boat_132 ⟨(Nat.le_of_ble_eq_true rfl), (Nat.le_of_ble_eq_true rfl)⟩) (fun r63 p64 => ?_)
      refine lv_if_eq (tgt := 142) hx hb dX12_boat_135 (by decide) (fun c65 => ?_) (fun c65 => ?_)
      · refine lv_iconst (v := nI 0) hx hb dX12_boat_142 (by decide) ?_
        rw [hQ]
        exact W.iret (v := nI 0) hx hb hr (fun t9 ht9 hW9 => ⟨⟨nI 0, (nI 0), rfl, trivial, by rw [ht9]; exact hP, va_K.moved hW9.alike hK, hD⟩, hS.F ht9⟩) hS.2.2 dX12_boat_143
      · refine lv_iconst (v := nI 1) hx hb dX12_boat_138 (by decide) ?_
        refine lv_goto (tgt := 143) hx hb dX12_boat_139 (by decide) ?_
        rw [hQ]
        exact W.iret (v := nI 1) hx hb hr (fun t9 ht9 hW9 => ⟨⟨nI 1, (nI 0), rfl, trivial, by rw [ht9]; exact hP, va_K.moved hW9.alike hK, hD⟩, hS.F ht9⟩) hS.2.2 dX12_boat_143
    · refine r_ti (nI 7) c17 ?_
      rw [c17] at hl
      refine lv_tableIn (off := 125) (tgt := 144) hx hb dX12_boat_19 (by decide) (by decide) rfl (by decide) ?_
      refine lv_aload_n hx hb dX12_boat_144 rfl (lv_at hl 0 rfl) ?_
      refine lv_iload_n hx hb dX12_boat_145 rfl (lv_at hl 1 rfl) ?_
      refine vp_callSi (W.runV (As := [.int x]) (rest := []) ⟨hx, hb, hml, hown, hts⟩ (c_x_isAfloat l dC dI ky o (nI 0) ktape ktaped ksize klimit kto kfrom kkind knumber ksign kfault kplace kword ktold know kread kkept ksnaps kaside kname kreadName kkeptName kisKept konces ksnapMany khasCells kpoured kfar ksides ksideMany kwayDays khasWay klines kmet kmetMany ksunk ktrying ksunkMany ksending kfleets ktext ktexts kseed kline kwritten klineMany khasWritten knode knodes konesMany kwithin ktop knowF x iv_ko_0 iv_ko_1 iv_ko_2 iv_ko_3 iv_ko_4 iv_ko_5 iv_ko_6 iv_ko_7 iv_ko_8 iv_ko_9 iv_ko_10 iv_ko_11 iv_ko_12 iv_ko_13 iv_ko_14 ab_now (lf_x_boat_20 knowF x ab_now t3 t4 t5)) (cwV 1 hts gX12_boat_X12_isAfloat rfl rfl rfl (by decide +kernel) ⟨(Nat.le_of_ble_eq_true rfl), (Nat.le_of_ble_eq_true rfl)⟩) (pre_PV hK hP [0, 1] rfl (ci := 12) (q0 := 0) rfl rfl) rfl rfl hl.1 rfl (lv_room (Nat.le_of_ble_eq_true rfl)) dX12_boat_146 ⟨(Nat.le_of_ble_eq_true rfl), (Nat.le_of_ble_eq_true rfl)⟩) (fun r66 p67 => ?_)
      refine lv_if_eq (tgt := 156) hx hb dX12_boat_149 (by decide) (fun c68 => ?_) (fun c68 => ?_)
      · refine lv_iconst (v := nI 0) hx hb dX12_boat_156 (by decide) ?_
        rw [hQ]
        exact W.iret (v := nI 0) hx hb hr (fun t9 ht9 hW9 => ⟨⟨nI 0, (nI 0), rfl, trivial, by rw [ht9]; exact hP, va_K.moved hW9.alike hK, hD⟩, hS.F ht9⟩) hS.2.2 dX12_boat_157
      · refine lv_iconst (v := nI 1) hx hb dX12_boat_152 (by decide) ?_
        refine lv_goto (tgt := 157) hx hb dX12_boat_153 (by decide) ?_
        rw [hQ]
        exact W.iret (v := nI 1) hx hb hr (fun t9 ht9 hW9 => ⟨⟨nI 1, (nI 0), rfl, trivial, by rw [ht9]; exact hP, va_K.moved hW9.alike hK, hD⟩, hS.F ht9⟩) hS.2.2 dX12_boat_157
  · refine lv_if_ne (tgt := 18) hx hb dX12_boat_10 (by decide) (fun c69 => absurd c69 (by decide)) (fun c69 => ?_)
    refine lv_aload_n hx hb dX12_boat_13 rfl (lv_at hl 0 rfl) ?_
    refine r_call_i (wr := [(know, .inl (ky 0, 373, .inl knowF))]) (va_runV (As := []) (rest := []) ⟨hx, hb, hml, hown, hts⟩ (c_x_refuse l dC dI ky H.size o (nI 0) ktape ktaped ksize klimit kto kfrom kkind knumber ksign kfault kplace kword ktold know kread kkept ksnaps kaside kname kreadName kkeptName kisKept konces ksnapMany khasCells kpoured kfar ksides ksideMany kwayDays khasWay klines kmet kmetMany ksunk ktrying ksunkMany ksending kfleets ktext ktexts kseed kline kwritten klineMany khasWritten knode knodes konesMany kwithin ktop iv_ko_0 iv_ko_1 iv_ko_2 iv_ko_3 iv_ko_4 iv_ko_5 iv_ko_6 iv_ko_7 iv_ko_8 iv_ko_9 iv_ko_10 iv_ko_11 iv_ko_12 iv_ko_13 iv_ko_14) (cwV 0 hts gX12_boat_X12_refuse rfl rfl rfl (by decide +kernel) ⟨(Nat.le_of_ble_eq_true rfl), (Nat.le_of_ble_eq_true rfl)⟩) (pre_UV hK hP hD [0] (by decide) rfl (ci := 12) (q0 := 0) rfl rfl) rfl rfl hl.1 rfl (lv_room (Nat.le_of_ble_eq_true rfl)) dX12_boat_14 ⟨(Nat.le_of_ble_eq_true rfl), (Nat.le_of_ble_eq_true rfl)⟩) hP hD hS hA [0] [1] rfl rfl (by decide) (by decide) (fun r72 u70 H locs p71 hP hD hS => ?_)
    obtain ⟨kthrownG_73, rfl⟩ : ∃ z, z = u70 := ⟨_, rfl⟩
    try dsimp only at p71
    have p74 := p71
    refine W.widen (k := 0) (n := 0) (Nat.le_of_ble_eq_true rfl) (Nat.le_of_ble_eq_true rfl) ?_
    have hP : va_P (dC, dI) vwCl [(know, .inl (ky 0, 373, .inl knowF)), (o, .inr (12, [.int kthrownG_73, .ref ktape, .int (nI ktaped), .int (nI ksize), .int (nI klimit), .int (nI kto), .int (nI kfrom), .int kkind, .int knumber, .int ksign, .int kfault, .int kplace, .long kword, .int ktold, .ref know, .ref kread, .ref kkept, .ref ksnaps, .ref kaside, .ref kname, .ref kreadName, .ref kkeptName, .ref kisKept, .ref konces, .int (nI ksnapMany), .int khasCells, .ref kpoured, .ref kfar, .ref ksides, .int (nI ksideMany), .int kwayDays, .int khasWay, .ref klines, .ref kmet, .int (nI kmetMany), .ref ksunk, .ref ktrying, .int (nI ksunkMany), .int ksending, .int kfleets, .ref ktext, .int (nI ktexts), .int kseed, .ref kline, .ref kwritten, .int (nI klineMany), .int khasWritten, .ref knode, .int (nI knodes), .int (nI konesMany), .int (nI kwithin), .int (nI ktop)]))] H := hP
    have hD : va_D A [(know, .inl (ky 0, 373, .inl knowF)), (o, .inr (12, [.int kthrownG_73, .ref ktape, .int (nI ktaped), .int (nI ksize), .int (nI klimit), .int (nI kto), .int (nI kfrom), .int kkind, .int knumber, .int ksign, .int kfault, .int kplace, .long kword, .int ktold, .ref know, .ref kread, .ref kkept, .ref ksnaps, .ref kaside, .ref kname, .ref kreadName, .ref kkeptName, .ref kisKept, .ref konces, .int (nI ksnapMany), .int khasCells, .ref kpoured, .ref kfar, .ref ksides, .int (nI ksideMany), .int kwayDays, .int khasWay, .ref klines, .ref kmet, .int (nI kmetMany), .ref ksunk, .ref ktrying, .int (nI ksunkMany), .int ksending, .int kfleets, .ref ktext, .int (nI ktexts), .int kseed, .ref kline, .ref kwritten, .int (nI klineMany), .int khasWritten, .ref knode, .int (nI knodes), .int (nI konesMany), .int (nI kwithin), .int (nI ktop)]))] := hD
    subst p74
    rw [hQ]
    have hP9 := hP.sub (ws' := [(o, .inr (12, [.int kthrownG_73, .ref ktape, .int (nI ktaped), .int (nI ksize), .int (nI klimit), .int (nI kto), .int (nI kfrom), .int kkind, .int knumber, .int ksign, .int kfault, .int kplace, .long kword, .int ktold, .ref know, .ref kread, .ref kkept, .ref ksnaps, .ref kaside, .ref kname, .ref kreadName, .ref kkeptName, .ref kisKept, .ref konces, .int (nI ksnapMany), .int khasCells, .ref kpoured, .ref kfar, .ref ksides, .int (nI ksideMany), .int kwayDays, .int khasWay, .ref klines, .ref kmet, .int (nI kmetMany), .ref ksunk, .ref ktrying, .int (nI ksunkMany), .int ksending, .int kfleets, .ref ktext, .int (nI ktexts), .int kseed, .ref kline, .ref kwritten, .int (nI klineMany), .int khasWritten, .ref knode, .int (nI knodes), .int (nI konesMany), .int (nI kwithin), .int (nI ktop)])), (know, .inl (ky 0, 373, .inl knowF))]) [1, 0] rfl
    have hD9 := hD.sub (ws' := [(o, .inr (12, [.int kthrownG_73, .ref ktape, .int (nI ktaped), .int (nI ksize), .int (nI klimit), .int (nI kto), .int (nI kfrom), .int kkind, .int knumber, .int ksign, .int kfault, .int kplace, .long kword, .int ktold, .ref know, .ref kread, .ref kkept, .ref ksnaps, .ref kaside, .ref kname, .ref kreadName, .ref kkeptName, .ref kisKept, .ref konces, .int (nI ksnapMany), .int khasCells, .ref kpoured, .ref kfar, .ref ksides, .int (nI ksideMany), .int kwayDays, .int khasWay, .ref klines, .ref kmet, .int (nI kmetMany), .ref ksunk, .ref ktrying, .int (nI ksunkMany), .int ksending, .int kfleets, .ref ktext, .int (nI ktexts), .int kseed, .ref kline, .ref kwritten, .int (nI klineMany), .int khasWritten, .ref knode, .int (nI knodes), .int (nI konesMany), .int (nI kwithin), .int (nI ktop)])), (know, .inl (ky 0, 373, .inl knowF))]) [1, 0] (by decide) rfl
    exact W.iret (v := nI 0) hx hb hr (fun t9 ht9 hW9 => ⟨⟨nI 0, kthrownG_73, rfl, trivial, by rw [ht9]; exact hP9, va_K.moved hW9.alike hK, hD9⟩, hS.F ht9⟩) hS.2.2 dX12_boat_17
set_option maxRecDepth 20000 in
theorem lf_x_eaten_1 (knowF : Nat → Int32) (k8 : Nat) (n12 : Nat) (y15 : Int32) (ab_now : NB knowF) (j10 : k8 ≤ 6) (hm14 : 6 - k8 < n12 + 1) (e16 : y15 = knowF 3) (b17 : 0 ≤ y15.toInt) (b18 : y15.toInt ≤ 6) (c19 : ¬ y15 ≤ nI k8) : 0 ≤ (nI k8).toInt ∧ (nI k8).toInt ≤ 5 := by
  have b_y15 := ia_b y15
  try have k_0 := ia_n k8 (by first | decide | omega)
  try simp only [ia_lt, ia_le, ia_eq, ia_m1, ia_0, ia_1, ne_eq, true_and, and_true, false_and, and_false, or_false, false_or, or_true, true_or, not_true_eq_false, not_false_eq_true] at *
  all_goals omega
set_option maxRecDepth 20000 in
theorem lf_x_eaten_2 (knowF : Nat → Int32) (k8 : Nat) (n12 : Nat) (y15 : Int32) (ab_now : NB knowF) (j10 : k8 ≤ 6) (hm14 : 6 - k8 < n12 + 1) (e16 : y15 = knowF 3) (b17 : 0 ≤ y15.toInt) (b18 : y15.toInt ≤ 6) (c19 : ¬ y15 ≤ nI k8) : (k8 + 1) ≤ 6 := by
  have b_y15 := ia_b y15
  try have k_0 := ia_n k8 (by first | decide | omega)
  try simp only [ia_lt, ia_le, ia_eq, ia_m1, ia_0, ia_1, ne_eq, true_and, and_true, false_and, and_false, or_false, false_or, or_true, true_or, not_true_eq_false, not_false_eq_true] at *
  all_goals omega
set_option maxRecDepth 20000 in
theorem lf_x_eaten_3 (knowF : Nat → Int32) (k8 : Nat) (n12 : Nat) (y15 : Int32) (ab_now : NB knowF) (j10 : k8 ≤ 6) (hm14 : 6 - k8 < n12 + 1) (e16 : y15 = knowF 3) (b17 : 0 ≤ y15.toInt) (b18 : y15.toInt ≤ 6) (c19 : ¬ y15 ≤ nI k8) : 6 - (k8 + 1) < n12 := by
  have b_y15 := ia_b y15
  try have k_0 := ia_n k8 (by first | decide | omega)
  try simp only [ia_lt, ia_le, ia_eq, ia_m1, ia_0, ia_1, ne_eq, true_and, and_true, false_and, and_false, or_false, false_or, or_true, true_or, not_true_eq_false, not_false_eq_true] at *
  all_goals omega
set_option maxRecDepth 20000 in
theorem lf_x_eaten_4 (knowF : Nat → Int32) (k8 : Nat) (x9 : Int32) (n12 : Nat) (y15 : Int32) (y23 : Int32) (y25 : Int32) (ab_now : NB knowF) (j10 : k8 ≤ 6) (hm14 : 6 - k8 < n12 + 1) (e16 : y15 = knowF 3) (b17 : 0 ≤ y15.toInt) (b18 : y15.toInt ≤ 6) (c19 : ¬ y15 ≤ nI k8) (e24 : y23 = (nI 1) <<< ((nI k8) &&& 31)) (e26 : y25 = x9 ||| y23) : (k8 + 1) ≤ 6 := by
  have b_x9 := ia_b x9
  have b_y15 := ia_b y15
  have b_y23 := ia_b y23
  have b_y25 := ia_b y25
  try have k_0 := ia_n k8 (by first | decide | omega)
  try have k_1 := ia_n 1 (by first | decide | omega)
  try simp only [ia_lt, ia_le, ia_eq, ia_m1, ia_0, ia_1, ne_eq, true_and, and_true, false_and, and_false, or_false, false_or, or_true, true_or, not_true_eq_false, not_false_eq_true] at *
  all_goals omega
set_option maxRecDepth 20000 in
theorem lf_x_eaten_5 (knowF : Nat → Int32) (k8 : Nat) (x9 : Int32) (n12 : Nat) (y15 : Int32) (y23 : Int32) (y25 : Int32) (ab_now : NB knowF) (j10 : k8 ≤ 6) (hm14 : 6 - k8 < n12 + 1) (e16 : y15 = knowF 3) (b17 : 0 ≤ y15.toInt) (b18 : y15.toInt ≤ 6) (c19 : ¬ y15 ≤ nI k8) (e24 : y23 = (nI 1) <<< ((nI k8) &&& 31)) (e26 : y25 = x9 ||| y23) : 6 - (k8 + 1) < n12 := by
  have b_x9 := ia_b x9
  have b_y15 := ia_b y15
  have b_y23 := ia_b y23
  have b_y25 := ia_b y25
  try have k_0 := ia_n k8 (by first | decide | omega)
  try have k_1 := ia_n 1 (by first | decide | omega)
  try simp only [ia_lt, ia_le, ia_eq, ia_m1, ia_0, ia_1, ne_eq, true_and, and_true, false_and, and_false, or_false, false_or, or_true, true_or, not_true_eq_false, not_false_eq_true] at *
  all_goals omega
set_option maxRecDepth 20000 in
theorem lf_x_eaten_6   : 0 ≤ 6 := by
  try simp only [ia_lt, ia_le, ia_eq, ia_m1, ia_0, ia_1, ne_eq, true_and, and_true, false_and, and_false, or_false, false_or, or_true, true_or, not_true_eq_false, not_false_eq_true] at *
  all_goals omega
set_option maxHeartbeats 4000000 in
set_option maxRecDepth 100000 in
theorem c_x_eaten (l : Launch) (dC : Nat → ClassId) (dI : Nat → Nat → Nat) (ky : Nat → ClassId) (o : Nat) (kthrown : Int32) (ktape : Nat) (ktaped : Nat) (ksize : Nat) (klimit : Nat) (kto : Nat) (kfrom : Nat) (kkind : Int32) (knumber : Int32) (ksign : Int32) (kfault : Int32) (kplace : Int32) (kword : Int64) (ktold : Int32) (know : Nat) (kread : Nat) (kkept : Nat) (ksnaps : Nat) (kaside : Nat) (kname : Nat) (kreadName : Nat) (kkeptName : Nat) (kisKept : Nat) (konces : Nat) (ksnapMany : Nat) (khasCells : Int32) (kpoured : Nat) (kfar : Nat) (ksides : Nat) (ksideMany : Nat) (kwayDays : Int32) (khasWay : Int32) (klines : Nat) (kmet : Nat) (kmetMany : Nat) (ksunk : Nat) (ktrying : Nat) (ksunkMany : Nat) (ksending : Int32) (kfleets : Int32) (ktext : Nat) (ktexts : Nat) (kseed : Int32) (kline : Nat) (kwritten : Nat) (klineMany : Nat) (khasWritten : Int32) (knode : Nat) (knodes : Nat) (konesMany : Nat) (kwithin : Nat) (ktop : Nat) (knowF : Nat → Int32) (iv_ko_0 : ktaped ≤ 940) (iv_ko_1 : ksize ≤ 940) (iv_ko_2 : klimit ≤ 900) (iv_ko_3 : kto ≤ ksize) (iv_ko_4 : kfrom ≤ 940) (iv_ko_5 : ksnapMany ≤ 8) (iv_ko_6 : ksideMany ≤ 36) (iv_ko_7 : kmetMany ≤ 3) (iv_ko_8 : ksunkMany ≤ 36) (iv_ko_9 : ktexts ≤ 64) (iv_ko_10 : klineMany ≤ 40) (iv_ko_11 : knodes ≤ 60) (iv_ko_12 : konesMany ≤ 20) (iv_ko_13 : kwithin ≤ 8) (iv_ko_14 : ktop ≤ 59) (ab_now : NB knowF) : Met l yX12_eaten wsX12_eaten ({ frames := 1, cells := 0, slots := 0, locals := 21 }) (PcP dC dI ky [.ref o] [(o, .inr (12, [.int kthrown, .ref ktape, .int (nI ktaped), .int (nI ksize), .int (nI klimit), .int (nI kto), .int (nI kfrom), .int kkind, .int knumber, .int ksign, .int kfault, .int kplace, .long kword, .int ktold, .ref know, .ref kread, .ref kkept, .ref ksnaps, .ref kaside, .ref kname, .ref kreadName, .ref kkeptName, .ref kisKept, .ref konces, .int (nI ksnapMany), .int khasCells, .ref kpoured, .ref kfar, .ref ksides, .int (nI ksideMany), .int kwayDays, .int khasWay, .ref klines, .ref kmet, .int (nI kmetMany), .ref ksunk, .ref ktrying, .int (nI ksunkMany), .int ksending, .int kfleets, .ref ktext, .int (nI ktexts), .int kseed, .ref kline, .ref kwritten, .int (nI klineMany), .int khasWritten, .ref knode, .int (nI knodes), .int (nI konesMany), .int (nI kwithin), .int (nI ktop)])), (know, .inl (ky 0, 373, .inl knowF))]) (vp_Si (fun r : Int32 => True)) 0 0 (fun _ => False) := by
  refine Met.ofW (cc := cX12_eaten) (maxL := 3) (ret := (some .int)) (by decide) rfl ?_
  intro p e s m args below meth c s₁ B hml hv
  obtain ⟨rfl, hP, hK⟩ := hv
  have hx := B.exec
  have hb := B.bytes
  have hr := B.returns
  have hts := atoms_spec (ws := wsX12_eaten) B.pre
  have hown : s.vm.findClass RX12 = some m.cls := findClass_of_methodNamed B.named
  have hlocks := B.notSynchronized
  have hin12 : ∀ w ∈ u_ws RX12 TX12 52, w ∈ wsX12_eaten := by decide +kernel
  have hl := lv_entry ([.ref o]) (n := 3) (Nat.le_of_ble_eq_true rfl)
  rw [lg_entry_eq]
  generalize (lg_sl ([.ref o]) ++ List.replicate (3 - (lg_sl ([.ref o])).length) Slot.unset).toArray = ls at hl ⊢
  have hl : lv_has ls 3 [(0, .ref o)] := hl
  refine q_name (fun Q hQ => ?_)
  generalize ([.ref o] : List Value).toArray = args at hts hQ ⊢
  refine lv_iconst (v := nI 0) hx hb dX12_eaten_0 (by decide) ?_
  refine lv_istore_n (lv' := [(1, .int (nI 0)), (0, .ref o)]) hx hb dX12_eaten_1 rfl hl (by decide) rfl (fun ls hl => ?_)
  refine lv_iconst (v := nI 0) hx hb dX12_eaten_2 (by decide) ?_
  refine lv_istore_n (lv' := [(2, .int (nI 0)), (1, .int (nI 0)), (0, .ref o)]) hx hb dX12_eaten_3 rfl hl (by decide) rfl (fun ls hl => ?_)
  have hL11 : ∀ (n12 : Nat) (k8 : Nat) (x9 : Int32), (k8 ≤ 6) → 6 - k8 < n12 → ∀ (ls : Array Slot), lv_has ls 3 [(2, .int (nI k8)), (1, .int x9), (0, .ref o)] → W p l e (headSpec wsX12_eaten ({ frames := 1, cells := 0, slots := 0, locals := 21 })).room s m args below meth c s.heap [] 0 0 Q (F0 m 4 ls []) := by
    intro n12
    induction n12 with
    | zero => intro k8 x9 _ h9; exact absurd h9 (Nat.not_lt_zero _)
    | succ n12 ih13 =>
      intro k8 x9 j10 hm14 ls hl
      refine lv_iload_n hx hb dX12_eaten_4 rfl (lv_at hl 0 rfl) ?_
      refine lv_aload_n hx hb dX12_eaten_5 rfl (lv_at hl 2 rfl) ?_
      refine va_get (D := (dC, dI)) (ci := 12) (v := .ref know) (C := RX12) (T := TX12) (N := 52) hx hb hts hin12 hown hK hP 0 rfl rfl 14 (by decide) (hts (.fieldLink RX12 98 "PorridgeSeaModel" "now" "[I") (List.mem_of_getElem? (i := 1) rfl)) (fun _ h9 => h9) rfl dX12_eaten_6 ?_
      refine lv_iconst (v := nI 3) hx hb dX12_eaten_9 (by decide) ?_
      obtain ⟨y15, e16⟩ : ∃ z9, z9 = knowF 3 := ⟨_, rfl⟩
      refine r_iald hx hb hK hP 1 rfl 3 (by decide) (by decide) y15 e16.symm dX12_eaten_10 ?_
      obtain ⟨b17, b18⟩ : (0 : Int) ≤ y15.toInt ∧ y15.toInt ≤ 6 := by rw [e16]; exact ld_NB_3 ab_now 3 (by decide) (by decide)
      refine lv_icmp_ge (tgt := 34) hx hb dX12_eaten_11 (by decide) (fun c19 => ?_) (fun c19 => ?_)
      · refine lv_iload_n hx hb dX12_eaten_34 rfl (lv_at hl 1 rfl) ?_
        rw [hQ]
        exact W.iret (v := x9) hx hb hr (fun t9 ht9 hW9 => ⟨x9, rfl, trivial, ht9⟩) (fun _ h => absurd h List.not_mem_nil) dX12_eaten_35
      · refine lv_aload_n hx hb dX12_eaten_14 rfl (lv_at hl 2 rfl) ?_
        refine lv_iload_n hx hb dX12_eaten_15 rfl (lv_at hl 0 rfl) ?_
        refine vp_callSi (W.runV (As := [.int (nI k8)]) (rest := []) ⟨hx, hb, hml, hown, hts⟩ (c_x_isEaten l dC dI ky o kthrown ktape ktaped ksize klimit kto kfrom kkind knumber ksign kfault kplace kword ktold know kread kkept ksnaps kaside kname kreadName kkeptName kisKept konces ksnapMany khasCells kpoured kfar ksides ksideMany kwayDays khasWay klines kmet kmetMany ksunk ktrying ksunkMany ksending kfleets ktext ktexts kseed kline kwritten klineMany khasWritten knode knodes konesMany kwithin ktop knowF (nI k8) iv_ko_0 iv_ko_1 iv_ko_2 iv_ko_3 iv_ko_4 iv_ko_5 iv_ko_6 iv_ko_7 iv_ko_8 iv_ko_9 iv_ko_10 iv_ko_11 iv_ko_12 iv_ko_13 iv_ko_14 ab_now (lf_x_eaten_1 knowF k8 n12 y15 ab_now j10 hm14 e16 b17 b18 c19)) (cwV 1 hts gX12_eaten_X12_isEaten rfl rfl rfl (by decide +kernel) ⟨(Nat.le_of_ble_eq_true rfl), (Nat.le_of_ble_eq_true rfl)⟩) (pre_PV hK hP [0, 1] rfl (ci := 12) (q0 := 0) rfl rfl) rfl rfl hl.1 rfl (lv_room (Nat.le_of_ble_eq_true rfl)) dX12_eaten_16 ⟨(Nat.le_of_ble_eq_true rfl), (Nat.le_of_ble_eq_true rfl)⟩) (fun r20 p21 => ?_)
        refine lv_if_eq (tgt := 28) hx hb dX12_eaten_19 (by decide) (fun c22 => ?_) (fun c22 => ?_)
        · refine lv_iinc (v := nI (k8 + 1)) (lv' := [(2, .int (nI (k8 + 1))), (1, .int x9), (0, .ref o)]) hx hb dX12_eaten_28 hl (k := 0) rfl (show nI k8 + nI 1 = nI (k8 + 1) from nI_add _ _) (by decide) rfl (fun ls hl => ?_)
          refine lv_goto (tgt := 4) hx hb dX12_eaten_31 (by decide) ?_
          exact ih13 (k8 + 1) x9 (lf_x_eaten_2 knowF k8 n12 y15 ab_now j10 hm14 e16 b17 b18 c19) (lf_x_eaten_3 knowF k8 n12 y15 ab_now j10 hm14 e16 b17 b18 c19) _ (lv_sub hl [0, 1, 2] rfl)
        · refine lv_iload_n hx hb dX12_eaten_22 rfl (lv_at hl 1 rfl) ?_
          refine lv_iconst (v := nI 1) hx hb dX12_eaten_23 (by decide) ?_
          refine lv_iload_n hx hb dX12_eaten_24 rfl (lv_at hl 0 rfl) ?_
          refine lv_ishl hx hb dX12_eaten_25 ?_
          refine lv_topi (fun y23 e24 => ?_)
          refine lv_ior hx hb dX12_eaten_26 ?_
          refine lv_topi (fun y25 e26 => ?_)
          refine lv_istore_n (lv' := [(1, .int y25), (2, .int (nI k8)), (0, .ref o)]) hx hb dX12_eaten_27 rfl hl (by decide) rfl (fun ls hl => ?_)
          refine lv_iinc (v := nI (k8 + 1)) (lv' := [(2, .int (nI (k8 + 1))), (1, .int y25), (0, .ref o)]) hx hb dX12_eaten_28 hl (k := 1) rfl (show nI k8 + nI 1 = nI (k8 + 1) from nI_add _ _) (by decide) rfl (fun ls hl => ?_)
          refine lv_goto (tgt := 4) hx hb dX12_eaten_31 (by decide) ?_
          exact ih13 (k8 + 1) y25 (lf_x_eaten_4 knowF k8 x9 n12 y15 y23 y25 ab_now j10 hm14 e16 b17 b18 c19 e24 e26) (lf_x_eaten_5 knowF k8 x9 n12 y15 y23 y25 ab_now j10 hm14 e16 b17 b18 c19 e24 e26) _ (lv_sub hl [0, 1, 2] rfl)
  exact hL11 ((6 - 0) + 1) 0 (nI 0) (lf_x_eaten_6) (Nat.lt_succ_self _) _ (lv_sub hl [0, 1, 2] rfl)
set_option maxRecDepth 20000 in
theorem lf_x_now_1 (knowF : Nat → Int32) (k27 : Nat) (n31 : Nat) (y34 : Int32) (ab_now : NB knowF) (j29 : k27 ≤ 6) (hm33 : 6 - k27 < n31 + 1) (e35 : y34 = knowF 3) (b36 : 0 ≤ y34.toInt) (b37 : y34.toInt ≤ 6) (c38 : ¬ y34 ≤ nI k27) : 0 ≤ (nI k27).toInt ∧ (nI k27).toInt ≤ 5 := by
  have b_y34 := ia_b y34
  try have k_0 := ia_n k27 (by first | decide | omega)
  try simp only [ia_lt, ia_le, ia_eq, ia_m1, ia_0, ia_1, ne_eq, true_and, and_true, false_and, and_false, or_false, false_or, or_true, true_or, not_true_eq_false, not_false_eq_true] at *
  all_goals omega
set_option maxRecDepth 20000 in
theorem lf_x_now_2 (knowF : Nat → Int32) (k27 : Nat) (n31 : Nat) (y34 : Int32) (ab_now : NB knowF) (j29 : k27 ≤ 6) (hm33 : 6 - k27 < n31 + 1) (e35 : y34 = knowF 3) (b36 : 0 ≤ y34.toInt) (b37 : y34.toInt ≤ 6) (c38 : ¬ y34 ≤ nI k27) : (k27 + 1) ≤ 6 := by
  have b_y34 := ia_b y34
  try have k_0 := ia_n k27 (by first | decide | omega)
  try simp only [ia_lt, ia_le, ia_eq, ia_m1, ia_0, ia_1, ne_eq, true_and, and_true, false_and, and_false, or_false, false_or, or_true, true_or, not_true_eq_false, not_false_eq_true] at *
  all_goals omega
set_option maxRecDepth 20000 in
theorem lf_x_now_3 (knowF : Nat → Int32) (k27 : Nat) (n31 : Nat) (y34 : Int32) (ab_now : NB knowF) (j29 : k27 ≤ 6) (hm33 : 6 - k27 < n31 + 1) (e35 : y34 = knowF 3) (b36 : 0 ≤ y34.toInt) (b37 : y34.toInt ≤ 6) (c38 : ¬ y34 ≤ nI k27) : 6 - (k27 + 1) < n31 := by
  have b_y34 := ia_b y34
  try have k_0 := ia_n k27 (by first | decide | omega)
  try simp only [ia_lt, ia_le, ia_eq, ia_m1, ia_0, ia_1, ne_eq, true_and, and_true, false_and, and_false, or_false, false_or, or_true, true_or, not_true_eq_false, not_false_eq_true] at *
  all_goals omega
set_option maxRecDepth 20000 in
theorem lf_x_now_4 (knowF : Nat → Int32) (k27 : Nat) (x28 : Int32) (n31 : Nat) (y34 : Int32) (y42 : Int32) (y44 : Int32) (ab_now : NB knowF) (j29 : k27 ≤ 6) (hm33 : 6 - k27 < n31 + 1) (e35 : y34 = knowF 3) (b36 : 0 ≤ y34.toInt) (b37 : y34.toInt ≤ 6) (c38 : ¬ y34 ≤ nI k27) (e43 : y42 = (nI 1) <<< ((nI k27) &&& 31)) (e45 : y44 = x28 ||| y42) : (k27 + 1) ≤ 6 := by
  have b_x28 := ia_b x28
  have b_y34 := ia_b y34
  have b_y42 := ia_b y42
  have b_y44 := ia_b y44
  try have k_0 := ia_n k27 (by first | decide | omega)
  try have k_1 := ia_n 1 (by first | decide | omega)
  try simp only [ia_lt, ia_le, ia_eq, ia_m1, ia_0, ia_1, ne_eq, true_and, and_true, false_and, and_false, or_false, false_or, or_true, true_or, not_true_eq_false, not_false_eq_true] at *
  all_goals omega
set_option maxRecDepth 20000 in
theorem lf_x_now_5 (knowF : Nat → Int32) (k27 : Nat) (x28 : Int32) (n31 : Nat) (y34 : Int32) (y42 : Int32) (y44 : Int32) (ab_now : NB knowF) (j29 : k27 ≤ 6) (hm33 : 6 - k27 < n31 + 1) (e35 : y34 = knowF 3) (b36 : 0 ≤ y34.toInt) (b37 : y34.toInt ≤ 6) (c38 : ¬ y34 ≤ nI k27) (e43 : y42 = (nI 1) <<< ((nI k27) &&& 31)) (e45 : y44 = x28 ||| y42) : 6 - (k27 + 1) < n31 := by
  have b_x28 := ia_b x28
  have b_y34 := ia_b y34
  have b_y42 := ia_b y42
  have b_y44 := ia_b y44
  try have k_0 := ia_n k27 (by first | decide | omega)
  try have k_1 := ia_n 1 (by first | decide | omega)
  try simp only [ia_lt, ia_le, ia_eq, ia_m1, ia_0, ia_1, ne_eq, true_and, and_true, false_and, and_false, or_false, false_or, or_true, true_or, not_true_eq_false, not_false_eq_true] at *
  all_goals omega
set_option maxRecDepth 20000 in
theorem lf_x_now_6   : 0 ≤ 6 := by
  try simp only [ia_lt, ia_le, ia_eq, ia_m1, ia_0, ia_1, ne_eq, true_and, and_true, false_and, and_false, or_false, false_or, or_true, true_or, not_true_eq_false, not_false_eq_true] at *
  all_goals omega
set_option maxRecDepth 20000 in
theorem lf_x_now_7 (knowF : Nat → Int32) (k52 : Nat) (n56 : Nat) (y60 : Int32) (ab_now : NB knowF) (j54 : k52 ≤ 36) (hm58 : 36 - k52 < n56 + 1) (c59 : k52 < 36) (e61 : y60 = knowF (71 + k52)) : (71 + k52) < 373 := by
  have b_y60 := ia_b y60
  try simp only [ia_lt, ia_le, ia_eq, ia_m1, ia_0, ia_1, ne_eq, true_and, and_true, false_and, and_false, or_false, false_or, or_true, true_or, not_true_eq_false, not_false_eq_true] at *
  all_goals omega
set_option maxRecDepth 20000 in
theorem lf_x_now_8 (knowF : Nat → Int32) (k52 : Nat) (n56 : Nat) (y60 : Int32) (ab_now : NB knowF) (j54 : k52 ≤ 36) (hm58 : 36 - k52 < n56 + 1) (c59 : k52 < 36) (e61 : y60 = knowF (71 + k52)) : 71 ≤ (71 + k52) := by
  have b_y60 := ia_b y60
  try simp only [ia_lt, ia_le, ia_eq, ia_m1, ia_0, ia_1, ne_eq, true_and, and_true, false_and, and_false, or_false, false_or, or_true, true_or, not_true_eq_false, not_false_eq_true] at *
  all_goals omega
set_option maxRecDepth 20000 in
theorem lf_x_now_9 (knowF : Nat → Int32) (k52 : Nat) (n56 : Nat) (y60 : Int32) (ab_now : NB knowF) (j54 : k52 ≤ 36) (hm58 : 36 - k52 < n56 + 1) (c59 : k52 < 36) (e61 : y60 = knowF (71 + k52)) : (71 + k52) < 107 := by
  have b_y60 := ia_b y60
  try simp only [ia_lt, ia_le, ia_eq, ia_m1, ia_0, ia_1, ne_eq, true_and, and_true, false_and, and_false, or_false, false_or, or_true, true_or, not_true_eq_false, not_false_eq_true] at *
  all_goals omega
set_option maxRecDepth 20000 in
theorem lf_x_now_10 (knowF : Nat → Int32) (k52 : Nat) (n56 : Nat) (y60 : Int32) (ab_now : NB knowF) (j54 : k52 ≤ 36) (hm58 : 36 - k52 < n56 + 1) (c59 : k52 < 36) (e61 : y60 = knowF (71 + k52)) (b62 : 0 ≤ y60.toInt) (b63 : y60.toInt ≤ 9) : 0 ≤ y60.toInt ∧ y60.toInt < ((10 : Nat) : Int) := by
  have b_y60 := ia_b y60
  try simp only [ia_lt, ia_le, ia_eq, ia_m1, ia_0, ia_1, ne_eq, true_and, and_true, false_and, and_false, or_false, false_or, or_true, true_or, not_true_eq_false, not_false_eq_true] at *
  all_goals omega
set_option maxRecDepth 20000 in
theorem lf_x_now_11 (knowF : Nat → Int32) (k52 : Nat) (x53 : Int32) (n56 : Nat) (y60 : Int32) (n64 : Nat) (y67 : Int32) (ab_now : NB knowF) (j54 : k52 ≤ 36) (hm58 : 36 - k52 < n56 + 1) (c59 : k52 < 36) (e61 : y60 = knowF (71 + k52)) (b62 : 0 ≤ y60.toInt) (b63 : y60.toInt ≤ 9) (h65 : n64 < 10) (e66 : y60 = nI n64) (e68 : y67 = x53 + (nI n64)) : (k52 + 1) ≤ 36 := by
  have b_x53 := ia_b x53
  have b_y60 := ia_b y60
  have b_y67 := ia_b y67
  try have k_0 := ia_n n64 (by first | decide | omega)
  try simp only [ia_lt, ia_le, ia_eq, ia_m1, ia_0, ia_1, ne_eq, true_and, and_true, false_and, and_false, or_false, false_or, or_true, true_or, not_true_eq_false, not_false_eq_true] at *
  all_goals omega
set_option maxRecDepth 20000 in
theorem lf_x_now_12 (knowF : Nat → Int32) (k52 : Nat) (x53 : Int32) (n56 : Nat) (y60 : Int32) (n64 : Nat) (y67 : Int32) (ab_now : NB knowF) (j54 : k52 ≤ 36) (hm58 : 36 - k52 < n56 + 1) (c59 : k52 < 36) (e61 : y60 = knowF (71 + k52)) (b62 : 0 ≤ y60.toInt) (b63 : y60.toInt ≤ 9) (h65 : n64 < 10) (e66 : y60 = nI n64) (e68 : y67 = x53 + (nI n64)) : 36 - (k52 + 1) < n56 := by
  have b_x53 := ia_b x53
  have b_y60 := ia_b y60
  have b_y67 := ia_b y67
  try have k_0 := ia_n n64 (by first | decide | omega)
  try simp only [ia_lt, ia_le, ia_eq, ia_m1, ia_0, ia_1, ne_eq, true_and, and_true, false_and, and_false, or_false, false_or, or_true, true_or, not_true_eq_false, not_false_eq_true] at *
  all_goals omega
set_option maxRecDepth 20000 in
theorem lf_x_now_13   : 0 ≤ 36 := by
  try simp only [ia_lt, ia_le, ia_eq, ia_m1, ia_0, ia_1, ne_eq, true_and, and_true, false_and, and_false, or_false, false_or, or_true, true_or, not_true_eq_false, not_false_eq_true] at *
  all_goals omega
set_option maxHeartbeats 4000000 in
set_option maxRecDepth 100000 in
theorem c_x_now (l : Launch) (dC : Nat → ClassId) (dI : Nat → Nat → Nat) (ky : Nat → ClassId) (sz : Nat) (o : Nat) (kthrown : Int32) (ktape : Nat) (ktaped : Nat) (ksize : Nat) (klimit : Nat) (kto : Nat) (kfrom : Nat) (kkind : Int32) (knumber : Int32) (ksign : Int32) (kfault : Int32) (kplace : Int32) (kword : Int64) (ktold : Int32) (know : Nat) (kread : Nat) (kkept : Nat) (ksnaps : Nat) (kaside : Nat) (kname : Nat) (kreadName : Nat) (kkeptName : Nat) (kisKept : Nat) (konces : Nat) (ksnapMany : Nat) (khasCells : Int32) (kpoured : Nat) (kfar : Nat) (ksides : Nat) (ksideMany : Nat) (kwayDays : Int32) (khasWay : Int32) (klines : Nat) (kmet : Nat) (kmetMany : Nat) (ksunk : Nat) (ktrying : Nat) (ksunkMany : Nat) (ksending : Int32) (kfleets : Int32) (ktext : Nat) (ktexts : Nat) (kseed : Int32) (kline : Nat) (kwritten : Nat) (klineMany : Nat) (khasWritten : Int32) (knode : Nat) (knodes : Nat) (konesMany : Nat) (kwithin : Nat) (ktop : Nat) (knowF : Nat → Int32) (x : Int32) (iv_ko_0 : ktaped ≤ 940) (iv_ko_1 : ksize ≤ 940) (iv_ko_2 : klimit ≤ 900) (iv_ko_3 : kto ≤ ksize) (iv_ko_4 : kfrom ≤ 940) (iv_ko_5 : ksnapMany ≤ 8) (iv_ko_6 : ksideMany ≤ 36) (iv_ko_7 : kmetMany ≤ 3) (iv_ko_8 : ksunkMany ≤ 36) (iv_ko_9 : ktexts ≤ 64) (iv_ko_10 : klineMany ≤ 40) (iv_ko_11 : knodes ≤ 60) (iv_ko_12 : konesMany ≤ 20) (iv_ko_13 : kwithin ≤ 8) (iv_ko_14 : ktop ≤ 59) (ab_now : NB knowF) : Met l yX12_now wsX12_now ({ frames := 3, cells := 0, slots := 0, locals := 65 }) (PcU dC dI ky [.ref o, .int x] [(o, .inr (12, [.int kthrown, .ref ktape, .int (nI ktaped), .int (nI ksize), .int (nI klimit), .int (nI kto), .int (nI kfrom), .int kkind, .int knumber, .int ksign, .int kfault, .int kplace, .long kword, .int ktold, .ref know, .ref kread, .ref kkept, .ref ksnaps, .ref kaside, .ref kname, .ref kreadName, .ref kkeptName, .ref kisKept, .ref konces, .int (nI ksnapMany), .int khasCells, .ref kpoured, .ref kfar, .ref ksides, .int (nI ksideMany), .int kwayDays, .int khasWay, .ref klines, .ref kmet, .int (nI kmetMany), .ref ksunk, .ref ktrying, .int (nI ksunkMany), .int ksending, .int kfleets, .ref ktext, .int (nI ktexts), .int kseed, .ref kline, .ref kwritten, .int (nI klineMany), .int khasWritten, .ref knode, .int (nI knodes), .int (nI konesMany), .int (nI kwithin), .int (nI ktop)])), (know, .inl (ky 0, 373, .inl knowF))] sz) (va_Qi (fun (r : Int32) (kthrownG : Int32) => True) (BU dC dI ky (fun (kthrownG : Int32) => [(o, .inr (12, [.int kthrownG, .ref ktape, .int (nI ktaped), .int (nI ksize), .int (nI klimit), .int (nI kto), .int (nI kfrom), .int kkind, .int knumber, .int ksign, .int kfault, .int kplace, .long kword, .int ktold, .ref know, .ref kread, .ref kkept, .ref ksnaps, .ref kaside, .ref kname, .ref kreadName, .ref kkeptName, .ref kisKept, .ref konces, .int (nI ksnapMany), .int khasCells, .ref kpoured, .ref kfar, .ref ksides, .int (nI ksideMany), .int kwayDays, .int khasWay, .ref klines, .ref kmet, .int (nI kmetMany), .ref ksunk, .ref ktrying, .int (nI ksunkMany), .int ksending, .int kfleets, .ref ktext, .int (nI ktexts), .int kseed, .ref kline, .ref kwritten, .int (nI klineMany), .int khasWritten, .ref knode, .int (nI knodes), .int (nI konesMany), .int (nI kwithin), .int (nI ktop)])), (know, .inl (ky 0, 373, .inl knowF))]) (va_A [(o, .inr (12, [.int kthrown, .ref ktape, .int (nI ktaped), .int (nI ksize), .int (nI klimit), .int (nI kto), .int (nI kfrom), .int kkind, .int knumber, .int ksign, .int kfault, .int kplace, .long kword, .int ktold, .ref know, .ref kread, .ref kkept, .ref ksnaps, .ref kaside, .ref kname, .ref kreadName, .ref kkeptName, .ref kisKept, .ref konces, .int (nI ksnapMany), .int khasCells, .ref kpoured, .ref kfar, .ref ksides, .int (nI ksideMany), .int kwayDays, .int khasWay, .ref klines, .ref kmet, .int (nI kmetMany), .ref ksunk, .ref ktrying, .int (nI ksunkMany), .int ksending, .int kfleets, .ref ktext, .int (nI ktexts), .int kseed, .ref kline, .ref kwritten, .int (nI klineMany), .int khasWritten, .ref knode, .int (nI knodes), .int (nI konesMany), .int (nI kwithin), .int (nI ktop)])), (know, .inl (ky 0, 373, .inl knowF))] sz)) (va_A [(o, .inr (12, [.int kthrown, .ref ktape, .int (nI ktaped), .int (nI ksize), .int (nI klimit), .int (nI kto), .int (nI kfrom), .int kkind, .int knumber, .int ksign, .int kfault, .int kplace, .long kword, .int ktold, .ref know, .ref kread, .ref kkept, .ref ksnaps, .ref kaside, .ref kname, .ref kreadName, .ref kkeptName, .ref kisKept, .ref konces, .int (nI ksnapMany), .int khasCells, .ref kpoured, .ref kfar, .ref ksides, .int (nI ksideMany), .int kwayDays, .int khasWay, .ref klines, .ref kmet, .int (nI kmetMany), .ref ksunk, .ref ktrying, .int (nI ksunkMany), .int ksending, .int kfleets, .ref ktext, .int (nI ktexts), .int kseed, .ref kline, .ref kwritten, .int (nI klineMany), .int khasWritten, .ref knode, .int (nI knodes), .int (nI konesMany), .int (nI kwithin), .int (nI ktop)])), (know, .inl (ky 0, 373, .inl knowF))] sz)) 0 0 (va_A [(o, .inr (12, [.int kthrown, .ref ktape, .int (nI ktaped), .int (nI ksize), .int (nI klimit), .int (nI kto), .int (nI kfrom), .int kkind, .int knumber, .int ksign, .int kfault, .int kplace, .long kword, .int ktold, .ref know, .ref kread, .ref kkept, .ref ksnaps, .ref kaside, .ref kname, .ref kreadName, .ref kkeptName, .ref kisKept, .ref konces, .int (nI ksnapMany), .int khasCells, .ref kpoured, .ref kfar, .ref ksides, .int (nI ksideMany), .int kwayDays, .int khasWay, .ref klines, .ref kmet, .int (nI kmetMany), .ref ksunk, .ref ktrying, .int (nI ksunkMany), .int ksending, .int kfleets, .ref ktext, .int (nI ktexts), .int kseed, .ref kline, .ref kwritten, .int (nI klineMany), .int khasWritten, .ref knode, .int (nI knodes), .int (nI konesMany), .int (nI kwithin), .int (nI ktop)])), (know, .inl (ky 0, 373, .inl knowF))] sz) := by
  refine Met.ofW (cc := cX12_now) (maxL := 4) (ret := (some .int)) (by decide) rfl ?_
  intro p e s m args below meth c s₁ B hml hv
  obtain ⟨rfl, hsz, hP, hK, hD0⟩ := hv
  have hx := B.exec
  have hb := B.bytes
  have hr := B.returns
  have hts := atoms_spec (ws := wsX12_now) B.pre
  have hown : s.vm.findClass RX12 = some m.cls := findClass_of_methodNamed B.named
  have hlocks := B.notSynchronized
  have hin12 : ∀ w ∈ u_ws RX12 TX12 52, w ∈ wsX12_now := by decide +kernel
  subst hsz
  have hD := hD0.self (sz := s.heap.size)
  generalize hAe : va_A [(o, .inr (12, [.int kthrown, .ref ktape, .int (nI ktaped), .int (nI ksize), .int (nI klimit), .int (nI kto), .int (nI kfrom), .int kkind, .int knumber, .int ksign, .int kfault, .int kplace, .long kword, .int ktold, .ref know, .ref kread, .ref kkept, .ref ksnaps, .ref kaside, .ref kname, .ref kreadName, .ref kkeptName, .ref kisKept, .ref konces, .int (nI ksnapMany), .int khasCells, .ref kpoured, .ref kfar, .ref ksides, .int (nI ksideMany), .int kwayDays, .int khasWay, .ref klines, .ref kmet, .int (nI kmetMany), .ref ksunk, .ref ktrying, .int (nI ksunkMany), .int ksending, .int kfleets, .ref ktext, .int (nI ktexts), .int kseed, .ref kline, .ref kwritten, .int (nI klineMany), .int khasWritten, .ref knode, .int (nI knodes), .int (nI konesMany), .int (nI kwithin), .int (nI ktop)])), (know, .inl (ky 0, 373, .inl knowF))] s.heap.size = A at hD ⊢
  have hA : ∀ q : Nat, s.heap.size ≤ q → A q := fun q h => by rw [← hAe]; exact Or.inr h
  have hS : va_S A s.heap s.heap [] := va_S.rf
  have hl := lv_entry ([.ref o, .int x]) (n := 4) (Nat.le_of_ble_eq_true rfl)
  rw [lg_entry_eq]
  generalize (lg_sl ([.ref o, .int x]) ++ List.replicate (4 - (lg_sl ([.ref o, .int x])).length) Slot.unset).toArray = ls at hl ⊢
  have hl : lv_has ls 4 [(0, .ref o), (1, .int x)] := hl
  refine q_name (fun Q hQ => ?_)
  generalize ([.ref o, .int x] : List Value).toArray = args at hts hQ ⊢
  refine lv_aload_n hx hb dX12_now_0 rfl (lv_at hl 0 rfl) ?_
  refine lv_iconst (v := nI 0) hx hb dX12_now_1 (by decide) ?_
  refine va_put (D := (dC, dI)) (ci := 12) (v := .int (nI 0)) (ty := .int) (C := RX12) (T := TX12) (N := 52) hx hb hts hin12 tyX12 tyX12_ok nmX12 hown hK hP hD hS 0 rfl rfl 0 (by decide) (hts (.fieldLink RX12 1 "PorridgeSeaModel" "thrown" "I") (List.mem_of_getElem? (i := 1) rfl)) (fun _ h9 => h9) rfl (by decide +kernel) rfl rfl (Nat.le_of_ble_eq_true rfl) dX12_now_2 (fun H locs hP hD hS => ?_)
  have hP : va_P (dC, dI) vwCl [(o, .inr (12, [.int (nI 0), .ref ktape, .int (nI ktaped), .int (nI ksize), .int (nI klimit), .int (nI kto), .int (nI kfrom), .int kkind, .int knumber, .int ksign, .int kfault, .int kplace, .long kword, .int ktold, .ref know, .ref kread, .ref kkept, .ref ksnaps, .ref kaside, .ref kname, .ref kreadName, .ref kkeptName, .ref kisKept, .ref konces, .int (nI ksnapMany), .int khasCells, .ref kpoured, .ref kfar, .ref ksides, .int (nI ksideMany), .int kwayDays, .int khasWay, .ref klines, .ref kmet, .int (nI kmetMany), .ref ksunk, .ref ktrying, .int (nI ksunkMany), .int ksending, .int kfleets, .ref ktext, .int (nI ktexts), .int kseed, .ref kline, .ref kwritten, .int (nI klineMany), .int khasWritten, .ref knode, .int (nI knodes), .int (nI konesMany), .int (nI kwithin), .int (nI ktop)])), (know, .inl (ky 0, 373, .inl knowF))] H := hP
  have hD : va_D A [(o, .inr (12, [.int (nI 0), .ref ktape, .int (nI ktaped), .int (nI ksize), .int (nI klimit), .int (nI kto), .int (nI kfrom), .int kkind, .int knumber, .int ksign, .int kfault, .int kplace, .long kword, .int ktold, .ref know, .ref kread, .ref kkept, .ref ksnaps, .ref kaside, .ref kname, .ref kreadName, .ref kkeptName, .ref kisKept, .ref konces, .int (nI ksnapMany), .int khasCells, .ref kpoured, .ref kfar, .ref ksides, .int (nI ksideMany), .int kwayDays, .int khasWay, .ref klines, .ref kmet, .int (nI kmetMany), .ref ksunk, .ref ktrying, .int (nI ksunkMany), .int ksending, .int kfleets, .ref ktext, .int (nI ktexts), .int kseed, .ref kline, .ref kwritten, .int (nI klineMany), .int khasWritten, .ref knode, .int (nI knodes), .int (nI konesMany), .int (nI kwithin), .int (nI ktop)])), (know, .inl (ky 0, 373, .inl knowF))] := hD
  refine lv_iconst (v := nI 0) hx hb dX12_now_5 (by decide) ?_
  refine lv_istore_n (lv' := [(2, .int (nI 0)), (0, .ref o), (1, .int x)]) hx hb dX12_now_6 rfl hl (by decide) rfl (fun ls hl => ?_)
  refine lv_iload_n hx hb dX12_now_7 rfl (lv_at hl 2 rfl) ?_
  rcases sw_0_7 x with c2 | c3 | c4 | c5 | c6 | c7 | c8 | c9 | c10
  · refine lv_tableOut (tgt := 168) hx hb dX12_now_8 c2 (by decide) ?_
    refine lv_iconst (v := (-1 : Int32)) hx hb dX12_now_168 (by decide) ?_
    rw [hQ]
    exact W.iret (v := (-1 : Int32)) hx hb hr (fun t9 ht9 hW9 => ⟨⟨(-1 : Int32), (nI 0), rfl, trivial, by rw [ht9]; exact hP, va_K.moved hW9.alike hK, hD⟩, hS.F ht9⟩) hS.2.2 dX12_now_169
  · refine r_ti (nI 0) c3 ?_
    rw [c3] at hl
    refine lv_tableIn (off := 48) (tgt := 56) hx hb dX12_now_8 (by decide) (by decide) rfl (by decide) ?_
    refine lv_aload_n hx hb dX12_now_56 rfl (lv_at hl 1 rfl) ?_
    refine va_get (D := (dC, dI)) (ci := 12) (v := .ref know) (C := RX12) (T := TX12) (N := 52) hx hb hts hin12 hown hK hP 0 rfl rfl 14 (by decide) (hts (.fieldLink RX12 98 "PorridgeSeaModel" "now" "[I") (List.mem_of_getElem? (i := 2) rfl)) (fun _ h9 => h9) rfl dX12_now_57 ?_
    refine lv_bipush (v := nI 67) hx hb dX12_now_60 (by decide) ?_
    obtain ⟨y11, e12⟩ : ∃ z9, z9 = knowF 67 := ⟨_, rfl⟩
    refine r_iald hx hb hK hP 1 rfl 67 (by decide) (by decide) y11 e12.symm dX12_now_62 ?_
    rw [hQ]
    exact W.iret (v := y11) hx hb hr (fun t9 ht9 hW9 => ⟨⟨y11, (nI 0), rfl, trivial, by rw [ht9]; exact hP, va_K.moved hW9.alike hK, hD⟩, hS.F ht9⟩) hS.2.2 dX12_now_63
  · refine r_ti (nI 1) c4 ?_
    rw [c4] at hl
    refine lv_tableIn (off := 56) (tgt := 64) hx hb dX12_now_8 (by decide) (by decide) rfl (by decide) ?_
    refine lv_aload_n hx hb dX12_now_64 rfl (lv_at hl 1 rfl) ?_
    refine va_get (D := (dC, dI)) (ci := 12) (v := .ref know) (C := RX12) (T := TX12) (N := 52) hx hb hts hin12 hown hK hP 0 rfl rfl 14 (by decide) (hts (.fieldLink RX12 98 "PorridgeSeaModel" "now" "[I") (List.mem_of_getElem? (i := 2) rfl)) (fun _ h9 => h9) rfl dX12_now_65 ?_
    refine lv_bipush (v := nI 68) hx hb dX12_now_68 (by decide) ?_
    obtain ⟨y13, e14⟩ : ∃ z9, z9 = knowF 68 := ⟨_, rfl⟩
    refine r_iald hx hb hK hP 1 rfl 68 (by decide) (by decide) y13 e14.symm dX12_now_70 ?_
    rw [hQ]
    exact W.iret (v := y13) hx hb hr (fun t9 ht9 hW9 => ⟨⟨y13, (nI 0), rfl, trivial, by rw [ht9]; exact hP, va_K.moved hW9.alike hK, hD⟩, hS.F ht9⟩) hS.2.2 dX12_now_71
  · refine r_ti (nI 2) c5 ?_
    rw [c5] at hl
    refine lv_tableIn (off := 64) (tgt := 72) hx hb dX12_now_8 (by decide) (by decide) rfl (by decide) ?_
    refine lv_aload_n hx hb dX12_now_72 rfl (lv_at hl 1 rfl) ?_
    refine vp_callSi (W.runV (As := []) (rest := []) ⟨hx, hb, hml, hown, hts⟩ (c_x_hasSkin l dC dI ky o (nI 0) ktape ktaped ksize klimit kto kfrom kkind knumber ksign kfault kplace kword ktold know kread kkept ksnaps kaside kname kreadName kkeptName kisKept konces ksnapMany khasCells kpoured kfar ksides ksideMany kwayDays khasWay klines kmet kmetMany ksunk ktrying ksunkMany ksending kfleets ktext ktexts kseed kline kwritten klineMany khasWritten knode knodes konesMany kwithin ktop knowF iv_ko_0 iv_ko_1 iv_ko_2 iv_ko_3 iv_ko_4 iv_ko_5 iv_ko_6 iv_ko_7 iv_ko_8 iv_ko_9 iv_ko_10 iv_ko_11 iv_ko_12 iv_ko_13 iv_ko_14 ab_now) (cwV 0 hts gX12_now_X12_hasSkin rfl rfl rfl (by decide +kernel) ⟨(Nat.le_of_ble_eq_true rfl), (Nat.le_of_ble_eq_true rfl)⟩) (pre_PV hK hP [0, 1] rfl (ci := 12) (q0 := 0) rfl rfl) rfl rfl hl.1 rfl (lv_room (Nat.le_of_ble_eq_true rfl)) dX12_now_73 ⟨(Nat.le_of_ble_eq_true rfl), (Nat.le_of_ble_eq_true rfl)⟩) (fun r15 p16 => ?_)
    refine lv_if_eq (tgt := 83) hx hb dX12_now_76 (by decide) (fun c17 => ?_) (fun c17 => ?_)
    · refine lv_iconst (v := nI 0) hx hb dX12_now_83 (by decide) ?_
      rw [hQ]
      exact W.iret (v := nI 0) hx hb hr (fun t9 ht9 hW9 => ⟨⟨nI 0, (nI 0), rfl, trivial, by rw [ht9]; exact hP, va_K.moved hW9.alike hK, hD⟩, hS.F ht9⟩) hS.2.2 dX12_now_84
    · refine lv_iconst (v := nI 1) hx hb dX12_now_79 (by decide) ?_
      refine lv_goto (tgt := 84) hx hb dX12_now_80 (by decide) ?_
      rw [hQ]
      exact W.iret (v := nI 1) hx hb hr (fun t9 ht9 hW9 => ⟨⟨nI 1, (nI 0), rfl, trivial, by rw [ht9]; exact hP, va_K.moved hW9.alike hK, hD⟩, hS.F ht9⟩) hS.2.2 dX12_now_84
  · refine r_ti (nI 3) c6 ?_
    rw [c6] at hl
    refine lv_tableIn (off := 77) (tgt := 85) hx hb dX12_now_8 (by decide) (by decide) rfl (by decide) ?_
    refine lv_aload_n hx hb dX12_now_85 rfl (lv_at hl 1 rfl) ?_
    refine vp_callSi (W.runV (As := []) (rest := []) ⟨hx, hb, hml, hown, hts⟩ (c_x_eaten l dC dI ky o (nI 0) ktape ktaped ksize klimit kto kfrom kkind knumber ksign kfault kplace kword ktold know kread kkept ksnaps kaside kname kreadName kkeptName kisKept konces ksnapMany khasCells kpoured kfar ksides ksideMany kwayDays khasWay klines kmet kmetMany ksunk ktrying ksunkMany ksending kfleets ktext ktexts kseed kline kwritten klineMany khasWritten knode knodes konesMany kwithin ktop knowF iv_ko_0 iv_ko_1 iv_ko_2 iv_ko_3 iv_ko_4 iv_ko_5 iv_ko_6 iv_ko_7 iv_ko_8 iv_ko_9 iv_ko_10 iv_ko_11 iv_ko_12 iv_ko_13 iv_ko_14 ab_now) (cwV 0 hts gX12_now_X12_eaten rfl rfl rfl (by decide +kernel) ⟨(Nat.le_of_ble_eq_true rfl), (Nat.le_of_ble_eq_true rfl)⟩) (pre_PV hK hP [0, 1] rfl (ci := 12) (q0 := 0) rfl rfl) rfl rfl hl.1 rfl (lv_room (Nat.le_of_ble_eq_true rfl)) dX12_now_86 ⟨(Nat.le_of_ble_eq_true rfl), (Nat.le_of_ble_eq_true rfl)⟩) (fun r18 p19 => ?_)
    rw [hQ]
    exact W.iret (v := r18) hx hb hr (fun t9 ht9 hW9 => ⟨⟨r18, (nI 0), rfl, trivial, by rw [ht9]; exact hP, va_K.moved hW9.alike hK, hD⟩, hS.F ht9⟩) hS.2.2 dX12_now_89
  · refine r_ti (nI 4) c7 ?_
    rw [c7] at hl
    refine lv_tableIn (off := 82) (tgt := 90) hx hb dX12_now_8 (by decide) (by decide) rfl (by decide) ?_
    refine lv_iconst (v := nI 0) hx hb dX12_now_90 (by decide) ?_
    refine lv_istore_n (lv' := [(3, .int (nI 0)), (2, .int (nI 0)), (0, .ref o), (1, .int (nI 4))]) hx hb dX12_now_91 rfl hl (by decide) rfl (fun ls hl => ?_)
    have hL30 : ∀ (n31 : Nat) (k27 : Nat) (x28 : Int32), (k27 ≤ 6) → 6 - k27 < n31 → ∀ (H : Heap) (locs : List Loc) (ls : Array Slot), va_P (dC, dI) vwCl [(o, .inr (12, [.int (nI 0), .ref ktape, .int (nI ktaped), .int (nI ksize), .int (nI klimit), .int (nI kto), .int (nI kfrom), .int kkind, .int knumber, .int ksign, .int kfault, .int kplace, .long kword, .int ktold, .ref know, .ref kread, .ref kkept, .ref ksnaps, .ref kaside, .ref kname, .ref kreadName, .ref kkeptName, .ref kisKept, .ref konces, .int (nI ksnapMany), .int khasCells, .ref kpoured, .ref kfar, .ref ksides, .int (nI ksideMany), .int kwayDays, .int khasWay, .ref klines, .ref kmet, .int (nI kmetMany), .ref ksunk, .ref ktrying, .int (nI ksunkMany), .int ksending, .int kfleets, .ref ktext, .int (nI ktexts), .int kseed, .ref kline, .ref kwritten, .int (nI klineMany), .int khasWritten, .ref knode, .int (nI knodes), .int (nI konesMany), .int (nI kwithin), .int (nI ktop)])), (know, .inl (ky 0, 373, .inl knowF))] H → va_D A [(o, .inr (12, [.int (nI 0), .ref ktape, .int (nI ktaped), .int (nI ksize), .int (nI klimit), .int (nI kto), .int (nI kfrom), .int kkind, .int knumber, .int ksign, .int kfault, .int kplace, .long kword, .int ktold, .ref know, .ref kread, .ref kkept, .ref ksnaps, .ref kaside, .ref kname, .ref kreadName, .ref kkeptName, .ref kisKept, .ref konces, .int (nI ksnapMany), .int khasCells, .ref kpoured, .ref kfar, .ref ksides, .int (nI ksideMany), .int kwayDays, .int khasWay, .ref klines, .ref kmet, .int (nI kmetMany), .ref ksunk, .ref ktrying, .int (nI ksunkMany), .int ksending, .int kfleets, .ref ktext, .int (nI ktexts), .int kseed, .ref kline, .ref kwritten, .int (nI klineMany), .int khasWritten, .ref knode, .int (nI knodes), .int (nI konesMany), .int (nI kwithin), .int (nI ktop)])), (know, .inl (ky 0, 373, .inl knowF))] → va_S A s.heap H locs → lv_has ls 4 [(3, .int (nI k27)), (2, .int x28), (0, .ref o)] → W p l e (headSpec wsX12_now ({ frames := 3, cells := 0, slots := 0, locals := 65 })).room s m args below meth c H locs 0 0 Q (F0 m 92 ls []) := by
      intro n31
      induction n31 with
      | zero => intro k27 x28 _ h9; exact absurd h9 (Nat.not_lt_zero _)
      | succ n31 ih32 =>
        intro k27 x28 j29 hm33 H locs ls hP hD hS hl
        refine lv_iload_n hx hb dX12_now_92 rfl (lv_at hl 0 rfl) ?_
        refine lv_aload_n hx hb dX12_now_93 rfl (lv_at hl 2 rfl) ?_
        refine va_get (D := (dC, dI)) (ci := 12) (v := .ref know) (C := RX12) (T := TX12) (N := 52) hx hb hts hin12 hown hK hP 0 rfl rfl 14 (by decide) (hts (.fieldLink RX12 98 "PorridgeSeaModel" "now" "[I") (List.mem_of_getElem? (i := 2) rfl)) (fun _ h9 => h9) rfl dX12_now_94 ?_
        refine lv_iconst (v := nI 3) hx hb dX12_now_97 (by decide) ?_
        obtain ⟨y34, e35⟩ : ∃ z9, z9 = knowF 3 := ⟨_, rfl⟩
        refine r_iald hx hb hK hP 1 rfl 3 (by decide) (by decide) y34 e35.symm dX12_now_98 ?_
        obtain ⟨b36, b37⟩ : (0 : Int) ≤ y34.toInt ∧ y34.toInt ≤ 6 := by rw [e35]; exact ld_NB_3 ab_now 3 (by decide) (by decide)
        refine lv_icmp_ge (tgt := 122) hx hb dX12_now_99 (by decide) (fun c38 => ?_) (fun c38 => ?_)
        · refine lv_iload_n hx hb dX12_now_122 rfl (lv_at hl 1 rfl) ?_
          rw [hQ]
          exact W.iret (v := x28) hx hb hr (fun t9 ht9 hW9 => ⟨⟨x28, (nI 0), rfl, trivial, by rw [ht9]; exact hP, va_K.moved hW9.alike hK, hD⟩, hS.F ht9⟩) hS.2.2 dX12_now_123
        · refine lv_aload_n hx hb dX12_now_102 rfl (lv_at hl 2 rfl) ?_
          refine lv_iload_n hx hb dX12_now_103 rfl (lv_at hl 0 rfl) ?_
          refine vp_callSi (W.runV (As := [.int (nI k27)]) (rest := []) ⟨hx, hb, hml, hown, hts⟩ (c_x_isAfloat l dC dI ky o (nI 0) ktape ktaped ksize klimit kto kfrom kkind knumber ksign kfault kplace kword ktold know kread kkept ksnaps kaside kname kreadName kkeptName kisKept konces ksnapMany khasCells kpoured kfar ksides ksideMany kwayDays khasWay klines kmet kmetMany ksunk ktrying ksunkMany ksending kfleets ktext ktexts kseed kline kwritten klineMany khasWritten knode knodes konesMany kwithin ktop knowF (nI k27) iv_ko_0 iv_ko_1 iv_ko_2 iv_ko_3 iv_ko_4 iv_ko_5 iv_ko_6 iv_ko_7 iv_ko_8 iv_ko_9 iv_ko_10 iv_ko_11 iv_ko_12 iv_ko_13 iv_ko_14 ab_now (lf_x_now_1 knowF k27 n31 y34 ab_now j29 hm33 e35 b36 b37 c38)) (cwV 1 hts gX12_now_X12_isAfloat rfl rfl rfl (by decide +kernel) ⟨(Nat.le_of_ble_eq_true rfl), (Nat.le_of_ble_eq_true rfl)⟩) (pre_PV hK hP [0, 1] rfl (ci := 12) (q0 := 0) rfl rfl) rfl rfl hl.1 rfl (lv_room (Nat.le_of_ble_eq_true rfl)) dX12_now_104 ⟨(Nat.le_of_ble_eq_true rfl), (Nat.le_of_ble_eq_true rfl)⟩) (fun r39 p40 => ?_)
          refine lv_if_eq (tgt := 116) hx hb dX12_now_107 (by decide) (fun c41 => ?_) (fun c41 => ?_)
          · refine lv_iinc (v := nI (k27 + 1)) (lv' := [(3, .int (nI (k27 + 1))), (2, .int x28), (0, .ref o)]) hx hb dX12_now_116 hl (k := 0) rfl (show nI k27 + nI 1 = nI (k27 + 1) from nI_add _ _) (by decide) rfl (fun ls hl => ?_)
            refine lv_goto (tgt := 92) hx hb dX12_now_119 (by decide) ?_
            exact ih32 (k27 + 1) x28 (lf_x_now_2 knowF k27 n31 y34 ab_now j29 hm33 e35 b36 b37 c38) (lf_x_now_3 knowF k27 n31 y34 ab_now j29 hm33 e35 b36 b37 c38) _ _ _ hP hD hS (lv_sub hl [0, 1, 2] rfl)
          · refine lv_iload_n hx hb dX12_now_110 rfl (lv_at hl 1 rfl) ?_
            refine lv_iconst (v := nI 1) hx hb dX12_now_111 (by decide) ?_
            refine lv_iload_n hx hb dX12_now_112 rfl (lv_at hl 0 rfl) ?_
            refine lv_ishl hx hb dX12_now_113 ?_
            refine lv_topi (fun y42 e43 => ?_)
            refine lv_ior hx hb dX12_now_114 ?_
            refine lv_topi (fun y44 e45 => ?_)
            refine lv_istore_n (lv' := [(2, .int y44), (3, .int (nI k27)), (0, .ref o)]) hx hb dX12_now_115 rfl hl (by decide) rfl (fun ls hl => ?_)
            refine lv_iinc (v := nI (k27 + 1)) (lv' := [(3, .int (nI (k27 + 1))), (2, .int y44), (0, .ref o)]) hx hb dX12_now_116 hl (k := 1) rfl (show nI k27 + nI 1 = nI (k27 + 1) from nI_add _ _) (by decide) rfl (fun ls hl => ?_)
            refine lv_goto (tgt := 92) hx hb dX12_now_119 (by decide) ?_
            exact ih32 (k27 + 1) y44 (lf_x_now_4 knowF k27 x28 n31 y34 y42 y44 ab_now j29 hm33 e35 b36 b37 c38 e43 e45) (lf_x_now_5 knowF k27 x28 n31 y34 y42 y44 ab_now j29 hm33 e35 b36 b37 c38 e43 e45) _ _ _ hP hD hS (lv_sub hl [0, 1, 2] rfl)
    exact hL30 ((6 - 0) + 1) 0 (nI 0) (lf_x_now_6) (Nat.lt_succ_self _) _ _ _ hP hD hS (lv_sub hl [0, 1, 2] rfl)
  · refine r_ti (nI 5) c8 ?_
    rw [c8] at hl
    refine lv_tableIn (off := 116) (tgt := 124) hx hb dX12_now_8 (by decide) (by decide) rfl (by decide) ?_
    refine lv_iconst (v := nI 0) hx hb dX12_now_124 (by decide) ?_
    refine lv_istore_n (lv' := [(3, .int (nI 0)), (2, .int (nI 0)), (0, .ref o), (1, .int (nI 5))]) hx hb dX12_now_125 rfl hl (by decide) rfl (fun ls hl => ?_)
    have hL55 : ∀ (n56 : Nat) (k52 : Nat) (x53 : Int32), (k52 ≤ 36) → 36 - k52 < n56 → ∀ (H : Heap) (locs : List Loc) (ls : Array Slot), va_P (dC, dI) vwCl [(o, .inr (12, [.int (nI 0), .ref ktape, .int (nI ktaped), .int (nI ksize), .int (nI klimit), .int (nI kto), .int (nI kfrom), .int kkind, .int knumber, .int ksign, .int kfault, .int kplace, .long kword, .int ktold, .ref know, .ref kread, .ref kkept, .ref ksnaps, .ref kaside, .ref kname, .ref kreadName, .ref kkeptName, .ref kisKept, .ref konces, .int (nI ksnapMany), .int khasCells, .ref kpoured, .ref kfar, .ref ksides, .int (nI ksideMany), .int kwayDays, .int khasWay, .ref klines, .ref kmet, .int (nI kmetMany), .ref ksunk, .ref ktrying, .int (nI ksunkMany), .int ksending, .int kfleets, .ref ktext, .int (nI ktexts), .int kseed, .ref kline, .ref kwritten, .int (nI klineMany), .int khasWritten, .ref knode, .int (nI knodes), .int (nI konesMany), .int (nI kwithin), .int (nI ktop)])), (know, .inl (ky 0, 373, .inl knowF))] H → va_D A [(o, .inr (12, [.int (nI 0), .ref ktape, .int (nI ktaped), .int (nI ksize), .int (nI klimit), .int (nI kto), .int (nI kfrom), .int kkind, .int knumber, .int ksign, .int kfault, .int kplace, .long kword, .int ktold, .ref know, .ref kread, .ref kkept, .ref ksnaps, .ref kaside, .ref kname, .ref kreadName, .ref kkeptName, .ref kisKept, .ref konces, .int (nI ksnapMany), .int khasCells, .ref kpoured, .ref kfar, .ref ksides, .int (nI ksideMany), .int kwayDays, .int khasWay, .ref klines, .ref kmet, .int (nI kmetMany), .ref ksunk, .ref ktrying, .int (nI ksunkMany), .int ksending, .int kfleets, .ref ktext, .int (nI ktexts), .int kseed, .ref kline, .ref kwritten, .int (nI klineMany), .int khasWritten, .ref knode, .int (nI knodes), .int (nI konesMany), .int (nI kwithin), .int (nI ktop)])), (know, .inl (ky 0, 373, .inl knowF))] → va_S A s.heap H locs → lv_has ls 4 [(3, .int (nI k52)), (2, .int x53), (0, .ref o)] → W p l e (headSpec wsX12_now ({ frames := 3, cells := 0, slots := 0, locals := 65 })).room s m args below meth c H locs 0 0 Q (F0 m 126 ls []) := by
      intro n56
      induction n56 with
      | zero => intro k52 x53 _ h9; exact absurd h9 (Nat.not_lt_zero _)
      | succ n56 ih57 =>
        intro k52 x53 j54 hm58 H locs ls hP hD hS hl
        refine lv_iload_n hx hb dX12_now_126 rfl (lv_at hl 0 rfl) ?_
        refine lv_bipush (v := nI 36) hx hb dX12_now_127 (by decide) ?_
        refine n_icmp_ge (x := k52) (y := 36) (tgt := 150) hx hb (by omega) (by omega) dX12_now_129 (by decide) (fun c59 => ?_) (fun c59 => ?_)
        · refine lv_iload_n hx hb dX12_now_150 rfl (lv_at hl 1 rfl) ?_
          rw [hQ]
          exact W.iret (v := x53) hx hb hr (fun t9 ht9 hW9 => ⟨⟨x53, (nI 0), rfl, trivial, by rw [ht9]; exact hP, va_K.moved hW9.alike hK, hD⟩, hS.F ht9⟩) hS.2.2 dX12_now_151
        · refine lv_iload_n hx hb dX12_now_132 rfl (lv_at hl 1 rfl) ?_
          refine lv_aload_n hx hb dX12_now_133 rfl (lv_at hl 2 rfl) ?_
          refine va_get (D := (dC, dI)) (ci := 12) (v := .ref know) (C := RX12) (T := TX12) (N := 52) hx hb hts hin12 hown hK hP 0 rfl rfl 14 (by decide) (hts (.fieldLink RX12 98 "PorridgeSeaModel" "now" "[I") (List.mem_of_getElem? (i := 2) rfl)) (fun _ h9 => h9) rfl dX12_now_134 ?_
          refine lv_bipush (v := nI 71) hx hb dX12_now_137 (by decide) ?_
          refine lv_iload_n hx hb dX12_now_139 rfl (lv_at hl 0 rfl) ?_
          refine lv_iadd hx hb dX12_now_140 ?_
          refine r_ti (nI (71 + k52)) (nI_add _ _) ?_
          obtain ⟨y60, e61⟩ : ∃ z9, z9 = knowF (71 + k52) := ⟨_, rfl⟩
          refine r_iald hx hb hK hP 1 rfl (71 + k52) (lf_x_now_7 knowF k52 n56 y60 ab_now j54 hm58 c59 e61) (by decide) y60 e61.symm dX12_now_141 ?_
          obtain ⟨b62, b63⟩ : (0 : Int) ≤ y60.toInt ∧ y60.toInt ≤ 9 := by rw [e61]; exact ld_NB_71 ab_now (71 + k52) (lf_x_now_8 knowF k52 n56 y60 ab_now j54 hm58 c59 e61) (lf_x_now_9 knowF k52 n56 y60 ab_now j54 hm58 c59 e61)
          obtain ⟨n64, h65, e66⟩ := nat_of y60 10 (by decide) (lf_x_now_10 knowF k52 n56 y60 ab_now j54 hm58 c59 e61 b62 b63)
          rw [e66]
          refine lv_iadd hx hb dX12_now_142 ?_
          refine lv_topi (fun y67 e68 => ?_)
          refine lv_istore_n (lv' := [(2, .int y67), (3, .int (nI k52)), (0, .ref o)]) hx hb dX12_now_143 rfl hl (by decide) rfl (fun ls hl => ?_)
          refine lv_iinc (v := nI (k52 + 1)) (lv' := [(3, .int (nI (k52 + 1))), (2, .int y67), (0, .ref o)]) hx hb dX12_now_144 hl (k := 1) rfl (show nI k52 + nI 1 = nI (k52 + 1) from nI_add _ _) (by decide) rfl (fun ls hl => ?_)
          refine lv_goto (tgt := 126) hx hb dX12_now_147 (by decide) ?_
          exact ih57 (k52 + 1) y67 (lf_x_now_11 knowF k52 x53 n56 y60 n64 y67 ab_now j54 hm58 c59 e61 b62 b63 h65 e66 e68) (lf_x_now_12 knowF k52 x53 n56 y60 n64 y67 ab_now j54 hm58 c59 e61 b62 b63 h65 e66 e68) _ _ _ hP hD hS (lv_sub hl [0, 1, 2] rfl)
    exact hL55 ((36 - 0) + 1) 0 (nI 0) (lf_x_now_13) (Nat.lt_succ_self _) _ _ _ hP hD hS (lv_sub hl [0, 1, 2] rfl)
  · refine r_ti (nI 6) c9 ?_
    rw [c9] at hl
    refine lv_tableIn (off := 144) (tgt := 152) hx hb dX12_now_8 (by decide) (by decide) rfl (by decide) ?_
    refine lv_aload_n hx hb dX12_now_152 rfl (lv_at hl 1 rfl) ?_
    refine va_get (D := (dC, dI)) (ci := 12) (v := .ref know) (C := RX12) (T := TX12) (N := 52) hx hb hts hin12 hown hK hP 0 rfl rfl 14 (by decide) (hts (.fieldLink RX12 98 "PorridgeSeaModel" "now" "[I") (List.mem_of_getElem? (i := 2) rfl)) (fun _ h9 => h9) rfl dX12_now_153 ?_
    refine lv_bipush (v := nI 69) hx hb dX12_now_156 (by decide) ?_
    obtain ⟨y69, e70⟩ : ∃ z9, z9 = knowF 69 := ⟨_, rfl⟩
    refine r_iald hx hb hK hP 1 rfl 69 (by decide) (by decide) y69 e70.symm dX12_now_158 ?_
    rw [hQ]
    exact W.iret (v := y69) hx hb hr (fun t9 ht9 hW9 => ⟨⟨y69, (nI 0), rfl, trivial, by rw [ht9]; exact hP, va_K.moved hW9.alike hK, hD⟩, hS.F ht9⟩) hS.2.2 dX12_now_159
  · refine r_ti (nI 7) c10 ?_
    rw [c10] at hl
    refine lv_tableIn (off := 152) (tgt := 160) hx hb dX12_now_8 (by decide) (by decide) rfl (by decide) ?_
    refine lv_aload_n hx hb dX12_now_160 rfl (lv_at hl 1 rfl) ?_
    refine va_get (D := (dC, dI)) (ci := 12) (v := .ref know) (C := RX12) (T := TX12) (N := 52) hx hb hts hin12 hown hK hP 0 rfl rfl 14 (by decide) (hts (.fieldLink RX12 98 "PorridgeSeaModel" "now" "[I") (List.mem_of_getElem? (i := 2) rfl)) (fun _ h9 => h9) rfl dX12_now_161 ?_
    refine lv_bipush (v := nI 70) hx hb dX12_now_164 (by decide) ?_
    obtain ⟨y71, e72⟩ : ∃ z9, z9 = knowF 70 := ⟨_, rfl⟩
    refine r_iald hx hb hK hP 1 rfl 70 (by decide) (by decide) y71 e72.symm dX12_now_166 ?_
    rw [hQ]
    exact W.iret (v := y71) hx hb hr (fun t9 ht9 hW9 => ⟨⟨y71, (nI 0), rfl, trivial, by rw [ht9]; exact hP, va_K.moved hW9.alike hK, hD⟩, hS.F ht9⟩) hS.2.2 dX12_now_167
set_option maxRecDepth 20000 in
theorem lf_x_isLine_1 (x : Int32) (hl9 : 0 ≤ x.toInt ∧ x.toInt ≤ 23) : 0 ≤ x.toInt ∧ x.toInt < ((24 : Nat) : Int) := by
  have b_x := ia_b x
  try simp only [ia_lt, ia_le, ia_eq, ia_m1, ia_0, ia_1, ne_eq, true_and, and_true, false_and, and_false, or_false, false_or, or_true, true_or, not_true_eq_false, not_false_eq_true] at *
  all_goals omega
set_option maxRecDepth 20000 in
theorem lf_x_isLine_2   : (nI 0) = nI 0 ∨ (nI 0) = nI 1 := by
  try have k_0 := ia_n 0 (by first | decide | omega)
  try have k_1 := ia_n 1 (by first | decide | omega)
  try simp only [ia_lt, ia_le, ia_eq, ia_m1, ia_0, ia_1, ne_eq, true_and, and_true, false_and, and_false, or_false, false_or, or_true, true_or, not_true_eq_false, not_false_eq_true] at *
  all_goals omega
set_option maxRecDepth 20000 in
theorem lf_x_isLine_3   : (nI 1) = nI 0 ∨ (nI 1) = nI 1 := by
  try have k_0 := ia_n 1 (by first | decide | omega)
  try have k_1 := ia_n 0 (by first | decide | omega)
  try simp only [ia_lt, ia_le, ia_eq, ia_m1, ia_0, ia_1, ne_eq, true_and, and_true, false_and, and_false, or_false, false_or, or_true, true_or, not_true_eq_false, not_false_eq_true] at *
  all_goals omega
set_option maxRecDepth 20000 in
theorem lf_x_isLine_4   : (nI 0) = nI 0 ∨ (nI 0) = nI 1 := by
  try have k_0 := ia_n 0 (by first | decide | omega)
  try have k_1 := ia_n 1 (by first | decide | omega)
  try simp only [ia_lt, ia_le, ia_eq, ia_m1, ia_0, ia_1, ne_eq, true_and, and_true, false_and, and_false, or_false, false_or, or_true, true_or, not_true_eq_false, not_false_eq_true] at *
  all_goals omega
set_option maxRecDepth 20000 in
theorem lf_x_isLine_5   : (nI 1) = nI 0 ∨ (nI 1) = nI 1 := by
  try have k_0 := ia_n 1 (by first | decide | omega)
  try have k_1 := ia_n 0 (by first | decide | omega)
  try simp only [ia_lt, ia_le, ia_eq, ia_m1, ia_0, ia_1, ne_eq, true_and, and_true, false_and, and_false, or_false, false_or, or_true, true_or, not_true_eq_false, not_false_eq_true] at *
  all_goals omega
set_option maxHeartbeats 4000000 in
set_option maxRecDepth 100000 in
theorem c_x_isLine (l : Launch) (dC : Nat → ClassId) (dI : Nat → Nat → Nat) (ky : Nat → ClassId) (o : Nat) (kthrown : Int32) (ktape : Nat) (ktaped : Nat) (ksize : Nat) (klimit : Nat) (kto : Nat) (kfrom : Nat) (kkind : Int32) (knumber : Int32) (ksign : Int32) (kfault : Int32) (kplace : Int32) (kword : Int64) (ktold : Int32) (know : Nat) (kread : Nat) (kkept : Nat) (ksnaps : Nat) (kaside : Nat) (kname : Nat) (kreadName : Nat) (kkeptName : Nat) (kisKept : Nat) (konces : Nat) (ksnapMany : Nat) (khasCells : Int32) (kpoured : Nat) (kfar : Nat) (ksides : Nat) (ksideMany : Nat) (kwayDays : Int32) (khasWay : Int32) (klines : Nat) (kmet : Nat) (kmetMany : Nat) (ksunk : Nat) (ktrying : Nat) (ksunkMany : Nat) (ksending : Int32) (kfleets : Int32) (ktext : Nat) (ktexts : Nat) (kseed : Int32) (kline : Nat) (kwritten : Nat) (klineMany : Nat) (khasWritten : Int32) (knode : Nat) (knodes : Nat) (konesMany : Nat) (kwithin : Nat) (ktop : Nat) (knowF : Nat → Int32) (x : Int32) (iv_ko_0 : ktaped ≤ 940) (iv_ko_1 : ksize ≤ 940) (iv_ko_2 : klimit ≤ 900) (iv_ko_3 : kto ≤ ksize) (iv_ko_4 : kfrom ≤ 940) (iv_ko_5 : ksnapMany ≤ 8) (iv_ko_6 : ksideMany ≤ 36) (iv_ko_7 : kmetMany ≤ 3) (iv_ko_8 : ksunkMany ≤ 36) (iv_ko_9 : ktexts ≤ 64) (iv_ko_10 : klineMany ≤ 40) (iv_ko_11 : knodes ≤ 60) (iv_ko_12 : konesMany ≤ 20) (iv_ko_13 : kwithin ≤ 8) (iv_ko_14 : ktop ≤ 59) (ab_now : NB knowF) (hl9 : 0 ≤ x.toInt ∧ x.toInt ≤ 23) : Met l yX12_isLine wsX12_isLine ({ frames := 0, cells := 0, slots := 0, locals := 0 }) (PcP dC dI ky [.ref o, .int x] [(o, .inr (12, [.int kthrown, .ref ktape, .int (nI ktaped), .int (nI ksize), .int (nI klimit), .int (nI kto), .int (nI kfrom), .int kkind, .int knumber, .int ksign, .int kfault, .int kplace, .long kword, .int ktold, .ref know, .ref kread, .ref kkept, .ref ksnaps, .ref kaside, .ref kname, .ref kreadName, .ref kkeptName, .ref kisKept, .ref konces, .int (nI ksnapMany), .int khasCells, .ref kpoured, .ref kfar, .ref ksides, .int (nI ksideMany), .int kwayDays, .int khasWay, .ref klines, .ref kmet, .int (nI kmetMany), .ref ksunk, .ref ktrying, .int (nI ksunkMany), .int ksending, .int kfleets, .ref ktext, .int (nI ktexts), .int kseed, .ref kline, .ref kwritten, .int (nI klineMany), .int khasWritten, .ref knode, .int (nI knodes), .int (nI konesMany), .int (nI kwithin), .int (nI ktop)])), (know, .inl (ky 0, 373, .inl knowF))]) (vp_Si (fun r : Int32 => r = nI 0 ∨ r = nI 1)) 0 0 (fun _ => False) := by
  refine Met.ofW (cc := cX12_isLine) (maxL := 2) (ret := (some .boolean)) (by decide) rfl ?_
  intro p e s m args below meth c s₁ B hml hv
  obtain ⟨rfl, hP, hK⟩ := hv
  have hx := B.exec
  have hb := B.bytes
  have hr := B.returns
  have hts := atoms_spec (ws := wsX12_isLine) B.pre
  have hown : s.vm.findClass RX12 = some m.cls := findClass_of_methodNamed B.named
  have hlocks := B.notSynchronized
  have hin12 : ∀ w ∈ u_ws RX12 TX12 52, w ∈ wsX12_isLine := by decide +kernel
  have hl := lv_entry ([.ref o, .int x]) (n := 2) (Nat.le_of_ble_eq_true rfl)
  rw [lg_entry_eq]
  generalize (lg_sl ([.ref o, .int x]) ++ List.replicate (2 - (lg_sl ([.ref o, .int x])).length) Slot.unset).toArray = ls at hl ⊢
  have hl : lv_has ls 2 [(0, .ref o), (1, .int x)] := hl
  refine q_name (fun Q hQ => ?_)
  generalize ([.ref o, .int x] : List Value).toArray = args at hts hQ ⊢
  refine lv_iload_n hx hb dX12_isLine_0 rfl (lv_at hl 1 rfl) ?_
  refine lv_bipush (v := nI 12) hx hb dX12_isLine_1 (by decide) ?_
  obtain ⟨n1, h2, e3⟩ := nat_of x 24 (by decide) (lf_x_isLine_1 x hl9)
  rw [e3]
  refine lv_irem hx hb dX12_isLine_3 (by decide) ?_
  refine r_ti (nI (n1 % 12)) (pk_rem (by omega) (by omega) (by omega)) ?_
  refine lv_iconst (v := nI 2) hx hb dX12_isLine_4 (by decide) ?_
  refine lv_idiv hx hb dX12_isLine_5 (by decide) ?_
  refine r_ti (nI ((n1 % 12) / 2)) (pk_div (by omega) (by omega) (by omega)) ?_
  refine lv_aload_n hx hb dX12_isLine_6 rfl (lv_at hl 0 rfl) ?_
  refine va_get (D := (dC, dI)) (ci := 12) (v := .ref know) (C := RX12) (T := TX12) (N := 52) hx hb hts hin12 hown hK hP 0 rfl rfl 14 (by decide) (hts (.fieldLink RX12 98 "PorridgeSeaModel" "now" "[I") (List.mem_of_getElem? (i := 1) rfl)) (fun _ h9 => h9) rfl dX12_isLine_7 ?_
  refine lv_iload_n hx hb dX12_isLine_10 rfl (lv_at hl 1 rfl) ?_
  refine lv_bipush (v := nI 12) hx hb dX12_isLine_11 (by decide) ?_
  refine lv_icmp_lt (tgt := 20) hx hb dX12_isLine_13 (by decide) (fun c4 => ?_) (fun c4 => ?_)
  · refine lv_iconst (v := nI 1) hx hb dX12_isLine_20 (by decide) ?_
    obtain ⟨y5, e6⟩ : ∃ z9, z9 = knowF 1 := ⟨_, rfl⟩
    refine r_iald hx hb hK hP 1 rfl 1 (by decide) (by decide) y5 e6.symm dX12_isLine_21 ?_
    obtain ⟨b7, b8⟩ : (2 : Int) ≤ y5.toInt ∧ y5.toInt ≤ 6 := by rw [e6]; exact ld_NB_1 ab_now 1 (by decide) (by decide)
    refine lv_icmp_ge (tgt := 29) hx hb dX12_isLine_22 (by decide) (fun c9 => ?_) (fun c9 => ?_)
    · refine lv_iconst (v := nI 0) hx hb dX12_isLine_29 (by decide) ?_
      rw [hQ]
      exact W.zret (v := nI 0) hx hb hr (by decide) (fun t9 ht9 hW9 => ⟨nI 0, rfl, (lf_x_isLine_2), ht9⟩) (fun _ h => absurd h List.not_mem_nil) dX12_isLine_30
    · refine lv_iconst (v := nI 1) hx hb dX12_isLine_25 (by decide) ?_
      refine lv_goto (tgt := 30) hx hb dX12_isLine_26 (by decide) ?_
      rw [hQ]
      exact W.zret (v := nI 1) hx hb hr (by decide) (fun t9 ht9 hW9 => ⟨nI 1, rfl, (lf_x_isLine_3), ht9⟩) (fun _ h => absurd h List.not_mem_nil) dX12_isLine_30
  · refine lv_iconst (v := nI 0) hx hb dX12_isLine_16 (by decide) ?_
    refine lv_goto (tgt := 21) hx hb dX12_isLine_17 (by decide) ?_
    obtain ⟨y10, e11⟩ : ∃ z9, z9 = knowF 0 := ⟨_, rfl⟩
    refine r_iald hx hb hK hP 1 rfl 0 (by decide) (by decide) y10 e11.symm dX12_isLine_21 ?_
    obtain ⟨b12, b13⟩ : (2 : Int) ≤ y10.toInt ∧ y10.toInt ≤ 6 := by rw [e11]; exact ld_NB_0 ab_now 0 (by decide) (by decide)
    refine lv_icmp_ge (tgt := 29) hx hb dX12_isLine_22 (by decide) (fun c14 => ?_) (fun c14 => ?_)
    · refine lv_iconst (v := nI 0) hx hb dX12_isLine_29 (by decide) ?_
      rw [hQ]
      exact W.zret (v := nI 0) hx hb hr (by decide) (fun t9 ht9 hW9 => ⟨nI 0, rfl, (lf_x_isLine_4), ht9⟩) (fun _ h => absurd h List.not_mem_nil) dX12_isLine_30
    · refine lv_iconst (v := nI 1) hx hb dX12_isLine_25 (by decide) ?_
      refine lv_goto (tgt := 30) hx hb dX12_isLine_26 (by decide) ?_
      rw [hQ]
      exact W.zret (v := nI 1) hx hb hr (by decide) (fun t9 ht9 hW9 => ⟨nI 1, rfl, (lf_x_isLine_5), ht9⟩) (fun _ h => absurd h List.not_mem_nil) dX12_isLine_30
set_option maxRecDepth 20000 in
theorem lf_x_stirred_1 (x : Int32) (hc_x : 0 ≤ x.toInt ∧ x.toInt ≤ 35) : 0 ≤ x.toInt ∧ x.toInt < ((36 : Nat) : Int) := by
  have b_x := ia_b x
  try simp only [ia_lt, ia_le, ia_eq, ia_m1, ia_0, ia_1, ne_eq, true_and, and_true, false_and, and_false, or_false, false_or, or_true, true_or, not_true_eq_false, not_false_eq_true] at *
  all_goals omega
set_option maxRecDepth 20000 in
theorem lf_x_stirred_2 (y : Int32) (hl9 : 0 ≤ y.toInt ∧ y.toInt ≤ 23) (c4 : y < nI 12) : 0 ≤ y.toInt ∧ y.toInt < ((12 : Nat) : Int) := by
  have b_y := ia_b y
  try have k_0 := ia_n 12 (by first | decide | omega)
  try simp only [ia_lt, ia_le, ia_eq, ia_m1, ia_0, ia_1, ne_eq, true_and, and_true, false_and, and_false, or_false, false_or, or_true, true_or, not_true_eq_false, not_false_eq_true] at *
  all_goals omega
set_option maxRecDepth 20000 in
theorem lf_x_stirred_3 (knowF : Nat → Int32) (y11 : Int32) (ab_now : NB knowF) (e12 : y11 = knowF 0) (b13 : 2 ≤ y11.toInt) (b14 : y11.toInt ≤ 6) : 0 ≤ y11.toInt ∧ y11.toInt < ((7 : Nat) : Int) := by
  have b_y11 := ia_b y11
  try simp only [ia_lt, ia_le, ia_eq, ia_m1, ia_0, ia_1, ne_eq, true_and, and_true, false_and, and_false, or_false, false_or, or_true, true_or, not_true_eq_false, not_false_eq_true] at *
  all_goals omega
set_option maxRecDepth 20000 in
theorem lf_x_stirred_4 (knowF : Nat → Int32) (y11 : Int32) (n17 : Nat) (ab_now : NB knowF) (e12 : y11 = knowF 0) (b13 : 2 ≤ y11.toInt) (b14 : y11.toInt ≤ 6) (h18 : n17 < 7) (e19 : y11 = nI n17) : 2 ≤ n17 := by
  have b_y11 := ia_b y11
  try have k_0 := ia_n n17 (by first | decide | omega)
  try simp only [ia_lt, ia_le, ia_eq, ia_m1, ia_0, ia_1, ne_eq, true_and, and_true, false_and, and_false, or_false, false_or, or_true, true_or, not_true_eq_false, not_false_eq_true] at *
  all_goals omega
set_option maxRecDepth 20000 in
theorem lf_x_stirred_5 (knowF : Nat → Int32) (y11 : Int32) (n17 : Nat) (ab_now : NB knowF) (e12 : y11 = knowF 0) (b13 : 2 ≤ y11.toInt) (b14 : y11.toInt ≤ 6) (h18 : n17 < 7) (e19 : y11 = nI n17) (f20 : 2 ≤ n17) : 1 ≤ n17 := by
  have b_y11 := ia_b y11
  try have k_0 := ia_n n17 (by first | decide | omega)
  try simp only [ia_lt, ia_le, ia_eq, ia_m1, ia_0, ia_1, ne_eq, true_and, and_true, false_and, and_false, or_false, false_or, or_true, true_or, not_true_eq_false, not_false_eq_true] at *
  all_goals omega
set_option maxRecDepth 20000 in
theorem lf_x_stirred_6 (knowF : Nat → Int32) (x : Int32) (y : Int32) (n1 : Nat) (n6 : Nat) (y11 : Int32) (n17 : Nat) (ab_now : NB knowF) (hc_x : 0 ≤ x.toInt ∧ x.toInt ≤ 35) (hl9 : 0 ≤ y.toInt ∧ y.toInt ≤ 23) (h2 : n1 < 36) (e3 : x = nI n1) (c4 : y < nI 12) (h7 : n6 < 12) (e8 : y = nI n6) (c9 : (n1 / 6) = ((n6 % 12) / 2)) (e12 : y11 = knowF 0) (b13 : 2 ≤ y11.toInt) (b14 : y11.toInt ≤ 6) (c16 : 0 < (n6 % 2)) (h18 : n17 < 7) (e19 : y11 = nI n17) (f20 : 2 ≤ n17) (f21 : ((n1 % 6) + (n17 - 1)) % n17 < n17) : ((6 * (n1 / 6)) + (((n1 % 6) + (n17 - 1)) % n17)) < 36 := by
  have b_x := ia_b x
  have b_y := ia_b y
  have b_y11 := ia_b y11
  try have k_0 := ia_n n1 (by first | decide | omega)
  try have k_1 := ia_n 12 (by first | decide | omega)
  try have k_2 := ia_n n6 (by first | decide | omega)
  try have k_3 := ia_n n17 (by first | decide | omega)
  try simp only [ia_lt, ia_le, ia_eq, ia_m1, ia_0, ia_1, ne_eq, true_and, and_true, false_and, and_false, or_false, false_or, or_true, true_or, not_true_eq_false, not_false_eq_true] at *
  all_goals omega
set_option maxRecDepth 20000 in
theorem lf_x_stirred_7 (knowF : Nat → Int32) (y11 : Int32) (ab_now : NB knowF) (e12 : y11 = knowF 0) (b13 : 2 ≤ y11.toInt) (b14 : y11.toInt ≤ 6) : 0 ≤ y11.toInt ∧ y11.toInt < ((7 : Nat) : Int) := by
  have b_y11 := ia_b y11
  try simp only [ia_lt, ia_le, ia_eq, ia_m1, ia_0, ia_1, ne_eq, true_and, and_true, false_and, and_false, or_false, false_or, or_true, true_or, not_true_eq_false, not_false_eq_true] at *
  all_goals omega
set_option maxRecDepth 20000 in
theorem lf_x_stirred_8 (knowF : Nat → Int32) (y11 : Int32) (n23 : Nat) (ab_now : NB knowF) (e12 : y11 = knowF 0) (b13 : 2 ≤ y11.toInt) (b14 : y11.toInt ≤ 6) (h24 : n23 < 7) (e25 : y11 = nI n23) : 2 ≤ n23 := by
  have b_y11 := ia_b y11
  try have k_0 := ia_n n23 (by first | decide | omega)
  try simp only [ia_lt, ia_le, ia_eq, ia_m1, ia_0, ia_1, ne_eq, true_and, and_true, false_and, and_false, or_false, false_or, or_true, true_or, not_true_eq_false, not_false_eq_true] at *
  all_goals omega
set_option maxRecDepth 20000 in
theorem lf_x_stirred_9 (knowF : Nat → Int32) (x : Int32) (y : Int32) (n1 : Nat) (n6 : Nat) (y11 : Int32) (n23 : Nat) (ab_now : NB knowF) (hc_x : 0 ≤ x.toInt ∧ x.toInt ≤ 35) (hl9 : 0 ≤ y.toInt ∧ y.toInt ≤ 23) (h2 : n1 < 36) (e3 : x = nI n1) (c4 : y < nI 12) (h7 : n6 < 12) (e8 : y = nI n6) (c9 : (n1 / 6) = ((n6 % 12) / 2)) (e12 : y11 = knowF 0) (b13 : 2 ≤ y11.toInt) (b14 : y11.toInt ≤ 6) (c16 : (n6 % 2) = 0) (h24 : n23 < 7) (e25 : y11 = nI n23) (f26 : 2 ≤ n23) (f27 : ((n1 % 6) + 1) % n23 < n23) : ((6 * (n1 / 6)) + (((n1 % 6) + 1) % n23)) < 36 := by
  have b_x := ia_b x
  have b_y := ia_b y
  have b_y11 := ia_b y11
  try have k_0 := ia_n n1 (by first | decide | omega)
  try have k_1 := ia_n 12 (by first | decide | omega)
  try have k_2 := ia_n n6 (by first | decide | omega)
  try have k_3 := ia_n n23 (by first | decide | omega)
  try simp only [ia_lt, ia_le, ia_eq, ia_m1, ia_0, ia_1, ne_eq, true_and, and_true, false_and, and_false, or_false, false_or, or_true, true_or, not_true_eq_false, not_false_eq_true] at *
  all_goals omega
set_option maxRecDepth 20000 in
theorem lf_x_stirred_10 (x : Int32) (y : Int32) (n1 : Nat) (n6 : Nat) (hc_x : 0 ≤ x.toInt ∧ x.toInt ≤ 35) (hl9 : 0 ≤ y.toInt ∧ y.toInt ≤ 23) (h2 : n1 < 36) (e3 : x = nI n1) (c4 : y < nI 12) (h7 : n6 < 12) (e8 : y = nI n6) (c9 : (n1 / 6) ≠ ((n6 % 12) / 2)) : n1 < 36 := by
  have b_x := ia_b x
  have b_y := ia_b y
  try have k_0 := ia_n n1 (by first | decide | omega)
  try have k_1 := ia_n 12 (by first | decide | omega)
  try have k_2 := ia_n n6 (by first | decide | omega)
  try simp only [ia_lt, ia_le, ia_eq, ia_m1, ia_0, ia_1, ne_eq, true_and, and_true, false_and, and_false, or_false, false_or, or_true, true_or, not_true_eq_false, not_false_eq_true] at *
  all_goals omega
set_option maxRecDepth 20000 in
theorem lf_x_stirred_11 (y : Int32) (hl9 : 0 ≤ y.toInt ∧ y.toInt ≤ 23) (c4 : ¬ y < nI 12) : 0 ≤ y.toInt ∧ y.toInt < ((24 : Nat) : Int) := by
  have b_y := ia_b y
  try have k_0 := ia_n 12 (by first | decide | omega)
  try simp only [ia_lt, ia_le, ia_eq, ia_m1, ia_0, ia_1, ne_eq, true_and, and_true, false_and, and_false, or_false, false_or, or_true, true_or, not_true_eq_false, not_false_eq_true] at *
  all_goals omega
set_option maxRecDepth 20000 in
theorem lf_x_stirred_12 (y : Int32) (n30 : Nat) (hl9 : 0 ≤ y.toInt ∧ y.toInt ≤ 23) (c4 : ¬ y < nI 12) (h31 : n30 < 24) (e32 : y = nI n30) : 12 ≤ n30 := by
  have b_y := ia_b y
  try have k_0 := ia_n 12 (by first | decide | omega)
  try have k_1 := ia_n n30 (by first | decide | omega)
  try simp only [ia_lt, ia_le, ia_eq, ia_m1, ia_0, ia_1, ne_eq, true_and, and_true, false_and, and_false, or_false, false_or, or_true, true_or, not_true_eq_false, not_false_eq_true] at *
  all_goals omega
set_option maxRecDepth 20000 in
theorem lf_x_stirred_13 (knowF : Nat → Int32) (y36 : Int32) (ab_now : NB knowF) (e37 : y36 = knowF 1) (b38 : 2 ≤ y36.toInt) (b39 : y36.toInt ≤ 6) : 0 ≤ y36.toInt ∧ y36.toInt < ((7 : Nat) : Int) := by
  have b_y36 := ia_b y36
  try simp only [ia_lt, ia_le, ia_eq, ia_m1, ia_0, ia_1, ne_eq, true_and, and_true, false_and, and_false, or_false, false_or, or_true, true_or, not_true_eq_false, not_false_eq_true] at *
  all_goals omega
set_option maxRecDepth 20000 in
theorem lf_x_stirred_14 (knowF : Nat → Int32) (y36 : Int32) (n42 : Nat) (ab_now : NB knowF) (e37 : y36 = knowF 1) (b38 : 2 ≤ y36.toInt) (b39 : y36.toInt ≤ 6) (h43 : n42 < 7) (e44 : y36 = nI n42) : 2 ≤ n42 := by
  have b_y36 := ia_b y36
  try have k_0 := ia_n n42 (by first | decide | omega)
  try simp only [ia_lt, ia_le, ia_eq, ia_m1, ia_0, ia_1, ne_eq, true_and, and_true, false_and, and_false, or_false, false_or, or_true, true_or, not_true_eq_false, not_false_eq_true] at *
  all_goals omega
set_option maxRecDepth 20000 in
theorem lf_x_stirred_15 (knowF : Nat → Int32) (y36 : Int32) (n42 : Nat) (ab_now : NB knowF) (e37 : y36 = knowF 1) (b38 : 2 ≤ y36.toInt) (b39 : y36.toInt ≤ 6) (h43 : n42 < 7) (e44 : y36 = nI n42) (f45 : 2 ≤ n42) : 1 ≤ n42 := by
  have b_y36 := ia_b y36
  try have k_0 := ia_n n42 (by first | decide | omega)
  try simp only [ia_lt, ia_le, ia_eq, ia_m1, ia_0, ia_1, ne_eq, true_and, and_true, false_and, and_false, or_false, false_or, or_true, true_or, not_true_eq_false, not_false_eq_true] at *
  all_goals omega
set_option maxRecDepth 20000 in
theorem lf_x_stirred_16 (knowF : Nat → Int32) (x : Int32) (y : Int32) (n1 : Nat) (n30 : Nat) (y36 : Int32) (n42 : Nat) (ab_now : NB knowF) (hc_x : 0 ≤ x.toInt ∧ x.toInt ≤ 35) (hl9 : 0 ≤ y.toInt ∧ y.toInt ≤ 23) (h2 : n1 < 36) (e3 : x = nI n1) (c4 : ¬ y < nI 12) (h31 : n30 < 24) (e32 : y = nI n30) (f33 : 12 ≤ n30) (c34 : (n1 % 6) = ((n30 % 12) / 2)) (e37 : y36 = knowF 1) (b38 : 2 ≤ y36.toInt) (b39 : y36.toInt ≤ 6) (c41 : 0 < (n30 % 2)) (h43 : n42 < 7) (e44 : y36 = nI n42) (f45 : 2 ≤ n42) (f46 : ((n1 / 6) + (n42 - 1)) % n42 < n42) : ((6 * (((n1 / 6) + (n42 - 1)) % n42)) + (n1 % 6)) < 36 := by
  have b_x := ia_b x
  have b_y := ia_b y
  have b_y36 := ia_b y36
  try have k_0 := ia_n n1 (by first | decide | omega)
  try have k_1 := ia_n 12 (by first | decide | omega)
  try have k_2 := ia_n n30 (by first | decide | omega)
  try have k_3 := ia_n n42 (by first | decide | omega)
  try simp only [ia_lt, ia_le, ia_eq, ia_m1, ia_0, ia_1, ne_eq, true_and, and_true, false_and, and_false, or_false, false_or, or_true, true_or, not_true_eq_false, not_false_eq_true] at *
  all_goals omega
set_option maxRecDepth 20000 in
theorem lf_x_stirred_17 (knowF : Nat → Int32) (y36 : Int32) (ab_now : NB knowF) (e37 : y36 = knowF 1) (b38 : 2 ≤ y36.toInt) (b39 : y36.toInt ≤ 6) : 0 ≤ y36.toInt ∧ y36.toInt < ((7 : Nat) : Int) := by
  have b_y36 := ia_b y36
  try simp only [ia_lt, ia_le, ia_eq, ia_m1, ia_0, ia_1, ne_eq, true_and, and_true, false_and, and_false, or_false, false_or, or_true, true_or, not_true_eq_false, not_false_eq_true] at *
  all_goals omega
set_option maxRecDepth 20000 in
theorem lf_x_stirred_18 (knowF : Nat → Int32) (y36 : Int32) (n48 : Nat) (ab_now : NB knowF) (e37 : y36 = knowF 1) (b38 : 2 ≤ y36.toInt) (b39 : y36.toInt ≤ 6) (h49 : n48 < 7) (e50 : y36 = nI n48) : 2 ≤ n48 := by
  have b_y36 := ia_b y36
  try have k_0 := ia_n n48 (by first | decide | omega)
  try simp only [ia_lt, ia_le, ia_eq, ia_m1, ia_0, ia_1, ne_eq, true_and, and_true, false_and, and_false, or_false, false_or, or_true, true_or, not_true_eq_false, not_false_eq_true] at *
  all_goals omega
set_option maxRecDepth 20000 in
theorem lf_x_stirred_19 (knowF : Nat → Int32) (x : Int32) (y : Int32) (n1 : Nat) (n30 : Nat) (y36 : Int32) (n48 : Nat) (ab_now : NB knowF) (hc_x : 0 ≤ x.toInt ∧ x.toInt ≤ 35) (hl9 : 0 ≤ y.toInt ∧ y.toInt ≤ 23) (h2 : n1 < 36) (e3 : x = nI n1) (c4 : ¬ y < nI 12) (h31 : n30 < 24) (e32 : y = nI n30) (f33 : 12 ≤ n30) (c34 : (n1 % 6) = ((n30 % 12) / 2)) (e37 : y36 = knowF 1) (b38 : 2 ≤ y36.toInt) (b39 : y36.toInt ≤ 6) (c41 : (n30 % 2) = 0) (h49 : n48 < 7) (e50 : y36 = nI n48) (f51 : 2 ≤ n48) (f52 : ((n1 / 6) + 1) % n48 < n48) : ((6 * (((n1 / 6) + 1) % n48)) + (n1 % 6)) < 36 := by
  have b_x := ia_b x
  have b_y := ia_b y
  have b_y36 := ia_b y36
  try have k_0 := ia_n n1 (by first | decide | omega)
  try have k_1 := ia_n 12 (by first | decide | omega)
  try have k_2 := ia_n n30 (by first | decide | omega)
  try have k_3 := ia_n n48 (by first | decide | omega)
  try simp only [ia_lt, ia_le, ia_eq, ia_m1, ia_0, ia_1, ne_eq, true_and, and_true, false_and, and_false, or_false, false_or, or_true, true_or, not_true_eq_false, not_false_eq_true] at *
  all_goals omega
set_option maxRecDepth 20000 in
theorem lf_x_stirred_20 (x : Int32) (y : Int32) (n1 : Nat) (n30 : Nat) (hc_x : 0 ≤ x.toInt ∧ x.toInt ≤ 35) (hl9 : 0 ≤ y.toInt ∧ y.toInt ≤ 23) (h2 : n1 < 36) (e3 : x = nI n1) (c4 : ¬ y < nI 12) (h31 : n30 < 24) (e32 : y = nI n30) (f33 : 12 ≤ n30) (c34 : (n1 % 6) ≠ ((n30 % 12) / 2)) : n1 < 36 := by
  have b_x := ia_b x
  have b_y := ia_b y
  try have k_0 := ia_n n1 (by first | decide | omega)
  try have k_1 := ia_n 12 (by first | decide | omega)
  try have k_2 := ia_n n30 (by first | decide | omega)
  try simp only [ia_lt, ia_le, ia_eq, ia_m1, ia_0, ia_1, ne_eq, true_and, and_true, false_and, and_false, or_false, false_or, or_true, true_or, not_true_eq_false, not_false_eq_true] at *
  all_goals omega
set_option maxHeartbeats 4000000 in
set_option maxRecDepth 100000 in
theorem c_x_stirred (l : Launch) (dC : Nat → ClassId) (dI : Nat → Nat → Nat) (ky : Nat → ClassId) (o : Nat) (kthrown : Int32) (ktape : Nat) (ktaped : Nat) (ksize : Nat) (klimit : Nat) (kto : Nat) (kfrom : Nat) (kkind : Int32) (knumber : Int32) (ksign : Int32) (kfault : Int32) (kplace : Int32) (kword : Int64) (ktold : Int32) (know : Nat) (kread : Nat) (kkept : Nat) (ksnaps : Nat) (kaside : Nat) (kname : Nat) (kreadName : Nat) (kkeptName : Nat) (kisKept : Nat) (konces : Nat) (ksnapMany : Nat) (khasCells : Int32) (kpoured : Nat) (kfar : Nat) (ksides : Nat) (ksideMany : Nat) (kwayDays : Int32) (khasWay : Int32) (klines : Nat) (kmet : Nat) (kmetMany : Nat) (ksunk : Nat) (ktrying : Nat) (ksunkMany : Nat) (ksending : Int32) (kfleets : Int32) (ktext : Nat) (ktexts : Nat) (kseed : Int32) (kline : Nat) (kwritten : Nat) (klineMany : Nat) (khasWritten : Int32) (knode : Nat) (knodes : Nat) (konesMany : Nat) (kwithin : Nat) (ktop : Nat) (knowF : Nat → Int32) (x : Int32) (y : Int32) (iv_ko_0 : ktaped ≤ 940) (iv_ko_1 : ksize ≤ 940) (iv_ko_2 : klimit ≤ 900) (iv_ko_3 : kto ≤ ksize) (iv_ko_4 : kfrom ≤ 940) (iv_ko_5 : ksnapMany ≤ 8) (iv_ko_6 : ksideMany ≤ 36) (iv_ko_7 : kmetMany ≤ 3) (iv_ko_8 : ksunkMany ≤ 36) (iv_ko_9 : ktexts ≤ 64) (iv_ko_10 : klineMany ≤ 40) (iv_ko_11 : knodes ≤ 60) (iv_ko_12 : konesMany ≤ 20) (iv_ko_13 : kwithin ≤ 8) (iv_ko_14 : ktop ≤ 59) (ab_now : NB knowF) (hc_x : 0 ≤ x.toInt ∧ x.toInt ≤ 35) (hl9 : 0 ≤ y.toInt ∧ y.toInt ≤ 23) : Met l yX12_stirred wsX12_stirred ({ frames := 0, cells := 0, slots := 0, locals := 0 }) (PcP dC dI ky [.ref o, .int x, .int y] [(o, .inr (12, [.int kthrown, .ref ktape, .int (nI ktaped), .int (nI ksize), .int (nI klimit), .int (nI kto), .int (nI kfrom), .int kkind, .int knumber, .int ksign, .int kfault, .int kplace, .long kword, .int ktold, .ref know, .ref kread, .ref kkept, .ref ksnaps, .ref kaside, .ref kname, .ref kreadName, .ref kkeptName, .ref kisKept, .ref konces, .int (nI ksnapMany), .int khasCells, .ref kpoured, .ref kfar, .ref ksides, .int (nI ksideMany), .int kwayDays, .int khasWay, .ref klines, .ref kmet, .int (nI kmetMany), .ref ksunk, .ref ktrying, .int (nI ksunkMany), .int ksending, .int kfleets, .ref ktext, .int (nI ktexts), .int kseed, .ref kline, .ref kwritten, .int (nI klineMany), .int khasWritten, .ref knode, .int (nI knodes), .int (nI konesMany), .int (nI kwithin), .int (nI ktop)])), (know, .inl (ky 0, 373, .inl knowF))]) (vp_Si (fun r : Int32 => ∃ k9 : Nat, (k9 < 36) ∧ r = nI k9)) 0 0 (fun _ => False) := by
  refine Met.ofW (cc := cX12_stirred) (maxL := 8) (ret := (some .int)) (by decide) rfl ?_
  intro p e s m args below meth c s₁ B hml hv
  obtain ⟨rfl, hP, hK⟩ := hv
  have hx := B.exec
  have hb := B.bytes
  have hr := B.returns
  have hts := atoms_spec (ws := wsX12_stirred) B.pre
  have hown : s.vm.findClass RX12 = some m.cls := findClass_of_methodNamed B.named
  have hlocks := B.notSynchronized
  have hin12 : ∀ w ∈ u_ws RX12 TX12 52, w ∈ wsX12_stirred := by decide +kernel
  have hl := lv_entry ([.ref o, .int x, .int y]) (n := 8) (Nat.le_of_ble_eq_true rfl)
  rw [lg_entry_eq]
  generalize (lg_sl ([.ref o, .int x, .int y]) ++ List.replicate (8 - (lg_sl ([.ref o, .int x, .int y])).length) Slot.unset).toArray = ls at hl ⊢
  have hl : lv_has ls 8 [(0, .ref o), (1, .int x), (2, .int y)] := hl
  refine q_name (fun Q hQ => ?_)
  generalize ([.ref o, .int x, .int y] : List Value).toArray = args at hts hQ ⊢
  refine lv_iload_n hx hb dX12_stirred_0 rfl (lv_at hl 1 rfl) ?_
  refine lv_bipush (v := nI 6) hx hb dX12_stirred_1 (by decide) ?_
  obtain ⟨n1, h2, e3⟩ := nat_of x 36 (by decide) (lf_x_stirred_1 x hc_x)
  rw [e3]
  refine lv_irem hx hb dX12_stirred_3 (by decide) ?_
  refine r_ti (nI (n1 % 6)) (pk_rem (by omega) (by omega) (by omega)) ?_
  refine lv_istore_n (lv' := [(3, .int (nI (n1 % 6))), (0, .ref o), (1, .int x), (2, .int y)]) hx hb dX12_stirred_4 rfl hl (by decide) rfl (fun ls hl => ?_)
  refine lv_iload_n hx hb dX12_stirred_5 rfl (lv_at hl 2 rfl) ?_
  refine lv_bipush (v := nI 6) hx hb dX12_stirred_6 (by decide) ?_
  rw [e3]
  refine lv_idiv hx hb dX12_stirred_8 (by decide) ?_
  refine r_ti (nI (n1 / 6)) (pk_div (by omega) (by omega) (by omega)) ?_
  refine lv_istore (lv' := [(4, .int (nI (n1 / 6))), (3, .int (nI (n1 % 6))), (0, .ref o), (1, .int x), (2, .int y)]) hx hb dX12_stirred_9 hl (by decide) rfl (fun ls hl => ?_)
  refine lv_iload_n hx hb dX12_stirred_11 rfl (lv_at hl 4 rfl) ?_
  refine lv_bipush (v := nI 12) hx hb dX12_stirred_12 (by decide) ?_
  refine lv_icmp_lt (tgt := 21) hx hb dX12_stirred_14 (by decide) (fun c4 => ?_) (fun c4 => ?_)
  · refine lv_iconst (v := nI 0) hx hb dX12_stirred_21 (by decide) ?_
    refine lv_istore (lv' := [(5, .int (nI 0)), (4, .int (nI (n1 / 6))), (3, .int (nI (n1 % 6))), (0, .ref o), (1, .int x), (2, .int y)]) hx hb dX12_stirred_22 hl (by decide) rfl (fun ls hl => ?_)
    refine lv_iload hx hb dX12_stirred_24 (lv_at hl 0 rfl) ?_
    refine lv_if_eq (tgt := 33) hx hb dX12_stirred_26 (by decide) (fun c5 => ?_) (fun c5 => absurd (by decide) c5)
    refine lv_iload hx hb dX12_stirred_33 (lv_at hl 1 rfl) ?_
    refine lv_iload_n hx hb dX12_stirred_35 rfl (lv_at hl 5 rfl) ?_
    refine lv_bipush (v := nI 12) hx hb dX12_stirred_36 (by decide) ?_
    obtain ⟨n6, h7, e8⟩ := nat_of y 12 (by decide) (lf_x_stirred_2 y hl9 c4)
    rw [e8]
    refine lv_irem hx hb dX12_stirred_38 (by decide) ?_
    refine r_ti (nI (n6 % 12)) (pk_rem (by omega) (by omega) (by omega)) ?_
    refine lv_iconst (v := nI 2) hx hb dX12_stirred_39 (by decide) ?_
    refine lv_idiv hx hb dX12_stirred_40 (by decide) ?_
    refine r_ti (nI ((n6 % 12) / 2)) (pk_div (by omega) (by omega) (by omega)) ?_
    refine n_icmp_eq (x := (n1 / 6)) (y := ((n6 % 12) / 2)) (tgt := 46) hx hb (by omega) (by omega) dX12_stirred_41 (by decide) (fun c9 => ?_) (fun c9 => ?_)
    · refine lv_aload_n hx hb dX12_stirred_46 rfl (lv_at hl 3 rfl) ?_
      refine va_get (D := (dC, dI)) (ci := 12) (v := .ref know) (C := RX12) (T := TX12) (N := 52) hx hb hts hin12 hown hK hP 0 rfl rfl 14 (by decide) (hts (.fieldLink RX12 98 "PorridgeSeaModel" "now" "[I") (List.mem_of_getElem? (i := 1) rfl)) (fun _ h9 => h9) rfl dX12_stirred_47 ?_
      refine lv_iload hx hb dX12_stirred_50 (lv_at hl 0 rfl) ?_
      refine lv_if_eq (tgt := 59) hx hb dX12_stirred_52 (by decide) (fun c10 => ?_) (fun c10 => absurd (by decide) c10)
      refine lv_iconst (v := nI 0) hx hb dX12_stirred_59 (by decide) ?_
      obtain ⟨y11, e12⟩ : ∃ z9, z9 = knowF 0 := ⟨_, rfl⟩
      refine r_iald hx hb hK hP 1 rfl 0 (by decide) (by decide) y11 e12.symm dX12_stirred_60 ?_
      obtain ⟨b13, b14⟩ : (2 : Int) ≤ y11.toInt ∧ y11.toInt ≤ 6 := by rw [e12]; exact ld_NB_0 ab_now 0 (by decide) (by decide)
      refine lv_istore (lv' := [(6, .int y11), (5, .int (nI 0)), (4, .int (nI (n1 / 6))), (3, .int (nI (n1 % 6))), (0, .ref o), (1, .int x), (2, .int y)]) hx hb dX12_stirred_61 hl (by decide) rfl (fun ls hl => ?_)
      refine lv_iload hx hb dX12_stirred_63 (lv_at hl 1 rfl) ?_
      refine lv_if_eq (tgt := 73) hx hb dX12_stirred_65 (by decide) (fun c15 => ?_) (fun c15 => absurd (by decide) c15)
      refine lv_iload_n hx hb dX12_stirred_73 rfl (lv_at hl 3 rfl) ?_
      refine lv_iload_n hx hb dX12_stirred_74 rfl (lv_at hl 6 rfl) ?_
      refine lv_iconst (v := nI 2) hx hb dX12_stirred_75 (by decide) ?_
      rw [e8]
      refine lv_irem hx hb dX12_stirred_76 (by decide) ?_
      refine r_ti (nI (n6 % 2)) (pk_rem (by omega) (by omega) (by omega)) ?_
      refine n_if_ne (x := (n6 % 2)) (tgt := 84) hx hb (by omega) dX12_stirred_77 (by decide) (fun c16 => ?_) (fun c16 => ?_)
      · refine lv_iload hx hb dX12_stirred_84 (lv_at hl 0 rfl) ?_
        refine lv_iconst (v := nI 1) hx hb dX12_stirred_86 (by decide) ?_
        obtain ⟨n17, h18, e19⟩ := nat_of y11 7 (by decide) (lf_x_stirred_3 knowF y11 ab_now e12 b13 b14)
        have f20 : 2 ≤ n17 := (lf_x_stirred_4 knowF y11 n17 ab_now e12 b13 b14 h18 e19)
        rw [e19]
        refine lv_isub hx hb dX12_stirred_87 ?_
        refine r_ti (nI (n17 - 1)) (pk_sub (lf_x_stirred_5 knowF y11 n17 ab_now e12 b13 b14 h18 e19 f20)) ?_
        refine lv_iadd hx hb dX12_stirred_88 ?_
        refine r_ti (nI ((n1 % 6) + (n17 - 1))) (nI_add _ _) ?_
        refine lv_iload hx hb dX12_stirred_89 (lv_at hl 0 rfl) ?_
        rw [e19]
        refine lv_irem hx hb dX12_stirred_91 (nI_ne0 (by omega) (by omega)) ?_
        refine r_ti (nI (((n1 % 6) + (n17 - 1)) % n17)) (pk_rem (by omega) (by omega) (by omega)) ?_
        have f21 : ((n1 % 6) + (n17 - 1)) % n17 < n17 := Nat.mod_lt _ (by omega)
        refine lv_istore (lv' := [(7, .int (nI (((n1 % 6) + (n17 - 1)) % n17))), (6, .int y11), (5, .int (nI 0)), (4, .int (nI (n1 / 6))), (3, .int (nI (n1 % 6))), (0, .ref o), (1, .int x), (2, .int y)]) hx hb dX12_stirred_92 hl (by decide) rfl (fun ls hl => ?_)
        refine lv_iload hx hb dX12_stirred_94 (lv_at hl 2 rfl) ?_
        refine lv_if_eq (tgt := 109) hx hb dX12_stirred_96 (by decide) (fun c22 => ?_) (fun c22 => absurd (by decide) c22)
        refine lv_bipush (v := nI 6) hx hb dX12_stirred_109 (by decide) ?_
        refine lv_iload hx hb dX12_stirred_111 (lv_at hl 3 rfl) ?_
        refine lv_imul hx hb dX12_stirred_113 ?_
        refine r_ti (nI (6 * (n1 / 6))) (pk_mul _ _) ?_
        refine lv_iload hx hb dX12_stirred_114 (lv_at hl 0 rfl) ?_
        refine lv_iadd hx hb dX12_stirred_116 ?_
        refine r_ti (nI ((6 * (n1 / 6)) + (((n1 % 6) + (n17 - 1)) % n17))) (nI_add _ _) ?_
        rw [hQ]
        exact W.iret (v := nI ((6 * (n1 / 6)) + (((n1 % 6) + (n17 - 1)) % n17))) hx hb hr (fun t9 ht9 hW9 => ⟨nI ((6 * (n1 / 6)) + (((n1 % 6) + (n17 - 1)) % n17)), rfl, ⟨((6 * (n1 / 6)) + (((n1 % 6) + (n17 - 1)) % n17)), (lf_x_stirred_6 knowF x y n1 n6 y11 n17 ab_now hc_x hl9 h2 e3 c4 h7 e8 c9 e12 b13 b14 c16 h18 e19 f20 f21), rfl⟩, ht9⟩) (fun _ h => absurd h List.not_mem_nil) dX12_stirred_117
      · refine lv_iconst (v := nI 1) hx hb dX12_stirred_80 (by decide) ?_
        refine lv_goto (tgt := 88) hx hb dX12_stirred_81 (by decide) ?_
        refine lv_iadd hx hb dX12_stirred_88 ?_
        refine r_ti (nI ((n1 % 6) + 1)) (nI_add _ _) ?_
        refine lv_iload hx hb dX12_stirred_89 (lv_at hl 0 rfl) ?_
        obtain ⟨n23, h24, e25⟩ := nat_of y11 7 (by decide) (lf_x_stirred_7 knowF y11 ab_now e12 b13 b14)
        have f26 : 2 ≤ n23 := (lf_x_stirred_8 knowF y11 n23 ab_now e12 b13 b14 h24 e25)
        rw [e25]
        refine lv_irem hx hb dX12_stirred_91 (nI_ne0 (by omega) (by omega)) ?_
        refine r_ti (nI (((n1 % 6) + 1) % n23)) (pk_rem (by omega) (by omega) (by omega)) ?_
        have f27 : ((n1 % 6) + 1) % n23 < n23 := Nat.mod_lt _ (by omega)
        refine lv_istore (lv' := [(7, .int (nI (((n1 % 6) + 1) % n23))), (6, .int y11), (5, .int (nI 0)), (4, .int (nI (n1 / 6))), (3, .int (nI (n1 % 6))), (0, .ref o), (1, .int x), (2, .int y)]) hx hb dX12_stirred_92 hl (by decide) rfl (fun ls hl => ?_)
        refine lv_iload hx hb dX12_stirred_94 (lv_at hl 2 rfl) ?_
        refine lv_if_eq (tgt := 109) hx hb dX12_stirred_96 (by decide) (fun c28 => ?_) (fun c28 => absurd (by decide) c28)
        refine lv_bipush (v := nI 6) hx hb dX12_stirred_109 (by decide) ?_
        refine lv_iload hx hb dX12_stirred_111 (lv_at hl 3 rfl) ?_
        refine lv_imul hx hb dX12_stirred_113 ?_
        refine r_ti (nI (6 * (n1 / 6))) (pk_mul _ _) ?_
        refine lv_iload hx hb dX12_stirred_114 (lv_at hl 0 rfl) ?_
        refine lv_iadd hx hb dX12_stirred_116 ?_
        refine r_ti (nI ((6 * (n1 / 6)) + (((n1 % 6) + 1) % n23))) (nI_add _ _) ?_
        rw [hQ]
        exact W.iret (v := nI ((6 * (n1 / 6)) + (((n1 % 6) + 1) % n23))) hx hb hr (fun t9 ht9 hW9 => ⟨nI ((6 * (n1 / 6)) + (((n1 % 6) + 1) % n23)), rfl, ⟨((6 * (n1 / 6)) + (((n1 % 6) + 1) % n23)), (lf_x_stirred_9 knowF x y n1 n6 y11 n23 ab_now hc_x hl9 h2 e3 c4 h7 e8 c9 e12 b13 b14 c16 h24 e25 f26 f27), rfl⟩, ht9⟩) (fun _ h => absurd h List.not_mem_nil) dX12_stirred_117
    · refine lv_iload_n hx hb dX12_stirred_44 rfl (lv_at hl 4 rfl) ?_
      rw [e3]
      rw [hQ]
      exact W.iret (v := nI n1) hx hb hr (fun t9 ht9 hW9 => ⟨nI n1, rfl, ⟨n1, (lf_x_stirred_10 x y n1 n6 hc_x hl9 h2 e3 c4 h7 e8 c9), rfl⟩, ht9⟩) (fun _ h => absurd h List.not_mem_nil) dX12_stirred_45
  · refine lv_iconst (v := nI 1) hx hb dX12_stirred_17 (by decide) ?_
    refine lv_goto (tgt := 22) hx hb dX12_stirred_18 (by decide) ?_
    refine lv_istore (lv' := [(5, .int (nI 1)), (4, .int (nI (n1 / 6))), (3, .int (nI (n1 % 6))), (0, .ref o), (1, .int x), (2, .int y)]) hx hb dX12_stirred_22 hl (by decide) rfl (fun ls hl => ?_)
    refine lv_iload hx hb dX12_stirred_24 (lv_at hl 0 rfl) ?_
    refine lv_if_eq (tgt := 33) hx hb dX12_stirred_26 (by decide) (fun c29 => absurd c29 (by decide)) (fun c29 => ?_)
    refine lv_iload_n hx hb dX12_stirred_29 rfl (lv_at hl 2 rfl) ?_
    refine lv_goto (tgt := 35) hx hb dX12_stirred_30 (by decide) ?_
    refine lv_iload_n hx hb dX12_stirred_35 rfl (lv_at hl 5 rfl) ?_
    refine lv_bipush (v := nI 12) hx hb dX12_stirred_36 (by decide) ?_
    obtain ⟨n30, h31, e32⟩ := nat_of y 24 (by decide) (lf_x_stirred_11 y hl9 c4)
    have f33 : 12 ≤ n30 := (lf_x_stirred_12 y n30 hl9 c4 h31 e32)
    rw [e32]
    refine lv_irem hx hb dX12_stirred_38 (by decide) ?_
    refine r_ti (nI (n30 % 12)) (pk_rem (by omega) (by omega) (by omega)) ?_
    refine lv_iconst (v := nI 2) hx hb dX12_stirred_39 (by decide) ?_
    refine lv_idiv hx hb dX12_stirred_40 (by decide) ?_
    refine r_ti (nI ((n30 % 12) / 2)) (pk_div (by omega) (by omega) (by omega)) ?_
    refine n_icmp_eq (x := (n1 % 6)) (y := ((n30 % 12) / 2)) (tgt := 46) hx hb (by omega) (by omega) dX12_stirred_41 (by decide) (fun c34 => ?_) (fun c34 => ?_)
    · refine lv_aload_n hx hb dX12_stirred_46 rfl (lv_at hl 3 rfl) ?_
      refine va_get (D := (dC, dI)) (ci := 12) (v := .ref know) (C := RX12) (T := TX12) (N := 52) hx hb hts hin12 hown hK hP 0 rfl rfl 14 (by decide) (hts (.fieldLink RX12 98 "PorridgeSeaModel" "now" "[I") (List.mem_of_getElem? (i := 1) rfl)) (fun _ h9 => h9) rfl dX12_stirred_47 ?_
      refine lv_iload hx hb dX12_stirred_50 (lv_at hl 0 rfl) ?_
      refine lv_if_eq (tgt := 59) hx hb dX12_stirred_52 (by decide) (fun c35 => absurd c35 (by decide)) (fun c35 => ?_)
      refine lv_iconst (v := nI 1) hx hb dX12_stirred_55 (by decide) ?_
      refine lv_goto (tgt := 60) hx hb dX12_stirred_56 (by decide) ?_
      obtain ⟨y36, e37⟩ : ∃ z9, z9 = knowF 1 := ⟨_, rfl⟩
      refine r_iald hx hb hK hP 1 rfl 1 (by decide) (by decide) y36 e37.symm dX12_stirred_60 ?_
      obtain ⟨b38, b39⟩ : (2 : Int) ≤ y36.toInt ∧ y36.toInt ≤ 6 := by rw [e37]; exact ld_NB_1 ab_now 1 (by decide) (by decide)
      refine lv_istore (lv' := [(6, .int y36), (5, .int (nI 1)), (4, .int (nI (n1 / 6))), (3, .int (nI (n1 % 6))), (0, .ref o), (1, .int x), (2, .int y)]) hx hb dX12_stirred_61 hl (by decide) rfl (fun ls hl => ?_)
      refine lv_iload hx hb dX12_stirred_63 (lv_at hl 1 rfl) ?_
      refine lv_if_eq (tgt := 73) hx hb dX12_stirred_65 (by decide) (fun c40 => absurd c40 (by decide)) (fun c40 => ?_)
      refine lv_iload hx hb dX12_stirred_68 (lv_at hl 2 rfl) ?_
      refine lv_goto (tgt := 74) hx hb dX12_stirred_70 (by decide) ?_
      refine lv_iload_n hx hb dX12_stirred_74 rfl (lv_at hl 6 rfl) ?_
      refine lv_iconst (v := nI 2) hx hb dX12_stirred_75 (by decide) ?_
      rw [e32]
      refine lv_irem hx hb dX12_stirred_76 (by decide) ?_
      refine r_ti (nI (n30 % 2)) (pk_rem (by omega) (by omega) (by omega)) ?_
      refine n_if_ne (x := (n30 % 2)) (tgt := 84) hx hb (by omega) dX12_stirred_77 (by decide) (fun c41 => ?_) (fun c41 => ?_)
      · refine lv_iload hx hb dX12_stirred_84 (lv_at hl 0 rfl) ?_
        refine lv_iconst (v := nI 1) hx hb dX12_stirred_86 (by decide) ?_
        obtain ⟨n42, h43, e44⟩ := nat_of y36 7 (by decide) (lf_x_stirred_13 knowF y36 ab_now e37 b38 b39)
        have f45 : 2 ≤ n42 := (lf_x_stirred_14 knowF y36 n42 ab_now e37 b38 b39 h43 e44)
        rw [e44]
        refine lv_isub hx hb dX12_stirred_87 ?_
        refine r_ti (nI (n42 - 1)) (pk_sub (lf_x_stirred_15 knowF y36 n42 ab_now e37 b38 b39 h43 e44 f45)) ?_
        refine lv_iadd hx hb dX12_stirred_88 ?_
        refine r_ti (nI ((n1 / 6) + (n42 - 1))) (nI_add _ _) ?_
        refine lv_iload hx hb dX12_stirred_89 (lv_at hl 0 rfl) ?_
        rw [e44]
        refine lv_irem hx hb dX12_stirred_91 (nI_ne0 (by omega) (by omega)) ?_
        refine r_ti (nI (((n1 / 6) + (n42 - 1)) % n42)) (pk_rem (by omega) (by omega) (by omega)) ?_
        have f46 : ((n1 / 6) + (n42 - 1)) % n42 < n42 := Nat.mod_lt _ (by omega)
        refine lv_istore (lv' := [(7, .int (nI (((n1 / 6) + (n42 - 1)) % n42))), (6, .int y36), (5, .int (nI 1)), (4, .int (nI (n1 / 6))), (3, .int (nI (n1 % 6))), (0, .ref o), (1, .int x), (2, .int y)]) hx hb dX12_stirred_92 hl (by decide) rfl (fun ls hl => ?_)
        refine lv_iload hx hb dX12_stirred_94 (lv_at hl 2 rfl) ?_
        refine lv_if_eq (tgt := 109) hx hb dX12_stirred_96 (by decide) (fun c47 => absurd c47 (by decide)) (fun c47 => ?_)
        refine lv_bipush (v := nI 6) hx hb dX12_stirred_99 (by decide) ?_
        refine lv_iload hx hb dX12_stirred_101 (lv_at hl 0 rfl) ?_
        refine lv_imul hx hb dX12_stirred_103 ?_
        refine r_ti (nI (6 * (((n1 / 6) + (n42 - 1)) % n42))) (pk_mul _ _) ?_
        refine lv_iload_n hx hb dX12_stirred_104 rfl (lv_at hl 4 rfl) ?_
        refine lv_iadd hx hb dX12_stirred_105 ?_
        refine r_ti (nI ((6 * (((n1 / 6) + (n42 - 1)) % n42)) + (n1 % 6))) (nI_add _ _) ?_
        refine lv_goto (tgt := 117) hx hb dX12_stirred_106 (by decide) ?_
        rw [hQ]
        exact W.iret (v := nI ((6 * (((n1 / 6) + (n42 - 1)) % n42)) + (n1 % 6))) hx hb hr (fun t9 ht9 hW9 => ⟨nI ((6 * (((n1 / 6) + (n42 - 1)) % n42)) + (n1 % 6)), rfl, ⟨((6 * (((n1 / 6) + (n42 - 1)) % n42)) + (n1 % 6)), (lf_x_stirred_16 knowF x y n1 n30 y36 n42 ab_now hc_x hl9 h2 e3 c4 h31 e32 f33 c34 e37 b38 b39 c41 h43 e44 f45 f46), rfl⟩, ht9⟩) (fun _ h => absurd h List.not_mem_nil) dX12_stirred_117
      · refine lv_iconst (v := nI 1) hx hb dX12_stirred_80 (by decide) ?_
        refine lv_goto (tgt := 88) hx hb dX12_stirred_81 (by decide) ?_
        refine lv_iadd hx hb dX12_stirred_88 ?_
        refine r_ti (nI ((n1 / 6) + 1)) (nI_add _ _) ?_
        refine lv_iload hx hb dX12_stirred_89 (lv_at hl 0 rfl) ?_
        obtain ⟨n48, h49, e50⟩ := nat_of y36 7 (by decide) (lf_x_stirred_17 knowF y36 ab_now e37 b38 b39)
        have f51 : 2 ≤ n48 := (lf_x_stirred_18 knowF y36 n48 ab_now e37 b38 b39 h49 e50)
        rw [e50]
        refine lv_irem hx hb dX12_stirred_91 (nI_ne0 (by omega) (by omega)) ?_
        refine r_ti (nI (((n1 / 6) + 1) % n48)) (pk_rem (by omega) (by omega) (by omega)) ?_
        have f52 : ((n1 / 6) + 1) % n48 < n48 := Nat.mod_lt _ (by omega)
        refine lv_istore (lv' := [(7, .int (nI (((n1 / 6) + 1) % n48))), (6, .int y36), (5, .int (nI 1)), (4, .int (nI (n1 / 6))), (3, .int (nI (n1 % 6))), (0, .ref o), (1, .int x), (2, .int y)]) hx hb dX12_stirred_92 hl (by decide) rfl (fun ls hl => ?_)
        refine lv_iload hx hb dX12_stirred_94 (lv_at hl 2 rfl) ?_
        refine lv_if_eq (tgt := 109) hx hb dX12_stirred_96 (by decide) (fun c53 => absurd c53 (by decide)) (fun c53 => ?_)
        refine lv_bipush (v := nI 6) hx hb dX12_stirred_99 (by decide) ?_
        refine lv_iload hx hb dX12_stirred_101 (lv_at hl 0 rfl) ?_
        refine lv_imul hx hb dX12_stirred_103 ?_
        refine r_ti (nI (6 * (((n1 / 6) + 1) % n48))) (pk_mul _ _) ?_
        refine lv_iload_n hx hb dX12_stirred_104 rfl (lv_at hl 4 rfl) ?_
        refine lv_iadd hx hb dX12_stirred_105 ?_
        refine r_ti (nI ((6 * (((n1 / 6) + 1) % n48)) + (n1 % 6))) (nI_add _ _) ?_
        refine lv_goto (tgt := 117) hx hb dX12_stirred_106 (by decide) ?_
        rw [hQ]
        exact W.iret (v := nI ((6 * (((n1 / 6) + 1) % n48)) + (n1 % 6))) hx hb hr (fun t9 ht9 hW9 => ⟨nI ((6 * (((n1 / 6) + 1) % n48)) + (n1 % 6)), rfl, ⟨((6 * (((n1 / 6) + 1) % n48)) + (n1 % 6)), (lf_x_stirred_19 knowF x y n1 n30 y36 n48 ab_now hc_x hl9 h2 e3 c4 h31 e32 f33 c34 e37 b38 b39 c41 h49 e50 f51 f52), rfl⟩, ht9⟩) (fun _ h => absurd h List.not_mem_nil) dX12_stirred_117
    · refine lv_iload_n hx hb dX12_stirred_44 rfl (lv_at hl 4 rfl) ?_
      rw [e3]
      rw [hQ]
      exact W.iret (v := nI n1) hx hb hr (fun t9 ht9 hW9 => ⟨nI n1, rfl, ⟨n1, (lf_x_stirred_20 x y n1 n30 hc_x hl9 h2 e3 c4 h31 e32 f33 c34), rfl⟩, ht9⟩) (fun _ h => absurd h List.not_mem_nil) dX12_stirred_45
set_option maxRecDepth 20000 in
theorem lf_x_cost_1 (knowF : Nat → Int32) (x : Int32) (y : Int32) (ab_now : NB knowF) (t3 : 0 ≤ x.toInt) (t4 : x.toInt < (knowF 0).toInt) (t5 : 0 ≤ y.toInt) (t6 : y.toInt < (knowF 1).toInt) (t7 : x.toInt ≤ 5) (t8 : y.toInt ≤ 5) : 0 ≤ y.toInt ∧ y.toInt < ((6 : Nat) : Int) := by
  have b_x := ia_b x
  have b_y := ia_b y
  try simp only [ia_lt, ia_le, ia_eq, ia_m1, ia_0, ia_1, ne_eq, true_and, and_true, false_and, and_false, or_false, false_or, or_true, true_or, not_true_eq_false, not_false_eq_true] at *
  all_goals omega
set_option maxRecDepth 20000 in
theorem lf_x_cost_2 (knowF : Nat → Int32) (x : Int32) (y : Int32) (n11 : Nat) (ab_now : NB knowF) (t3 : 0 ≤ x.toInt) (t4 : x.toInt < (knowF 0).toInt) (t5 : 0 ≤ y.toInt) (t6 : y.toInt < (knowF 1).toInt) (t7 : x.toInt ≤ 5) (t8 : y.toInt ≤ 5) (h12 : n11 < 6) (e13 : y = nI n11) : 0 ≤ x.toInt ∧ x.toInt < ((6 : Nat) : Int) := by
  have b_x := ia_b x
  have b_y := ia_b y
  try have k_0 := ia_n n11 (by first | decide | omega)
  try simp only [ia_lt, ia_le, ia_eq, ia_m1, ia_0, ia_1, ne_eq, true_and, and_true, false_and, and_false, or_false, false_or, or_true, true_or, not_true_eq_false, not_false_eq_true] at *
  all_goals omega
set_option maxRecDepth 20000 in
theorem lf_x_cost_3 (knowF : Nat → Int32) (x : Int32) (y : Int32) (n11 : Nat) (n14 : Nat) (ab_now : NB knowF) (t3 : 0 ≤ x.toInt) (t4 : x.toInt < (knowF 0).toInt) (t5 : 0 ≤ y.toInt) (t6 : y.toInt < (knowF 1).toInt) (t7 : x.toInt ≤ 5) (t8 : y.toInt ≤ 5) (h12 : n11 < 6) (e13 : y = nI n11) (h15 : n14 < 6) (e16 : x = nI n14) : 0 ≤ (nI ((6 * n11) + n14)).toInt ∧ (nI ((6 * n11) + n14)).toInt ≤ 35 := by
  have b_x := ia_b x
  have b_y := ia_b y
  try have k_0 := ia_n n11 (by first | decide | omega)
  try have k_1 := ia_n n14 (by first | decide | omega)
  try have k_2 := ia_n ((6 * n11) + n14) (by first | decide | omega)
  try simp only [ia_lt, ia_le, ia_eq, ia_m1, ia_0, ia_1, ne_eq, true_and, and_true, false_and, and_false, or_false, false_or, or_true, true_or, not_true_eq_false, not_false_eq_true] at *
  all_goals omega
set_option maxHeartbeats 4000000 in
set_option maxRecDepth 100000 in
theorem c_x_cost (l : Launch) (dC : Nat → ClassId) (dI : Nat → Nat → Nat) (ky : Nat → ClassId) (sz : Nat) (o : Nat) (kthrown : Int32) (ktape : Nat) (ktaped : Nat) (ksize : Nat) (klimit : Nat) (kto : Nat) (kfrom : Nat) (kkind : Int32) (knumber : Int32) (ksign : Int32) (kfault : Int32) (kplace : Int32) (kword : Int64) (ktold : Int32) (know : Nat) (kread : Nat) (kkept : Nat) (ksnaps : Nat) (kaside : Nat) (kname : Nat) (kreadName : Nat) (kkeptName : Nat) (kisKept : Nat) (konces : Nat) (ksnapMany : Nat) (khasCells : Int32) (kpoured : Nat) (kfar : Nat) (ksides : Nat) (ksideMany : Nat) (kwayDays : Int32) (khasWay : Int32) (klines : Nat) (kmet : Nat) (kmetMany : Nat) (ksunk : Nat) (ktrying : Nat) (ksunkMany : Nat) (ksending : Int32) (kfleets : Int32) (ktext : Nat) (ktexts : Nat) (kseed : Int32) (kline : Nat) (kwritten : Nat) (klineMany : Nat) (khasWritten : Int32) (knode : Nat) (knodes : Nat) (konesMany : Nat) (kwithin : Nat) (ktop : Nat) (knowF : Nat → Int32) (x : Int32) (y : Int32) (iv_ko_0 : ktaped ≤ 940) (iv_ko_1 : ksize ≤ 940) (iv_ko_2 : klimit ≤ 900) (iv_ko_3 : kto ≤ ksize) (iv_ko_4 : kfrom ≤ 940) (iv_ko_5 : ksnapMany ≤ 8) (iv_ko_6 : ksideMany ≤ 36) (iv_ko_7 : kmetMany ≤ 3) (iv_ko_8 : ksunkMany ≤ 36) (iv_ko_9 : ktexts ≤ 64) (iv_ko_10 : klineMany ≤ 40) (iv_ko_11 : knodes ≤ 60) (iv_ko_12 : konesMany ≤ 20) (iv_ko_13 : kwithin ≤ 8) (iv_ko_14 : ktop ≤ 59) (ab_now : NB knowF) : Met l yX12_cost wsX12_cost ({ frames := 2, cells := 0, slots := 0, locals := 44 }) (PcU dC dI ky [.ref o, .int x, .int y] [(o, .inr (12, [.int kthrown, .ref ktape, .int (nI ktaped), .int (nI ksize), .int (nI klimit), .int (nI kto), .int (nI kfrom), .int kkind, .int knumber, .int ksign, .int kfault, .int kplace, .long kword, .int ktold, .ref know, .ref kread, .ref kkept, .ref ksnaps, .ref kaside, .ref kname, .ref kreadName, .ref kkeptName, .ref kisKept, .ref konces, .int (nI ksnapMany), .int khasCells, .ref kpoured, .ref kfar, .ref ksides, .int (nI ksideMany), .int kwayDays, .int khasWay, .ref klines, .ref kmet, .int (nI kmetMany), .ref ksunk, .ref ktrying, .int (nI ksunkMany), .int ksending, .int kfleets, .ref ktext, .int (nI ktexts), .int kseed, .ref kline, .ref kwritten, .int (nI klineMany), .int khasWritten, .ref knode, .int (nI knodes), .int (nI konesMany), .int (nI kwithin), .int (nI ktop)])), (know, .inl (ky 0, 373, .inl knowF))] sz) (va_Qi (fun (r : Int32) (kthrownG : Int32) => True) (BU dC dI ky (fun (kthrownG : Int32) => [(o, .inr (12, [.int kthrownG, .ref ktape, .int (nI ktaped), .int (nI ksize), .int (nI klimit), .int (nI kto), .int (nI kfrom), .int kkind, .int knumber, .int ksign, .int kfault, .int kplace, .long kword, .int ktold, .ref know, .ref kread, .ref kkept, .ref ksnaps, .ref kaside, .ref kname, .ref kreadName, .ref kkeptName, .ref kisKept, .ref konces, .int (nI ksnapMany), .int khasCells, .ref kpoured, .ref kfar, .ref ksides, .int (nI ksideMany), .int kwayDays, .int khasWay, .ref klines, .ref kmet, .int (nI kmetMany), .ref ksunk, .ref ktrying, .int (nI ksunkMany), .int ksending, .int kfleets, .ref ktext, .int (nI ktexts), .int kseed, .ref kline, .ref kwritten, .int (nI klineMany), .int khasWritten, .ref knode, .int (nI knodes), .int (nI konesMany), .int (nI kwithin), .int (nI ktop)])), (know, .inl (ky 0, 373, .inl knowF))]) (va_A [(o, .inr (12, [.int kthrown, .ref ktape, .int (nI ktaped), .int (nI ksize), .int (nI klimit), .int (nI kto), .int (nI kfrom), .int kkind, .int knumber, .int ksign, .int kfault, .int kplace, .long kword, .int ktold, .ref know, .ref kread, .ref kkept, .ref ksnaps, .ref kaside, .ref kname, .ref kreadName, .ref kkeptName, .ref kisKept, .ref konces, .int (nI ksnapMany), .int khasCells, .ref kpoured, .ref kfar, .ref ksides, .int (nI ksideMany), .int kwayDays, .int khasWay, .ref klines, .ref kmet, .int (nI kmetMany), .ref ksunk, .ref ktrying, .int (nI ksunkMany), .int ksending, .int kfleets, .ref ktext, .int (nI ktexts), .int kseed, .ref kline, .ref kwritten, .int (nI klineMany), .int khasWritten, .ref knode, .int (nI knodes), .int (nI konesMany), .int (nI kwithin), .int (nI ktop)])), (know, .inl (ky 0, 373, .inl knowF))] sz)) (va_A [(o, .inr (12, [.int kthrown, .ref ktape, .int (nI ktaped), .int (nI ksize), .int (nI klimit), .int (nI kto), .int (nI kfrom), .int kkind, .int knumber, .int ksign, .int kfault, .int kplace, .long kword, .int ktold, .ref know, .ref kread, .ref kkept, .ref ksnaps, .ref kaside, .ref kname, .ref kreadName, .ref kkeptName, .ref kisKept, .ref konces, .int (nI ksnapMany), .int khasCells, .ref kpoured, .ref kfar, .ref ksides, .int (nI ksideMany), .int kwayDays, .int khasWay, .ref klines, .ref kmet, .int (nI kmetMany), .ref ksunk, .ref ktrying, .int (nI ksunkMany), .int ksending, .int kfleets, .ref ktext, .int (nI ktexts), .int kseed, .ref kline, .ref kwritten, .int (nI klineMany), .int khasWritten, .ref knode, .int (nI knodes), .int (nI konesMany), .int (nI kwithin), .int (nI ktop)])), (know, .inl (ky 0, 373, .inl knowF))] sz)) 0 0 (va_A [(o, .inr (12, [.int kthrown, .ref ktape, .int (nI ktaped), .int (nI ksize), .int (nI klimit), .int (nI kto), .int (nI kfrom), .int kkind, .int knumber, .int ksign, .int kfault, .int kplace, .long kword, .int ktold, .ref know, .ref kread, .ref kkept, .ref ksnaps, .ref kaside, .ref kname, .ref kreadName, .ref kkeptName, .ref kisKept, .ref konces, .int (nI ksnapMany), .int khasCells, .ref kpoured, .ref kfar, .ref ksides, .int (nI ksideMany), .int kwayDays, .int khasWay, .ref klines, .ref kmet, .int (nI kmetMany), .ref ksunk, .ref ktrying, .int (nI ksunkMany), .int ksending, .int kfleets, .ref ktext, .int (nI ktexts), .int kseed, .ref kline, .ref kwritten, .int (nI klineMany), .int khasWritten, .ref knode, .int (nI knodes), .int (nI konesMany), .int (nI kwithin), .int (nI ktop)])), (know, .inl (ky 0, 373, .inl knowF))] sz) := by
  refine Met.ofW (cc := cX12_cost) (maxL := 3) (ret := (some .int)) (by decide) rfl ?_
  intro p e s m args below meth c s₁ B hml hv
  obtain ⟨rfl, hsz, hP, hK, hD0⟩ := hv
  have hx := B.exec
  have hb := B.bytes
  have hr := B.returns
  have hts := atoms_spec (ws := wsX12_cost) B.pre
  have hown : s.vm.findClass RX12 = some m.cls := findClass_of_methodNamed B.named
  have hlocks := B.notSynchronized
  have hin12 : ∀ w ∈ u_ws RX12 TX12 52, w ∈ wsX12_cost := by decide +kernel
  subst hsz
  have hD := hD0.self (sz := s.heap.size)
  generalize hAe : va_A [(o, .inr (12, [.int kthrown, .ref ktape, .int (nI ktaped), .int (nI ksize), .int (nI klimit), .int (nI kto), .int (nI kfrom), .int kkind, .int knumber, .int ksign, .int kfault, .int kplace, .long kword, .int ktold, .ref know, .ref kread, .ref kkept, .ref ksnaps, .ref kaside, .ref kname, .ref kreadName, .ref kkeptName, .ref kisKept, .ref konces, .int (nI ksnapMany), .int khasCells, .ref kpoured, .ref kfar, .ref ksides, .int (nI ksideMany), .int kwayDays, .int khasWay, .ref klines, .ref kmet, .int (nI kmetMany), .ref ksunk, .ref ktrying, .int (nI ksunkMany), .int ksending, .int kfleets, .ref ktext, .int (nI ktexts), .int kseed, .ref kline, .ref kwritten, .int (nI klineMany), .int khasWritten, .ref knode, .int (nI knodes), .int (nI konesMany), .int (nI kwithin), .int (nI ktop)])), (know, .inl (ky 0, 373, .inl knowF))] s.heap.size = A at hD ⊢
  have hA : ∀ q : Nat, s.heap.size ≤ q → A q := fun q h => by rw [← hAe]; exact Or.inr h
  have hS : va_S A s.heap s.heap [] := va_S.rf
  have hl := lv_entry ([.ref o, .int x, .int y]) (n := 3) (Nat.le_of_ble_eq_true rfl)
  rw [lg_entry_eq]
  generalize (lg_sl ([.ref o, .int x, .int y]) ++ List.replicate (3 - (lg_sl ([.ref o, .int x, .int y])).length) Slot.unset).toArray = ls at hl ⊢
  have hl : lv_has ls 3 [(0, .ref o), (1, .int x), (2, .int y)] := hl
  refine q_name (fun Q hQ => ?_)
  generalize ([.ref o, .int x, .int y] : List Value).toArray = args at hts hQ ⊢
  refine lv_aload_n hx hb dX12_cost_0 rfl (lv_at hl 0 rfl) ?_
  refine lv_iconst (v := nI 0) hx hb dX12_cost_1 (by decide) ?_
  refine va_put (D := (dC, dI)) (ci := 12) (v := .int (nI 0)) (ty := .int) (C := RX12) (T := TX12) (N := 52) hx hb hts hin12 tyX12 tyX12_ok nmX12 hown hK hP hD hS 0 rfl rfl 0 (by decide) (hts (.fieldLink RX12 1 "PorridgeSeaModel" "thrown" "I") (List.mem_of_getElem? (i := 1) rfl)) (fun _ h9 => h9) rfl (by decide +kernel) rfl rfl (Nat.le_of_ble_eq_true rfl) dX12_cost_2 (fun H locs hP hD hS => ?_)
  have hP : va_P (dC, dI) vwCl [(o, .inr (12, [.int (nI 0), .ref ktape, .int (nI ktaped), .int (nI ksize), .int (nI klimit), .int (nI kto), .int (nI kfrom), .int kkind, .int knumber, .int ksign, .int kfault, .int kplace, .long kword, .int ktold, .ref know, .ref kread, .ref kkept, .ref ksnaps, .ref kaside, .ref kname, .ref kreadName, .ref kkeptName, .ref kisKept, .ref konces, .int (nI ksnapMany), .int khasCells, .ref kpoured, .ref kfar, .ref ksides, .int (nI ksideMany), .int kwayDays, .int khasWay, .ref klines, .ref kmet, .int (nI kmetMany), .ref ksunk, .ref ktrying, .int (nI ksunkMany), .int ksending, .int kfleets, .ref ktext, .int (nI ktexts), .int kseed, .ref kline, .ref kwritten, .int (nI klineMany), .int khasWritten, .ref knode, .int (nI knodes), .int (nI konesMany), .int (nI kwithin), .int (nI ktop)])), (know, .inl (ky 0, 373, .inl knowF))] H := hP
  have hD : va_D A [(o, .inr (12, [.int (nI 0), .ref ktape, .int (nI ktaped), .int (nI ksize), .int (nI klimit), .int (nI kto), .int (nI kfrom), .int kkind, .int knumber, .int ksign, .int kfault, .int kplace, .long kword, .int ktold, .ref know, .ref kread, .ref kkept, .ref ksnaps, .ref kaside, .ref kname, .ref kreadName, .ref kkeptName, .ref kisKept, .ref konces, .int (nI ksnapMany), .int khasCells, .ref kpoured, .ref kfar, .ref ksides, .int (nI ksideMany), .int kwayDays, .int khasWay, .ref klines, .ref kmet, .int (nI kmetMany), .ref ksunk, .ref ktrying, .int (nI ksunkMany), .int ksending, .int kfleets, .ref ktext, .int (nI ktexts), .int kseed, .ref kline, .ref kwritten, .int (nI klineMany), .int khasWritten, .ref knode, .int (nI knodes), .int (nI konesMany), .int (nI kwithin), .int (nI ktop)])), (know, .inl (ky 0, 373, .inl knowF))] := hD
  refine lv_aload_n hx hb dX12_cost_5 rfl (lv_at hl 0 rfl) ?_
  refine lv_iload_n hx hb dX12_cost_6 rfl (lv_at hl 1 rfl) ?_
  refine lv_iload_n hx hb dX12_cost_7 rfl (lv_at hl 2 rfl) ?_
  refine vp_callSi (W.runV (As := [.int x, .int y]) (rest := []) ⟨hx, hb, hml, hown, hts⟩ (c_x_isCell l dC dI ky o (nI 0) ktape ktaped ksize klimit kto kfrom kkind knumber ksign kfault kplace kword ktold know kread kkept ksnaps kaside kname kreadName kkeptName kisKept konces ksnapMany khasCells kpoured kfar ksides ksideMany kwayDays khasWay klines kmet kmetMany ksunk ktrying ksunkMany ksending kfleets ktext ktexts kseed kline kwritten klineMany khasWritten knode knodes konesMany kwithin ktop knowF x y iv_ko_0 iv_ko_1 iv_ko_2 iv_ko_3 iv_ko_4 iv_ko_5 iv_ko_6 iv_ko_7 iv_ko_8 iv_ko_9 iv_ko_10 iv_ko_11 iv_ko_12 iv_ko_13 iv_ko_14 ab_now) (cwV 2 hts gX12_cost_X12_isCell rfl rfl rfl (by decide +kernel) ⟨(Nat.le_of_ble_eq_true rfl), (Nat.le_of_ble_eq_true rfl)⟩) (pre_PV hK hP [0, 1] rfl (ci := 12) (q0 := 0) rfl rfl) rfl rfl hl.1 rfl (lv_room (Nat.le_of_ble_eq_true rfl)) dX12_cost_8 ⟨(Nat.le_of_ble_eq_true rfl), (Nat.le_of_ble_eq_true rfl)⟩) (fun r1 p2 => ?_)
  rcases p2 with ⟨rfl, t3, t4, t5, t6, t7, t8⟩ | ⟨rfl, t9⟩
  · refine lv_if_eq (tgt := 27) hx hb dX12_cost_11 (by decide) (fun c10 => absurd c10 (by decide)) (fun c10 => ?_)
    refine lv_aload_n hx hb dX12_cost_14 rfl (lv_at hl 0 rfl) ?_
    refine lv_bipush (v := nI 6) hx hb dX12_cost_15 (by decide) ?_
    refine lv_iload_n hx hb dX12_cost_17 rfl (lv_at hl 2 rfl) ?_
    obtain ⟨n11, h12, e13⟩ := nat_of y 6 (by decide) (lf_x_cost_1 knowF x y ab_now t3 t4 t5 t6 t7 t8)
    rw [e13]
    refine lv_imul hx hb dX12_cost_18 ?_
    refine r_ti (nI (6 * n11)) (pk_mul _ _) ?_
    refine lv_iload_n hx hb dX12_cost_19 rfl (lv_at hl 1 rfl) ?_
    obtain ⟨n14, h15, e16⟩ := nat_of x 6 (by decide) (lf_x_cost_2 knowF x y n11 ab_now t3 t4 t5 t6 t7 t8 h12 e13)
    rw [e16]
    refine lv_iadd hx hb dX12_cost_20 ?_
    refine r_ti (nI ((6 * n11) + n14)) (nI_add _ _) ?_
    refine vp_callSi (W.runV (As := [.int (nI ((6 * n11) + n14))]) (rest := []) ⟨hx, hb, hml, hown, hts⟩ (c_x_costOf l dC dI ky o (nI 0) ktape ktaped ksize klimit kto kfrom kkind knumber ksign kfault kplace kword ktold know kread kkept ksnaps kaside kname kreadName kkeptName kisKept konces ksnapMany khasCells kpoured kfar ksides ksideMany kwayDays khasWay klines kmet kmetMany ksunk ktrying ksunkMany ksending kfleets ktext ktexts kseed kline kwritten klineMany khasWritten knode knodes konesMany kwithin ktop knowF (nI ((6 * n11) + n14)) iv_ko_0 iv_ko_1 iv_ko_2 iv_ko_3 iv_ko_4 iv_ko_5 iv_ko_6 iv_ko_7 iv_ko_8 iv_ko_9 iv_ko_10 iv_ko_11 iv_ko_12 iv_ko_13 iv_ko_14 ab_now (lf_x_cost_3 knowF x y n11 n14 ab_now t3 t4 t5 t6 t7 t8 h12 e13 h15 e16)) (cwV 1 hts gX12_cost_X12_costOf rfl rfl rfl (by decide +kernel) ⟨(Nat.le_of_ble_eq_true rfl), (Nat.le_of_ble_eq_true rfl)⟩) (pre_PV hK hP [0, 1] rfl (ci := 12) (q0 := 0) rfl rfl) rfl rfl hl.1 rfl (lv_room (Nat.le_of_ble_eq_true rfl)) dX12_cost_21 ⟨(Nat.le_of_ble_eq_true rfl), (Nat.le_of_ble_eq_true rfl)⟩) (fun r17 p18 => ?_)
    obtain ⟨k19, ⟨h21, h22⟩, rfl⟩ := p18
    refine lv_goto (tgt := 28) hx hb dX12_cost_24 (by decide) ?_
    rw [hQ]
    exact W.iret (v := nI k19) hx hb hr (fun t9 ht9 hW9 => ⟨⟨nI k19, (nI 0), rfl, trivial, by rw [ht9]; exact hP, va_K.moved hW9.alike hK, hD⟩, hS.F ht9⟩) hS.2.2 dX12_cost_28
  · refine lv_if_eq (tgt := 27) hx hb dX12_cost_11 (by decide) (fun c23 => ?_) (fun c23 => absurd (by decide) c23)
    refine lv_iconst (v := (-1 : Int32)) hx hb dX12_cost_27 (by decide) ?_
    rw [hQ]
    exact W.iret (v := (-1 : Int32)) hx hb hr (fun t9 ht9 hW9 => ⟨⟨(-1 : Int32), (nI 0), rfl, trivial, by rw [ht9]; exact hP, va_K.moved hW9.alike hK, hD⟩, hS.F ht9⟩) hS.2.2 dX12_cost_28
set_option maxRecDepth 20000 in
theorem lf_x_skin_1 (knowF : Nat → Int32) (y4 : Int32) (y7 : Int32) (y9 : Int32) (y11 : Int32) (y13 : Int32) (y15 : Int32) (y17 : Int32) (y19 : Int32) (ab_now : NB knowF) (e5 : y4 = knowF 5) (c6 : y4 ≠ 0) (e8 : y7 = knowF 68) (e10 : y9 = knowF 6) (e12 : y11 = y7 - y9) (e14 : y13 = knowF 5) (e16 : y15 = y11 + y13) (e18 : y17 = y15 - (nI 1)) (e20 : y19 = knowF 5) : ¬ y19 = 0 := by
  have b_y4 := ia_b y4
  have b_y7 := ia_b y7
  have b_y9 := ia_b y9
  have b_y11 := ia_b y11
  have b_y13 := ia_b y13
  have b_y15 := ia_b y15
  have b_y17 := ia_b y17
  have b_y19 := ia_b y19
  try have k_0 := ia_n 1 (by first | decide | omega)
  try simp only [ia_lt, ia_le, ia_eq, ia_m1, ia_0, ia_1, ne_eq, true_and, and_true, false_and, and_false, or_false, false_or, or_true, true_or, not_true_eq_false, not_false_eq_true] at *
  all_goals omega
set_option maxHeartbeats 4000000 in
set_option maxRecDepth 100000 in
theorem c_x_skin (l : Launch) (dC : Nat → ClassId) (dI : Nat → Nat → Nat) (ky : Nat → ClassId) (sz : Nat) (o : Nat) (kthrown : Int32) (ktape : Nat) (ktaped : Nat) (ksize : Nat) (klimit : Nat) (kto : Nat) (kfrom : Nat) (kkind : Int32) (knumber : Int32) (ksign : Int32) (kfault : Int32) (kplace : Int32) (kword : Int64) (ktold : Int32) (know : Nat) (kread : Nat) (kkept : Nat) (ksnaps : Nat) (kaside : Nat) (kname : Nat) (kreadName : Nat) (kkeptName : Nat) (kisKept : Nat) (konces : Nat) (ksnapMany : Nat) (khasCells : Int32) (kpoured : Nat) (kfar : Nat) (ksides : Nat) (ksideMany : Nat) (kwayDays : Int32) (khasWay : Int32) (klines : Nat) (kmet : Nat) (kmetMany : Nat) (ksunk : Nat) (ktrying : Nat) (ksunkMany : Nat) (ksending : Int32) (kfleets : Int32) (ktext : Nat) (ktexts : Nat) (kseed : Int32) (kline : Nat) (kwritten : Nat) (klineMany : Nat) (khasWritten : Int32) (knode : Nat) (knodes : Nat) (konesMany : Nat) (kwithin : Nat) (ktop : Nat) (knowF : Nat → Int32) (iv_ko_0 : ktaped ≤ 940) (iv_ko_1 : ksize ≤ 940) (iv_ko_2 : klimit ≤ 900) (iv_ko_3 : kto ≤ ksize) (iv_ko_4 : kfrom ≤ 940) (iv_ko_5 : ksnapMany ≤ 8) (iv_ko_6 : ksideMany ≤ 36) (iv_ko_7 : kmetMany ≤ 3) (iv_ko_8 : ksunkMany ≤ 36) (iv_ko_9 : ktexts ≤ 64) (iv_ko_10 : klineMany ≤ 40) (iv_ko_11 : knodes ≤ 60) (iv_ko_12 : konesMany ≤ 20) (iv_ko_13 : kwithin ≤ 8) (iv_ko_14 : ktop ≤ 59) (ab_now : NB knowF) : Met l yX12_skin wsX12_skin ({ frames := 1, cells := 0, slots := 0, locals := 20 }) (PcU dC dI ky [.ref o] [(o, .inr (12, [.int kthrown, .ref ktape, .int (nI ktaped), .int (nI ksize), .int (nI klimit), .int (nI kto), .int (nI kfrom), .int kkind, .int knumber, .int ksign, .int kfault, .int kplace, .long kword, .int ktold, .ref know, .ref kread, .ref kkept, .ref ksnaps, .ref kaside, .ref kname, .ref kreadName, .ref kkeptName, .ref kisKept, .ref konces, .int (nI ksnapMany), .int khasCells, .ref kpoured, .ref kfar, .ref ksides, .int (nI ksideMany), .int kwayDays, .int khasWay, .ref klines, .ref kmet, .int (nI kmetMany), .ref ksunk, .ref ktrying, .int (nI ksunkMany), .int ksending, .int kfleets, .ref ktext, .int (nI ktexts), .int kseed, .ref kline, .ref kwritten, .int (nI klineMany), .int khasWritten, .ref knode, .int (nI knodes), .int (nI konesMany), .int (nI kwithin), .int (nI ktop)])), (know, .inl (ky 0, 373, .inl knowF))] sz) (va_Qi (fun (r : Int32) (kthrownG : Int32) => True) (BU dC dI ky (fun (kthrownG : Int32) => [(o, .inr (12, [.int kthrownG, .ref ktape, .int (nI ktaped), .int (nI ksize), .int (nI klimit), .int (nI kto), .int (nI kfrom), .int kkind, .int knumber, .int ksign, .int kfault, .int kplace, .long kword, .int ktold, .ref know, .ref kread, .ref kkept, .ref ksnaps, .ref kaside, .ref kname, .ref kreadName, .ref kkeptName, .ref kisKept, .ref konces, .int (nI ksnapMany), .int khasCells, .ref kpoured, .ref kfar, .ref ksides, .int (nI ksideMany), .int kwayDays, .int khasWay, .ref klines, .ref kmet, .int (nI kmetMany), .ref ksunk, .ref ktrying, .int (nI ksunkMany), .int ksending, .int kfleets, .ref ktext, .int (nI ktexts), .int kseed, .ref kline, .ref kwritten, .int (nI klineMany), .int khasWritten, .ref knode, .int (nI knodes), .int (nI konesMany), .int (nI kwithin), .int (nI ktop)])), (know, .inl (ky 0, 373, .inl knowF))]) (va_A [(o, .inr (12, [.int kthrown, .ref ktape, .int (nI ktaped), .int (nI ksize), .int (nI klimit), .int (nI kto), .int (nI kfrom), .int kkind, .int knumber, .int ksign, .int kfault, .int kplace, .long kword, .int ktold, .ref know, .ref kread, .ref kkept, .ref ksnaps, .ref kaside, .ref kname, .ref kreadName, .ref kkeptName, .ref kisKept, .ref konces, .int (nI ksnapMany), .int khasCells, .ref kpoured, .ref kfar, .ref ksides, .int (nI ksideMany), .int kwayDays, .int khasWay, .ref klines, .ref kmet, .int (nI kmetMany), .ref ksunk, .ref ktrying, .int (nI ksunkMany), .int ksending, .int kfleets, .ref ktext, .int (nI ktexts), .int kseed, .ref kline, .ref kwritten, .int (nI klineMany), .int khasWritten, .ref knode, .int (nI knodes), .int (nI konesMany), .int (nI kwithin), .int (nI ktop)])), (know, .inl (ky 0, 373, .inl knowF))] sz)) (va_A [(o, .inr (12, [.int kthrown, .ref ktape, .int (nI ktaped), .int (nI ksize), .int (nI klimit), .int (nI kto), .int (nI kfrom), .int kkind, .int knumber, .int ksign, .int kfault, .int kplace, .long kword, .int ktold, .ref know, .ref kread, .ref kkept, .ref ksnaps, .ref kaside, .ref kname, .ref kreadName, .ref kkeptName, .ref kisKept, .ref konces, .int (nI ksnapMany), .int khasCells, .ref kpoured, .ref kfar, .ref ksides, .int (nI ksideMany), .int kwayDays, .int khasWay, .ref klines, .ref kmet, .int (nI kmetMany), .ref ksunk, .ref ktrying, .int (nI ksunkMany), .int ksending, .int kfleets, .ref ktext, .int (nI ktexts), .int kseed, .ref kline, .ref kwritten, .int (nI klineMany), .int khasWritten, .ref knode, .int (nI knodes), .int (nI konesMany), .int (nI kwithin), .int (nI ktop)])), (know, .inl (ky 0, 373, .inl knowF))] sz)) 0 0 (va_A [(o, .inr (12, [.int kthrown, .ref ktape, .int (nI ktaped), .int (nI ksize), .int (nI klimit), .int (nI kto), .int (nI kfrom), .int kkind, .int knumber, .int ksign, .int kfault, .int kplace, .long kword, .int ktold, .ref know, .ref kread, .ref kkept, .ref ksnaps, .ref kaside, .ref kname, .ref kreadName, .ref kkeptName, .ref kisKept, .ref konces, .int (nI ksnapMany), .int khasCells, .ref kpoured, .ref kfar, .ref ksides, .int (nI ksideMany), .int kwayDays, .int khasWay, .ref klines, .ref kmet, .int (nI kmetMany), .ref ksunk, .ref ktrying, .int (nI ksunkMany), .int ksending, .int kfleets, .ref ktext, .int (nI ktexts), .int kseed, .ref kline, .ref kwritten, .int (nI klineMany), .int khasWritten, .ref knode, .int (nI knodes), .int (nI konesMany), .int (nI kwithin), .int (nI ktop)])), (know, .inl (ky 0, 373, .inl knowF))] sz) := by
  refine Met.ofW (cc := cX12_skin) (maxL := 2) (ret := (some .int)) (by decide) rfl ?_
  intro p e s m args below meth c s₁ B hml hv
  obtain ⟨rfl, hsz, hP, hK, hD0⟩ := hv
  have hx := B.exec
  have hb := B.bytes
  have hr := B.returns
  have hts := atoms_spec (ws := wsX12_skin) B.pre
  have hown : s.vm.findClass RX12 = some m.cls := findClass_of_methodNamed B.named
  have hlocks := B.notSynchronized
  have hin12 : ∀ w ∈ u_ws RX12 TX12 52, w ∈ wsX12_skin := by decide +kernel
  subst hsz
  have hD := hD0.self (sz := s.heap.size)
  generalize hAe : va_A [(o, .inr (12, [.int kthrown, .ref ktape, .int (nI ktaped), .int (nI ksize), .int (nI klimit), .int (nI kto), .int (nI kfrom), .int kkind, .int knumber, .int ksign, .int kfault, .int kplace, .long kword, .int ktold, .ref know, .ref kread, .ref kkept, .ref ksnaps, .ref kaside, .ref kname, .ref kreadName, .ref kkeptName, .ref kisKept, .ref konces, .int (nI ksnapMany), .int khasCells, .ref kpoured, .ref kfar, .ref ksides, .int (nI ksideMany), .int kwayDays, .int khasWay, .ref klines, .ref kmet, .int (nI kmetMany), .ref ksunk, .ref ktrying, .int (nI ksunkMany), .int ksending, .int kfleets, .ref ktext, .int (nI ktexts), .int kseed, .ref kline, .ref kwritten, .int (nI klineMany), .int khasWritten, .ref knode, .int (nI knodes), .int (nI konesMany), .int (nI kwithin), .int (nI ktop)])), (know, .inl (ky 0, 373, .inl knowF))] s.heap.size = A at hD ⊢
  have hA : ∀ q : Nat, s.heap.size ≤ q → A q := fun q h => by rw [← hAe]; exact Or.inr h
  have hS : va_S A s.heap s.heap [] := va_S.rf
  have hl := lv_entry ([.ref o]) (n := 2) (Nat.le_of_ble_eq_true rfl)
  rw [lg_entry_eq]
  generalize (lg_sl ([.ref o]) ++ List.replicate (2 - (lg_sl ([.ref o])).length) Slot.unset).toArray = ls at hl ⊢
  have hl : lv_has ls 2 [(0, .ref o)] := hl
  refine q_name (fun Q hQ => ?_)
  generalize ([.ref o] : List Value).toArray = args at hts hQ ⊢
  refine lv_aload_n hx hb dX12_skin_0 rfl (lv_at hl 0 rfl) ?_
  refine lv_iconst (v := nI 0) hx hb dX12_skin_1 (by decide) ?_
  refine va_put (D := (dC, dI)) (ci := 12) (v := .int (nI 0)) (ty := .int) (C := RX12) (T := TX12) (N := 52) hx hb hts hin12 tyX12 tyX12_ok nmX12 hown hK hP hD hS 0 rfl rfl 0 (by decide) (hts (.fieldLink RX12 1 "PorridgeSeaModel" "thrown" "I") (List.mem_of_getElem? (i := 1) rfl)) (fun _ h9 => h9) rfl (by decide +kernel) rfl rfl (Nat.le_of_ble_eq_true rfl) dX12_skin_2 (fun H locs hP hD hS => ?_)
  have hP : va_P (dC, dI) vwCl [(o, .inr (12, [.int (nI 0), .ref ktape, .int (nI ktaped), .int (nI ksize), .int (nI klimit), .int (nI kto), .int (nI kfrom), .int kkind, .int knumber, .int ksign, .int kfault, .int kplace, .long kword, .int ktold, .ref know, .ref kread, .ref kkept, .ref ksnaps, .ref kaside, .ref kname, .ref kreadName, .ref kkeptName, .ref kisKept, .ref konces, .int (nI ksnapMany), .int khasCells, .ref kpoured, .ref kfar, .ref ksides, .int (nI ksideMany), .int kwayDays, .int khasWay, .ref klines, .ref kmet, .int (nI kmetMany), .ref ksunk, .ref ktrying, .int (nI ksunkMany), .int ksending, .int kfleets, .ref ktext, .int (nI ktexts), .int kseed, .ref kline, .ref kwritten, .int (nI klineMany), .int khasWritten, .ref knode, .int (nI knodes), .int (nI konesMany), .int (nI kwithin), .int (nI ktop)])), (know, .inl (ky 0, 373, .inl knowF))] H := hP
  have hD : va_D A [(o, .inr (12, [.int (nI 0), .ref ktape, .int (nI ktaped), .int (nI ksize), .int (nI klimit), .int (nI kto), .int (nI kfrom), .int kkind, .int knumber, .int ksign, .int kfault, .int kplace, .long kword, .int ktold, .ref know, .ref kread, .ref kkept, .ref ksnaps, .ref kaside, .ref kname, .ref kreadName, .ref kkeptName, .ref kisKept, .ref konces, .int (nI ksnapMany), .int khasCells, .ref kpoured, .ref kfar, .ref ksides, .int (nI ksideMany), .int kwayDays, .int khasWay, .ref klines, .ref kmet, .int (nI kmetMany), .ref ksunk, .ref ktrying, .int (nI ksunkMany), .int ksending, .int kfleets, .ref ktext, .int (nI ktexts), .int kseed, .ref kline, .ref kwritten, .int (nI klineMany), .int khasWritten, .ref knode, .int (nI knodes), .int (nI konesMany), .int (nI kwithin), .int (nI ktop)])), (know, .inl (ky 0, 373, .inl knowF))] := hD
  refine lv_aload_n hx hb dX12_skin_5 rfl (lv_at hl 0 rfl) ?_
  refine vp_callSi (W.runV (As := []) (rest := []) ⟨hx, hb, hml, hown, hts⟩ (c_x_hasSkin l dC dI ky o (nI 0) ktape ktaped ksize klimit kto kfrom kkind knumber ksign kfault kplace kword ktold know kread kkept ksnaps kaside kname kreadName kkeptName kisKept konces ksnapMany khasCells kpoured kfar ksides ksideMany kwayDays khasWay klines kmet kmetMany ksunk ktrying ksunkMany ksending kfleets ktext ktexts kseed kline kwritten klineMany khasWritten knode knodes konesMany kwithin ktop knowF iv_ko_0 iv_ko_1 iv_ko_2 iv_ko_3 iv_ko_4 iv_ko_5 iv_ko_6 iv_ko_7 iv_ko_8 iv_ko_9 iv_ko_10 iv_ko_11 iv_ko_12 iv_ko_13 iv_ko_14 ab_now) (cwV 0 hts gX12_skin_X12_hasSkin rfl rfl rfl (by decide +kernel) ⟨(Nat.le_of_ble_eq_true rfl), (Nat.le_of_ble_eq_true rfl)⟩) (pre_PV hK hP [0, 1] rfl (ci := 12) (q0 := 0) rfl rfl) rfl rfl hl.1 rfl (lv_room (Nat.le_of_ble_eq_true rfl)) dX12_skin_6 ⟨(Nat.le_of_ble_eq_true rfl), (Nat.le_of_ble_eq_true rfl)⟩) (fun r1 p2 => ?_)
  refine lv_if_eq (tgt := 14) hx hb dX12_skin_9 (by decide) (fun c3 => ?_) (fun c3 => ?_)
  · refine lv_aload_n hx hb dX12_skin_14 rfl (lv_at hl 0 rfl) ?_
    refine va_get (D := (dC, dI)) (ci := 12) (v := .ref know) (C := RX12) (T := TX12) (N := 52) hx hb hts hin12 hown hK hP 0 rfl rfl 14 (by decide) (hts (.fieldLink RX12 98 "PorridgeSeaModel" "now" "[I") (List.mem_of_getElem? (i := 2) rfl)) (fun _ h9 => h9) rfl dX12_skin_15 ?_
    refine lv_iconst (v := nI 5) hx hb dX12_skin_18 (by decide) ?_
    obtain ⟨y4, e5⟩ : ∃ z9, z9 = knowF 5 := ⟨_, rfl⟩
    refine r_iald hx hb hK hP 1 rfl 5 (by decide) (by decide) y4 e5.symm dX12_skin_19 ?_
    refine lv_if_ne (tgt := 25) hx hb dX12_skin_20 (by decide) (fun c6 => ?_) (fun c6 => ?_)
    · refine lv_aload_n hx hb dX12_skin_25 rfl (lv_at hl 0 rfl) ?_
      refine va_get (D := (dC, dI)) (ci := 12) (v := .ref know) (C := RX12) (T := TX12) (N := 52) hx hb hts hin12 hown hK hP 0 rfl rfl 14 (by decide) (hts (.fieldLink RX12 98 "PorridgeSeaModel" "now" "[I") (List.mem_of_getElem? (i := 2) rfl)) (fun _ h9 => h9) rfl dX12_skin_26 ?_
      refine lv_bipush (v := nI 68) hx hb dX12_skin_29 (by decide) ?_
      obtain ⟨y7, e8⟩ : ∃ z9, z9 = knowF 68 := ⟨_, rfl⟩
      refine r_iald hx hb hK hP 1 rfl 68 (by decide) (by decide) y7 e8.symm dX12_skin_31 ?_
      refine lv_aload_n hx hb dX12_skin_32 rfl (lv_at hl 0 rfl) ?_
      refine va_get (D := (dC, dI)) (ci := 12) (v := .ref know) (C := RX12) (T := TX12) (N := 52) hx hb hts hin12 hown hK hP 0 rfl rfl 14 (by decide) (hts (.fieldLink RX12 98 "PorridgeSeaModel" "now" "[I") (List.mem_of_getElem? (i := 2) rfl)) (fun _ h9 => h9) rfl dX12_skin_33 ?_
      refine lv_bipush (v := nI 6) hx hb dX12_skin_36 (by decide) ?_
      obtain ⟨y9, e10⟩ : ∃ z9, z9 = knowF 6 := ⟨_, rfl⟩
      refine r_iald hx hb hK hP 1 rfl 6 (by decide) (by decide) y9 e10.symm dX12_skin_38 ?_
      refine lv_isub hx hb dX12_skin_39 ?_
      refine lv_topi (fun y11 e12 => ?_)
      refine lv_aload_n hx hb dX12_skin_40 rfl (lv_at hl 0 rfl) ?_
      refine va_get (D := (dC, dI)) (ci := 12) (v := .ref know) (C := RX12) (T := TX12) (N := 52) hx hb hts hin12 hown hK hP 0 rfl rfl 14 (by decide) (hts (.fieldLink RX12 98 "PorridgeSeaModel" "now" "[I") (List.mem_of_getElem? (i := 2) rfl)) (fun _ h9 => h9) rfl dX12_skin_41 ?_
      refine lv_iconst (v := nI 5) hx hb dX12_skin_44 (by decide) ?_
      obtain ⟨y13, e14⟩ : ∃ z9, z9 = knowF 5 := ⟨_, rfl⟩
      refine r_iald hx hb hK hP 1 rfl 5 (by decide) (by decide) y13 e14.symm dX12_skin_45 ?_
      refine lv_iadd hx hb dX12_skin_46 ?_
      refine lv_topi (fun y15 e16 => ?_)
      refine lv_iconst (v := nI 1) hx hb dX12_skin_47 (by decide) ?_
      refine lv_isub hx hb dX12_skin_48 ?_
      refine lv_topi (fun y17 e18 => ?_)
      refine lv_aload_n hx hb dX12_skin_49 rfl (lv_at hl 0 rfl) ?_
      refine va_get (D := (dC, dI)) (ci := 12) (v := .ref know) (C := RX12) (T := TX12) (N := 52) hx hb hts hin12 hown hK hP 0 rfl rfl 14 (by decide) (hts (.fieldLink RX12 98 "PorridgeSeaModel" "now" "[I") (List.mem_of_getElem? (i := 2) rfl)) (fun _ h9 => h9) rfl dX12_skin_50 ?_
      refine lv_iconst (v := nI 5) hx hb dX12_skin_53 (by decide) ?_
      obtain ⟨y19, e20⟩ : ∃ z9, z9 = knowF 5 := ⟨_, rfl⟩
      refine r_iald hx hb hK hP 1 rfl 5 (by decide) (by decide) y19 e20.symm dX12_skin_54 ?_
      refine lv_idiv hx hb dX12_skin_55 (lf_x_skin_1 knowF y4 y7 y9 y11 y13 y15 y17 y19 ab_now e5 c6 e8 e10 e12 e14 e16 e18 e20) ?_
      refine lv_topi (fun y21 e22 => ?_)
      refine lv_istore_n (lv' := [(1, .int y21), (0, .ref o)]) hx hb dX12_skin_56 rfl hl (by decide) rfl (fun ls hl => ?_)
      refine lv_aload_n hx hb dX12_skin_57 rfl (lv_at hl 1 rfl) ?_
      refine va_get (D := (dC, dI)) (ci := 12) (v := .ref know) (C := RX12) (T := TX12) (N := 52) hx hb hts hin12 hown hK hP 0 rfl rfl 14 (by decide) (hts (.fieldLink RX12 98 "PorridgeSeaModel" "now" "[I") (List.mem_of_getElem? (i := 2) rfl)) (fun _ h9 => h9) rfl dX12_skin_58 ?_
      refine lv_bipush (v := nI 67) hx hb dX12_skin_61 (by decide) ?_
      obtain ⟨y23, e24⟩ : ∃ z9, z9 = knowF 67 := ⟨_, rfl⟩
      refine r_iald hx hb hK hP 1 rfl 67 (by decide) (by decide) y23 e24.symm dX12_skin_63 ?_
      refine lv_iload_n hx hb dX12_skin_64 rfl (lv_at hl 0 rfl) ?_
      refine lv_iadd hx hb dX12_skin_65 ?_
      refine lv_topi (fun y25 e26 => ?_)
      refine lv_sipush (v := nI 400) hx hb dX12_skin_66 (by decide) ?_
      refine lv_icmp_le (tgt := 76) hx hb dX12_skin_69 (by decide) (fun c27 => ?_) (fun c27 => ?_)
      · refine lv_iload_n hx hb dX12_skin_76 rfl (lv_at hl 0 rfl) ?_
        rw [hQ]
        exact W.iret (v := y21) hx hb hr (fun t9 ht9 hW9 => ⟨⟨y21, (nI 0), rfl, trivial, by rw [ht9]; exact hP, va_K.moved hW9.alike hK, hD⟩, hS.F ht9⟩) hS.2.2 dX12_skin_77
      · refine lv_iconst (v := (-1 : Int32)) hx hb dX12_skin_72 (by decide) ?_
        refine lv_goto (tgt := 77) hx hb dX12_skin_73 (by decide) ?_
        rw [hQ]
        exact W.iret (v := (-1 : Int32)) hx hb hr (fun t9 ht9 hW9 => ⟨⟨(-1 : Int32), (nI 0), rfl, trivial, by rw [ht9]; exact hP, va_K.moved hW9.alike hK, hD⟩, hS.F ht9⟩) hS.2.2 dX12_skin_77
    · refine lv_iconst (v := (-1 : Int32)) hx hb dX12_skin_23 (by decide) ?_
      rw [hQ]
      exact W.iret (v := (-1 : Int32)) hx hb hr (fun t9 ht9 hW9 => ⟨⟨(-1 : Int32), (nI 0), rfl, trivial, by rw [ht9]; exact hP, va_K.moved hW9.alike hK, hD⟩, hS.F ht9⟩) hS.2.2 dX12_skin_24
  · refine lv_iconst (v := nI 0) hx hb dX12_skin_12 (by decide) ?_
    rw [hQ]
    exact W.iret (v := nI 0) hx hb hr (fun t9 ht9 hW9 => ⟨⟨nI 0, (nI 0), rfl, trivial, by rw [ht9]; exact hP, va_K.moved hW9.alike hK, hD⟩, hS.F ht9⟩) hS.2.2 dX12_skin_13
set_option maxHeartbeats 4000000 in
set_option maxRecDepth 100000 in
theorem c_x_count (l : Launch) (dC : Nat → ClassId) (dI : Nat → Nat → Nat) (ky : Nat → ClassId) (sz : Nat) (o : Nat) (kthrown : Int32) (ktape : Nat) (ktaped : Nat) (ksize : Nat) (klimit : Nat) (kto : Nat) (kfrom : Nat) (kkind : Int32) (knumber : Int32) (ksign : Int32) (kfault : Int32) (kplace : Int32) (kword : Int64) (ktold : Int32) (know : Nat) (kread : Nat) (kkept : Nat) (ksnaps : Nat) (kaside : Nat) (kname : Nat) (kreadName : Nat) (kkeptName : Nat) (kisKept : Nat) (konces : Nat) (ksnapMany : Nat) (khasCells : Int32) (kpoured : Nat) (kfar : Nat) (ksides : Nat) (ksideMany : Nat) (kwayDays : Int32) (khasWay : Int32) (klines : Nat) (kmet : Nat) (kmetMany : Nat) (ksunk : Nat) (ktrying : Nat) (ksunkMany : Nat) (ksending : Int32) (kfleets : Int32) (ktext : Nat) (ktexts : Nat) (kseed : Int32) (kline : Nat) (kwritten : Nat) (klineMany : Nat) (khasWritten : Int32) (knode : Nat) (knodes : Nat) (konesMany : Nat) (kwithin : Nat) (ktop : Nat) (knowF : Nat → Int32) (x : Int32) (iv_ko_0 : ktaped ≤ 940) (iv_ko_1 : ksize ≤ 940) (iv_ko_2 : klimit ≤ 900) (iv_ko_3 : kto ≤ ksize) (iv_ko_4 : kfrom ≤ 940) (iv_ko_5 : ksnapMany ≤ 8) (iv_ko_6 : ksideMany ≤ 36) (iv_ko_7 : kmetMany ≤ 3) (iv_ko_8 : ksunkMany ≤ 36) (iv_ko_9 : ktexts ≤ 64) (iv_ko_10 : klineMany ≤ 40) (iv_ko_11 : knodes ≤ 60) (iv_ko_12 : konesMany ≤ 20) (iv_ko_13 : kwithin ≤ 8) (iv_ko_14 : ktop ≤ 59) (ab_now : NB knowF) : Met l yX12_count wsX12_count ({ frames := 0, cells := 0, slots := 0, locals := 0 }) (PcU dC dI ky [.ref o, .int x] [(o, .inr (12, [.int kthrown, .ref ktape, .int (nI ktaped), .int (nI ksize), .int (nI klimit), .int (nI kto), .int (nI kfrom), .int kkind, .int knumber, .int ksign, .int kfault, .int kplace, .long kword, .int ktold, .ref know, .ref kread, .ref kkept, .ref ksnaps, .ref kaside, .ref kname, .ref kreadName, .ref kkeptName, .ref kisKept, .ref konces, .int (nI ksnapMany), .int khasCells, .ref kpoured, .ref kfar, .ref ksides, .int (nI ksideMany), .int kwayDays, .int khasWay, .ref klines, .ref kmet, .int (nI kmetMany), .ref ksunk, .ref ktrying, .int (nI ksunkMany), .int ksending, .int kfleets, .ref ktext, .int (nI ktexts), .int kseed, .ref kline, .ref kwritten, .int (nI klineMany), .int khasWritten, .ref knode, .int (nI knodes), .int (nI konesMany), .int (nI kwithin), .int (nI ktop)])), (know, .inl (ky 0, 373, .inl knowF))] sz) (va_Qi (fun (r : Int32) (kthrownG : Int32) => True) (BU dC dI ky (fun (kthrownG : Int32) => [(o, .inr (12, [.int kthrownG, .ref ktape, .int (nI ktaped), .int (nI ksize), .int (nI klimit), .int (nI kto), .int (nI kfrom), .int kkind, .int knumber, .int ksign, .int kfault, .int kplace, .long kword, .int ktold, .ref know, .ref kread, .ref kkept, .ref ksnaps, .ref kaside, .ref kname, .ref kreadName, .ref kkeptName, .ref kisKept, .ref konces, .int (nI ksnapMany), .int khasCells, .ref kpoured, .ref kfar, .ref ksides, .int (nI ksideMany), .int kwayDays, .int khasWay, .ref klines, .ref kmet, .int (nI kmetMany), .ref ksunk, .ref ktrying, .int (nI ksunkMany), .int ksending, .int kfleets, .ref ktext, .int (nI ktexts), .int kseed, .ref kline, .ref kwritten, .int (nI klineMany), .int khasWritten, .ref knode, .int (nI knodes), .int (nI konesMany), .int (nI kwithin), .int (nI ktop)])), (know, .inl (ky 0, 373, .inl knowF))]) (va_A [(o, .inr (12, [.int kthrown, .ref ktape, .int (nI ktaped), .int (nI ksize), .int (nI klimit), .int (nI kto), .int (nI kfrom), .int kkind, .int knumber, .int ksign, .int kfault, .int kplace, .long kword, .int ktold, .ref know, .ref kread, .ref kkept, .ref ksnaps, .ref kaside, .ref kname, .ref kreadName, .ref kkeptName, .ref kisKept, .ref konces, .int (nI ksnapMany), .int khasCells, .ref kpoured, .ref kfar, .ref ksides, .int (nI ksideMany), .int kwayDays, .int khasWay, .ref klines, .ref kmet, .int (nI kmetMany), .ref ksunk, .ref ktrying, .int (nI ksunkMany), .int ksending, .int kfleets, .ref ktext, .int (nI ktexts), .int kseed, .ref kline, .ref kwritten, .int (nI klineMany), .int khasWritten, .ref knode, .int (nI knodes), .int (nI konesMany), .int (nI kwithin), .int (nI ktop)])), (know, .inl (ky 0, 373, .inl knowF))] sz)) (va_A [(o, .inr (12, [.int kthrown, .ref ktape, .int (nI ktaped), .int (nI ksize), .int (nI klimit), .int (nI kto), .int (nI kfrom), .int kkind, .int knumber, .int ksign, .int kfault, .int kplace, .long kword, .int ktold, .ref know, .ref kread, .ref kkept, .ref ksnaps, .ref kaside, .ref kname, .ref kreadName, .ref kkeptName, .ref kisKept, .ref konces, .int (nI ksnapMany), .int khasCells, .ref kpoured, .ref kfar, .ref ksides, .int (nI ksideMany), .int kwayDays, .int khasWay, .ref klines, .ref kmet, .int (nI kmetMany), .ref ksunk, .ref ktrying, .int (nI ksunkMany), .int ksending, .int kfleets, .ref ktext, .int (nI ktexts), .int kseed, .ref kline, .ref kwritten, .int (nI klineMany), .int khasWritten, .ref knode, .int (nI knodes), .int (nI konesMany), .int (nI kwithin), .int (nI ktop)])), (know, .inl (ky 0, 373, .inl knowF))] sz)) 0 0 (va_A [(o, .inr (12, [.int kthrown, .ref ktape, .int (nI ktaped), .int (nI ksize), .int (nI klimit), .int (nI kto), .int (nI kfrom), .int kkind, .int knumber, .int ksign, .int kfault, .int kplace, .long kword, .int ktold, .ref know, .ref kread, .ref kkept, .ref ksnaps, .ref kaside, .ref kname, .ref kreadName, .ref kkeptName, .ref kisKept, .ref konces, .int (nI ksnapMany), .int khasCells, .ref kpoured, .ref kfar, .ref ksides, .int (nI ksideMany), .int kwayDays, .int khasWay, .ref klines, .ref kmet, .int (nI kmetMany), .ref ksunk, .ref ktrying, .int (nI ksunkMany), .int ksending, .int kfleets, .ref ktext, .int (nI ktexts), .int kseed, .ref kline, .ref kwritten, .int (nI klineMany), .int khasWritten, .ref knode, .int (nI knodes), .int (nI konesMany), .int (nI kwithin), .int (nI ktop)])), (know, .inl (ky 0, 373, .inl knowF))] sz) := by
  refine Met.ofW (cc := cX12_count) (maxL := 2) (ret := (some .int)) (by decide) rfl ?_
  intro p e s m args below meth c s₁ B hml hv
  obtain ⟨rfl, hsz, hP, hK, hD0⟩ := hv
  have hx := B.exec
  have hb := B.bytes
  have hr := B.returns
  have hts := atoms_spec (ws := wsX12_count) B.pre
  have hown : s.vm.findClass RX12 = some m.cls := findClass_of_methodNamed B.named
  have hlocks := B.notSynchronized
  have hin12 : ∀ w ∈ u_ws RX12 TX12 52, w ∈ wsX12_count := by decide +kernel
  subst hsz
  have hD := hD0.self (sz := s.heap.size)
  generalize hAe : va_A [(o, .inr (12, [.int kthrown, .ref ktape, .int (nI ktaped), .int (nI ksize), .int (nI klimit), .int (nI kto), .int (nI kfrom), .int kkind, .int knumber, .int ksign, .int kfault, .int kplace, .long kword, .int ktold, .ref know, .ref kread, .ref kkept, .ref ksnaps, .ref kaside, .ref kname, .ref kreadName, .ref kkeptName, .ref kisKept, .ref konces, .int (nI ksnapMany), .int khasCells, .ref kpoured, .ref kfar, .ref ksides, .int (nI ksideMany), .int kwayDays, .int khasWay, .ref klines, .ref kmet, .int (nI kmetMany), .ref ksunk, .ref ktrying, .int (nI ksunkMany), .int ksending, .int kfleets, .ref ktext, .int (nI ktexts), .int kseed, .ref kline, .ref kwritten, .int (nI klineMany), .int khasWritten, .ref knode, .int (nI knodes), .int (nI konesMany), .int (nI kwithin), .int (nI ktop)])), (know, .inl (ky 0, 373, .inl knowF))] s.heap.size = A at hD ⊢
  have hA : ∀ q : Nat, s.heap.size ≤ q → A q := fun q h => by rw [← hAe]; exact Or.inr h
  have hS : va_S A s.heap s.heap [] := va_S.rf
  have hl := lv_entry ([.ref o, .int x]) (n := 2) (Nat.le_of_ble_eq_true rfl)
  rw [lg_entry_eq]
  generalize (lg_sl ([.ref o, .int x]) ++ List.replicate (2 - (lg_sl ([.ref o, .int x])).length) Slot.unset).toArray = ls at hl ⊢
  have hl : lv_has ls 2 [(0, .ref o), (1, .int x)] := hl
  refine q_name (fun Q hQ => ?_)
  generalize ([.ref o, .int x] : List Value).toArray = args at hts hQ ⊢
  refine lv_aload_n hx hb dX12_count_0 rfl (lv_at hl 0 rfl) ?_
  refine lv_iconst (v := nI 0) hx hb dX12_count_1 (by decide) ?_
  refine va_put (D := (dC, dI)) (ci := 12) (v := .int (nI 0)) (ty := .int) (C := RX12) (T := TX12) (N := 52) hx hb hts hin12 tyX12 tyX12_ok nmX12 hown hK hP hD hS 0 rfl rfl 0 (by decide) (hts (.fieldLink RX12 1 "PorridgeSeaModel" "thrown" "I") (List.mem_of_getElem? (i := 1) rfl)) (fun _ h9 => h9) rfl (by decide +kernel) rfl rfl (Nat.le_of_ble_eq_true rfl) dX12_count_2 (fun H locs hP hD hS => ?_)
  have hP : va_P (dC, dI) vwCl [(o, .inr (12, [.int (nI 0), .ref ktape, .int (nI ktaped), .int (nI ksize), .int (nI klimit), .int (nI kto), .int (nI kfrom), .int kkind, .int knumber, .int ksign, .int kfault, .int kplace, .long kword, .int ktold, .ref know, .ref kread, .ref kkept, .ref ksnaps, .ref kaside, .ref kname, .ref kreadName, .ref kkeptName, .ref kisKept, .ref konces, .int (nI ksnapMany), .int khasCells, .ref kpoured, .ref kfar, .ref ksides, .int (nI ksideMany), .int kwayDays, .int khasWay, .ref klines, .ref kmet, .int (nI kmetMany), .ref ksunk, .ref ktrying, .int (nI ksunkMany), .int ksending, .int kfleets, .ref ktext, .int (nI ktexts), .int kseed, .ref kline, .ref kwritten, .int (nI klineMany), .int khasWritten, .ref knode, .int (nI knodes), .int (nI konesMany), .int (nI kwithin), .int (nI ktop)])), (know, .inl (ky 0, 373, .inl knowF))] H := hP
  have hD : va_D A [(o, .inr (12, [.int (nI 0), .ref ktape, .int (nI ktaped), .int (nI ksize), .int (nI klimit), .int (nI kto), .int (nI kfrom), .int kkind, .int knumber, .int ksign, .int kfault, .int kplace, .long kword, .int ktold, .ref know, .ref kread, .ref kkept, .ref ksnaps, .ref kaside, .ref kname, .ref kreadName, .ref kkeptName, .ref kisKept, .ref konces, .int (nI ksnapMany), .int khasCells, .ref kpoured, .ref kfar, .ref ksides, .int (nI ksideMany), .int kwayDays, .int khasWay, .ref klines, .ref kmet, .int (nI kmetMany), .ref ksunk, .ref ktrying, .int (nI ksunkMany), .int ksending, .int kfleets, .ref ktext, .int (nI ktexts), .int kseed, .ref kline, .ref kwritten, .int (nI klineMany), .int khasWritten, .ref knode, .int (nI knodes), .int (nI konesMany), .int (nI kwithin), .int (nI ktop)])), (know, .inl (ky 0, 373, .inl knowF))] := hD
  refine lv_iload_n hx hb dX12_count_5 rfl (lv_at hl 1 rfl) ?_
  rcases sw_0_6 x with c2 | c3 | c4 | c5 | c6 | c7 | c8 | c9
  · refine lv_tableOut (tgt := 96) hx hb dX12_count_6 c2 (by decide) ?_
    refine lv_iconst (v := (-1 : Int32)) hx hb dX12_count_96 (by decide) ?_
    rw [hQ]
    exact W.iret (v := (-1 : Int32)) hx hb hr (fun t9 ht9 hW9 => ⟨⟨(-1 : Int32), (nI 0), rfl, trivial, by rw [ht9]; exact hP, va_K.moved hW9.alike hK, hD⟩, hS.F ht9⟩) hS.2.2 dX12_count_97
  · refine r_ti (nI 0) c3 ?_
    rw [c3] at hl
    refine lv_tableIn (off := 42) (tgt := 48) hx hb dX12_count_6 (by decide) (by decide) rfl (by decide) ?_
    refine lv_aload_n hx hb dX12_count_48 rfl (lv_at hl 0 rfl) ?_
    refine va_get (D := (dC, dI)) (ci := 12) (v := .ref know) (C := RX12) (T := TX12) (N := 52) hx hb hts hin12 hown hK hP 0 rfl rfl 14 (by decide) (hts (.fieldLink RX12 98 "PorridgeSeaModel" "now" "[I") (List.mem_of_getElem? (i := 2) rfl)) (fun _ h9 => h9) rfl dX12_count_49 ?_
    refine lv_iconst (v := nI 0) hx hb dX12_count_52 (by decide) ?_
    obtain ⟨y10, e11⟩ : ∃ z9, z9 = knowF 0 := ⟨_, rfl⟩
    refine r_iald hx hb hK hP 1 rfl 0 (by decide) (by decide) y10 e11.symm dX12_count_53 ?_
    obtain ⟨b12, b13⟩ : (2 : Int) ≤ y10.toInt ∧ y10.toInt ≤ 6 := by rw [e11]; exact ld_NB_0 ab_now 0 (by decide) (by decide)
    rw [hQ]
    exact W.iret (v := y10) hx hb hr (fun t9 ht9 hW9 => ⟨⟨y10, (nI 0), rfl, trivial, by rw [ht9]; exact hP, va_K.moved hW9.alike hK, hD⟩, hS.F ht9⟩) hS.2.2 dX12_count_54
  · refine r_ti (nI 1) c4 ?_
    rw [c4] at hl
    refine lv_tableIn (off := 49) (tgt := 55) hx hb dX12_count_6 (by decide) (by decide) rfl (by decide) ?_
    refine lv_aload_n hx hb dX12_count_55 rfl (lv_at hl 0 rfl) ?_
    refine va_get (D := (dC, dI)) (ci := 12) (v := .ref know) (C := RX12) (T := TX12) (N := 52) hx hb hts hin12 hown hK hP 0 rfl rfl 14 (by decide) (hts (.fieldLink RX12 98 "PorridgeSeaModel" "now" "[I") (List.mem_of_getElem? (i := 2) rfl)) (fun _ h9 => h9) rfl dX12_count_56 ?_
    refine lv_iconst (v := nI 1) hx hb dX12_count_59 (by decide) ?_
    obtain ⟨y14, e15⟩ : ∃ z9, z9 = knowF 1 := ⟨_, rfl⟩
    refine r_iald hx hb hK hP 1 rfl 1 (by decide) (by decide) y14 e15.symm dX12_count_60 ?_
    obtain ⟨b16, b17⟩ : (2 : Int) ≤ y14.toInt ∧ y14.toInt ≤ 6 := by rw [e15]; exact ld_NB_1 ab_now 1 (by decide) (by decide)
    rw [hQ]
    exact W.iret (v := y14) hx hb hr (fun t9 ht9 hW9 => ⟨⟨y14, (nI 0), rfl, trivial, by rw [ht9]; exact hP, va_K.moved hW9.alike hK, hD⟩, hS.F ht9⟩) hS.2.2 dX12_count_61
  · refine r_ti (nI 2) c5 ?_
    rw [c5] at hl
    refine lv_tableIn (off := 56) (tgt := 62) hx hb dX12_count_6 (by decide) (by decide) rfl (by decide) ?_
    refine lv_aload_n hx hb dX12_count_62 rfl (lv_at hl 0 rfl) ?_
    refine va_get (D := (dC, dI)) (ci := 12) (v := .ref know) (C := RX12) (T := TX12) (N := 52) hx hb hts hin12 hown hK hP 0 rfl rfl 14 (by decide) (hts (.fieldLink RX12 98 "PorridgeSeaModel" "now" "[I") (List.mem_of_getElem? (i := 2) rfl)) (fun _ h9 => h9) rfl dX12_count_63 ?_
    refine lv_iconst (v := nI 2) hx hb dX12_count_66 (by decide) ?_
    obtain ⟨y18, e19⟩ : ∃ z9, z9 = knowF 2 := ⟨_, rfl⟩
    refine r_iald hx hb hK hP 1 rfl 2 (by decide) (by decide) y18 e19.symm dX12_count_67 ?_
    obtain ⟨b20, b21⟩ : (0 : Int) ≤ y18.toInt ∧ y18.toInt ≤ 6 := by rw [e19]; exact ld_NB_2 ab_now 2 (by decide) (by decide)
    rw [hQ]
    exact W.iret (v := y18) hx hb hr (fun t9 ht9 hW9 => ⟨⟨y18, (nI 0), rfl, trivial, by rw [ht9]; exact hP, va_K.moved hW9.alike hK, hD⟩, hS.F ht9⟩) hS.2.2 dX12_count_68
  · refine r_ti (nI 3) c6 ?_
    rw [c6] at hl
    refine lv_tableIn (off := 63) (tgt := 69) hx hb dX12_count_6 (by decide) (by decide) rfl (by decide) ?_
    refine lv_aload_n hx hb dX12_count_69 rfl (lv_at hl 0 rfl) ?_
    refine va_get (D := (dC, dI)) (ci := 12) (v := .ref know) (C := RX12) (T := TX12) (N := 52) hx hb hts hin12 hown hK hP 0 rfl rfl 14 (by decide) (hts (.fieldLink RX12 98 "PorridgeSeaModel" "now" "[I") (List.mem_of_getElem? (i := 2) rfl)) (fun _ h9 => h9) rfl dX12_count_70 ?_
    refine lv_iconst (v := nI 3) hx hb dX12_count_73 (by decide) ?_
    obtain ⟨y22, e23⟩ : ∃ z9, z9 = knowF 3 := ⟨_, rfl⟩
    refine r_iald hx hb hK hP 1 rfl 3 (by decide) (by decide) y22 e23.symm dX12_count_74 ?_
    obtain ⟨b24, b25⟩ : (0 : Int) ≤ y22.toInt ∧ y22.toInt ≤ 6 := by rw [e23]; exact ld_NB_3 ab_now 3 (by decide) (by decide)
    rw [hQ]
    exact W.iret (v := y22) hx hb hr (fun t9 ht9 hW9 => ⟨⟨y22, (nI 0), rfl, trivial, by rw [ht9]; exact hP, va_K.moved hW9.alike hK, hD⟩, hS.F ht9⟩) hS.2.2 dX12_count_75
  · refine r_ti (nI 4) c7 ?_
    rw [c7] at hl
    refine lv_tableIn (off := 70) (tgt := 76) hx hb dX12_count_6 (by decide) (by decide) rfl (by decide) ?_
    refine lv_aload_n hx hb dX12_count_76 rfl (lv_at hl 0 rfl) ?_
    refine va_get (D := (dC, dI)) (ci := 12) (v := .ref know) (C := RX12) (T := TX12) (N := 52) hx hb hts hin12 hown hK hP 0 rfl rfl 14 (by decide) (hts (.fieldLink RX12 98 "PorridgeSeaModel" "now" "[I") (List.mem_of_getElem? (i := 2) rfl)) (fun _ h9 => h9) rfl dX12_count_77 ?_
    refine lv_iconst (v := nI 5) hx hb dX12_count_80 (by decide) ?_
    obtain ⟨y26, e27⟩ : ∃ z9, z9 = knowF 5 := ⟨_, rfl⟩
    refine r_iald hx hb hK hP 1 rfl 5 (by decide) (by decide) y26 e27.symm dX12_count_81 ?_
    rw [hQ]
    exact W.iret (v := y26) hx hb hr (fun t9 ht9 hW9 => ⟨⟨y26, (nI 0), rfl, trivial, by rw [ht9]; exact hP, va_K.moved hW9.alike hK, hD⟩, hS.F ht9⟩) hS.2.2 dX12_count_82
  · refine r_ti (nI 5) c8 ?_
    rw [c8] at hl
    refine lv_tableIn (off := 77) (tgt := 83) hx hb dX12_count_6 (by decide) (by decide) rfl (by decide) ?_
    refine lv_aload_n hx hb dX12_count_83 rfl (lv_at hl 0 rfl) ?_
    refine va_get (D := (dC, dI)) (ci := 12) (v := .ref know) (C := RX12) (T := TX12) (N := 52) hx hb hts hin12 hown hK hP 0 rfl rfl 14 (by decide) (hts (.fieldLink RX12 98 "PorridgeSeaModel" "now" "[I") (List.mem_of_getElem? (i := 2) rfl)) (fun _ h9 => h9) rfl dX12_count_84 ?_
    refine lv_bipush (v := nI 6) hx hb dX12_count_87 (by decide) ?_
    obtain ⟨y28, e29⟩ : ∃ z9, z9 = knowF 6 := ⟨_, rfl⟩
    refine r_iald hx hb hK hP 1 rfl 6 (by decide) (by decide) y28 e29.symm dX12_count_89 ?_
    rw [hQ]
    exact W.iret (v := y28) hx hb hr (fun t9 ht9 hW9 => ⟨⟨y28, (nI 0), rfl, trivial, by rw [ht9]; exact hP, va_K.moved hW9.alike hK, hD⟩, hS.F ht9⟩) hS.2.2 dX12_count_90
  · refine r_ti (nI 6) c9 ?_
    rw [c9] at hl
    refine lv_tableIn (off := 85) (tgt := 91) hx hb dX12_count_6 (by decide) (by decide) rfl (by decide) ?_
    refine lv_aload_n hx hb dX12_count_91 rfl (lv_at hl 0 rfl) ?_
    refine va_get (D := (dC, dI)) (ci := 12) (v := .int (nI ktaped)) (C := RX12) (T := TX12) (N := 52) hx hb hts hin12 hown hK hP 0 rfl rfl 2 (by decide) (hts (.fieldLink RX12 11 "PorridgeSeaModel" "taped" "I") (List.mem_of_getElem? (i := 3) rfl)) (fun _ h9 => h9) rfl dX12_count_92 ?_
    rw [hQ]
    exact W.iret (v := nI ktaped) hx hb hr (fun t9 ht9 hW9 => ⟨⟨nI ktaped, (nI 0), rfl, trivial, by rw [ht9]; exact hP, va_K.moved hW9.alike hK, hD⟩, hS.F ht9⟩) hS.2.2 dX12_count_95
set_option maxRecDepth 20000 in
theorem lf_x_wayAt_1 (ksideMany : Nat) (x : Int32) (y1 : Int32) (iv_ko_6 : ksideMany ≤ 36) (f3 : y1.toInt = ((ksideMany : Nat) : Int) - ((1 : Nat) : Int)) (t6 : (nI 0).toInt ≤ x.toInt) (t7 : x.toInt ≤ y1.toInt) : 0 ≤ x.toInt ∧ x.toInt < ((36 : Nat) : Int) := by
  have b_x := ia_b x
  have b_y1 := ia_b y1
  try have k_0 := ia_n 0 (by first | decide | omega)
  try simp only [ia_lt, ia_le, ia_eq, ia_m1, ia_0, ia_1, ne_eq, true_and, and_true, false_and, and_false, or_false, false_or, or_true, true_or, not_true_eq_false, not_false_eq_true] at *
  all_goals omega
set_option maxRecDepth 20000 in
theorem lf_x_wayAt_2 (ksideMany : Nat) (ksidesF : Nat → Int32) (x : Int32) (y1 : Int32) (n10 : Nat) (y13 : Int32) (iv_ko_6 : ksideMany ≤ 36) (f3 : y1.toInt = ((ksideMany : Nat) : Int) - ((1 : Nat) : Int)) (t6 : (nI 0).toInt ≤ x.toInt) (t7 : x.toInt ≤ y1.toInt) (h11 : n10 < 36) (e12 : x = nI n10) (e14 : y13 = ksidesF n10) : n10 < 36 := by
  have b_x := ia_b x
  have b_y1 := ia_b y1
  have b_y13 := ia_b y13
  try have k_0 := ia_n 0 (by first | decide | omega)
  try have k_1 := ia_n n10 (by first | decide | omega)
  try simp only [ia_lt, ia_le, ia_eq, ia_m1, ia_0, ia_1, ne_eq, true_and, and_true, false_and, and_false, or_false, false_or, or_true, true_or, not_true_eq_false, not_false_eq_true] at *
  all_goals omega
set_option maxHeartbeats 4000000 in
set_option maxRecDepth 100000 in
theorem c_x_wayAt (l : Launch) (dC : Nat → ClassId) (dI : Nat → Nat → Nat) (ky : Nat → ClassId) (sz : Nat) (o : Nat) (kthrown : Int32) (ktape : Nat) (ktaped : Nat) (ksize : Nat) (klimit : Nat) (kto : Nat) (kfrom : Nat) (kkind : Int32) (knumber : Int32) (ksign : Int32) (kfault : Int32) (kplace : Int32) (kword : Int64) (ktold : Int32) (know : Nat) (kread : Nat) (kkept : Nat) (ksnaps : Nat) (kaside : Nat) (kname : Nat) (kreadName : Nat) (kkeptName : Nat) (kisKept : Nat) (konces : Nat) (ksnapMany : Nat) (khasCells : Int32) (kpoured : Nat) (kfar : Nat) (ksides : Nat) (ksideMany : Nat) (kwayDays : Int32) (khasWay : Int32) (klines : Nat) (kmet : Nat) (kmetMany : Nat) (ksunk : Nat) (ktrying : Nat) (ksunkMany : Nat) (ksending : Int32) (kfleets : Int32) (ktext : Nat) (ktexts : Nat) (kseed : Int32) (kline : Nat) (kwritten : Nat) (klineMany : Nat) (khasWritten : Int32) (knode : Nat) (knodes : Nat) (konesMany : Nat) (kwithin : Nat) (ktop : Nat) (ksidesF : Nat → Int32) (x : Int32) (iv_ko_0 : ktaped ≤ 940) (iv_ko_1 : ksize ≤ 940) (iv_ko_2 : klimit ≤ 900) (iv_ko_3 : kto ≤ ksize) (iv_ko_4 : kfrom ≤ 940) (iv_ko_5 : ksnapMany ≤ 8) (iv_ko_6 : ksideMany ≤ 36) (iv_ko_7 : kmetMany ≤ 3) (iv_ko_8 : ksunkMany ≤ 36) (iv_ko_9 : ktexts ≤ 64) (iv_ko_10 : klineMany ≤ 40) (iv_ko_11 : knodes ≤ 60) (iv_ko_12 : konesMany ≤ 20) (iv_ko_13 : kwithin ≤ 8) (iv_ko_14 : ktop ≤ 59) : Met l yX12_wayAt wsX12_wayAt ({ frames := 1, cells := 0, slots := 0, locals := 22 }) (PcU dC dI ky [.ref o, .int x] [(o, .inr (12, [.int kthrown, .ref ktape, .int (nI ktaped), .int (nI ksize), .int (nI klimit), .int (nI kto), .int (nI kfrom), .int kkind, .int knumber, .int ksign, .int kfault, .int kplace, .long kword, .int ktold, .ref know, .ref kread, .ref kkept, .ref ksnaps, .ref kaside, .ref kname, .ref kreadName, .ref kkeptName, .ref kisKept, .ref konces, .int (nI ksnapMany), .int khasCells, .ref kpoured, .ref kfar, .ref ksides, .int (nI ksideMany), .int kwayDays, .int khasWay, .ref klines, .ref kmet, .int (nI kmetMany), .ref ksunk, .ref ktrying, .int (nI ksunkMany), .int ksending, .int kfleets, .ref ktext, .int (nI ktexts), .int kseed, .ref kline, .ref kwritten, .int (nI klineMany), .int khasWritten, .ref knode, .int (nI knodes), .int (nI konesMany), .int (nI kwithin), .int (nI ktop)])), (ksides, .inl (ky 0, 36, .inl ksidesF))] sz) (va_Qi (fun (r : Int32) (kthrownG : Int32) => True) (BU dC dI ky (fun (kthrownG : Int32) => [(o, .inr (12, [.int kthrownG, .ref ktape, .int (nI ktaped), .int (nI ksize), .int (nI klimit), .int (nI kto), .int (nI kfrom), .int kkind, .int knumber, .int ksign, .int kfault, .int kplace, .long kword, .int ktold, .ref know, .ref kread, .ref kkept, .ref ksnaps, .ref kaside, .ref kname, .ref kreadName, .ref kkeptName, .ref kisKept, .ref konces, .int (nI ksnapMany), .int khasCells, .ref kpoured, .ref kfar, .ref ksides, .int (nI ksideMany), .int kwayDays, .int khasWay, .ref klines, .ref kmet, .int (nI kmetMany), .ref ksunk, .ref ktrying, .int (nI ksunkMany), .int ksending, .int kfleets, .ref ktext, .int (nI ktexts), .int kseed, .ref kline, .ref kwritten, .int (nI klineMany), .int khasWritten, .ref knode, .int (nI knodes), .int (nI konesMany), .int (nI kwithin), .int (nI ktop)])), (ksides, .inl (ky 0, 36, .inl ksidesF))]) (va_A [(o, .inr (12, [.int kthrown, .ref ktape, .int (nI ktaped), .int (nI ksize), .int (nI klimit), .int (nI kto), .int (nI kfrom), .int kkind, .int knumber, .int ksign, .int kfault, .int kplace, .long kword, .int ktold, .ref know, .ref kread, .ref kkept, .ref ksnaps, .ref kaside, .ref kname, .ref kreadName, .ref kkeptName, .ref kisKept, .ref konces, .int (nI ksnapMany), .int khasCells, .ref kpoured, .ref kfar, .ref ksides, .int (nI ksideMany), .int kwayDays, .int khasWay, .ref klines, .ref kmet, .int (nI kmetMany), .ref ksunk, .ref ktrying, .int (nI ksunkMany), .int ksending, .int kfleets, .ref ktext, .int (nI ktexts), .int kseed, .ref kline, .ref kwritten, .int (nI klineMany), .int khasWritten, .ref knode, .int (nI knodes), .int (nI konesMany), .int (nI kwithin), .int (nI ktop)])), (ksides, .inl (ky 0, 36, .inl ksidesF))] sz)) (va_A [(o, .inr (12, [.int kthrown, .ref ktape, .int (nI ktaped), .int (nI ksize), .int (nI klimit), .int (nI kto), .int (nI kfrom), .int kkind, .int knumber, .int ksign, .int kfault, .int kplace, .long kword, .int ktold, .ref know, .ref kread, .ref kkept, .ref ksnaps, .ref kaside, .ref kname, .ref kreadName, .ref kkeptName, .ref kisKept, .ref konces, .int (nI ksnapMany), .int khasCells, .ref kpoured, .ref kfar, .ref ksides, .int (nI ksideMany), .int kwayDays, .int khasWay, .ref klines, .ref kmet, .int (nI kmetMany), .ref ksunk, .ref ktrying, .int (nI ksunkMany), .int ksending, .int kfleets, .ref ktext, .int (nI ktexts), .int kseed, .ref kline, .ref kwritten, .int (nI klineMany), .int khasWritten, .ref knode, .int (nI knodes), .int (nI konesMany), .int (nI kwithin), .int (nI ktop)])), (ksides, .inl (ky 0, 36, .inl ksidesF))] sz)) 0 0 (va_A [(o, .inr (12, [.int kthrown, .ref ktape, .int (nI ktaped), .int (nI ksize), .int (nI klimit), .int (nI kto), .int (nI kfrom), .int kkind, .int knumber, .int ksign, .int kfault, .int kplace, .long kword, .int ktold, .ref know, .ref kread, .ref kkept, .ref ksnaps, .ref kaside, .ref kname, .ref kreadName, .ref kkeptName, .ref kisKept, .ref konces, .int (nI ksnapMany), .int khasCells, .ref kpoured, .ref kfar, .ref ksides, .int (nI ksideMany), .int kwayDays, .int khasWay, .ref klines, .ref kmet, .int (nI kmetMany), .ref ksunk, .ref ktrying, .int (nI ksunkMany), .int ksending, .int kfleets, .ref ktext, .int (nI ktexts), .int kseed, .ref kline, .ref kwritten, .int (nI klineMany), .int khasWritten, .ref knode, .int (nI knodes), .int (nI konesMany), .int (nI kwithin), .int (nI ktop)])), (ksides, .inl (ky 0, 36, .inl ksidesF))] sz) := by
  refine Met.ofW (cc := cX12_wayAt) (maxL := 2) (ret := (some .int)) (by decide) rfl ?_
  intro p e s m args below meth c s₁ B hml hv
  obtain ⟨rfl, hsz, hP, hK, hD0⟩ := hv
  have hx := B.exec
  have hb := B.bytes
  have hr := B.returns
  have hts := atoms_spec (ws := wsX12_wayAt) B.pre
  have hown : s.vm.findClass RX12 = some m.cls := findClass_of_methodNamed B.named
  have hlocks := B.notSynchronized
  have hin12 : ∀ w ∈ u_ws RX12 TX12 52, w ∈ wsX12_wayAt := by decide +kernel
  subst hsz
  have hD := hD0.self (sz := s.heap.size)
  generalize hAe : va_A [(o, .inr (12, [.int kthrown, .ref ktape, .int (nI ktaped), .int (nI ksize), .int (nI klimit), .int (nI kto), .int (nI kfrom), .int kkind, .int knumber, .int ksign, .int kfault, .int kplace, .long kword, .int ktold, .ref know, .ref kread, .ref kkept, .ref ksnaps, .ref kaside, .ref kname, .ref kreadName, .ref kkeptName, .ref kisKept, .ref konces, .int (nI ksnapMany), .int khasCells, .ref kpoured, .ref kfar, .ref ksides, .int (nI ksideMany), .int kwayDays, .int khasWay, .ref klines, .ref kmet, .int (nI kmetMany), .ref ksunk, .ref ktrying, .int (nI ksunkMany), .int ksending, .int kfleets, .ref ktext, .int (nI ktexts), .int kseed, .ref kline, .ref kwritten, .int (nI klineMany), .int khasWritten, .ref knode, .int (nI knodes), .int (nI konesMany), .int (nI kwithin), .int (nI ktop)])), (ksides, .inl (ky 0, 36, .inl ksidesF))] s.heap.size = A at hD ⊢
  have hA : ∀ q : Nat, s.heap.size ≤ q → A q := fun q h => by rw [← hAe]; exact Or.inr h
  have hS : va_S A s.heap s.heap [] := va_S.rf
  have hl := lv_entry ([.ref o, .int x]) (n := 2) (Nat.le_of_ble_eq_true rfl)
  rw [lg_entry_eq]
  generalize (lg_sl ([.ref o, .int x]) ++ List.replicate (2 - (lg_sl ([.ref o, .int x])).length) Slot.unset).toArray = ls at hl ⊢
  have hl : lv_has ls 2 [(0, .ref o), (1, .int x)] := hl
  refine q_name (fun Q hQ => ?_)
  generalize ([.ref o, .int x] : List Value).toArray = args at hts hQ ⊢
  refine lv_aload_n hx hb dX12_wayAt_0 rfl (lv_at hl 0 rfl) ?_
  refine lv_iconst (v := nI 0) hx hb dX12_wayAt_1 (by decide) ?_
  refine va_put (D := (dC, dI)) (ci := 12) (v := .int (nI 0)) (ty := .int) (C := RX12) (T := TX12) (N := 52) hx hb hts hin12 tyX12 tyX12_ok nmX12 hown hK hP hD hS 0 rfl rfl 0 (by decide) (hts (.fieldLink RX12 1 "PorridgeSeaModel" "thrown" "I") (List.mem_of_getElem? (i := 1) rfl)) (fun _ h9 => h9) rfl (by decide +kernel) rfl rfl (Nat.le_of_ble_eq_true rfl) dX12_wayAt_2 (fun H locs hP hD hS => ?_)
  have hP : va_P (dC, dI) vwCl [(o, .inr (12, [.int (nI 0), .ref ktape, .int (nI ktaped), .int (nI ksize), .int (nI klimit), .int (nI kto), .int (nI kfrom), .int kkind, .int knumber, .int ksign, .int kfault, .int kplace, .long kword, .int ktold, .ref know, .ref kread, .ref kkept, .ref ksnaps, .ref kaside, .ref kname, .ref kreadName, .ref kkeptName, .ref kisKept, .ref konces, .int (nI ksnapMany), .int khasCells, .ref kpoured, .ref kfar, .ref ksides, .int (nI ksideMany), .int kwayDays, .int khasWay, .ref klines, .ref kmet, .int (nI kmetMany), .ref ksunk, .ref ktrying, .int (nI ksunkMany), .int ksending, .int kfleets, .ref ktext, .int (nI ktexts), .int kseed, .ref kline, .ref kwritten, .int (nI klineMany), .int khasWritten, .ref knode, .int (nI knodes), .int (nI konesMany), .int (nI kwithin), .int (nI ktop)])), (ksides, .inl (ky 0, 36, .inl ksidesF))] H := hP
  have hD : va_D A [(o, .inr (12, [.int (nI 0), .ref ktape, .int (nI ktaped), .int (nI ksize), .int (nI klimit), .int (nI kto), .int (nI kfrom), .int kkind, .int knumber, .int ksign, .int kfault, .int kplace, .long kword, .int ktold, .ref know, .ref kread, .ref kkept, .ref ksnaps, .ref kaside, .ref kname, .ref kreadName, .ref kkeptName, .ref kisKept, .ref konces, .int (nI ksnapMany), .int khasCells, .ref kpoured, .ref kfar, .ref ksides, .int (nI ksideMany), .int kwayDays, .int khasWay, .ref klines, .ref kmet, .int (nI kmetMany), .ref ksunk, .ref ktrying, .int (nI ksunkMany), .int ksending, .int kfleets, .ref ktext, .int (nI ktexts), .int kseed, .ref kline, .ref kwritten, .int (nI klineMany), .int khasWritten, .ref knode, .int (nI knodes), .int (nI konesMany), .int (nI kwithin), .int (nI ktop)])), (ksides, .inl (ky 0, 36, .inl ksidesF))] := hD
  refine lv_iload_n hx hb dX12_wayAt_5 rfl (lv_at hl 1 rfl) ?_
  refine lv_iconst (v := nI 0) hx hb dX12_wayAt_6 (by decide) ?_
  refine lv_aload_n hx hb dX12_wayAt_7 rfl (lv_at hl 0 rfl) ?_
  refine va_get (D := (dC, dI)) (ci := 12) (v := .int (nI ksideMany)) (C := RX12) (T := TX12) (N := 52) hx hb hts hin12 hown hK hP 0 rfl rfl 29 (by decide) (hts (.fieldLink RX12 323 "PorridgeSeaModel" "sideMany" "I") (List.mem_of_getElem? (i := 2) rfl)) (fun _ h9 => h9) rfl dX12_wayAt_8 ?_
  refine lv_iconst (v := nI 1) hx hb dX12_wayAt_11 (by decide) ?_
  refine lv_isub hx hb dX12_wayAt_12 ?_
  refine lv_topi (fun y1 e2 => ?_)
  have f3 : y1.toInt = ((ksideMany : Nat) : Int) - ((1 : Nat) : Int) := by rw [e2]; exact ia_sub _ _ (by omega) (by omega)
  refine vp_callSi (W.runS (As := [.int x, .int (nI 0), .int y1]) (rest := []) ⟨hx, hb, hml, hown, hts⟩ (c_x_isIn l dC dI ky x (nI 0) y1) (va_cwS 3 hts gX12_wayAt_X12_isIn rfl rfl rfl (by decide +kernel) ⟨(Nat.le_of_ble_eq_true rfl), (Nat.le_of_ble_eq_true rfl)⟩) (pre_PS hK hP [] rfl) rfl rfl hl.1 rfl (lv_room (Nat.le_of_ble_eq_true rfl)) dX12_wayAt_13 ⟨(Nat.le_of_ble_eq_true rfl), (Nat.le_of_ble_eq_true rfl)⟩) (fun r4 p5 => ?_)
  rcases p5 with ⟨rfl, t6, t7⟩ | ⟨rfl, t8⟩
  · refine lv_if_eq (tgt := 28) hx hb dX12_wayAt_16 (by decide) (fun c9 => absurd c9 (by decide)) (fun c9 => ?_)
    refine lv_aload_n hx hb dX12_wayAt_19 rfl (lv_at hl 0 rfl) ?_
    refine va_get (D := (dC, dI)) (ci := 12) (v := .ref ksides) (C := RX12) (T := TX12) (N := 52) hx hb hts hin12 hown hK hP 0 rfl rfl 28 (by decide) (hts (.fieldLink RX12 136 "PorridgeSeaModel" "sides" "[I") (List.mem_of_getElem? (i := 3) rfl)) (fun _ h9 => h9) rfl dX12_wayAt_20 ?_
    refine lv_iload_n hx hb dX12_wayAt_23 rfl (lv_at hl 1 rfl) ?_
    obtain ⟨n10, h11, e12⟩ := nat_of x 36 (by decide) (lf_x_wayAt_1 ksideMany x y1 iv_ko_6 f3 t6 t7)
    rw [e12]
    obtain ⟨y13, e14⟩ : ∃ z9, z9 = ksidesF n10 := ⟨_, rfl⟩
    refine r_iald hx hb hK hP 1 rfl n10 (lf_x_wayAt_2 ksideMany ksidesF x y1 n10 y13 iv_ko_6 f3 t6 t7 h11 e12 e14) (by decide) y13 e14.symm dX12_wayAt_24 ?_
    refine lv_goto (tgt := 29) hx hb dX12_wayAt_25 (by decide) ?_
    rw [hQ]
    exact W.iret (v := y13) hx hb hr (fun t9 ht9 hW9 => ⟨⟨y13, (nI 0), rfl, trivial, by rw [ht9]; exact hP, va_K.moved hW9.alike hK, hD⟩, hS.F ht9⟩) hS.2.2 dX12_wayAt_29
  · refine lv_if_eq (tgt := 28) hx hb dX12_wayAt_16 (by decide) (fun c15 => ?_) (fun c15 => absurd (by decide) c15)
    refine lv_iconst (v := (-1 : Int32)) hx hb dX12_wayAt_28 (by decide) ?_
    rw [hQ]
    exact W.iret (v := (-1 : Int32)) hx hb hr (fun t9 ht9 hW9 => ⟨⟨(-1 : Int32), (nI 0), rfl, trivial, by rw [ht9]; exact hP, va_K.moved hW9.alike hK, hD⟩, hS.F ht9⟩) hS.2.2 dX12_wayAt_29
set_option maxHeartbeats 4000000 in
set_option maxRecDepth 100000 in
theorem c_x_wayDays (l : Launch) (dC : Nat → ClassId) (dI : Nat → Nat → Nat) (ky : Nat → ClassId) (sz : Nat) (o : Nat) (kthrown : Int32) (ktape : Nat) (ktaped : Nat) (ksize : Nat) (klimit : Nat) (kto : Nat) (kfrom : Nat) (kkind : Int32) (knumber : Int32) (ksign : Int32) (kfault : Int32) (kplace : Int32) (kword : Int64) (ktold : Int32) (know : Nat) (kread : Nat) (kkept : Nat) (ksnaps : Nat) (kaside : Nat) (kname : Nat) (kreadName : Nat) (kkeptName : Nat) (kisKept : Nat) (konces : Nat) (ksnapMany : Nat) (khasCells : Int32) (kpoured : Nat) (kfar : Nat) (ksides : Nat) (ksideMany : Nat) (kwayDays : Int32) (khasWay : Int32) (klines : Nat) (kmet : Nat) (kmetMany : Nat) (ksunk : Nat) (ktrying : Nat) (ksunkMany : Nat) (ksending : Int32) (kfleets : Int32) (ktext : Nat) (ktexts : Nat) (kseed : Int32) (kline : Nat) (kwritten : Nat) (klineMany : Nat) (khasWritten : Int32) (knode : Nat) (knodes : Nat) (konesMany : Nat) (kwithin : Nat) (ktop : Nat) (iv_ko_0 : ktaped ≤ 940) (iv_ko_1 : ksize ≤ 940) (iv_ko_2 : klimit ≤ 900) (iv_ko_3 : kto ≤ ksize) (iv_ko_4 : kfrom ≤ 940) (iv_ko_5 : ksnapMany ≤ 8) (iv_ko_6 : ksideMany ≤ 36) (iv_ko_7 : kmetMany ≤ 3) (iv_ko_8 : ksunkMany ≤ 36) (iv_ko_9 : ktexts ≤ 64) (iv_ko_10 : klineMany ≤ 40) (iv_ko_11 : knodes ≤ 60) (iv_ko_12 : konesMany ≤ 20) (iv_ko_13 : kwithin ≤ 8) (iv_ko_14 : ktop ≤ 59) : Met l yX12_wayDays wsX12_wayDays ({ frames := 0, cells := 0, slots := 0, locals := 0 }) (PcU dC dI ky [.ref o] [(o, .inr (12, [.int kthrown, .ref ktape, .int (nI ktaped), .int (nI ksize), .int (nI klimit), .int (nI kto), .int (nI kfrom), .int kkind, .int knumber, .int ksign, .int kfault, .int kplace, .long kword, .int ktold, .ref know, .ref kread, .ref kkept, .ref ksnaps, .ref kaside, .ref kname, .ref kreadName, .ref kkeptName, .ref kisKept, .ref konces, .int (nI ksnapMany), .int khasCells, .ref kpoured, .ref kfar, .ref ksides, .int (nI ksideMany), .int kwayDays, .int khasWay, .ref klines, .ref kmet, .int (nI kmetMany), .ref ksunk, .ref ktrying, .int (nI ksunkMany), .int ksending, .int kfleets, .ref ktext, .int (nI ktexts), .int kseed, .ref kline, .ref kwritten, .int (nI klineMany), .int khasWritten, .ref knode, .int (nI knodes), .int (nI konesMany), .int (nI kwithin), .int (nI ktop)]))] sz) (va_Qi (fun (r : Int32) (kthrownG : Int32) => True) (BU dC dI ky (fun (kthrownG : Int32) => [(o, .inr (12, [.int kthrownG, .ref ktape, .int (nI ktaped), .int (nI ksize), .int (nI klimit), .int (nI kto), .int (nI kfrom), .int kkind, .int knumber, .int ksign, .int kfault, .int kplace, .long kword, .int ktold, .ref know, .ref kread, .ref kkept, .ref ksnaps, .ref kaside, .ref kname, .ref kreadName, .ref kkeptName, .ref kisKept, .ref konces, .int (nI ksnapMany), .int khasCells, .ref kpoured, .ref kfar, .ref ksides, .int (nI ksideMany), .int kwayDays, .int khasWay, .ref klines, .ref kmet, .int (nI kmetMany), .ref ksunk, .ref ktrying, .int (nI ksunkMany), .int ksending, .int kfleets, .ref ktext, .int (nI ktexts), .int kseed, .ref kline, .ref kwritten, .int (nI klineMany), .int khasWritten, .ref knode, .int (nI knodes), .int (nI konesMany), .int (nI kwithin), .int (nI ktop)]))]) (va_A [(o, .inr (12, [.int kthrown, .ref ktape, .int (nI ktaped), .int (nI ksize), .int (nI klimit), .int (nI kto), .int (nI kfrom), .int kkind, .int knumber, .int ksign, .int kfault, .int kplace, .long kword, .int ktold, .ref know, .ref kread, .ref kkept, .ref ksnaps, .ref kaside, .ref kname, .ref kreadName, .ref kkeptName, .ref kisKept, .ref konces, .int (nI ksnapMany), .int khasCells, .ref kpoured, .ref kfar, .ref ksides, .int (nI ksideMany), .int kwayDays, .int khasWay, .ref klines, .ref kmet, .int (nI kmetMany), .ref ksunk, .ref ktrying, .int (nI ksunkMany), .int ksending, .int kfleets, .ref ktext, .int (nI ktexts), .int kseed, .ref kline, .ref kwritten, .int (nI klineMany), .int khasWritten, .ref knode, .int (nI knodes), .int (nI konesMany), .int (nI kwithin), .int (nI ktop)]))] sz)) (va_A [(o, .inr (12, [.int kthrown, .ref ktape, .int (nI ktaped), .int (nI ksize), .int (nI klimit), .int (nI kto), .int (nI kfrom), .int kkind, .int knumber, .int ksign, .int kfault, .int kplace, .long kword, .int ktold, .ref know, .ref kread, .ref kkept, .ref ksnaps, .ref kaside, .ref kname, .ref kreadName, .ref kkeptName, .ref kisKept, .ref konces, .int (nI ksnapMany), .int khasCells, .ref kpoured, .ref kfar, .ref ksides, .int (nI ksideMany), .int kwayDays, .int khasWay, .ref klines, .ref kmet, .int (nI kmetMany), .ref ksunk, .ref ktrying, .int (nI ksunkMany), .int ksending, .int kfleets, .ref ktext, .int (nI ktexts), .int kseed, .ref kline, .ref kwritten, .int (nI klineMany), .int khasWritten, .ref knode, .int (nI knodes), .int (nI konesMany), .int (nI kwithin), .int (nI ktop)]))] sz)) 0 0 (va_A [(o, .inr (12, [.int kthrown, .ref ktape, .int (nI ktaped), .int (nI ksize), .int (nI klimit), .int (nI kto), .int (nI kfrom), .int kkind, .int knumber, .int ksign, .int kfault, .int kplace, .long kword, .int ktold, .ref know, .ref kread, .ref kkept, .ref ksnaps, .ref kaside, .ref kname, .ref kreadName, .ref kkeptName, .ref kisKept, .ref konces, .int (nI ksnapMany), .int khasCells, .ref kpoured, .ref kfar, .ref ksides, .int (nI ksideMany), .int kwayDays, .int khasWay, .ref klines, .ref kmet, .int (nI kmetMany), .ref ksunk, .ref ktrying, .int (nI ksunkMany), .int ksending, .int kfleets, .ref ktext, .int (nI ktexts), .int kseed, .ref kline, .ref kwritten, .int (nI klineMany), .int khasWritten, .ref knode, .int (nI knodes), .int (nI konesMany), .int (nI kwithin), .int (nI ktop)]))] sz) := by
  refine Met.ofW (cc := cX12_wayDays) (maxL := 1) (ret := (some .int)) (by decide) rfl ?_
  intro p e s m args below meth c s₁ B hml hv
  obtain ⟨rfl, hsz, hP, hK, hD0⟩ := hv
  have hx := B.exec
  have hb := B.bytes
  have hr := B.returns
  have hts := atoms_spec (ws := wsX12_wayDays) B.pre
  have hown : s.vm.findClass RX12 = some m.cls := findClass_of_methodNamed B.named
  have hlocks := B.notSynchronized
  have hin12 : ∀ w ∈ u_ws RX12 TX12 52, w ∈ wsX12_wayDays := by decide +kernel
  subst hsz
  have hD := hD0.self (sz := s.heap.size)
  generalize hAe : va_A [(o, .inr (12, [.int kthrown, .ref ktape, .int (nI ktaped), .int (nI ksize), .int (nI klimit), .int (nI kto), .int (nI kfrom), .int kkind, .int knumber, .int ksign, .int kfault, .int kplace, .long kword, .int ktold, .ref know, .ref kread, .ref kkept, .ref ksnaps, .ref kaside, .ref kname, .ref kreadName, .ref kkeptName, .ref kisKept, .ref konces, .int (nI ksnapMany), .int khasCells, .ref kpoured, .ref kfar, .ref ksides, .int (nI ksideMany), .int kwayDays, .int khasWay, .ref klines, .ref kmet, .int (nI kmetMany), .ref ksunk, .ref ktrying, .int (nI ksunkMany), .int ksending, .int kfleets, .ref ktext, .int (nI ktexts), .int kseed, .ref kline, .ref kwritten, .int (nI klineMany), .int khasWritten, .ref knode, .int (nI knodes), .int (nI konesMany), .int (nI kwithin), .int (nI ktop)]))] s.heap.size = A at hD ⊢
  have hA : ∀ q : Nat, s.heap.size ≤ q → A q := fun q h => by rw [← hAe]; exact Or.inr h
  have hS : va_S A s.heap s.heap [] := va_S.rf
  have hl := lv_entry ([.ref o]) (n := 1) (Nat.le_of_ble_eq_true rfl)
  rw [lg_entry_eq]
  generalize (lg_sl ([.ref o]) ++ List.replicate (1 - (lg_sl ([.ref o])).length) Slot.unset).toArray = ls at hl ⊢
  have hl : lv_has ls 1 [(0, .ref o)] := hl
  refine q_name (fun Q hQ => ?_)
  generalize ([.ref o] : List Value).toArray = args at hts hQ ⊢
  refine lv_aload_n hx hb dX12_wayDays_0 rfl (lv_at hl 0 rfl) ?_
  refine lv_iconst (v := nI 0) hx hb dX12_wayDays_1 (by decide) ?_
  refine va_put (D := (dC, dI)) (ci := 12) (v := .int (nI 0)) (ty := .int) (C := RX12) (T := TX12) (N := 52) hx hb hts hin12 tyX12 tyX12_ok nmX12 hown hK hP hD hS 0 rfl rfl 0 (by decide) (hts (.fieldLink RX12 1 "PorridgeSeaModel" "thrown" "I") (List.mem_of_getElem? (i := 1) rfl)) (fun _ h9 => h9) rfl (by decide +kernel) rfl rfl (Nat.le_of_ble_eq_true rfl) dX12_wayDays_2 (fun H locs hP hD hS => ?_)
  have hP : va_P (dC, dI) vwCl [(o, .inr (12, [.int (nI 0), .ref ktape, .int (nI ktaped), .int (nI ksize), .int (nI klimit), .int (nI kto), .int (nI kfrom), .int kkind, .int knumber, .int ksign, .int kfault, .int kplace, .long kword, .int ktold, .ref know, .ref kread, .ref kkept, .ref ksnaps, .ref kaside, .ref kname, .ref kreadName, .ref kkeptName, .ref kisKept, .ref konces, .int (nI ksnapMany), .int khasCells, .ref kpoured, .ref kfar, .ref ksides, .int (nI ksideMany), .int kwayDays, .int khasWay, .ref klines, .ref kmet, .int (nI kmetMany), .ref ksunk, .ref ktrying, .int (nI ksunkMany), .int ksending, .int kfleets, .ref ktext, .int (nI ktexts), .int kseed, .ref kline, .ref kwritten, .int (nI klineMany), .int khasWritten, .ref knode, .int (nI knodes), .int (nI konesMany), .int (nI kwithin), .int (nI ktop)]))] H := hP
  have hD : va_D A [(o, .inr (12, [.int (nI 0), .ref ktape, .int (nI ktaped), .int (nI ksize), .int (nI klimit), .int (nI kto), .int (nI kfrom), .int kkind, .int knumber, .int ksign, .int kfault, .int kplace, .long kword, .int ktold, .ref know, .ref kread, .ref kkept, .ref ksnaps, .ref kaside, .ref kname, .ref kreadName, .ref kkeptName, .ref kisKept, .ref konces, .int (nI ksnapMany), .int khasCells, .ref kpoured, .ref kfar, .ref ksides, .int (nI ksideMany), .int kwayDays, .int khasWay, .ref klines, .ref kmet, .int (nI kmetMany), .ref ksunk, .ref ktrying, .int (nI ksunkMany), .int ksending, .int kfleets, .ref ktext, .int (nI ktexts), .int kseed, .ref kline, .ref kwritten, .int (nI klineMany), .int khasWritten, .ref knode, .int (nI knodes), .int (nI konesMany), .int (nI kwithin), .int (nI ktop)]))] := hD
  refine lv_aload_n hx hb dX12_wayDays_5 rfl (lv_at hl 0 rfl) ?_
  refine va_get (D := (dC, dI)) (ci := 12) (v := .int khasWay) (C := RX12) (T := TX12) (N := 52) hx hb hts hin12 hown hK hP 0 rfl rfl 31 (by decide) (hts (.fieldLink RX12 326 "PorridgeSeaModel" "hasWay" "Z") (List.mem_of_getElem? (i := 2) rfl)) (fun _ h9 => h9) rfl dX12_wayDays_6 ?_
  refine lv_if_eq (tgt := 19) hx hb dX12_wayDays_9 (by decide) (fun c1 => ?_) (fun c1 => ?_)
  · refine lv_iconst (v := (-1 : Int32)) hx hb dX12_wayDays_19 (by decide) ?_
    rw [hQ]
    exact W.iret (v := (-1 : Int32)) hx hb hr (fun t9 ht9 hW9 => ⟨⟨(-1 : Int32), (nI 0), rfl, trivial, by rw [ht9]; exact hP, va_K.moved hW9.alike hK, hD⟩, hS.F ht9⟩) hS.2.2 dX12_wayDays_20
  · refine lv_aload_n hx hb dX12_wayDays_12 rfl (lv_at hl 0 rfl) ?_
    refine va_get (D := (dC, dI)) (ci := 12) (v := .int kwayDays) (C := RX12) (T := TX12) (N := 52) hx hb hts hin12 hown hK hP 0 rfl rfl 30 (by decide) (hts (.fieldLink RX12 139 "PorridgeSeaModel" "wayDays" "I") (List.mem_of_getElem? (i := 3) rfl)) (fun _ h9 => h9) rfl dX12_wayDays_13 ?_
    refine lv_goto (tgt := 20) hx hb dX12_wayDays_16 (by decide) ?_
    rw [hQ]
    exact W.iret (v := kwayDays) hx hb hr (fun t9 ht9 hW9 => ⟨⟨kwayDays, (nI 0), rfl, trivial, by rw [ht9]; exact hP, va_K.moved hW9.alike hK, hD⟩, hS.F ht9⟩) hS.2.2 dX12_wayDays_20
set_option maxRecDepth 20000 in
theorem lf_x_meetAt_1 (kmetMany : Nat) (x : Int32) (y1 : Int32) (iv_ko_7 : kmetMany ≤ 3) (f3 : y1.toInt = ((kmetMany : Nat) : Int) - ((1 : Nat) : Int)) (t6 : (nI 0).toInt ≤ x.toInt) (t7 : x.toInt ≤ y1.toInt) : 0 ≤ x.toInt ∧ x.toInt < ((3 : Nat) : Int) := by
  have b_x := ia_b x
  have b_y1 := ia_b y1
  try have k_0 := ia_n 0 (by first | decide | omega)
  try simp only [ia_lt, ia_le, ia_eq, ia_m1, ia_0, ia_1, ne_eq, true_and, and_true, false_and, and_false, or_false, false_or, or_true, true_or, not_true_eq_false, not_false_eq_true] at *
  all_goals omega
set_option maxRecDepth 20000 in
theorem lf_x_meetAt_2 (kmetMany : Nat) (kmetF : Nat → Int32) (x : Int32) (y1 : Int32) (n15 : Nat) (y18 : Int32) (iv_ko_7 : kmetMany ≤ 3) (f3 : y1.toInt = ((kmetMany : Nat) : Int) - ((1 : Nat) : Int)) (t6 : (nI 0).toInt ≤ x.toInt) (t7 : x.toInt ≤ y1.toInt) (h16 : n15 < 3) (e17 : x = nI n15) (e19 : y18 = kmetF n15) : n15 < 3 := by
  have b_x := ia_b x
  have b_y1 := ia_b y1
  have b_y18 := ia_b y18
  try have k_0 := ia_n 0 (by first | decide | omega)
  try have k_1 := ia_n n15 (by first | decide | omega)
  try simp only [ia_lt, ia_le, ia_eq, ia_m1, ia_0, ia_1, ne_eq, true_and, and_true, false_and, and_false, or_false, false_or, or_true, true_or, not_true_eq_false, not_false_eq_true] at *
  all_goals omega
set_option maxRecDepth 20000 in
theorem lf_x_meetAt_3 (kmetMany : Nat) (x : Int32) (y1 : Int32) (iv_ko_7 : kmetMany ≤ 3) (f3 : y1.toInt = ((kmetMany : Nat) : Int) - ((1 : Nat) : Int)) (t6 : (nI 0).toInt ≤ x.toInt) (t7 : x.toInt ≤ y1.toInt) : 0 ≤ x.toInt ∧ x.toInt < ((3 : Nat) : Int) := by
  have b_x := ia_b x
  have b_y1 := ia_b y1
  try have k_0 := ia_n 0 (by first | decide | omega)
  try simp only [ia_lt, ia_le, ia_eq, ia_m1, ia_0, ia_1, ne_eq, true_and, and_true, false_and, and_false, or_false, false_or, or_true, true_or, not_true_eq_false, not_false_eq_true] at *
  all_goals omega
set_option maxRecDepth 20000 in
theorem lf_x_meetAt_4 (kmetMany : Nat) (kmetF : Nat → Int32) (x : Int32) (y1 : Int32) (n22 : Nat) (y25 : Int32) (iv_ko_7 : kmetMany ≤ 3) (f3 : y1.toInt = ((kmetMany : Nat) : Int) - ((1 : Nat) : Int)) (t6 : (nI 0).toInt ≤ x.toInt) (t7 : x.toInt ≤ y1.toInt) (h23 : n22 < 3) (e24 : x = nI n22) (e26 : y25 = kmetF n22) : n22 < 3 := by
  have b_x := ia_b x
  have b_y1 := ia_b y1
  have b_y25 := ia_b y25
  try have k_0 := ia_n 0 (by first | decide | omega)
  try have k_1 := ia_n n22 (by first | decide | omega)
  try simp only [ia_lt, ia_le, ia_eq, ia_m1, ia_0, ia_1, ne_eq, true_and, and_true, false_and, and_false, or_false, false_or, or_true, true_or, not_true_eq_false, not_false_eq_true] at *
  all_goals omega
set_option maxRecDepth 20000 in
theorem lf_x_meetAt_5 (kmetMany : Nat) (x : Int32) (y1 : Int32) (iv_ko_7 : kmetMany ≤ 3) (f3 : y1.toInt = ((kmetMany : Nat) : Int) - ((1 : Nat) : Int)) (t6 : (nI 0).toInt ≤ x.toInt) (t7 : x.toInt ≤ y1.toInt) : 0 ≤ x.toInt ∧ x.toInt < ((3 : Nat) : Int) := by
  have b_x := ia_b x
  have b_y1 := ia_b y1
  try have k_0 := ia_n 0 (by first | decide | omega)
  try simp only [ia_lt, ia_le, ia_eq, ia_m1, ia_0, ia_1, ne_eq, true_and, and_true, false_and, and_false, or_false, false_or, or_true, true_or, not_true_eq_false, not_false_eq_true] at *
  all_goals omega
set_option maxRecDepth 20000 in
theorem lf_x_meetAt_6 (kmetMany : Nat) (kmetF : Nat → Int32) (x : Int32) (y1 : Int32) (n31 : Nat) (y34 : Int32) (iv_ko_7 : kmetMany ≤ 3) (f3 : y1.toInt = ((kmetMany : Nat) : Int) - ((1 : Nat) : Int)) (t6 : (nI 0).toInt ≤ x.toInt) (t7 : x.toInt ≤ y1.toInt) (h32 : n31 < 3) (e33 : x = nI n31) (e35 : y34 = kmetF n31) : n31 < 3 := by
  have b_x := ia_b x
  have b_y1 := ia_b y1
  have b_y34 := ia_b y34
  try have k_0 := ia_n 0 (by first | decide | omega)
  try have k_1 := ia_n n31 (by first | decide | omega)
  try simp only [ia_lt, ia_le, ia_eq, ia_m1, ia_0, ia_1, ne_eq, true_and, and_true, false_and, and_false, or_false, false_or, or_true, true_or, not_true_eq_false, not_false_eq_true] at *
  all_goals omega
set_option maxHeartbeats 4000000 in
set_option maxRecDepth 100000 in
theorem c_x_meetAt (l : Launch) (dC : Nat → ClassId) (dI : Nat → Nat → Nat) (ky : Nat → ClassId) (sz : Nat) (o : Nat) (kthrown : Int32) (ktape : Nat) (ktaped : Nat) (ksize : Nat) (klimit : Nat) (kto : Nat) (kfrom : Nat) (kkind : Int32) (knumber : Int32) (ksign : Int32) (kfault : Int32) (kplace : Int32) (kword : Int64) (ktold : Int32) (know : Nat) (kread : Nat) (kkept : Nat) (ksnaps : Nat) (kaside : Nat) (kname : Nat) (kreadName : Nat) (kkeptName : Nat) (kisKept : Nat) (konces : Nat) (ksnapMany : Nat) (khasCells : Int32) (kpoured : Nat) (kfar : Nat) (ksides : Nat) (ksideMany : Nat) (kwayDays : Int32) (khasWay : Int32) (klines : Nat) (kmet : Nat) (kmetMany : Nat) (ksunk : Nat) (ktrying : Nat) (ksunkMany : Nat) (ksending : Int32) (kfleets : Int32) (ktext : Nat) (ktexts : Nat) (kseed : Int32) (kline : Nat) (kwritten : Nat) (klineMany : Nat) (khasWritten : Int32) (knode : Nat) (knodes : Nat) (konesMany : Nat) (kwithin : Nat) (ktop : Nat) (kmetF : Nat → Int32) (x : Int32) (y : Int32) (iv_ko_0 : ktaped ≤ 940) (iv_ko_1 : ksize ≤ 940) (iv_ko_2 : klimit ≤ 900) (iv_ko_3 : kto ≤ ksize) (iv_ko_4 : kfrom ≤ 940) (iv_ko_5 : ksnapMany ≤ 8) (iv_ko_6 : ksideMany ≤ 36) (iv_ko_7 : kmetMany ≤ 3) (iv_ko_8 : ksunkMany ≤ 36) (iv_ko_9 : ktexts ≤ 64) (iv_ko_10 : klineMany ≤ 40) (iv_ko_11 : knodes ≤ 60) (iv_ko_12 : konesMany ≤ 20) (iv_ko_13 : kwithin ≤ 8) (iv_ko_14 : ktop ≤ 59) : Met l yX12_meetAt wsX12_meetAt ({ frames := 1, cells := 0, slots := 0, locals := 22 }) (PcU dC dI ky [.ref o, .int x, .int y] [(o, .inr (12, [.int kthrown, .ref ktape, .int (nI ktaped), .int (nI ksize), .int (nI klimit), .int (nI kto), .int (nI kfrom), .int kkind, .int knumber, .int ksign, .int kfault, .int kplace, .long kword, .int ktold, .ref know, .ref kread, .ref kkept, .ref ksnaps, .ref kaside, .ref kname, .ref kreadName, .ref kkeptName, .ref kisKept, .ref konces, .int (nI ksnapMany), .int khasCells, .ref kpoured, .ref kfar, .ref ksides, .int (nI ksideMany), .int kwayDays, .int khasWay, .ref klines, .ref kmet, .int (nI kmetMany), .ref ksunk, .ref ktrying, .int (nI ksunkMany), .int ksending, .int kfleets, .ref ktext, .int (nI ktexts), .int kseed, .ref kline, .ref kwritten, .int (nI klineMany), .int khasWritten, .ref knode, .int (nI knodes), .int (nI konesMany), .int (nI kwithin), .int (nI ktop)])), (kmet, .inl (ky 0, 3, .inl kmetF))] sz) (va_Qi (fun (r : Int32) (kthrownG : Int32) => True) (BU dC dI ky (fun (kthrownG : Int32) => [(o, .inr (12, [.int kthrownG, .ref ktape, .int (nI ktaped), .int (nI ksize), .int (nI klimit), .int (nI kto), .int (nI kfrom), .int kkind, .int knumber, .int ksign, .int kfault, .int kplace, .long kword, .int ktold, .ref know, .ref kread, .ref kkept, .ref ksnaps, .ref kaside, .ref kname, .ref kreadName, .ref kkeptName, .ref kisKept, .ref konces, .int (nI ksnapMany), .int khasCells, .ref kpoured, .ref kfar, .ref ksides, .int (nI ksideMany), .int kwayDays, .int khasWay, .ref klines, .ref kmet, .int (nI kmetMany), .ref ksunk, .ref ktrying, .int (nI ksunkMany), .int ksending, .int kfleets, .ref ktext, .int (nI ktexts), .int kseed, .ref kline, .ref kwritten, .int (nI klineMany), .int khasWritten, .ref knode, .int (nI knodes), .int (nI konesMany), .int (nI kwithin), .int (nI ktop)])), (kmet, .inl (ky 0, 3, .inl kmetF))]) (va_A [(o, .inr (12, [.int kthrown, .ref ktape, .int (nI ktaped), .int (nI ksize), .int (nI klimit), .int (nI kto), .int (nI kfrom), .int kkind, .int knumber, .int ksign, .int kfault, .int kplace, .long kword, .int ktold, .ref know, .ref kread, .ref kkept, .ref ksnaps, .ref kaside, .ref kname, .ref kreadName, .ref kkeptName, .ref kisKept, .ref konces, .int (nI ksnapMany), .int khasCells, .ref kpoured, .ref kfar, .ref ksides, .int (nI ksideMany), .int kwayDays, .int khasWay, .ref klines, .ref kmet, .int (nI kmetMany), .ref ksunk, .ref ktrying, .int (nI ksunkMany), .int ksending, .int kfleets, .ref ktext, .int (nI ktexts), .int kseed, .ref kline, .ref kwritten, .int (nI klineMany), .int khasWritten, .ref knode, .int (nI knodes), .int (nI konesMany), .int (nI kwithin), .int (nI ktop)])), (kmet, .inl (ky 0, 3, .inl kmetF))] sz)) (va_A [(o, .inr (12, [.int kthrown, .ref ktape, .int (nI ktaped), .int (nI ksize), .int (nI klimit), .int (nI kto), .int (nI kfrom), .int kkind, .int knumber, .int ksign, .int kfault, .int kplace, .long kword, .int ktold, .ref know, .ref kread, .ref kkept, .ref ksnaps, .ref kaside, .ref kname, .ref kreadName, .ref kkeptName, .ref kisKept, .ref konces, .int (nI ksnapMany), .int khasCells, .ref kpoured, .ref kfar, .ref ksides, .int (nI ksideMany), .int kwayDays, .int khasWay, .ref klines, .ref kmet, .int (nI kmetMany), .ref ksunk, .ref ktrying, .int (nI ksunkMany), .int ksending, .int kfleets, .ref ktext, .int (nI ktexts), .int kseed, .ref kline, .ref kwritten, .int (nI klineMany), .int khasWritten, .ref knode, .int (nI knodes), .int (nI konesMany), .int (nI kwithin), .int (nI ktop)])), (kmet, .inl (ky 0, 3, .inl kmetF))] sz)) 0 0 (va_A [(o, .inr (12, [.int kthrown, .ref ktape, .int (nI ktaped), .int (nI ksize), .int (nI klimit), .int (nI kto), .int (nI kfrom), .int kkind, .int knumber, .int ksign, .int kfault, .int kplace, .long kword, .int ktold, .ref know, .ref kread, .ref kkept, .ref ksnaps, .ref kaside, .ref kname, .ref kreadName, .ref kkeptName, .ref kisKept, .ref konces, .int (nI ksnapMany), .int khasCells, .ref kpoured, .ref kfar, .ref ksides, .int (nI ksideMany), .int kwayDays, .int khasWay, .ref klines, .ref kmet, .int (nI kmetMany), .ref ksunk, .ref ktrying, .int (nI ksunkMany), .int ksending, .int kfleets, .ref ktext, .int (nI ktexts), .int kseed, .ref kline, .ref kwritten, .int (nI klineMany), .int khasWritten, .ref knode, .int (nI knodes), .int (nI konesMany), .int (nI kwithin), .int (nI ktop)])), (kmet, .inl (ky 0, 3, .inl kmetF))] sz) := by
  refine Met.ofW (cc := cX12_meetAt) (maxL := 3) (ret := (some .int)) (by decide) rfl ?_
  intro p e s m args below meth c s₁ B hml hv
  obtain ⟨rfl, hsz, hP, hK, hD0⟩ := hv
  have hx := B.exec
  have hb := B.bytes
  have hr := B.returns
  have hts := atoms_spec (ws := wsX12_meetAt) B.pre
  have hown : s.vm.findClass RX12 = some m.cls := findClass_of_methodNamed B.named
  have hlocks := B.notSynchronized
  have hin12 : ∀ w ∈ u_ws RX12 TX12 52, w ∈ wsX12_meetAt := by decide +kernel
  subst hsz
  have hD := hD0.self (sz := s.heap.size)
  generalize hAe : va_A [(o, .inr (12, [.int kthrown, .ref ktape, .int (nI ktaped), .int (nI ksize), .int (nI klimit), .int (nI kto), .int (nI kfrom), .int kkind, .int knumber, .int ksign, .int kfault, .int kplace, .long kword, .int ktold, .ref know, .ref kread, .ref kkept, .ref ksnaps, .ref kaside, .ref kname, .ref kreadName, .ref kkeptName, .ref kisKept, .ref konces, .int (nI ksnapMany), .int khasCells, .ref kpoured, .ref kfar, .ref ksides, .int (nI ksideMany), .int kwayDays, .int khasWay, .ref klines, .ref kmet, .int (nI kmetMany), .ref ksunk, .ref ktrying, .int (nI ksunkMany), .int ksending, .int kfleets, .ref ktext, .int (nI ktexts), .int kseed, .ref kline, .ref kwritten, .int (nI klineMany), .int khasWritten, .ref knode, .int (nI knodes), .int (nI konesMany), .int (nI kwithin), .int (nI ktop)])), (kmet, .inl (ky 0, 3, .inl kmetF))] s.heap.size = A at hD ⊢
  have hA : ∀ q : Nat, s.heap.size ≤ q → A q := fun q h => by rw [← hAe]; exact Or.inr h
  have hS : va_S A s.heap s.heap [] := va_S.rf
  have hl := lv_entry ([.ref o, .int x, .int y]) (n := 3) (Nat.le_of_ble_eq_true rfl)
  rw [lg_entry_eq]
  generalize (lg_sl ([.ref o, .int x, .int y]) ++ List.replicate (3 - (lg_sl ([.ref o, .int x, .int y])).length) Slot.unset).toArray = ls at hl ⊢
  have hl : lv_has ls 3 [(0, .ref o), (1, .int x), (2, .int y)] := hl
  refine q_name (fun Q hQ => ?_)
  generalize ([.ref o, .int x, .int y] : List Value).toArray = args at hts hQ ⊢
  refine lv_aload_n hx hb dX12_meetAt_0 rfl (lv_at hl 0 rfl) ?_
  refine lv_iconst (v := nI 0) hx hb dX12_meetAt_1 (by decide) ?_
  refine va_put (D := (dC, dI)) (ci := 12) (v := .int (nI 0)) (ty := .int) (C := RX12) (T := TX12) (N := 52) hx hb hts hin12 tyX12 tyX12_ok nmX12 hown hK hP hD hS 0 rfl rfl 0 (by decide) (hts (.fieldLink RX12 1 "PorridgeSeaModel" "thrown" "I") (List.mem_of_getElem? (i := 1) rfl)) (fun _ h9 => h9) rfl (by decide +kernel) rfl rfl (Nat.le_of_ble_eq_true rfl) dX12_meetAt_2 (fun H locs hP hD hS => ?_)
  have hP : va_P (dC, dI) vwCl [(o, .inr (12, [.int (nI 0), .ref ktape, .int (nI ktaped), .int (nI ksize), .int (nI klimit), .int (nI kto), .int (nI kfrom), .int kkind, .int knumber, .int ksign, .int kfault, .int kplace, .long kword, .int ktold, .ref know, .ref kread, .ref kkept, .ref ksnaps, .ref kaside, .ref kname, .ref kreadName, .ref kkeptName, .ref kisKept, .ref konces, .int (nI ksnapMany), .int khasCells, .ref kpoured, .ref kfar, .ref ksides, .int (nI ksideMany), .int kwayDays, .int khasWay, .ref klines, .ref kmet, .int (nI kmetMany), .ref ksunk, .ref ktrying, .int (nI ksunkMany), .int ksending, .int kfleets, .ref ktext, .int (nI ktexts), .int kseed, .ref kline, .ref kwritten, .int (nI klineMany), .int khasWritten, .ref knode, .int (nI knodes), .int (nI konesMany), .int (nI kwithin), .int (nI ktop)])), (kmet, .inl (ky 0, 3, .inl kmetF))] H := hP
  have hD : va_D A [(o, .inr (12, [.int (nI 0), .ref ktape, .int (nI ktaped), .int (nI ksize), .int (nI klimit), .int (nI kto), .int (nI kfrom), .int kkind, .int knumber, .int ksign, .int kfault, .int kplace, .long kword, .int ktold, .ref know, .ref kread, .ref kkept, .ref ksnaps, .ref kaside, .ref kname, .ref kreadName, .ref kkeptName, .ref kisKept, .ref konces, .int (nI ksnapMany), .int khasCells, .ref kpoured, .ref kfar, .ref ksides, .int (nI ksideMany), .int kwayDays, .int khasWay, .ref klines, .ref kmet, .int (nI kmetMany), .ref ksunk, .ref ktrying, .int (nI ksunkMany), .int ksending, .int kfleets, .ref ktext, .int (nI ktexts), .int kseed, .ref kline, .ref kwritten, .int (nI klineMany), .int khasWritten, .ref knode, .int (nI knodes), .int (nI konesMany), .int (nI kwithin), .int (nI ktop)])), (kmet, .inl (ky 0, 3, .inl kmetF))] := hD
  refine lv_iload_n hx hb dX12_meetAt_5 rfl (lv_at hl 1 rfl) ?_
  refine lv_iconst (v := nI 0) hx hb dX12_meetAt_6 (by decide) ?_
  refine lv_aload_n hx hb dX12_meetAt_7 rfl (lv_at hl 0 rfl) ?_
  refine va_get (D := (dC, dI)) (ci := 12) (v := .int (nI kmetMany)) (C := RX12) (T := TX12) (N := 52) hx hb hts hin12 hown hK hP 0 rfl rfl 34 (by decide) (hts (.fieldLink RX12 339 "PorridgeSeaModel" "metMany" "I") (List.mem_of_getElem? (i := 2) rfl)) (fun _ h9 => h9) rfl dX12_meetAt_8 ?_
  refine lv_iconst (v := nI 1) hx hb dX12_meetAt_11 (by decide) ?_
  refine lv_isub hx hb dX12_meetAt_12 ?_
  refine lv_topi (fun y1 e2 => ?_)
  have f3 : y1.toInt = ((kmetMany : Nat) : Int) - ((1 : Nat) : Int) := by rw [e2]; exact ia_sub _ _ (by omega) (by omega)
  refine vp_callSi (W.runS (As := [.int x, .int (nI 0), .int y1]) (rest := []) ⟨hx, hb, hml, hown, hts⟩ (c_x_isIn l dC dI ky x (nI 0) y1) (va_cwS 3 hts gX12_meetAt_X12_isIn rfl rfl rfl (by decide +kernel) ⟨(Nat.le_of_ble_eq_true rfl), (Nat.le_of_ble_eq_true rfl)⟩) (pre_PS hK hP [] rfl) rfl rfl hl.1 rfl (lv_room (Nat.le_of_ble_eq_true rfl)) dX12_meetAt_13 ⟨(Nat.le_of_ble_eq_true rfl), (Nat.le_of_ble_eq_true rfl)⟩) (fun r4 p5 => ?_)
  rcases p5 with ⟨rfl, t6, t7⟩ | ⟨rfl, t8⟩
  · refine lv_if_ne (tgt := 21) hx hb dX12_meetAt_16 (by decide) (fun c9 => ?_) (fun c9 => absurd c9 (by decide))
    refine lv_iload_n hx hb dX12_meetAt_21 rfl (lv_at hl 2 rfl) ?_
    rcases sw_0_2 y with c11 | c12 | c13 | c14
    · refine lv_tableOut (tgt := 79) hx hb dX12_meetAt_22 c11 (by decide) ?_
      refine lv_iconst (v := (-1 : Int32)) hx hb dX12_meetAt_79 (by decide) ?_
      rw [hQ]
      exact W.iret (v := (-1 : Int32)) hx hb hr (fun t9 ht9 hW9 => ⟨⟨(-1 : Int32), (nI 0), rfl, trivial, by rw [ht9]; exact hP, va_K.moved hW9.alike hK, hD⟩, hS.F ht9⟩) hS.2.2 dX12_meetAt_80
    · refine r_ti (nI 0) c12 ?_
      rw [c12] at hl
      refine lv_tableIn (off := 26) (tgt := 48) hx hb dX12_meetAt_22 (by decide) (by decide) rfl (by decide) ?_
      refine lv_aload_n hx hb dX12_meetAt_48 rfl (lv_at hl 0 rfl) ?_
      refine va_get (D := (dC, dI)) (ci := 12) (v := .ref kmet) (C := RX12) (T := TX12) (N := 52) hx hb hts hin12 hown hK hP 0 rfl rfl 33 (by decide) (hts (.fieldLink RX12 145 "PorridgeSeaModel" "met" "[I") (List.mem_of_getElem? (i := 3) rfl)) (fun _ h9 => h9) rfl dX12_meetAt_49 ?_
      refine lv_iload_n hx hb dX12_meetAt_52 rfl (lv_at hl 1 rfl) ?_
      obtain ⟨n15, h16, e17⟩ := nat_of x 3 (by decide) (lf_x_meetAt_1 kmetMany x y1 iv_ko_7 f3 t6 t7)
      rw [e17]
      obtain ⟨y18, e19⟩ : ∃ z9, z9 = kmetF n15 := ⟨_, rfl⟩
      refine r_iald hx hb hK hP 1 rfl n15 (lf_x_meetAt_2 kmetMany kmetF x y1 n15 y18 iv_ko_7 f3 t6 t7 h16 e17 e19) (by decide) y18 e19.symm dX12_meetAt_53 ?_
      refine lv_bipush (v := nI 12) hx hb dX12_meetAt_54 (by decide) ?_
      refine lv_idiv hx hb dX12_meetAt_56 (by decide) ?_
      refine lv_topi (fun y20 e21 => ?_)
      rw [hQ]
      exact W.iret (v := y20) hx hb hr (fun t9 ht9 hW9 => ⟨⟨y20, (nI 0), rfl, trivial, by rw [ht9]; exact hP, va_K.moved hW9.alike hK, hD⟩, hS.F ht9⟩) hS.2.2 dX12_meetAt_57
    · refine r_ti (nI 1) c13 ?_
      rw [c13] at hl
      refine lv_tableIn (off := 36) (tgt := 58) hx hb dX12_meetAt_22 (by decide) (by decide) rfl (by decide) ?_
      refine lv_aload_n hx hb dX12_meetAt_58 rfl (lv_at hl 0 rfl) ?_
      refine va_get (D := (dC, dI)) (ci := 12) (v := .ref kmet) (C := RX12) (T := TX12) (N := 52) hx hb hts hin12 hown hK hP 0 rfl rfl 33 (by decide) (hts (.fieldLink RX12 145 "PorridgeSeaModel" "met" "[I") (List.mem_of_getElem? (i := 3) rfl)) (fun _ h9 => h9) rfl dX12_meetAt_59 ?_
      refine lv_iload_n hx hb dX12_meetAt_62 rfl (lv_at hl 1 rfl) ?_
      obtain ⟨n22, h23, e24⟩ := nat_of x 3 (by decide) (lf_x_meetAt_3 kmetMany x y1 iv_ko_7 f3 t6 t7)
      rw [e24]
      obtain ⟨y25, e26⟩ : ∃ z9, z9 = kmetF n22 := ⟨_, rfl⟩
      refine r_iald hx hb hK hP 1 rfl n22 (lf_x_meetAt_4 kmetMany kmetF x y1 n22 y25 iv_ko_7 f3 t6 t7 h23 e24 e26) (by decide) y25 e26.symm dX12_meetAt_63 ?_
      refine lv_bipush (v := nI 12) hx hb dX12_meetAt_64 (by decide) ?_
      refine lv_irem hx hb dX12_meetAt_66 (by decide) ?_
      refine lv_topi (fun y27 e28 => ?_)
      refine lv_iconst (v := nI 2) hx hb dX12_meetAt_67 (by decide) ?_
      refine lv_idiv hx hb dX12_meetAt_68 (by decide) ?_
      refine lv_topi (fun y29 e30 => ?_)
      rw [hQ]
      exact W.iret (v := y29) hx hb hr (fun t9 ht9 hW9 => ⟨⟨y29, (nI 0), rfl, trivial, by rw [ht9]; exact hP, va_K.moved hW9.alike hK, hD⟩, hS.F ht9⟩) hS.2.2 dX12_meetAt_69
    · refine r_ti (nI 2) c14 ?_
      rw [c14] at hl
      refine lv_tableIn (off := 48) (tgt := 70) hx hb dX12_meetAt_22 (by decide) (by decide) rfl (by decide) ?_
      refine lv_aload_n hx hb dX12_meetAt_70 rfl (lv_at hl 0 rfl) ?_
      refine va_get (D := (dC, dI)) (ci := 12) (v := .ref kmet) (C := RX12) (T := TX12) (N := 52) hx hb hts hin12 hown hK hP 0 rfl rfl 33 (by decide) (hts (.fieldLink RX12 145 "PorridgeSeaModel" "met" "[I") (List.mem_of_getElem? (i := 3) rfl)) (fun _ h9 => h9) rfl dX12_meetAt_71 ?_
      refine lv_iload_n hx hb dX12_meetAt_74 rfl (lv_at hl 1 rfl) ?_
      obtain ⟨n31, h32, e33⟩ := nat_of x 3 (by decide) (lf_x_meetAt_5 kmetMany x y1 iv_ko_7 f3 t6 t7)
      rw [e33]
      obtain ⟨y34, e35⟩ : ∃ z9, z9 = kmetF n31 := ⟨_, rfl⟩
      refine r_iald hx hb hK hP 1 rfl n31 (lf_x_meetAt_6 kmetMany kmetF x y1 n31 y34 iv_ko_7 f3 t6 t7 h32 e33 e35) (by decide) y34 e35.symm dX12_meetAt_75 ?_
      refine lv_iconst (v := nI 2) hx hb dX12_meetAt_76 (by decide) ?_
      refine lv_irem hx hb dX12_meetAt_77 (by decide) ?_
      refine lv_topi (fun y36 e37 => ?_)
      rw [hQ]
      exact W.iret (v := y36) hx hb hr (fun t9 ht9 hW9 => ⟨⟨y36, (nI 0), rfl, trivial, by rw [ht9]; exact hP, va_K.moved hW9.alike hK, hD⟩, hS.F ht9⟩) hS.2.2 dX12_meetAt_78
  · refine lv_if_ne (tgt := 21) hx hb dX12_meetAt_16 (by decide) (fun c38 => absurd c38 (by decide)) (fun c38 => ?_)
    refine lv_iconst (v := (-1 : Int32)) hx hb dX12_meetAt_19 (by decide) ?_
    rw [hQ]
    exact W.iret (v := (-1 : Int32)) hx hb hr (fun t9 ht9 hW9 => ⟨⟨(-1 : Int32), (nI 0), rfl, trivial, by rw [ht9]; exact hP, va_K.moved hW9.alike hK, hD⟩, hS.F ht9⟩) hS.2.2 dX12_meetAt_20
set_option maxRecDepth 20000 in
theorem lf_x_sunkAt_1 (ksunkMany : Nat) (x : Int32) (y1 : Int32) (iv_ko_8 : ksunkMany ≤ 36) (f3 : y1.toInt = ((ksunkMany : Nat) : Int) - ((1 : Nat) : Int)) (t6 : (nI 0).toInt ≤ x.toInt) (t7 : x.toInt ≤ y1.toInt) : 0 ≤ x.toInt ∧ x.toInt < ((36 : Nat) : Int) := by
  have b_x := ia_b x
  have b_y1 := ia_b y1
  try have k_0 := ia_n 0 (by first | decide | omega)
  try simp only [ia_lt, ia_le, ia_eq, ia_m1, ia_0, ia_1, ne_eq, true_and, and_true, false_and, and_false, or_false, false_or, or_true, true_or, not_true_eq_false, not_false_eq_true] at *
  all_goals omega
set_option maxRecDepth 20000 in
theorem lf_x_sunkAt_2 (ksunkMany : Nat) (ksunkF : Nat → Int32) (x : Int32) (y1 : Int32) (n10 : Nat) (y13 : Int32) (iv_ko_8 : ksunkMany ≤ 36) (ab_sunk : AB36 ksunkF) (f3 : y1.toInt = ((ksunkMany : Nat) : Int) - ((1 : Nat) : Int)) (t6 : (nI 0).toInt ≤ x.toInt) (t7 : x.toInt ≤ y1.toInt) (h11 : n10 < 36) (e12 : x = nI n10) (e14 : y13 = ksunkF n10) : n10 < 36 := by
  have b_x := ia_b x
  have b_y1 := ia_b y1
  have b_y13 := ia_b y13
  try have k_0 := ia_n 0 (by first | decide | omega)
  try have k_1 := ia_n n10 (by first | decide | omega)
  try simp only [ia_lt, ia_le, ia_eq, ia_m1, ia_0, ia_1, ne_eq, true_and, and_true, false_and, and_false, or_false, false_or, or_true, true_or, not_true_eq_false, not_false_eq_true] at *
  all_goals omega
set_option maxRecDepth 20000 in
theorem lf_x_sunkAt_3 (ksunkMany : Nat) (ksunkF : Nat → Int32) (x : Int32) (y1 : Int32) (n10 : Nat) (y13 : Int32) (iv_ko_8 : ksunkMany ≤ 36) (ab_sunk : AB36 ksunkF) (f3 : y1.toInt = ((ksunkMany : Nat) : Int) - ((1 : Nat) : Int)) (t6 : (nI 0).toInt ≤ x.toInt) (t7 : x.toInt ≤ y1.toInt) (h11 : n10 < 36) (e12 : x = nI n10) (e14 : y13 = ksunkF n10) : 0 ≤ n10 := by
  have b_x := ia_b x
  have b_y1 := ia_b y1
  have b_y13 := ia_b y13
  try have k_0 := ia_n 0 (by first | decide | omega)
  try have k_1 := ia_n n10 (by first | decide | omega)
  try simp only [ia_lt, ia_le, ia_eq, ia_m1, ia_0, ia_1, ne_eq, true_and, and_true, false_and, and_false, or_false, false_or, or_true, true_or, not_true_eq_false, not_false_eq_true] at *
  all_goals omega
set_option maxRecDepth 20000 in
theorem lf_x_sunkAt_4 (ksunkMany : Nat) (ksunkF : Nat → Int32) (x : Int32) (y1 : Int32) (n10 : Nat) (y13 : Int32) (iv_ko_8 : ksunkMany ≤ 36) (ab_sunk : AB36 ksunkF) (f3 : y1.toInt = ((ksunkMany : Nat) : Int) - ((1 : Nat) : Int)) (t6 : (nI 0).toInt ≤ x.toInt) (t7 : x.toInt ≤ y1.toInt) (h11 : n10 < 36) (e12 : x = nI n10) (e14 : y13 = ksunkF n10) : n10 < 36 := by
  have b_x := ia_b x
  have b_y1 := ia_b y1
  have b_y13 := ia_b y13
  try have k_0 := ia_n 0 (by first | decide | omega)
  try have k_1 := ia_n n10 (by first | decide | omega)
  try simp only [ia_lt, ia_le, ia_eq, ia_m1, ia_0, ia_1, ne_eq, true_and, and_true, false_and, and_false, or_false, false_or, or_true, true_or, not_true_eq_false, not_false_eq_true] at *
  all_goals omega
set_option maxHeartbeats 4000000 in
set_option maxRecDepth 100000 in
theorem c_x_sunkAt (l : Launch) (dC : Nat → ClassId) (dI : Nat → Nat → Nat) (ky : Nat → ClassId) (sz : Nat) (o : Nat) (kthrown : Int32) (ktape : Nat) (ktaped : Nat) (ksize : Nat) (klimit : Nat) (kto : Nat) (kfrom : Nat) (kkind : Int32) (knumber : Int32) (ksign : Int32) (kfault : Int32) (kplace : Int32) (kword : Int64) (ktold : Int32) (know : Nat) (kread : Nat) (kkept : Nat) (ksnaps : Nat) (kaside : Nat) (kname : Nat) (kreadName : Nat) (kkeptName : Nat) (kisKept : Nat) (konces : Nat) (ksnapMany : Nat) (khasCells : Int32) (kpoured : Nat) (kfar : Nat) (ksides : Nat) (ksideMany : Nat) (kwayDays : Int32) (khasWay : Int32) (klines : Nat) (kmet : Nat) (kmetMany : Nat) (ksunk : Nat) (ktrying : Nat) (ksunkMany : Nat) (ksending : Int32) (kfleets : Int32) (ktext : Nat) (ktexts : Nat) (kseed : Int32) (kline : Nat) (kwritten : Nat) (klineMany : Nat) (khasWritten : Int32) (knode : Nat) (knodes : Nat) (konesMany : Nat) (kwithin : Nat) (ktop : Nat) (ksunkF : Nat → Int32) (x : Int32) (iv_ko_0 : ktaped ≤ 940) (iv_ko_1 : ksize ≤ 940) (iv_ko_2 : klimit ≤ 900) (iv_ko_3 : kto ≤ ksize) (iv_ko_4 : kfrom ≤ 940) (iv_ko_5 : ksnapMany ≤ 8) (iv_ko_6 : ksideMany ≤ 36) (iv_ko_7 : kmetMany ≤ 3) (iv_ko_8 : ksunkMany ≤ 36) (iv_ko_9 : ktexts ≤ 64) (iv_ko_10 : klineMany ≤ 40) (iv_ko_11 : knodes ≤ 60) (iv_ko_12 : konesMany ≤ 20) (iv_ko_13 : kwithin ≤ 8) (iv_ko_14 : ktop ≤ 59) (ab_sunk : AB36 ksunkF) : Met l yX12_sunkAt wsX12_sunkAt ({ frames := 1, cells := 0, slots := 0, locals := 22 }) (PcU dC dI ky [.ref o, .int x] [(o, .inr (12, [.int kthrown, .ref ktape, .int (nI ktaped), .int (nI ksize), .int (nI klimit), .int (nI kto), .int (nI kfrom), .int kkind, .int knumber, .int ksign, .int kfault, .int kplace, .long kword, .int ktold, .ref know, .ref kread, .ref kkept, .ref ksnaps, .ref kaside, .ref kname, .ref kreadName, .ref kkeptName, .ref kisKept, .ref konces, .int (nI ksnapMany), .int khasCells, .ref kpoured, .ref kfar, .ref ksides, .int (nI ksideMany), .int kwayDays, .int khasWay, .ref klines, .ref kmet, .int (nI kmetMany), .ref ksunk, .ref ktrying, .int (nI ksunkMany), .int ksending, .int kfleets, .ref ktext, .int (nI ktexts), .int kseed, .ref kline, .ref kwritten, .int (nI klineMany), .int khasWritten, .ref knode, .int (nI knodes), .int (nI konesMany), .int (nI kwithin), .int (nI ktop)])), (ksunk, .inl (ky 0, 36, .inl ksunkF))] sz) (va_Qi (fun (r : Int32) (kthrownG : Int32) => True) (BU dC dI ky (fun (kthrownG : Int32) => [(o, .inr (12, [.int kthrownG, .ref ktape, .int (nI ktaped), .int (nI ksize), .int (nI klimit), .int (nI kto), .int (nI kfrom), .int kkind, .int knumber, .int ksign, .int kfault, .int kplace, .long kword, .int ktold, .ref know, .ref kread, .ref kkept, .ref ksnaps, .ref kaside, .ref kname, .ref kreadName, .ref kkeptName, .ref kisKept, .ref konces, .int (nI ksnapMany), .int khasCells, .ref kpoured, .ref kfar, .ref ksides, .int (nI ksideMany), .int kwayDays, .int khasWay, .ref klines, .ref kmet, .int (nI kmetMany), .ref ksunk, .ref ktrying, .int (nI ksunkMany), .int ksending, .int kfleets, .ref ktext, .int (nI ktexts), .int kseed, .ref kline, .ref kwritten, .int (nI klineMany), .int khasWritten, .ref knode, .int (nI knodes), .int (nI konesMany), .int (nI kwithin), .int (nI ktop)])), (ksunk, .inl (ky 0, 36, .inl ksunkF))]) (va_A [(o, .inr (12, [.int kthrown, .ref ktape, .int (nI ktaped), .int (nI ksize), .int (nI klimit), .int (nI kto), .int (nI kfrom), .int kkind, .int knumber, .int ksign, .int kfault, .int kplace, .long kword, .int ktold, .ref know, .ref kread, .ref kkept, .ref ksnaps, .ref kaside, .ref kname, .ref kreadName, .ref kkeptName, .ref kisKept, .ref konces, .int (nI ksnapMany), .int khasCells, .ref kpoured, .ref kfar, .ref ksides, .int (nI ksideMany), .int kwayDays, .int khasWay, .ref klines, .ref kmet, .int (nI kmetMany), .ref ksunk, .ref ktrying, .int (nI ksunkMany), .int ksending, .int kfleets, .ref ktext, .int (nI ktexts), .int kseed, .ref kline, .ref kwritten, .int (nI klineMany), .int khasWritten, .ref knode, .int (nI knodes), .int (nI konesMany), .int (nI kwithin), .int (nI ktop)])), (ksunk, .inl (ky 0, 36, .inl ksunkF))] sz)) (va_A [(o, .inr (12, [.int kthrown, .ref ktape, .int (nI ktaped), .int (nI ksize), .int (nI klimit), .int (nI kto), .int (nI kfrom), .int kkind, .int knumber, .int ksign, .int kfault, .int kplace, .long kword, .int ktold, .ref know, .ref kread, .ref kkept, .ref ksnaps, .ref kaside, .ref kname, .ref kreadName, .ref kkeptName, .ref kisKept, .ref konces, .int (nI ksnapMany), .int khasCells, .ref kpoured, .ref kfar, .ref ksides, .int (nI ksideMany), .int kwayDays, .int khasWay, .ref klines, .ref kmet, .int (nI kmetMany), .ref ksunk, .ref ktrying, .int (nI ksunkMany), .int ksending, .int kfleets, .ref ktext, .int (nI ktexts), .int kseed, .ref kline, .ref kwritten, .int (nI klineMany), .int khasWritten, .ref knode, .int (nI knodes), .int (nI konesMany), .int (nI kwithin), .int (nI ktop)])), (ksunk, .inl (ky 0, 36, .inl ksunkF))] sz)) 0 0 (va_A [(o, .inr (12, [.int kthrown, .ref ktape, .int (nI ktaped), .int (nI ksize), .int (nI klimit), .int (nI kto), .int (nI kfrom), .int kkind, .int knumber, .int ksign, .int kfault, .int kplace, .long kword, .int ktold, .ref know, .ref kread, .ref kkept, .ref ksnaps, .ref kaside, .ref kname, .ref kreadName, .ref kkeptName, .ref kisKept, .ref konces, .int (nI ksnapMany), .int khasCells, .ref kpoured, .ref kfar, .ref ksides, .int (nI ksideMany), .int kwayDays, .int khasWay, .ref klines, .ref kmet, .int (nI kmetMany), .ref ksunk, .ref ktrying, .int (nI ksunkMany), .int ksending, .int kfleets, .ref ktext, .int (nI ktexts), .int kseed, .ref kline, .ref kwritten, .int (nI klineMany), .int khasWritten, .ref knode, .int (nI knodes), .int (nI konesMany), .int (nI kwithin), .int (nI ktop)])), (ksunk, .inl (ky 0, 36, .inl ksunkF))] sz) := by
  refine Met.ofW (cc := cX12_sunkAt) (maxL := 2) (ret := (some .int)) (by decide) rfl ?_
  intro p e s m args below meth c s₁ B hml hv
  obtain ⟨rfl, hsz, hP, hK, hD0⟩ := hv
  have hx := B.exec
  have hb := B.bytes
  have hr := B.returns
  have hts := atoms_spec (ws := wsX12_sunkAt) B.pre
  have hown : s.vm.findClass RX12 = some m.cls := findClass_of_methodNamed B.named
  have hlocks := B.notSynchronized
  have hin12 : ∀ w ∈ u_ws RX12 TX12 52, w ∈ wsX12_sunkAt := by decide +kernel
  subst hsz
  have hD := hD0.self (sz := s.heap.size)
  generalize hAe : va_A [(o, .inr (12, [.int kthrown, .ref ktape, .int (nI ktaped), .int (nI ksize), .int (nI klimit), .int (nI kto), .int (nI kfrom), .int kkind, .int knumber, .int ksign, .int kfault, .int kplace, .long kword, .int ktold, .ref know, .ref kread, .ref kkept, .ref ksnaps, .ref kaside, .ref kname, .ref kreadName, .ref kkeptName, .ref kisKept, .ref konces, .int (nI ksnapMany), .int khasCells, .ref kpoured, .ref kfar, .ref ksides, .int (nI ksideMany), .int kwayDays, .int khasWay, .ref klines, .ref kmet, .int (nI kmetMany), .ref ksunk, .ref ktrying, .int (nI ksunkMany), .int ksending, .int kfleets, .ref ktext, .int (nI ktexts), .int kseed, .ref kline, .ref kwritten, .int (nI klineMany), .int khasWritten, .ref knode, .int (nI knodes), .int (nI konesMany), .int (nI kwithin), .int (nI ktop)])), (ksunk, .inl (ky 0, 36, .inl ksunkF))] s.heap.size = A at hD ⊢
  have hA : ∀ q : Nat, s.heap.size ≤ q → A q := fun q h => by rw [← hAe]; exact Or.inr h
  have hS : va_S A s.heap s.heap [] := va_S.rf
  have hl := lv_entry ([.ref o, .int x]) (n := 2) (Nat.le_of_ble_eq_true rfl)
  rw [lg_entry_eq]
  generalize (lg_sl ([.ref o, .int x]) ++ List.replicate (2 - (lg_sl ([.ref o, .int x])).length) Slot.unset).toArray = ls at hl ⊢
  have hl : lv_has ls 2 [(0, .ref o), (1, .int x)] := hl
  refine q_name (fun Q hQ => ?_)
  generalize ([.ref o, .int x] : List Value).toArray = args at hts hQ ⊢
  refine lv_aload_n hx hb dX12_sunkAt_0 rfl (lv_at hl 0 rfl) ?_
  refine lv_iconst (v := nI 0) hx hb dX12_sunkAt_1 (by decide) ?_
  refine va_put (D := (dC, dI)) (ci := 12) (v := .int (nI 0)) (ty := .int) (C := RX12) (T := TX12) (N := 52) hx hb hts hin12 tyX12 tyX12_ok nmX12 hown hK hP hD hS 0 rfl rfl 0 (by decide) (hts (.fieldLink RX12 1 "PorridgeSeaModel" "thrown" "I") (List.mem_of_getElem? (i := 1) rfl)) (fun _ h9 => h9) rfl (by decide +kernel) rfl rfl (Nat.le_of_ble_eq_true rfl) dX12_sunkAt_2 (fun H locs hP hD hS => ?_)
  have hP : va_P (dC, dI) vwCl [(o, .inr (12, [.int (nI 0), .ref ktape, .int (nI ktaped), .int (nI ksize), .int (nI klimit), .int (nI kto), .int (nI kfrom), .int kkind, .int knumber, .int ksign, .int kfault, .int kplace, .long kword, .int ktold, .ref know, .ref kread, .ref kkept, .ref ksnaps, .ref kaside, .ref kname, .ref kreadName, .ref kkeptName, .ref kisKept, .ref konces, .int (nI ksnapMany), .int khasCells, .ref kpoured, .ref kfar, .ref ksides, .int (nI ksideMany), .int kwayDays, .int khasWay, .ref klines, .ref kmet, .int (nI kmetMany), .ref ksunk, .ref ktrying, .int (nI ksunkMany), .int ksending, .int kfleets, .ref ktext, .int (nI ktexts), .int kseed, .ref kline, .ref kwritten, .int (nI klineMany), .int khasWritten, .ref knode, .int (nI knodes), .int (nI konesMany), .int (nI kwithin), .int (nI ktop)])), (ksunk, .inl (ky 0, 36, .inl ksunkF))] H := hP
  have hD : va_D A [(o, .inr (12, [.int (nI 0), .ref ktape, .int (nI ktaped), .int (nI ksize), .int (nI klimit), .int (nI kto), .int (nI kfrom), .int kkind, .int knumber, .int ksign, .int kfault, .int kplace, .long kword, .int ktold, .ref know, .ref kread, .ref kkept, .ref ksnaps, .ref kaside, .ref kname, .ref kreadName, .ref kkeptName, .ref kisKept, .ref konces, .int (nI ksnapMany), .int khasCells, .ref kpoured, .ref kfar, .ref ksides, .int (nI ksideMany), .int kwayDays, .int khasWay, .ref klines, .ref kmet, .int (nI kmetMany), .ref ksunk, .ref ktrying, .int (nI ksunkMany), .int ksending, .int kfleets, .ref ktext, .int (nI ktexts), .int kseed, .ref kline, .ref kwritten, .int (nI klineMany), .int khasWritten, .ref knode, .int (nI knodes), .int (nI konesMany), .int (nI kwithin), .int (nI ktop)])), (ksunk, .inl (ky 0, 36, .inl ksunkF))] := hD
  refine lv_iload_n hx hb dX12_sunkAt_5 rfl (lv_at hl 1 rfl) ?_
  refine lv_iconst (v := nI 0) hx hb dX12_sunkAt_6 (by decide) ?_
  refine lv_aload_n hx hb dX12_sunkAt_7 rfl (lv_at hl 0 rfl) ?_
  refine va_get (D := (dC, dI)) (ci := 12) (v := .int (nI ksunkMany)) (C := RX12) (T := TX12) (N := 52) hx hb hts hin12 hown hK hP 0 rfl rfl 37 (by decide) (hts (.fieldLink RX12 342 "PorridgeSeaModel" "sunkMany" "I") (List.mem_of_getElem? (i := 2) rfl)) (fun _ h9 => h9) rfl dX12_sunkAt_8 ?_
  refine lv_iconst (v := nI 1) hx hb dX12_sunkAt_11 (by decide) ?_
  refine lv_isub hx hb dX12_sunkAt_12 ?_
  refine lv_topi (fun y1 e2 => ?_)
  have f3 : y1.toInt = ((ksunkMany : Nat) : Int) - ((1 : Nat) : Int) := by rw [e2]; exact ia_sub _ _ (by omega) (by omega)
  refine vp_callSi (W.runS (As := [.int x, .int (nI 0), .int y1]) (rest := []) ⟨hx, hb, hml, hown, hts⟩ (c_x_isIn l dC dI ky x (nI 0) y1) (va_cwS 3 hts gX12_sunkAt_X12_isIn rfl rfl rfl (by decide +kernel) ⟨(Nat.le_of_ble_eq_true rfl), (Nat.le_of_ble_eq_true rfl)⟩) (pre_PS hK hP [] rfl) rfl rfl hl.1 rfl (lv_room (Nat.le_of_ble_eq_true rfl)) dX12_sunkAt_13 ⟨(Nat.le_of_ble_eq_true rfl), (Nat.le_of_ble_eq_true rfl)⟩) (fun r4 p5 => ?_)
  rcases p5 with ⟨rfl, t6, t7⟩ | ⟨rfl, t8⟩
  · refine lv_if_eq (tgt := 28) hx hb dX12_sunkAt_16 (by decide) (fun c9 => absurd c9 (by decide)) (fun c9 => ?_)
    refine lv_aload_n hx hb dX12_sunkAt_19 rfl (lv_at hl 0 rfl) ?_
    refine va_get (D := (dC, dI)) (ci := 12) (v := .ref ksunk) (C := RX12) (T := TX12) (N := 52) hx hb hts hin12 hown hK hP 0 rfl rfl 35 (by decide) (hts (.fieldLink RX12 148 "PorridgeSeaModel" "sunk" "[I") (List.mem_of_getElem? (i := 3) rfl)) (fun _ h9 => h9) rfl dX12_sunkAt_20 ?_
    refine lv_iload_n hx hb dX12_sunkAt_23 rfl (lv_at hl 1 rfl) ?_
    obtain ⟨n10, h11, e12⟩ := nat_of x 36 (by decide) (lf_x_sunkAt_1 ksunkMany x y1 iv_ko_8 f3 t6 t7)
    rw [e12]
    obtain ⟨y13, e14⟩ : ∃ z9, z9 = ksunkF n10 := ⟨_, rfl⟩
    refine r_iald hx hb hK hP 1 rfl n10 (lf_x_sunkAt_2 ksunkMany ksunkF x y1 n10 y13 iv_ko_8 ab_sunk f3 t6 t7 h11 e12 e14) (by decide) y13 e14.symm dX12_sunkAt_24 ?_
    obtain ⟨b15, b16⟩ : (0 : Int) ≤ y13.toInt ∧ y13.toInt ≤ 35 := by rw [e14]; exact ld_AB36_0 ab_sunk n10 (lf_x_sunkAt_3 ksunkMany ksunkF x y1 n10 y13 iv_ko_8 ab_sunk f3 t6 t7 h11 e12 e14) (lf_x_sunkAt_4 ksunkMany ksunkF x y1 n10 y13 iv_ko_8 ab_sunk f3 t6 t7 h11 e12 e14)
    refine lv_goto (tgt := 29) hx hb dX12_sunkAt_25 (by decide) ?_
    rw [hQ]
    exact W.iret (v := y13) hx hb hr (fun t9 ht9 hW9 => ⟨⟨y13, (nI 0), rfl, trivial, by rw [ht9]; exact hP, va_K.moved hW9.alike hK, hD⟩, hS.F ht9⟩) hS.2.2 dX12_sunkAt_29
  · refine lv_if_eq (tgt := 28) hx hb dX12_sunkAt_16 (by decide) (fun c17 => ?_) (fun c17 => absurd (by decide) c17)
    refine lv_iconst (v := (-1 : Int32)) hx hb dX12_sunkAt_28 (by decide) ?_
    rw [hQ]
    exact W.iret (v := (-1 : Int32)) hx hb hr (fun t9 ht9 hW9 => ⟨⟨(-1 : Int32), (nI 0), rfl, trivial, by rw [ht9]; exact hP, va_K.moved hW9.alike hK, hD⟩, hS.F ht9⟩) hS.2.2 dX12_sunkAt_29
set_option maxHeartbeats 4000000 in
set_option maxRecDepth 100000 in
theorem c_x_send (l : Launch) (dC : Nat → ClassId) (dI : Nat → Nat → Nat) (ky : Nat → ClassId) (sz : Nat) (o : Nat) (kthrown : Int32) (ktape : Nat) (ktaped : Nat) (ksize : Nat) (klimit : Nat) (kto : Nat) (kfrom : Nat) (kkind : Int32) (knumber : Int32) (ksign : Int32) (kfault : Int32) (kplace : Int32) (kword : Int64) (ktold : Int32) (know : Nat) (kread : Nat) (kkept : Nat) (ksnaps : Nat) (kaside : Nat) (kname : Nat) (kreadName : Nat) (kkeptName : Nat) (kisKept : Nat) (konces : Nat) (ksnapMany : Nat) (khasCells : Int32) (kpoured : Nat) (kfar : Nat) (ksides : Nat) (ksideMany : Nat) (kwayDays : Int32) (khasWay : Int32) (klines : Nat) (kmet : Nat) (kmetMany : Nat) (ksunk : Nat) (ktrying : Nat) (ksunkMany : Nat) (ksending : Int32) (kfleets : Int32) (ktext : Nat) (ktexts : Nat) (kseed : Int32) (kline : Nat) (kwritten : Nat) (klineMany : Nat) (khasWritten : Int32) (knode : Nat) (knodes : Nat) (konesMany : Nat) (kwithin : Nat) (ktop : Nat) (iv_ko_0 : ktaped ≤ 940) (iv_ko_1 : ksize ≤ 940) (iv_ko_2 : klimit ≤ 900) (iv_ko_3 : kto ≤ ksize) (iv_ko_4 : kfrom ≤ 940) (iv_ko_5 : ksnapMany ≤ 8) (iv_ko_6 : ksideMany ≤ 36) (iv_ko_7 : kmetMany ≤ 3) (iv_ko_8 : ksunkMany ≤ 36) (iv_ko_9 : ktexts ≤ 64) (iv_ko_10 : klineMany ≤ 40) (iv_ko_11 : knodes ≤ 60) (iv_ko_12 : konesMany ≤ 20) (iv_ko_13 : kwithin ≤ 8) (iv_ko_14 : ktop ≤ 59) : Met l yX12_send wsX12_send ({ frames := 0, cells := 0, slots := 0, locals := 0 }) (PcU dC dI ky [.ref o] [(o, .inr (12, [.int kthrown, .ref ktape, .int (nI ktaped), .int (nI ksize), .int (nI klimit), .int (nI kto), .int (nI kfrom), .int kkind, .int knumber, .int ksign, .int kfault, .int kplace, .long kword, .int ktold, .ref know, .ref kread, .ref kkept, .ref ksnaps, .ref kaside, .ref kname, .ref kreadName, .ref kkeptName, .ref kisKept, .ref konces, .int (nI ksnapMany), .int khasCells, .ref kpoured, .ref kfar, .ref ksides, .int (nI ksideMany), .int kwayDays, .int khasWay, .ref klines, .ref kmet, .int (nI kmetMany), .ref ksunk, .ref ktrying, .int (nI ksunkMany), .int ksending, .int kfleets, .ref ktext, .int (nI ktexts), .int kseed, .ref kline, .ref kwritten, .int (nI klineMany), .int khasWritten, .ref knode, .int (nI knodes), .int (nI konesMany), .int (nI kwithin), .int (nI ktop)]))] sz) (va_Qi (fun (r : Int32) (kthrownG : Int32) => True) (BU dC dI ky (fun (kthrownG : Int32) => [(o, .inr (12, [.int kthrownG, .ref ktape, .int (nI ktaped), .int (nI ksize), .int (nI klimit), .int (nI kto), .int (nI kfrom), .int kkind, .int knumber, .int ksign, .int kfault, .int kplace, .long kword, .int ktold, .ref know, .ref kread, .ref kkept, .ref ksnaps, .ref kaside, .ref kname, .ref kreadName, .ref kkeptName, .ref kisKept, .ref konces, .int (nI ksnapMany), .int khasCells, .ref kpoured, .ref kfar, .ref ksides, .int (nI ksideMany), .int kwayDays, .int khasWay, .ref klines, .ref kmet, .int (nI kmetMany), .ref ksunk, .ref ktrying, .int (nI ksunkMany), .int ksending, .int kfleets, .ref ktext, .int (nI ktexts), .int kseed, .ref kline, .ref kwritten, .int (nI klineMany), .int khasWritten, .ref knode, .int (nI knodes), .int (nI konesMany), .int (nI kwithin), .int (nI ktop)]))]) (va_A [(o, .inr (12, [.int kthrown, .ref ktape, .int (nI ktaped), .int (nI ksize), .int (nI klimit), .int (nI kto), .int (nI kfrom), .int kkind, .int knumber, .int ksign, .int kfault, .int kplace, .long kword, .int ktold, .ref know, .ref kread, .ref kkept, .ref ksnaps, .ref kaside, .ref kname, .ref kreadName, .ref kkeptName, .ref kisKept, .ref konces, .int (nI ksnapMany), .int khasCells, .ref kpoured, .ref kfar, .ref ksides, .int (nI ksideMany), .int kwayDays, .int khasWay, .ref klines, .ref kmet, .int (nI kmetMany), .ref ksunk, .ref ktrying, .int (nI ksunkMany), .int ksending, .int kfleets, .ref ktext, .int (nI ktexts), .int kseed, .ref kline, .ref kwritten, .int (nI klineMany), .int khasWritten, .ref knode, .int (nI knodes), .int (nI konesMany), .int (nI kwithin), .int (nI ktop)]))] sz)) (va_A [(o, .inr (12, [.int kthrown, .ref ktape, .int (nI ktaped), .int (nI ksize), .int (nI klimit), .int (nI kto), .int (nI kfrom), .int kkind, .int knumber, .int ksign, .int kfault, .int kplace, .long kword, .int ktold, .ref know, .ref kread, .ref kkept, .ref ksnaps, .ref kaside, .ref kname, .ref kreadName, .ref kkeptName, .ref kisKept, .ref konces, .int (nI ksnapMany), .int khasCells, .ref kpoured, .ref kfar, .ref ksides, .int (nI ksideMany), .int kwayDays, .int khasWay, .ref klines, .ref kmet, .int (nI kmetMany), .ref ksunk, .ref ktrying, .int (nI ksunkMany), .int ksending, .int kfleets, .ref ktext, .int (nI ktexts), .int kseed, .ref kline, .ref kwritten, .int (nI klineMany), .int khasWritten, .ref knode, .int (nI knodes), .int (nI konesMany), .int (nI kwithin), .int (nI ktop)]))] sz)) 0 0 (va_A [(o, .inr (12, [.int kthrown, .ref ktape, .int (nI ktaped), .int (nI ksize), .int (nI klimit), .int (nI kto), .int (nI kfrom), .int kkind, .int knumber, .int ksign, .int kfault, .int kplace, .long kword, .int ktold, .ref know, .ref kread, .ref kkept, .ref ksnaps, .ref kaside, .ref kname, .ref kreadName, .ref kkeptName, .ref kisKept, .ref konces, .int (nI ksnapMany), .int khasCells, .ref kpoured, .ref kfar, .ref ksides, .int (nI ksideMany), .int kwayDays, .int khasWay, .ref klines, .ref kmet, .int (nI kmetMany), .ref ksunk, .ref ktrying, .int (nI ksunkMany), .int ksending, .int kfleets, .ref ktext, .int (nI ktexts), .int kseed, .ref kline, .ref kwritten, .int (nI klineMany), .int khasWritten, .ref knode, .int (nI knodes), .int (nI konesMany), .int (nI kwithin), .int (nI ktop)]))] sz) := by
  refine Met.ofW (cc := cX12_send) (maxL := 1) (ret := (some .int)) (by decide) rfl ?_
  intro p e s m args below meth c s₁ B hml hv
  obtain ⟨rfl, hsz, hP, hK, hD0⟩ := hv
  have hx := B.exec
  have hb := B.bytes
  have hr := B.returns
  have hts := atoms_spec (ws := wsX12_send) B.pre
  have hown : s.vm.findClass RX12 = some m.cls := findClass_of_methodNamed B.named
  have hlocks := B.notSynchronized
  have hin12 : ∀ w ∈ u_ws RX12 TX12 52, w ∈ wsX12_send := by decide +kernel
  subst hsz
  have hD := hD0.self (sz := s.heap.size)
  generalize hAe : va_A [(o, .inr (12, [.int kthrown, .ref ktape, .int (nI ktaped), .int (nI ksize), .int (nI klimit), .int (nI kto), .int (nI kfrom), .int kkind, .int knumber, .int ksign, .int kfault, .int kplace, .long kword, .int ktold, .ref know, .ref kread, .ref kkept, .ref ksnaps, .ref kaside, .ref kname, .ref kreadName, .ref kkeptName, .ref kisKept, .ref konces, .int (nI ksnapMany), .int khasCells, .ref kpoured, .ref kfar, .ref ksides, .int (nI ksideMany), .int kwayDays, .int khasWay, .ref klines, .ref kmet, .int (nI kmetMany), .ref ksunk, .ref ktrying, .int (nI ksunkMany), .int ksending, .int kfleets, .ref ktext, .int (nI ktexts), .int kseed, .ref kline, .ref kwritten, .int (nI klineMany), .int khasWritten, .ref knode, .int (nI knodes), .int (nI konesMany), .int (nI kwithin), .int (nI ktop)]))] s.heap.size = A at hD ⊢
  have hA : ∀ q : Nat, s.heap.size ≤ q → A q := fun q h => by rw [← hAe]; exact Or.inr h
  have hS : va_S A s.heap s.heap [] := va_S.rf
  have hl := lv_entry ([.ref o]) (n := 1) (Nat.le_of_ble_eq_true rfl)
  rw [lg_entry_eq]
  generalize (lg_sl ([.ref o]) ++ List.replicate (1 - (lg_sl ([.ref o])).length) Slot.unset).toArray = ls at hl ⊢
  have hl : lv_has ls 1 [(0, .ref o)] := hl
  refine q_name (fun Q hQ => ?_)
  generalize ([.ref o] : List Value).toArray = args at hts hQ ⊢
  refine lv_aload_n hx hb dX12_send_0 rfl (lv_at hl 0 rfl) ?_
  refine lv_iconst (v := nI 0) hx hb dX12_send_1 (by decide) ?_
  refine va_put (D := (dC, dI)) (ci := 12) (v := .int (nI 0)) (ty := .int) (C := RX12) (T := TX12) (N := 52) hx hb hts hin12 tyX12 tyX12_ok nmX12 hown hK hP hD hS 0 rfl rfl 0 (by decide) (hts (.fieldLink RX12 1 "PorridgeSeaModel" "thrown" "I") (List.mem_of_getElem? (i := 1) rfl)) (fun _ h9 => h9) rfl (by decide +kernel) rfl rfl (Nat.le_of_ble_eq_true rfl) dX12_send_2 (fun H locs hP hD hS => ?_)
  have hP : va_P (dC, dI) vwCl [(o, .inr (12, [.int (nI 0), .ref ktape, .int (nI ktaped), .int (nI ksize), .int (nI klimit), .int (nI kto), .int (nI kfrom), .int kkind, .int knumber, .int ksign, .int kfault, .int kplace, .long kword, .int ktold, .ref know, .ref kread, .ref kkept, .ref ksnaps, .ref kaside, .ref kname, .ref kreadName, .ref kkeptName, .ref kisKept, .ref konces, .int (nI ksnapMany), .int khasCells, .ref kpoured, .ref kfar, .ref ksides, .int (nI ksideMany), .int kwayDays, .int khasWay, .ref klines, .ref kmet, .int (nI kmetMany), .ref ksunk, .ref ktrying, .int (nI ksunkMany), .int ksending, .int kfleets, .ref ktext, .int (nI ktexts), .int kseed, .ref kline, .ref kwritten, .int (nI klineMany), .int khasWritten, .ref knode, .int (nI knodes), .int (nI konesMany), .int (nI kwithin), .int (nI ktop)]))] H := hP
  have hD : va_D A [(o, .inr (12, [.int (nI 0), .ref ktape, .int (nI ktaped), .int (nI ksize), .int (nI klimit), .int (nI kto), .int (nI kfrom), .int kkind, .int knumber, .int ksign, .int kfault, .int kplace, .long kword, .int ktold, .ref know, .ref kread, .ref kkept, .ref ksnaps, .ref kaside, .ref kname, .ref kreadName, .ref kkeptName, .ref kisKept, .ref konces, .int (nI ksnapMany), .int khasCells, .ref kpoured, .ref kfar, .ref ksides, .int (nI ksideMany), .int kwayDays, .int khasWay, .ref klines, .ref kmet, .int (nI kmetMany), .ref ksunk, .ref ktrying, .int (nI ksunkMany), .int ksending, .int kfleets, .ref ktext, .int (nI ktexts), .int kseed, .ref kline, .ref kwritten, .int (nI klineMany), .int khasWritten, .ref knode, .int (nI knodes), .int (nI konesMany), .int (nI kwithin), .int (nI ktop)]))] := hD
  refine lv_aload_n hx hb dX12_send_5 rfl (lv_at hl 0 rfl) ?_
  refine va_get (D := (dC, dI)) (ci := 12) (v := .int ksending) (C := RX12) (T := TX12) (N := 52) hx hb hts hin12 hown hK hP 0 rfl rfl 38 (by decide) (hts (.fieldLink RX12 154 "PorridgeSeaModel" "sending" "I") (List.mem_of_getElem? (i := 2) rfl)) (fun _ h9 => h9) rfl dX12_send_6 ?_
  rw [hQ]
  exact W.iret (v := ksending) hx hb hr (fun t9 ht9 hW9 => ⟨⟨ksending, (nI 0), rfl, trivial, by rw [ht9]; exact hP, va_K.moved hW9.alike hK, hD⟩, hS.F ht9⟩) hS.2.2 dX12_send_9
set_option maxHeartbeats 4000000 in
set_option maxRecDepth 100000 in
theorem c_x_fleets (l : Launch) (dC : Nat → ClassId) (dI : Nat → Nat → Nat) (ky : Nat → ClassId) (sz : Nat) (o : Nat) (kthrown : Int32) (ktape : Nat) (ktaped : Nat) (ksize : Nat) (klimit : Nat) (kto : Nat) (kfrom : Nat) (kkind : Int32) (knumber : Int32) (ksign : Int32) (kfault : Int32) (kplace : Int32) (kword : Int64) (ktold : Int32) (know : Nat) (kread : Nat) (kkept : Nat) (ksnaps : Nat) (kaside : Nat) (kname : Nat) (kreadName : Nat) (kkeptName : Nat) (kisKept : Nat) (konces : Nat) (ksnapMany : Nat) (khasCells : Int32) (kpoured : Nat) (kfar : Nat) (ksides : Nat) (ksideMany : Nat) (kwayDays : Int32) (khasWay : Int32) (klines : Nat) (kmet : Nat) (kmetMany : Nat) (ksunk : Nat) (ktrying : Nat) (ksunkMany : Nat) (ksending : Int32) (kfleets : Int32) (ktext : Nat) (ktexts : Nat) (kseed : Int32) (kline : Nat) (kwritten : Nat) (klineMany : Nat) (khasWritten : Int32) (knode : Nat) (knodes : Nat) (konesMany : Nat) (kwithin : Nat) (ktop : Nat) (iv_ko_0 : ktaped ≤ 940) (iv_ko_1 : ksize ≤ 940) (iv_ko_2 : klimit ≤ 900) (iv_ko_3 : kto ≤ ksize) (iv_ko_4 : kfrom ≤ 940) (iv_ko_5 : ksnapMany ≤ 8) (iv_ko_6 : ksideMany ≤ 36) (iv_ko_7 : kmetMany ≤ 3) (iv_ko_8 : ksunkMany ≤ 36) (iv_ko_9 : ktexts ≤ 64) (iv_ko_10 : klineMany ≤ 40) (iv_ko_11 : knodes ≤ 60) (iv_ko_12 : konesMany ≤ 20) (iv_ko_13 : kwithin ≤ 8) (iv_ko_14 : ktop ≤ 59) : Met l yX12_fleets wsX12_fleets ({ frames := 0, cells := 0, slots := 0, locals := 0 }) (PcU dC dI ky [.ref o] [(o, .inr (12, [.int kthrown, .ref ktape, .int (nI ktaped), .int (nI ksize), .int (nI klimit), .int (nI kto), .int (nI kfrom), .int kkind, .int knumber, .int ksign, .int kfault, .int kplace, .long kword, .int ktold, .ref know, .ref kread, .ref kkept, .ref ksnaps, .ref kaside, .ref kname, .ref kreadName, .ref kkeptName, .ref kisKept, .ref konces, .int (nI ksnapMany), .int khasCells, .ref kpoured, .ref kfar, .ref ksides, .int (nI ksideMany), .int kwayDays, .int khasWay, .ref klines, .ref kmet, .int (nI kmetMany), .ref ksunk, .ref ktrying, .int (nI ksunkMany), .int ksending, .int kfleets, .ref ktext, .int (nI ktexts), .int kseed, .ref kline, .ref kwritten, .int (nI klineMany), .int khasWritten, .ref knode, .int (nI knodes), .int (nI konesMany), .int (nI kwithin), .int (nI ktop)]))] sz) (va_Qi (fun (r : Int32) (kthrownG : Int32) => True) (BU dC dI ky (fun (kthrownG : Int32) => [(o, .inr (12, [.int kthrownG, .ref ktape, .int (nI ktaped), .int (nI ksize), .int (nI klimit), .int (nI kto), .int (nI kfrom), .int kkind, .int knumber, .int ksign, .int kfault, .int kplace, .long kword, .int ktold, .ref know, .ref kread, .ref kkept, .ref ksnaps, .ref kaside, .ref kname, .ref kreadName, .ref kkeptName, .ref kisKept, .ref konces, .int (nI ksnapMany), .int khasCells, .ref kpoured, .ref kfar, .ref ksides, .int (nI ksideMany), .int kwayDays, .int khasWay, .ref klines, .ref kmet, .int (nI kmetMany), .ref ksunk, .ref ktrying, .int (nI ksunkMany), .int ksending, .int kfleets, .ref ktext, .int (nI ktexts), .int kseed, .ref kline, .ref kwritten, .int (nI klineMany), .int khasWritten, .ref knode, .int (nI knodes), .int (nI konesMany), .int (nI kwithin), .int (nI ktop)]))]) (va_A [(o, .inr (12, [.int kthrown, .ref ktape, .int (nI ktaped), .int (nI ksize), .int (nI klimit), .int (nI kto), .int (nI kfrom), .int kkind, .int knumber, .int ksign, .int kfault, .int kplace, .long kword, .int ktold, .ref know, .ref kread, .ref kkept, .ref ksnaps, .ref kaside, .ref kname, .ref kreadName, .ref kkeptName, .ref kisKept, .ref konces, .int (nI ksnapMany), .int khasCells, .ref kpoured, .ref kfar, .ref ksides, .int (nI ksideMany), .int kwayDays, .int khasWay, .ref klines, .ref kmet, .int (nI kmetMany), .ref ksunk, .ref ktrying, .int (nI ksunkMany), .int ksending, .int kfleets, .ref ktext, .int (nI ktexts), .int kseed, .ref kline, .ref kwritten, .int (nI klineMany), .int khasWritten, .ref knode, .int (nI knodes), .int (nI konesMany), .int (nI kwithin), .int (nI ktop)]))] sz)) (va_A [(o, .inr (12, [.int kthrown, .ref ktape, .int (nI ktaped), .int (nI ksize), .int (nI klimit), .int (nI kto), .int (nI kfrom), .int kkind, .int knumber, .int ksign, .int kfault, .int kplace, .long kword, .int ktold, .ref know, .ref kread, .ref kkept, .ref ksnaps, .ref kaside, .ref kname, .ref kreadName, .ref kkeptName, .ref kisKept, .ref konces, .int (nI ksnapMany), .int khasCells, .ref kpoured, .ref kfar, .ref ksides, .int (nI ksideMany), .int kwayDays, .int khasWay, .ref klines, .ref kmet, .int (nI kmetMany), .ref ksunk, .ref ktrying, .int (nI ksunkMany), .int ksending, .int kfleets, .ref ktext, .int (nI ktexts), .int kseed, .ref kline, .ref kwritten, .int (nI klineMany), .int khasWritten, .ref knode, .int (nI knodes), .int (nI konesMany), .int (nI kwithin), .int (nI ktop)]))] sz)) 0 0 (va_A [(o, .inr (12, [.int kthrown, .ref ktape, .int (nI ktaped), .int (nI ksize), .int (nI klimit), .int (nI kto), .int (nI kfrom), .int kkind, .int knumber, .int ksign, .int kfault, .int kplace, .long kword, .int ktold, .ref know, .ref kread, .ref kkept, .ref ksnaps, .ref kaside, .ref kname, .ref kreadName, .ref kkeptName, .ref kisKept, .ref konces, .int (nI ksnapMany), .int khasCells, .ref kpoured, .ref kfar, .ref ksides, .int (nI ksideMany), .int kwayDays, .int khasWay, .ref klines, .ref kmet, .int (nI kmetMany), .ref ksunk, .ref ktrying, .int (nI ksunkMany), .int ksending, .int kfleets, .ref ktext, .int (nI ktexts), .int kseed, .ref kline, .ref kwritten, .int (nI klineMany), .int khasWritten, .ref knode, .int (nI knodes), .int (nI konesMany), .int (nI kwithin), .int (nI ktop)]))] sz) := by
  refine Met.ofW (cc := cX12_fleets) (maxL := 1) (ret := (some .int)) (by decide) rfl ?_
  intro p e s m args below meth c s₁ B hml hv
  obtain ⟨rfl, hsz, hP, hK, hD0⟩ := hv
  have hx := B.exec
  have hb := B.bytes
  have hr := B.returns
  have hts := atoms_spec (ws := wsX12_fleets) B.pre
  have hown : s.vm.findClass RX12 = some m.cls := findClass_of_methodNamed B.named
  have hlocks := B.notSynchronized
  have hin12 : ∀ w ∈ u_ws RX12 TX12 52, w ∈ wsX12_fleets := by decide +kernel
  subst hsz
  have hD := hD0.self (sz := s.heap.size)
  generalize hAe : va_A [(o, .inr (12, [.int kthrown, .ref ktape, .int (nI ktaped), .int (nI ksize), .int (nI klimit), .int (nI kto), .int (nI kfrom), .int kkind, .int knumber, .int ksign, .int kfault, .int kplace, .long kword, .int ktold, .ref know, .ref kread, .ref kkept, .ref ksnaps, .ref kaside, .ref kname, .ref kreadName, .ref kkeptName, .ref kisKept, .ref konces, .int (nI ksnapMany), .int khasCells, .ref kpoured, .ref kfar, .ref ksides, .int (nI ksideMany), .int kwayDays, .int khasWay, .ref klines, .ref kmet, .int (nI kmetMany), .ref ksunk, .ref ktrying, .int (nI ksunkMany), .int ksending, .int kfleets, .ref ktext, .int (nI ktexts), .int kseed, .ref kline, .ref kwritten, .int (nI klineMany), .int khasWritten, .ref knode, .int (nI knodes), .int (nI konesMany), .int (nI kwithin), .int (nI ktop)]))] s.heap.size = A at hD ⊢
  have hA : ∀ q : Nat, s.heap.size ≤ q → A q := fun q h => by rw [← hAe]; exact Or.inr h
  have hS : va_S A s.heap s.heap [] := va_S.rf
  have hl := lv_entry ([.ref o]) (n := 1) (Nat.le_of_ble_eq_true rfl)
  rw [lg_entry_eq]
  generalize (lg_sl ([.ref o]) ++ List.replicate (1 - (lg_sl ([.ref o])).length) Slot.unset).toArray = ls at hl ⊢
  have hl : lv_has ls 1 [(0, .ref o)] := hl
  refine q_name (fun Q hQ => ?_)
  generalize ([.ref o] : List Value).toArray = args at hts hQ ⊢
  refine lv_aload_n hx hb dX12_fleets_0 rfl (lv_at hl 0 rfl) ?_
  refine lv_iconst (v := nI 0) hx hb dX12_fleets_1 (by decide) ?_
  refine va_put (D := (dC, dI)) (ci := 12) (v := .int (nI 0)) (ty := .int) (C := RX12) (T := TX12) (N := 52) hx hb hts hin12 tyX12 tyX12_ok nmX12 hown hK hP hD hS 0 rfl rfl 0 (by decide) (hts (.fieldLink RX12 1 "PorridgeSeaModel" "thrown" "I") (List.mem_of_getElem? (i := 1) rfl)) (fun _ h9 => h9) rfl (by decide +kernel) rfl rfl (Nat.le_of_ble_eq_true rfl) dX12_fleets_2 (fun H locs hP hD hS => ?_)
  have hP : va_P (dC, dI) vwCl [(o, .inr (12, [.int (nI 0), .ref ktape, .int (nI ktaped), .int (nI ksize), .int (nI klimit), .int (nI kto), .int (nI kfrom), .int kkind, .int knumber, .int ksign, .int kfault, .int kplace, .long kword, .int ktold, .ref know, .ref kread, .ref kkept, .ref ksnaps, .ref kaside, .ref kname, .ref kreadName, .ref kkeptName, .ref kisKept, .ref konces, .int (nI ksnapMany), .int khasCells, .ref kpoured, .ref kfar, .ref ksides, .int (nI ksideMany), .int kwayDays, .int khasWay, .ref klines, .ref kmet, .int (nI kmetMany), .ref ksunk, .ref ktrying, .int (nI ksunkMany), .int ksending, .int kfleets, .ref ktext, .int (nI ktexts), .int kseed, .ref kline, .ref kwritten, .int (nI klineMany), .int khasWritten, .ref knode, .int (nI knodes), .int (nI konesMany), .int (nI kwithin), .int (nI ktop)]))] H := hP
  have hD : va_D A [(o, .inr (12, [.int (nI 0), .ref ktape, .int (nI ktaped), .int (nI ksize), .int (nI klimit), .int (nI kto), .int (nI kfrom), .int kkind, .int knumber, .int ksign, .int kfault, .int kplace, .long kword, .int ktold, .ref know, .ref kread, .ref kkept, .ref ksnaps, .ref kaside, .ref kname, .ref kreadName, .ref kkeptName, .ref kisKept, .ref konces, .int (nI ksnapMany), .int khasCells, .ref kpoured, .ref kfar, .ref ksides, .int (nI ksideMany), .int kwayDays, .int khasWay, .ref klines, .ref kmet, .int (nI kmetMany), .ref ksunk, .ref ktrying, .int (nI ksunkMany), .int ksending, .int kfleets, .ref ktext, .int (nI ktexts), .int kseed, .ref kline, .ref kwritten, .int (nI klineMany), .int khasWritten, .ref knode, .int (nI knodes), .int (nI konesMany), .int (nI kwithin), .int (nI ktop)]))] := hD
  refine lv_aload_n hx hb dX12_fleets_5 rfl (lv_at hl 0 rfl) ?_
  refine va_get (D := (dC, dI)) (ci := 12) (v := .int kfleets) (C := RX12) (T := TX12) (N := 52) hx hb hts hin12 hown hK hP 0 rfl rfl 39 (by decide) (hts (.fieldLink RX12 157 "PorridgeSeaModel" "fleets" "I") (List.mem_of_getElem? (i := 2) rfl)) (fun _ h9 => h9) rfl dX12_fleets_6 ?_
  rw [hQ]
  exact W.iret (v := kfleets) hx hb hr (fun t9 ht9 hW9 => ⟨⟨kfleets, (nI 0), rfl, trivial, by rw [ht9]; exact hP, va_K.moved hW9.alike hK, hD⟩, hS.F ht9⟩) hS.2.2 dX12_fleets_9
set_option maxRecDepth 20000 in
theorem lf_x_byteAt_1 (ktexts : Nat) (x : Int32) (y1 : Int32) (iv_ko_9 : ktexts ≤ 64) (f3 : y1.toInt = ((ktexts : Nat) : Int) - ((1 : Nat) : Int)) (t6 : (nI 0).toInt ≤ x.toInt) (t7 : x.toInt ≤ y1.toInt) : 0 ≤ x.toInt ∧ x.toInt < ((64 : Nat) : Int) := by
  have b_x := ia_b x
  have b_y1 := ia_b y1
  try have k_0 := ia_n 0 (by first | decide | omega)
  try simp only [ia_lt, ia_le, ia_eq, ia_m1, ia_0, ia_1, ne_eq, true_and, and_true, false_and, and_false, or_false, false_or, or_true, true_or, not_true_eq_false, not_false_eq_true] at *
  all_goals omega
set_option maxRecDepth 20000 in
theorem lf_x_byteAt_2 (ktexts : Nat) (ktextF : Nat → Int32) (x : Int32) (y1 : Int32) (n10 : Nat) (y13 : Int32) (iv_ko_9 : ktexts ≤ 64) (f3 : y1.toInt = ((ktexts : Nat) : Int) - ((1 : Nat) : Int)) (t6 : (nI 0).toInt ≤ x.toInt) (t7 : x.toInt ≤ y1.toInt) (h11 : n10 < 64) (e12 : x = nI n10) (e14 : y13 = ktextF n10) : n10 < 64 := by
  have b_x := ia_b x
  have b_y1 := ia_b y1
  have b_y13 := ia_b y13
  try have k_0 := ia_n 0 (by first | decide | omega)
  try have k_1 := ia_n n10 (by first | decide | omega)
  try simp only [ia_lt, ia_le, ia_eq, ia_m1, ia_0, ia_1, ne_eq, true_and, and_true, false_and, and_false, or_false, false_or, or_true, true_or, not_true_eq_false, not_false_eq_true] at *
  all_goals omega
set_option maxHeartbeats 4000000 in
set_option maxRecDepth 100000 in
theorem c_x_byteAt (l : Launch) (dC : Nat → ClassId) (dI : Nat → Nat → Nat) (ky : Nat → ClassId) (sz : Nat) (o : Nat) (kthrown : Int32) (ktape : Nat) (ktaped : Nat) (ksize : Nat) (klimit : Nat) (kto : Nat) (kfrom : Nat) (kkind : Int32) (knumber : Int32) (ksign : Int32) (kfault : Int32) (kplace : Int32) (kword : Int64) (ktold : Int32) (know : Nat) (kread : Nat) (kkept : Nat) (ksnaps : Nat) (kaside : Nat) (kname : Nat) (kreadName : Nat) (kkeptName : Nat) (kisKept : Nat) (konces : Nat) (ksnapMany : Nat) (khasCells : Int32) (kpoured : Nat) (kfar : Nat) (ksides : Nat) (ksideMany : Nat) (kwayDays : Int32) (khasWay : Int32) (klines : Nat) (kmet : Nat) (kmetMany : Nat) (ksunk : Nat) (ktrying : Nat) (ksunkMany : Nat) (ksending : Int32) (kfleets : Int32) (ktext : Nat) (ktexts : Nat) (kseed : Int32) (kline : Nat) (kwritten : Nat) (klineMany : Nat) (khasWritten : Int32) (knode : Nat) (knodes : Nat) (konesMany : Nat) (kwithin : Nat) (ktop : Nat) (ktextF : Nat → Int32) (x : Int32) (iv_ko_0 : ktaped ≤ 940) (iv_ko_1 : ksize ≤ 940) (iv_ko_2 : klimit ≤ 900) (iv_ko_3 : kto ≤ ksize) (iv_ko_4 : kfrom ≤ 940) (iv_ko_5 : ksnapMany ≤ 8) (iv_ko_6 : ksideMany ≤ 36) (iv_ko_7 : kmetMany ≤ 3) (iv_ko_8 : ksunkMany ≤ 36) (iv_ko_9 : ktexts ≤ 64) (iv_ko_10 : klineMany ≤ 40) (iv_ko_11 : knodes ≤ 60) (iv_ko_12 : konesMany ≤ 20) (iv_ko_13 : kwithin ≤ 8) (iv_ko_14 : ktop ≤ 59) : Met l yX12_byteAt wsX12_byteAt ({ frames := 1, cells := 0, slots := 0, locals := 22 }) (PcU dC dI ky [.ref o, .int x] [(o, .inr (12, [.int kthrown, .ref ktape, .int (nI ktaped), .int (nI ksize), .int (nI klimit), .int (nI kto), .int (nI kfrom), .int kkind, .int knumber, .int ksign, .int kfault, .int kplace, .long kword, .int ktold, .ref know, .ref kread, .ref kkept, .ref ksnaps, .ref kaside, .ref kname, .ref kreadName, .ref kkeptName, .ref kisKept, .ref konces, .int (nI ksnapMany), .int khasCells, .ref kpoured, .ref kfar, .ref ksides, .int (nI ksideMany), .int kwayDays, .int khasWay, .ref klines, .ref kmet, .int (nI kmetMany), .ref ksunk, .ref ktrying, .int (nI ksunkMany), .int ksending, .int kfleets, .ref ktext, .int (nI ktexts), .int kseed, .ref kline, .ref kwritten, .int (nI klineMany), .int khasWritten, .ref knode, .int (nI knodes), .int (nI konesMany), .int (nI kwithin), .int (nI ktop)])), (ktext, .inl (ky 0, 64, .inl ktextF))] sz) (va_Qi (fun (r : Int32) (kthrownG : Int32) => True) (BU dC dI ky (fun (kthrownG : Int32) => [(o, .inr (12, [.int kthrownG, .ref ktape, .int (nI ktaped), .int (nI ksize), .int (nI klimit), .int (nI kto), .int (nI kfrom), .int kkind, .int knumber, .int ksign, .int kfault, .int kplace, .long kword, .int ktold, .ref know, .ref kread, .ref kkept, .ref ksnaps, .ref kaside, .ref kname, .ref kreadName, .ref kkeptName, .ref kisKept, .ref konces, .int (nI ksnapMany), .int khasCells, .ref kpoured, .ref kfar, .ref ksides, .int (nI ksideMany), .int kwayDays, .int khasWay, .ref klines, .ref kmet, .int (nI kmetMany), .ref ksunk, .ref ktrying, .int (nI ksunkMany), .int ksending, .int kfleets, .ref ktext, .int (nI ktexts), .int kseed, .ref kline, .ref kwritten, .int (nI klineMany), .int khasWritten, .ref knode, .int (nI knodes), .int (nI konesMany), .int (nI kwithin), .int (nI ktop)])), (ktext, .inl (ky 0, 64, .inl ktextF))]) (va_A [(o, .inr (12, [.int kthrown, .ref ktape, .int (nI ktaped), .int (nI ksize), .int (nI klimit), .int (nI kto), .int (nI kfrom), .int kkind, .int knumber, .int ksign, .int kfault, .int kplace, .long kword, .int ktold, .ref know, .ref kread, .ref kkept, .ref ksnaps, .ref kaside, .ref kname, .ref kreadName, .ref kkeptName, .ref kisKept, .ref konces, .int (nI ksnapMany), .int khasCells, .ref kpoured, .ref kfar, .ref ksides, .int (nI ksideMany), .int kwayDays, .int khasWay, .ref klines, .ref kmet, .int (nI kmetMany), .ref ksunk, .ref ktrying, .int (nI ksunkMany), .int ksending, .int kfleets, .ref ktext, .int (nI ktexts), .int kseed, .ref kline, .ref kwritten, .int (nI klineMany), .int khasWritten, .ref knode, .int (nI knodes), .int (nI konesMany), .int (nI kwithin), .int (nI ktop)])), (ktext, .inl (ky 0, 64, .inl ktextF))] sz)) (va_A [(o, .inr (12, [.int kthrown, .ref ktape, .int (nI ktaped), .int (nI ksize), .int (nI klimit), .int (nI kto), .int (nI kfrom), .int kkind, .int knumber, .int ksign, .int kfault, .int kplace, .long kword, .int ktold, .ref know, .ref kread, .ref kkept, .ref ksnaps, .ref kaside, .ref kname, .ref kreadName, .ref kkeptName, .ref kisKept, .ref konces, .int (nI ksnapMany), .int khasCells, .ref kpoured, .ref kfar, .ref ksides, .int (nI ksideMany), .int kwayDays, .int khasWay, .ref klines, .ref kmet, .int (nI kmetMany), .ref ksunk, .ref ktrying, .int (nI ksunkMany), .int ksending, .int kfleets, .ref ktext, .int (nI ktexts), .int kseed, .ref kline, .ref kwritten, .int (nI klineMany), .int khasWritten, .ref knode, .int (nI knodes), .int (nI konesMany), .int (nI kwithin), .int (nI ktop)])), (ktext, .inl (ky 0, 64, .inl ktextF))] sz)) 0 0 (va_A [(o, .inr (12, [.int kthrown, .ref ktape, .int (nI ktaped), .int (nI ksize), .int (nI klimit), .int (nI kto), .int (nI kfrom), .int kkind, .int knumber, .int ksign, .int kfault, .int kplace, .long kword, .int ktold, .ref know, .ref kread, .ref kkept, .ref ksnaps, .ref kaside, .ref kname, .ref kreadName, .ref kkeptName, .ref kisKept, .ref konces, .int (nI ksnapMany), .int khasCells, .ref kpoured, .ref kfar, .ref ksides, .int (nI ksideMany), .int kwayDays, .int khasWay, .ref klines, .ref kmet, .int (nI kmetMany), .ref ksunk, .ref ktrying, .int (nI ksunkMany), .int ksending, .int kfleets, .ref ktext, .int (nI ktexts), .int kseed, .ref kline, .ref kwritten, .int (nI klineMany), .int khasWritten, .ref knode, .int (nI knodes), .int (nI konesMany), .int (nI kwithin), .int (nI ktop)])), (ktext, .inl (ky 0, 64, .inl ktextF))] sz) := by
  refine Met.ofW (cc := cX12_byteAt) (maxL := 2) (ret := (some .int)) (by decide) rfl ?_
  intro p e s m args below meth c s₁ B hml hv
  obtain ⟨rfl, hsz, hP, hK, hD0⟩ := hv
  have hx := B.exec
  have hb := B.bytes
  have hr := B.returns
  have hts := atoms_spec (ws := wsX12_byteAt) B.pre
  have hown : s.vm.findClass RX12 = some m.cls := findClass_of_methodNamed B.named
  have hlocks := B.notSynchronized
  have hin12 : ∀ w ∈ u_ws RX12 TX12 52, w ∈ wsX12_byteAt := by decide +kernel
  subst hsz
  have hD := hD0.self (sz := s.heap.size)
  generalize hAe : va_A [(o, .inr (12, [.int kthrown, .ref ktape, .int (nI ktaped), .int (nI ksize), .int (nI klimit), .int (nI kto), .int (nI kfrom), .int kkind, .int knumber, .int ksign, .int kfault, .int kplace, .long kword, .int ktold, .ref know, .ref kread, .ref kkept, .ref ksnaps, .ref kaside, .ref kname, .ref kreadName, .ref kkeptName, .ref kisKept, .ref konces, .int (nI ksnapMany), .int khasCells, .ref kpoured, .ref kfar, .ref ksides, .int (nI ksideMany), .int kwayDays, .int khasWay, .ref klines, .ref kmet, .int (nI kmetMany), .ref ksunk, .ref ktrying, .int (nI ksunkMany), .int ksending, .int kfleets, .ref ktext, .int (nI ktexts), .int kseed, .ref kline, .ref kwritten, .int (nI klineMany), .int khasWritten, .ref knode, .int (nI knodes), .int (nI konesMany), .int (nI kwithin), .int (nI ktop)])), (ktext, .inl (ky 0, 64, .inl ktextF))] s.heap.size = A at hD ⊢
  have hA : ∀ q : Nat, s.heap.size ≤ q → A q := fun q h => by rw [← hAe]; exact Or.inr h
  have hS : va_S A s.heap s.heap [] := va_S.rf
  have hl := lv_entry ([.ref o, .int x]) (n := 2) (Nat.le_of_ble_eq_true rfl)
  rw [lg_entry_eq]
  generalize (lg_sl ([.ref o, .int x]) ++ List.replicate (2 - (lg_sl ([.ref o, .int x])).length) Slot.unset).toArray = ls at hl ⊢
  have hl : lv_has ls 2 [(0, .ref o), (1, .int x)] := hl
  refine q_name (fun Q hQ => ?_)
  generalize ([.ref o, .int x] : List Value).toArray = args at hts hQ ⊢
  refine lv_aload_n hx hb dX12_byteAt_0 rfl (lv_at hl 0 rfl) ?_
  refine lv_iconst (v := nI 0) hx hb dX12_byteAt_1 (by decide) ?_
  refine va_put (D := (dC, dI)) (ci := 12) (v := .int (nI 0)) (ty := .int) (C := RX12) (T := TX12) (N := 52) hx hb hts hin12 tyX12 tyX12_ok nmX12 hown hK hP hD hS 0 rfl rfl 0 (by decide) (hts (.fieldLink RX12 1 "PorridgeSeaModel" "thrown" "I") (List.mem_of_getElem? (i := 1) rfl)) (fun _ h9 => h9) rfl (by decide +kernel) rfl rfl (Nat.le_of_ble_eq_true rfl) dX12_byteAt_2 (fun H locs hP hD hS => ?_)
  have hP : va_P (dC, dI) vwCl [(o, .inr (12, [.int (nI 0), .ref ktape, .int (nI ktaped), .int (nI ksize), .int (nI klimit), .int (nI kto), .int (nI kfrom), .int kkind, .int knumber, .int ksign, .int kfault, .int kplace, .long kword, .int ktold, .ref know, .ref kread, .ref kkept, .ref ksnaps, .ref kaside, .ref kname, .ref kreadName, .ref kkeptName, .ref kisKept, .ref konces, .int (nI ksnapMany), .int khasCells, .ref kpoured, .ref kfar, .ref ksides, .int (nI ksideMany), .int kwayDays, .int khasWay, .ref klines, .ref kmet, .int (nI kmetMany), .ref ksunk, .ref ktrying, .int (nI ksunkMany), .int ksending, .int kfleets, .ref ktext, .int (nI ktexts), .int kseed, .ref kline, .ref kwritten, .int (nI klineMany), .int khasWritten, .ref knode, .int (nI knodes), .int (nI konesMany), .int (nI kwithin), .int (nI ktop)])), (ktext, .inl (ky 0, 64, .inl ktextF))] H := hP
  have hD : va_D A [(o, .inr (12, [.int (nI 0), .ref ktape, .int (nI ktaped), .int (nI ksize), .int (nI klimit), .int (nI kto), .int (nI kfrom), .int kkind, .int knumber, .int ksign, .int kfault, .int kplace, .long kword, .int ktold, .ref know, .ref kread, .ref kkept, .ref ksnaps, .ref kaside, .ref kname, .ref kreadName, .ref kkeptName, .ref kisKept, .ref konces, .int (nI ksnapMany), .int khasCells, .ref kpoured, .ref kfar, .ref ksides, .int (nI ksideMany), .int kwayDays, .int khasWay, .ref klines, .ref kmet, .int (nI kmetMany), .ref ksunk, .ref ktrying, .int (nI ksunkMany), .int ksending, .int kfleets, .ref ktext, .int (nI ktexts), .int kseed, .ref kline, .ref kwritten, .int (nI klineMany), .int khasWritten, .ref knode, .int (nI knodes), .int (nI konesMany), .int (nI kwithin), .int (nI ktop)])), (ktext, .inl (ky 0, 64, .inl ktextF))] := hD
  refine lv_iload_n hx hb dX12_byteAt_5 rfl (lv_at hl 1 rfl) ?_
  refine lv_iconst (v := nI 0) hx hb dX12_byteAt_6 (by decide) ?_
  refine lv_aload_n hx hb dX12_byteAt_7 rfl (lv_at hl 0 rfl) ?_
  refine va_get (D := (dC, dI)) (ci := 12) (v := .int (nI ktexts)) (C := RX12) (T := TX12) (N := 52) hx hb hts hin12 hown hK hP 0 rfl rfl 41 (by decide) (hts (.fieldLink RX12 360 "PorridgeSeaModel" "texts" "I") (List.mem_of_getElem? (i := 2) rfl)) (fun _ h9 => h9) rfl dX12_byteAt_8 ?_
  refine lv_iconst (v := nI 1) hx hb dX12_byteAt_11 (by decide) ?_
  refine lv_isub hx hb dX12_byteAt_12 ?_
  refine lv_topi (fun y1 e2 => ?_)
  have f3 : y1.toInt = ((ktexts : Nat) : Int) - ((1 : Nat) : Int) := by rw [e2]; exact ia_sub _ _ (by omega) (by omega)
  refine vp_callSi (W.runS (As := [.int x, .int (nI 0), .int y1]) (rest := []) ⟨hx, hb, hml, hown, hts⟩ (c_x_isIn l dC dI ky x (nI 0) y1) (va_cwS 3 hts gX12_byteAt_X12_isIn rfl rfl rfl (by decide +kernel) ⟨(Nat.le_of_ble_eq_true rfl), (Nat.le_of_ble_eq_true rfl)⟩) (pre_PS hK hP [] rfl) rfl rfl hl.1 rfl (lv_room (Nat.le_of_ble_eq_true rfl)) dX12_byteAt_13 ⟨(Nat.le_of_ble_eq_true rfl), (Nat.le_of_ble_eq_true rfl)⟩) (fun r4 p5 => ?_)
  rcases p5 with ⟨rfl, t6, t7⟩ | ⟨rfl, t8⟩
  · refine lv_if_eq (tgt := 28) hx hb dX12_byteAt_16 (by decide) (fun c9 => absurd c9 (by decide)) (fun c9 => ?_)
    refine lv_aload_n hx hb dX12_byteAt_19 rfl (lv_at hl 0 rfl) ?_
    refine va_get (D := (dC, dI)) (ci := 12) (v := .ref ktext) (C := RX12) (T := TX12) (N := 52) hx hb hts hin12 hown hK hP 0 rfl rfl 40 (by decide) (hts (.fieldLink RX12 160 "PorridgeSeaModel" "text" "[I") (List.mem_of_getElem? (i := 3) rfl)) (fun _ h9 => h9) rfl dX12_byteAt_20 ?_
    refine lv_iload_n hx hb dX12_byteAt_23 rfl (lv_at hl 1 rfl) ?_
    obtain ⟨n10, h11, e12⟩ := nat_of x 64 (by decide) (lf_x_byteAt_1 ktexts x y1 iv_ko_9 f3 t6 t7)
    rw [e12]
    obtain ⟨y13, e14⟩ : ∃ z9, z9 = ktextF n10 := ⟨_, rfl⟩
    refine r_iald hx hb hK hP 1 rfl n10 (lf_x_byteAt_2 ktexts ktextF x y1 n10 y13 iv_ko_9 f3 t6 t7 h11 e12 e14) (by decide) y13 e14.symm dX12_byteAt_24 ?_
    refine lv_goto (tgt := 29) hx hb dX12_byteAt_25 (by decide) ?_
    rw [hQ]
    exact W.iret (v := y13) hx hb hr (fun t9 ht9 hW9 => ⟨⟨y13, (nI 0), rfl, trivial, by rw [ht9]; exact hP, va_K.moved hW9.alike hK, hD⟩, hS.F ht9⟩) hS.2.2 dX12_byteAt_29
  · refine lv_if_eq (tgt := 28) hx hb dX12_byteAt_16 (by decide) (fun c15 => ?_) (fun c15 => absurd (by decide) c15)
    refine lv_iconst (v := (-1 : Int32)) hx hb dX12_byteAt_28 (by decide) ?_
    rw [hQ]
    exact W.iret (v := (-1 : Int32)) hx hb hr (fun t9 ht9 hW9 => ⟨⟨(-1 : Int32), (nI 0), rfl, trivial, by rw [ht9]; exact hP, va_K.moved hW9.alike hK, hD⟩, hS.F ht9⟩) hS.2.2 dX12_byteAt_29
set_option maxRecDepth 20000 in
theorem lf_x_told_1 (x : Int32) (t4 : (nI 0).toInt ≤ x.toInt) (t5 : x.toInt ≤ (nI 3).toInt) : 0 ≤ x.toInt ∧ x.toInt < ((4 : Nat) : Int) := by
  have b_x := ia_b x
  try have k_0 := ia_n 0 (by first | decide | omega)
  try have k_1 := ia_n 3 (by first | decide | omega)
  try simp only [ia_lt, ia_le, ia_eq, ia_m1, ia_0, ia_1, ne_eq, true_and, and_true, false_and, and_false, or_false, false_or, or_true, true_or, not_true_eq_false, not_false_eq_true] at *
  all_goals omega
set_option maxRecDepth 20000 in
theorem lf_x_told_2 (kwrittenF : Nat → Int32) (x : Int32) (n8 : Nat) (y11 : Int32) (t4 : (nI 0).toInt ≤ x.toInt) (t5 : x.toInt ≤ (nI 3).toInt) (h9 : n8 < 4) (e10 : x = nI n8) (e12 : y11 = kwrittenF n8) : n8 < 4 := by
  have b_x := ia_b x
  have b_y11 := ia_b y11
  try have k_0 := ia_n 0 (by first | decide | omega)
  try have k_1 := ia_n 3 (by first | decide | omega)
  try have k_2 := ia_n n8 (by first | decide | omega)
  try simp only [ia_lt, ia_le, ia_eq, ia_m1, ia_0, ia_1, ne_eq, true_and, and_true, false_and, and_false, or_false, false_or, or_true, true_or, not_true_eq_false, not_false_eq_true] at *
  all_goals omega
set_option maxHeartbeats 4000000 in
set_option maxRecDepth 100000 in
theorem c_x_told (l : Launch) (dC : Nat → ClassId) (dI : Nat → Nat → Nat) (ky : Nat → ClassId) (sz : Nat) (o : Nat) (kthrown : Int32) (ktape : Nat) (ktaped : Nat) (ksize : Nat) (klimit : Nat) (kto : Nat) (kfrom : Nat) (kkind : Int32) (knumber : Int32) (ksign : Int32) (kfault : Int32) (kplace : Int32) (kword : Int64) (ktold : Int32) (know : Nat) (kread : Nat) (kkept : Nat) (ksnaps : Nat) (kaside : Nat) (kname : Nat) (kreadName : Nat) (kkeptName : Nat) (kisKept : Nat) (konces : Nat) (ksnapMany : Nat) (khasCells : Int32) (kpoured : Nat) (kfar : Nat) (ksides : Nat) (ksideMany : Nat) (kwayDays : Int32) (khasWay : Int32) (klines : Nat) (kmet : Nat) (kmetMany : Nat) (ksunk : Nat) (ktrying : Nat) (ksunkMany : Nat) (ksending : Int32) (kfleets : Int32) (ktext : Nat) (ktexts : Nat) (kseed : Int32) (kline : Nat) (kwritten : Nat) (klineMany : Nat) (khasWritten : Int32) (knode : Nat) (knodes : Nat) (konesMany : Nat) (kwithin : Nat) (ktop : Nat) (kwrittenF : Nat → Int32) (x : Int32) (iv_ko_0 : ktaped ≤ 940) (iv_ko_1 : ksize ≤ 940) (iv_ko_2 : klimit ≤ 900) (iv_ko_3 : kto ≤ ksize) (iv_ko_4 : kfrom ≤ 940) (iv_ko_5 : ksnapMany ≤ 8) (iv_ko_6 : ksideMany ≤ 36) (iv_ko_7 : kmetMany ≤ 3) (iv_ko_8 : ksunkMany ≤ 36) (iv_ko_9 : ktexts ≤ 64) (iv_ko_10 : klineMany ≤ 40) (iv_ko_11 : knodes ≤ 60) (iv_ko_12 : konesMany ≤ 20) (iv_ko_13 : kwithin ≤ 8) (iv_ko_14 : ktop ≤ 59) : Met l yX12_told wsX12_told ({ frames := 1, cells := 0, slots := 0, locals := 22 }) (PcU dC dI ky [.ref o, .int x] [(o, .inr (12, [.int kthrown, .ref ktape, .int (nI ktaped), .int (nI ksize), .int (nI klimit), .int (nI kto), .int (nI kfrom), .int kkind, .int knumber, .int ksign, .int kfault, .int kplace, .long kword, .int ktold, .ref know, .ref kread, .ref kkept, .ref ksnaps, .ref kaside, .ref kname, .ref kreadName, .ref kkeptName, .ref kisKept, .ref konces, .int (nI ksnapMany), .int khasCells, .ref kpoured, .ref kfar, .ref ksides, .int (nI ksideMany), .int kwayDays, .int khasWay, .ref klines, .ref kmet, .int (nI kmetMany), .ref ksunk, .ref ktrying, .int (nI ksunkMany), .int ksending, .int kfleets, .ref ktext, .int (nI ktexts), .int kseed, .ref kline, .ref kwritten, .int (nI klineMany), .int khasWritten, .ref knode, .int (nI knodes), .int (nI konesMany), .int (nI kwithin), .int (nI ktop)])), (kwritten, .inl (ky 0, 4, .inl kwrittenF))] sz) (va_Qi (fun (r : Int32) (kthrownG : Int32) => True) (BU dC dI ky (fun (kthrownG : Int32) => [(o, .inr (12, [.int kthrownG, .ref ktape, .int (nI ktaped), .int (nI ksize), .int (nI klimit), .int (nI kto), .int (nI kfrom), .int kkind, .int knumber, .int ksign, .int kfault, .int kplace, .long kword, .int ktold, .ref know, .ref kread, .ref kkept, .ref ksnaps, .ref kaside, .ref kname, .ref kreadName, .ref kkeptName, .ref kisKept, .ref konces, .int (nI ksnapMany), .int khasCells, .ref kpoured, .ref kfar, .ref ksides, .int (nI ksideMany), .int kwayDays, .int khasWay, .ref klines, .ref kmet, .int (nI kmetMany), .ref ksunk, .ref ktrying, .int (nI ksunkMany), .int ksending, .int kfleets, .ref ktext, .int (nI ktexts), .int kseed, .ref kline, .ref kwritten, .int (nI klineMany), .int khasWritten, .ref knode, .int (nI knodes), .int (nI konesMany), .int (nI kwithin), .int (nI ktop)])), (kwritten, .inl (ky 0, 4, .inl kwrittenF))]) (va_A [(o, .inr (12, [.int kthrown, .ref ktape, .int (nI ktaped), .int (nI ksize), .int (nI klimit), .int (nI kto), .int (nI kfrom), .int kkind, .int knumber, .int ksign, .int kfault, .int kplace, .long kword, .int ktold, .ref know, .ref kread, .ref kkept, .ref ksnaps, .ref kaside, .ref kname, .ref kreadName, .ref kkeptName, .ref kisKept, .ref konces, .int (nI ksnapMany), .int khasCells, .ref kpoured, .ref kfar, .ref ksides, .int (nI ksideMany), .int kwayDays, .int khasWay, .ref klines, .ref kmet, .int (nI kmetMany), .ref ksunk, .ref ktrying, .int (nI ksunkMany), .int ksending, .int kfleets, .ref ktext, .int (nI ktexts), .int kseed, .ref kline, .ref kwritten, .int (nI klineMany), .int khasWritten, .ref knode, .int (nI knodes), .int (nI konesMany), .int (nI kwithin), .int (nI ktop)])), (kwritten, .inl (ky 0, 4, .inl kwrittenF))] sz)) (va_A [(o, .inr (12, [.int kthrown, .ref ktape, .int (nI ktaped), .int (nI ksize), .int (nI klimit), .int (nI kto), .int (nI kfrom), .int kkind, .int knumber, .int ksign, .int kfault, .int kplace, .long kword, .int ktold, .ref know, .ref kread, .ref kkept, .ref ksnaps, .ref kaside, .ref kname, .ref kreadName, .ref kkeptName, .ref kisKept, .ref konces, .int (nI ksnapMany), .int khasCells, .ref kpoured, .ref kfar, .ref ksides, .int (nI ksideMany), .int kwayDays, .int khasWay, .ref klines, .ref kmet, .int (nI kmetMany), .ref ksunk, .ref ktrying, .int (nI ksunkMany), .int ksending, .int kfleets, .ref ktext, .int (nI ktexts), .int kseed, .ref kline, .ref kwritten, .int (nI klineMany), .int khasWritten, .ref knode, .int (nI knodes), .int (nI konesMany), .int (nI kwithin), .int (nI ktop)])), (kwritten, .inl (ky 0, 4, .inl kwrittenF))] sz)) 0 0 (va_A [(o, .inr (12, [.int kthrown, .ref ktape, .int (nI ktaped), .int (nI ksize), .int (nI klimit), .int (nI kto), .int (nI kfrom), .int kkind, .int knumber, .int ksign, .int kfault, .int kplace, .long kword, .int ktold, .ref know, .ref kread, .ref kkept, .ref ksnaps, .ref kaside, .ref kname, .ref kreadName, .ref kkeptName, .ref kisKept, .ref konces, .int (nI ksnapMany), .int khasCells, .ref kpoured, .ref kfar, .ref ksides, .int (nI ksideMany), .int kwayDays, .int khasWay, .ref klines, .ref kmet, .int (nI kmetMany), .ref ksunk, .ref ktrying, .int (nI ksunkMany), .int ksending, .int kfleets, .ref ktext, .int (nI ktexts), .int kseed, .ref kline, .ref kwritten, .int (nI klineMany), .int khasWritten, .ref knode, .int (nI knodes), .int (nI konesMany), .int (nI kwithin), .int (nI ktop)])), (kwritten, .inl (ky 0, 4, .inl kwrittenF))] sz) := by
  refine Met.ofW (cc := cX12_told) (maxL := 2) (ret := (some .int)) (by decide) rfl ?_
  intro p e s m args below meth c s₁ B hml hv
  obtain ⟨rfl, hsz, hP, hK, hD0⟩ := hv
  have hx := B.exec
  have hb := B.bytes
  have hr := B.returns
  have hts := atoms_spec (ws := wsX12_told) B.pre
  have hown : s.vm.findClass RX12 = some m.cls := findClass_of_methodNamed B.named
  have hlocks := B.notSynchronized
  have hin12 : ∀ w ∈ u_ws RX12 TX12 52, w ∈ wsX12_told := by decide +kernel
  subst hsz
  have hD := hD0.self (sz := s.heap.size)
  generalize hAe : va_A [(o, .inr (12, [.int kthrown, .ref ktape, .int (nI ktaped), .int (nI ksize), .int (nI klimit), .int (nI kto), .int (nI kfrom), .int kkind, .int knumber, .int ksign, .int kfault, .int kplace, .long kword, .int ktold, .ref know, .ref kread, .ref kkept, .ref ksnaps, .ref kaside, .ref kname, .ref kreadName, .ref kkeptName, .ref kisKept, .ref konces, .int (nI ksnapMany), .int khasCells, .ref kpoured, .ref kfar, .ref ksides, .int (nI ksideMany), .int kwayDays, .int khasWay, .ref klines, .ref kmet, .int (nI kmetMany), .ref ksunk, .ref ktrying, .int (nI ksunkMany), .int ksending, .int kfleets, .ref ktext, .int (nI ktexts), .int kseed, .ref kline, .ref kwritten, .int (nI klineMany), .int khasWritten, .ref knode, .int (nI knodes), .int (nI konesMany), .int (nI kwithin), .int (nI ktop)])), (kwritten, .inl (ky 0, 4, .inl kwrittenF))] s.heap.size = A at hD ⊢
  have hA : ∀ q : Nat, s.heap.size ≤ q → A q := fun q h => by rw [← hAe]; exact Or.inr h
  have hS : va_S A s.heap s.heap [] := va_S.rf
  have hl := lv_entry ([.ref o, .int x]) (n := 2) (Nat.le_of_ble_eq_true rfl)
  rw [lg_entry_eq]
  generalize (lg_sl ([.ref o, .int x]) ++ List.replicate (2 - (lg_sl ([.ref o, .int x])).length) Slot.unset).toArray = ls at hl ⊢
  have hl : lv_has ls 2 [(0, .ref o), (1, .int x)] := hl
  refine q_name (fun Q hQ => ?_)
  generalize ([.ref o, .int x] : List Value).toArray = args at hts hQ ⊢
  refine lv_aload_n hx hb dX12_told_0 rfl (lv_at hl 0 rfl) ?_
  refine lv_iconst (v := nI 0) hx hb dX12_told_1 (by decide) ?_
  refine va_put (D := (dC, dI)) (ci := 12) (v := .int (nI 0)) (ty := .int) (C := RX12) (T := TX12) (N := 52) hx hb hts hin12 tyX12 tyX12_ok nmX12 hown hK hP hD hS 0 rfl rfl 0 (by decide) (hts (.fieldLink RX12 1 "PorridgeSeaModel" "thrown" "I") (List.mem_of_getElem? (i := 1) rfl)) (fun _ h9 => h9) rfl (by decide +kernel) rfl rfl (Nat.le_of_ble_eq_true rfl) dX12_told_2 (fun H locs hP hD hS => ?_)
  have hP : va_P (dC, dI) vwCl [(o, .inr (12, [.int (nI 0), .ref ktape, .int (nI ktaped), .int (nI ksize), .int (nI klimit), .int (nI kto), .int (nI kfrom), .int kkind, .int knumber, .int ksign, .int kfault, .int kplace, .long kword, .int ktold, .ref know, .ref kread, .ref kkept, .ref ksnaps, .ref kaside, .ref kname, .ref kreadName, .ref kkeptName, .ref kisKept, .ref konces, .int (nI ksnapMany), .int khasCells, .ref kpoured, .ref kfar, .ref ksides, .int (nI ksideMany), .int kwayDays, .int khasWay, .ref klines, .ref kmet, .int (nI kmetMany), .ref ksunk, .ref ktrying, .int (nI ksunkMany), .int ksending, .int kfleets, .ref ktext, .int (nI ktexts), .int kseed, .ref kline, .ref kwritten, .int (nI klineMany), .int khasWritten, .ref knode, .int (nI knodes), .int (nI konesMany), .int (nI kwithin), .int (nI ktop)])), (kwritten, .inl (ky 0, 4, .inl kwrittenF))] H := hP
  have hD : va_D A [(o, .inr (12, [.int (nI 0), .ref ktape, .int (nI ktaped), .int (nI ksize), .int (nI klimit), .int (nI kto), .int (nI kfrom), .int kkind, .int knumber, .int ksign, .int kfault, .int kplace, .long kword, .int ktold, .ref know, .ref kread, .ref kkept, .ref ksnaps, .ref kaside, .ref kname, .ref kreadName, .ref kkeptName, .ref kisKept, .ref konces, .int (nI ksnapMany), .int khasCells, .ref kpoured, .ref kfar, .ref ksides, .int (nI ksideMany), .int kwayDays, .int khasWay, .ref klines, .ref kmet, .int (nI kmetMany), .ref ksunk, .ref ktrying, .int (nI ksunkMany), .int ksending, .int kfleets, .ref ktext, .int (nI ktexts), .int kseed, .ref kline, .ref kwritten, .int (nI klineMany), .int khasWritten, .ref knode, .int (nI knodes), .int (nI konesMany), .int (nI kwithin), .int (nI ktop)])), (kwritten, .inl (ky 0, 4, .inl kwrittenF))] := hD
  refine lv_aload_n hx hb dX12_told_5 rfl (lv_at hl 0 rfl) ?_
  refine va_get (D := (dC, dI)) (ci := 12) (v := .int khasWritten) (C := RX12) (T := TX12) (N := 52) hx hb hts hin12 hown hK hP 0 rfl rfl 46 (by decide) (hts (.fieldLink RX12 419 "PorridgeSeaModel" "hasWritten" "Z") (List.mem_of_getElem? (i := 2) rfl)) (fun _ h9 => h9) rfl dX12_told_6 ?_
  refine lv_if_eq (tgt := 30) hx hb dX12_told_9 (by decide) (fun c1 => ?_) (fun c1 => ?_)
  · refine lv_iconst (v := (-1 : Int32)) hx hb dX12_told_30 (by decide) ?_
    rw [hQ]
    exact W.iret (v := (-1 : Int32)) hx hb hr (fun t9 ht9 hW9 => ⟨⟨(-1 : Int32), (nI 0), rfl, trivial, by rw [ht9]; exact hP, va_K.moved hW9.alike hK, hD⟩, hS.F ht9⟩) hS.2.2 dX12_told_31
  · refine lv_iload_n hx hb dX12_told_12 rfl (lv_at hl 1 rfl) ?_
    refine lv_iconst (v := nI 0) hx hb dX12_told_13 (by decide) ?_
    refine lv_iconst (v := nI 3) hx hb dX12_told_14 (by decide) ?_
    refine vp_callSi (W.runS (As := [.int x, .int (nI 0), .int (nI 3)]) (rest := []) ⟨hx, hb, hml, hown, hts⟩ (c_x_isIn l dC dI ky x (nI 0) (nI 3)) (va_cwS 3 hts gX12_told_X12_isIn rfl rfl rfl (by decide +kernel) ⟨(Nat.le_of_ble_eq_true rfl), (Nat.le_of_ble_eq_true rfl)⟩) (pre_PS hK hP [] rfl) rfl rfl hl.1 rfl (lv_room (Nat.le_of_ble_eq_true rfl)) dX12_told_15 ⟨(Nat.le_of_ble_eq_true rfl), (Nat.le_of_ble_eq_true rfl)⟩) (fun r2 p3 => ?_)
    rcases p3 with ⟨rfl, t4, t5⟩ | ⟨rfl, t6⟩
    · refine lv_if_eq (tgt := 30) hx hb dX12_told_18 (by decide) (fun c7 => absurd c7 (by decide)) (fun c7 => ?_)
      refine lv_aload_n hx hb dX12_told_21 rfl (lv_at hl 0 rfl) ?_
      refine va_get (D := (dC, dI)) (ci := 12) (v := .ref kwritten) (C := RX12) (T := TX12) (N := 52) hx hb hts hin12 hown hK hP 0 rfl rfl 44 (by decide) (hts (.fieldLink RX12 166 "PorridgeSeaModel" "written" "[I") (List.mem_of_getElem? (i := 3) rfl)) (fun _ h9 => h9) rfl dX12_told_22 ?_
      refine lv_iload_n hx hb dX12_told_25 rfl (lv_at hl 1 rfl) ?_
      obtain ⟨n8, h9, e10⟩ := nat_of x 4 (by decide) (lf_x_told_1 x t4 t5)
      rw [e10]
      obtain ⟨y11, e12⟩ : ∃ z9, z9 = kwrittenF n8 := ⟨_, rfl⟩
      refine r_iald hx hb hK hP 1 rfl n8 (lf_x_told_2 kwrittenF x n8 y11 t4 t5 h9 e10 e12) (by decide) y11 e12.symm dX12_told_26 ?_
      refine lv_goto (tgt := 31) hx hb dX12_told_27 (by decide) ?_
      rw [hQ]
      exact W.iret (v := y11) hx hb hr (fun t9 ht9 hW9 => ⟨⟨y11, (nI 0), rfl, trivial, by rw [ht9]; exact hP, va_K.moved hW9.alike hK, hD⟩, hS.F ht9⟩) hS.2.2 dX12_told_31
    · refine lv_if_eq (tgt := 30) hx hb dX12_told_18 (by decide) (fun c13 => ?_) (fun c13 => absurd (by decide) c13)
      refine lv_iconst (v := (-1 : Int32)) hx hb dX12_told_30 (by decide) ?_
      rw [hQ]
      exact W.iret (v := (-1 : Int32)) hx hb hr (fun t9 ht9 hW9 => ⟨⟨(-1 : Int32), (nI 0), rfl, trivial, by rw [ht9]; exact hP, va_K.moved hW9.alike hK, hD⟩, hS.F ht9⟩) hS.2.2 dX12_told_31
