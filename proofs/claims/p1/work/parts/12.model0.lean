theorem dX12_isIn_0 : decode cX12_isIn 0 = .ok (.iload_n 0, 1) := by decide +kernel
theorem dX12_isIn_1 : decode cX12_isIn 1 = .ok (.iload_n 1, 1) := by decide +kernel
theorem dX12_isIn_2 : decode cX12_isIn 2 = .ok (.if_icmp .lt 12, 3) := by decide +kernel
theorem dX12_isIn_14 : decode cX12_isIn 14 = .ok (.iconst 0, 1) := by decide +kernel
theorem dX12_isIn_15 : decode cX12_isIn 15 = .ok (.ireturn, 1) := by decide +kernel
theorem dX12_isIn_5 : decode cX12_isIn 5 = .ok (.iload_n 0, 1) := by decide +kernel
theorem dX12_isIn_6 : decode cX12_isIn 6 = .ok (.iload_n 2, 1) := by decide +kernel
theorem dX12_isIn_7 : decode cX12_isIn 7 = .ok (.if_icmp .gt 7, 3) := by decide +kernel
theorem dX12_isIn_10 : decode cX12_isIn 10 = .ok (.iconst 1, 1) := by decide +kernel
theorem dX12_isIn_11 : decode cX12_isIn 11 = .ok (.goto 4, 3) := by decide +kernel
theorem dX12_least_0 : decode cX12_least 0 = .ok (.iload_n 0, 1) := by decide +kernel
theorem dX12_least_1 : decode cX12_least 1 = .ok (.iload_n 1, 1) := by decide +kernel
theorem dX12_least_2 : decode cX12_least 2 = .ok (.if_icmp .ge 7, 3) := by decide +kernel
theorem dX12_least_9 : decode cX12_least 9 = .ok (.iload_n 1, 1) := by decide +kernel
theorem dX12_least_10 : decode cX12_least 10 = .ok (.ireturn, 1) := by decide +kernel
theorem dX12_least_5 : decode cX12_least 5 = .ok (.iload_n 0, 1) := by decide +kernel
theorem dX12_least_6 : decode cX12_least 6 = .ok (.goto 4, 3) := by decide +kernel
theorem dX12_lineOf_0 : decode cX12_lineOf 0 = .ok (.bipush 12, 2) := by decide +kernel
theorem dX12_lineOf_2 : decode cX12_lineOf 2 = .ok (.iload_n 0, 1) := by decide +kernel
theorem dX12_lineOf_3 : decode cX12_lineOf 3 = .ok (.imul, 1) := by decide +kernel
theorem dX12_lineOf_4 : decode cX12_lineOf 4 = .ok (.iconst 2, 1) := by decide +kernel
theorem dX12_lineOf_5 : decode cX12_lineOf 5 = .ok (.iload_n 1, 1) := by decide +kernel
theorem dX12_lineOf_6 : decode cX12_lineOf 6 = .ok (.imul, 1) := by decide +kernel
theorem dX12_lineOf_7 : decode cX12_lineOf 7 = .ok (.iadd, 1) := by decide +kernel
theorem dX12_lineOf_8 : decode cX12_lineOf 8 = .ok (.iload_n 2, 1) := by decide +kernel
theorem dX12_lineOf_9 : decode cX12_lineOf 9 = .ok (.iadd, 1) := by decide +kernel
theorem dX12_lineOf_10 : decode cX12_lineOf 10 = .ok (.ireturn, 1) := by decide +kernel
theorem dX12_common_0 : decode cX12_common 0 = .ok (.iload_n 0, 1) := by decide +kernel
theorem dX12_common_1 : decode cX12_common 1 = .ok (.istore_n 2, 1) := by decide +kernel
theorem dX12_common_2 : decode cX12_common 2 = .ok (.iload_n 1, 1) := by decide +kernel
theorem dX12_common_3 : decode cX12_common 3 = .ok (.istore_n 3, 1) := by decide +kernel
theorem dX12_common_4 : decode cX12_common 4 = .ok (.iload_n 3, 1) := by decide +kernel
theorem dX12_common_5 : decode cX12_common 5 = .ok (.ifCond .eq 16, 3) := by decide +kernel
theorem dX12_common_21 : decode cX12_common 21 = .ok (.iload_n 2, 1) := by decide +kernel
theorem dX12_common_22 : decode cX12_common 22 = .ok (.ireturn, 1) := by decide +kernel
theorem dX12_isCell_0 : decode cX12_isCell 0 = .ok (.iload_n 1, 1) := by decide +kernel
theorem dX12_isCell_1 : decode cX12_isCell 1 = .ok (.iconst 0, 1) := by decide +kernel
theorem dX12_isCell_2 : decode cX12_isCell 2 = .ok (.aload_n 0, 1) := by decide +kernel
theorem dX12_isCell_3 : decode cX12_isCell 3 = .ok (.getfield 98, 3) := by decide +kernel
theorem dX12_isCell_6 : decode cX12_isCell 6 = .ok (.iconst 0, 1) := by decide +kernel
theorem dX12_isCell_7 : decode cX12_isCell 7 = .ok (.iaload, 1) := by decide +kernel
theorem dX12_isCell_8 : decode cX12_isCell 8 = .ok (.iconst 1, 1) := by decide +kernel
theorem dX12_isCell_9 : decode cX12_isCell 9 = .ok (.isub, 1) := by decide +kernel
theorem dX12_isCell_10 : decode cX12_isCell 10 = .ok (.invokestatic 75, 3) := by decide +kernel
theorem dX12_isCell_13 : decode cX12_isCell 13 = .ok (.ifCond .eq 23, 3) := by decide +kernel
theorem dX12_isCell_36 : decode cX12_isCell 36 = .ok (.iconst 0, 1) := by decide +kernel
theorem dX12_isCell_37 : decode cX12_isCell 37 = .ok (.ireturn, 1) := by decide +kernel
theorem dX12_isCell_16 : decode cX12_isCell 16 = .ok (.iload_n 2, 1) := by decide +kernel
theorem dX12_isCell_17 : decode cX12_isCell 17 = .ok (.iconst 0, 1) := by decide +kernel
theorem dX12_isCell_18 : decode cX12_isCell 18 = .ok (.aload_n 0, 1) := by decide +kernel
theorem dX12_isCell_19 : decode cX12_isCell 19 = .ok (.getfield 98, 3) := by decide +kernel
theorem dX12_isCell_22 : decode cX12_isCell 22 = .ok (.iconst 1, 1) := by decide +kernel
theorem dX12_isCell_23 : decode cX12_isCell 23 = .ok (.iaload, 1) := by decide +kernel
theorem dX12_isCell_24 : decode cX12_isCell 24 = .ok (.iconst 1, 1) := by decide +kernel
theorem dX12_isCell_25 : decode cX12_isCell 25 = .ok (.isub, 1) := by decide +kernel
theorem dX12_isCell_26 : decode cX12_isCell 26 = .ok (.invokestatic 75, 3) := by decide +kernel
theorem dX12_isCell_29 : decode cX12_isCell 29 = .ok (.ifCond .eq 7, 3) := by decide +kernel
theorem dX12_isCell_32 : decode cX12_isCell 32 = .ok (.iconst 1, 1) := by decide +kernel
theorem dX12_isCell_33 : decode cX12_isCell 33 = .ok (.goto 4, 3) := by decide +kernel
theorem dX12_isLump_0 : decode cX12_isLump 0 = .ok (.iload_n 1, 1) := by decide +kernel
theorem dX12_isLump_1 : decode cX12_isLump 1 = .ok (.iconst 0, 1) := by decide +kernel
theorem dX12_isLump_2 : decode cX12_isLump 2 = .ok (.aload_n 0, 1) := by decide +kernel
theorem dX12_isLump_3 : decode cX12_isLump 3 = .ok (.getfield 98, 3) := by decide +kernel
theorem dX12_isLump_6 : decode cX12_isLump 6 = .ok (.iconst 2, 1) := by decide +kernel
theorem dX12_isLump_7 : decode cX12_isLump 7 = .ok (.iaload, 1) := by decide +kernel
theorem dX12_isLump_8 : decode cX12_isLump 8 = .ok (.iconst 1, 1) := by decide +kernel
theorem dX12_isLump_9 : decode cX12_isLump 9 = .ok (.isub, 1) := by decide +kernel
theorem dX12_isLump_10 : decode cX12_isLump 10 = .ok (.invokestatic 75, 3) := by decide +kernel
theorem dX12_isLump_13 : decode cX12_isLump 13 = .ok (.ireturn, 1) := by decide +kernel
theorem dX12_isBoat_0 : decode cX12_isBoat 0 = .ok (.iload_n 1, 1) := by decide +kernel
theorem dX12_isBoat_1 : decode cX12_isBoat 1 = .ok (.iconst 0, 1) := by decide +kernel
theorem dX12_isBoat_2 : decode cX12_isBoat 2 = .ok (.aload_n 0, 1) := by decide +kernel
theorem dX12_isBoat_3 : decode cX12_isBoat 3 = .ok (.getfield 98, 3) := by decide +kernel
theorem dX12_isBoat_6 : decode cX12_isBoat 6 = .ok (.iconst 3, 1) := by decide +kernel
theorem dX12_isBoat_7 : decode cX12_isBoat 7 = .ok (.iaload, 1) := by decide +kernel
theorem dX12_isBoat_8 : decode cX12_isBoat 8 = .ok (.iconst 1, 1) := by decide +kernel
theorem dX12_isBoat_9 : decode cX12_isBoat 9 = .ok (.isub, 1) := by decide +kernel
theorem dX12_isBoat_10 : decode cX12_isBoat 10 = .ok (.invokestatic 75, 3) := by decide +kernel
theorem dX12_isBoat_13 : decode cX12_isBoat 13 = .ok (.ireturn, 1) := by decide +kernel
theorem dX12_hasSkin_0 : decode cX12_hasSkin 0 = .ok (.aload_n 0, 1) := by decide +kernel
theorem dX12_hasSkin_1 : decode cX12_hasSkin 1 = .ok (.getfield 98, 3) := by decide +kernel
theorem dX12_hasSkin_4 : decode cX12_hasSkin 4 = .ok (.bipush 68, 2) := by decide +kernel
theorem dX12_hasSkin_6 : decode cX12_hasSkin 6 = .ok (.iaload, 1) := by decide +kernel
theorem dX12_hasSkin_7 : decode cX12_hasSkin 7 = .ok (.aload_n 0, 1) := by decide +kernel
theorem dX12_hasSkin_8 : decode cX12_hasSkin 8 = .ok (.getfield 98, 3) := by decide +kernel
theorem dX12_hasSkin_11 : decode cX12_hasSkin 11 = .ok (.bipush 6, 2) := by decide +kernel
theorem dX12_hasSkin_13 : decode cX12_hasSkin 13 = .ok (.iaload, 1) := by decide +kernel
theorem dX12_hasSkin_14 : decode cX12_hasSkin 14 = .ok (.if_icmp .gt 7, 3) := by decide +kernel
theorem dX12_hasSkin_21 : decode cX12_hasSkin 21 = .ok (.iconst 0, 1) := by decide +kernel
theorem dX12_hasSkin_22 : decode cX12_hasSkin 22 = .ok (.ireturn, 1) := by decide +kernel
theorem dX12_hasSkin_17 : decode cX12_hasSkin 17 = .ok (.iconst 1, 1) := by decide +kernel
theorem dX12_hasSkin_18 : decode cX12_hasSkin 18 = .ok (.goto 4, 3) := by decide +kernel
theorem dX12_eaten_0 : decode cX12_eaten 0 = .ok (.iconst 0, 1) := by decide +kernel
theorem dX12_eaten_1 : decode cX12_eaten 1 = .ok (.istore_n 1, 1) := by decide +kernel
theorem dX12_eaten_2 : decode cX12_eaten 2 = .ok (.iconst 0, 1) := by decide +kernel
theorem dX12_eaten_3 : decode cX12_eaten 3 = .ok (.istore_n 2, 1) := by decide +kernel
theorem dX12_eaten_4 : decode cX12_eaten 4 = .ok (.iload_n 2, 1) := by decide +kernel
theorem dX12_eaten_5 : decode cX12_eaten 5 = .ok (.aload_n 0, 1) := by decide +kernel
theorem dX12_eaten_6 : decode cX12_eaten 6 = .ok (.getfield 98, 3) := by decide +kernel
theorem dX12_eaten_9 : decode cX12_eaten 9 = .ok (.iconst 3, 1) := by decide +kernel
theorem dX12_eaten_10 : decode cX12_eaten 10 = .ok (.iaload, 1) := by decide +kernel
theorem dX12_eaten_11 : decode cX12_eaten 11 = .ok (.if_icmp .ge 23, 3) := by decide +kernel
theorem dX12_eaten_34 : decode cX12_eaten 34 = .ok (.iload_n 1, 1) := by decide +kernel
theorem dX12_eaten_35 : decode cX12_eaten 35 = .ok (.ireturn, 1) := by decide +kernel
theorem dX12_isInSea_0 : decode cX12_isInSea 0 = .ok (.iload_n 1, 1) := by decide +kernel
theorem dX12_isInSea_1 : decode cX12_isInSea 1 = .ok (.bipush 6, 2) := by decide +kernel
theorem dX12_isInSea_3 : decode cX12_isInSea 3 = .ok (.irem, 1) := by decide +kernel
theorem dX12_isInSea_4 : decode cX12_isInSea 4 = .ok (.aload_n 0, 1) := by decide +kernel
theorem dX12_isInSea_5 : decode cX12_isInSea 5 = .ok (.getfield 98, 3) := by decide +kernel
theorem dX12_isInSea_8 : decode cX12_isInSea 8 = .ok (.iconst 0, 1) := by decide +kernel
theorem dX12_isInSea_9 : decode cX12_isInSea 9 = .ok (.iaload, 1) := by decide +kernel
theorem dX12_isInSea_10 : decode cX12_isInSea 10 = .ok (.if_icmp .ge 20, 3) := by decide +kernel
theorem dX12_isInSea_30 : decode cX12_isInSea 30 = .ok (.iconst 0, 1) := by decide +kernel
theorem dX12_isInSea_31 : decode cX12_isInSea 31 = .ok (.ireturn, 1) := by decide +kernel
theorem dX12_isInSea_13 : decode cX12_isInSea 13 = .ok (.iload_n 1, 1) := by decide +kernel
theorem dX12_isInSea_14 : decode cX12_isInSea 14 = .ok (.bipush 6, 2) := by decide +kernel
theorem dX12_isInSea_16 : decode cX12_isInSea 16 = .ok (.idiv, 1) := by decide +kernel
theorem dX12_isInSea_17 : decode cX12_isInSea 17 = .ok (.aload_n 0, 1) := by decide +kernel
theorem dX12_isInSea_18 : decode cX12_isInSea 18 = .ok (.getfield 98, 3) := by decide +kernel
theorem dX12_isInSea_21 : decode cX12_isInSea 21 = .ok (.iconst 1, 1) := by decide +kernel
theorem dX12_isInSea_22 : decode cX12_isInSea 22 = .ok (.iaload, 1) := by decide +kernel
theorem dX12_isInSea_23 : decode cX12_isInSea 23 = .ok (.if_icmp .ge 7, 3) := by decide +kernel
theorem dX12_isInSea_26 : decode cX12_isInSea 26 = .ok (.iconst 1, 1) := by decide +kernel
theorem dX12_isInSea_27 : decode cX12_isInSea 27 = .ok (.goto 4, 3) := by decide +kernel
theorem dX12_stirred_0 : decode cX12_stirred 0 = .ok (.iload_n 1, 1) := by decide +kernel
theorem dX12_stirred_1 : decode cX12_stirred 1 = .ok (.bipush 6, 2) := by decide +kernel
theorem dX12_stirred_3 : decode cX12_stirred 3 = .ok (.irem, 1) := by decide +kernel
theorem dX12_stirred_4 : decode cX12_stirred 4 = .ok (.istore_n 3, 1) := by decide +kernel
theorem dX12_stirred_5 : decode cX12_stirred 5 = .ok (.iload_n 1, 1) := by decide +kernel
theorem dX12_stirred_6 : decode cX12_stirred 6 = .ok (.bipush 6, 2) := by decide +kernel
theorem dX12_stirred_8 : decode cX12_stirred 8 = .ok (.idiv, 1) := by decide +kernel
theorem dX12_stirred_9 : decode cX12_stirred 9 = .ok (.istore 4, 2) := by decide +kernel
theorem dX12_stirred_11 : decode cX12_stirred 11 = .ok (.iload_n 2, 1) := by decide +kernel
theorem dX12_stirred_12 : decode cX12_stirred 12 = .ok (.bipush 12, 2) := by decide +kernel
theorem dX12_stirred_14 : decode cX12_stirred 14 = .ok (.if_icmp .lt 7, 3) := by decide +kernel
theorem dX12_stirred_21 : decode cX12_stirred 21 = .ok (.iconst 0, 1) := by decide +kernel
theorem dX12_stirred_22 : decode cX12_stirred 22 = .ok (.istore 5, 2) := by decide +kernel
theorem dX12_stirred_24 : decode cX12_stirred 24 = .ok (.iload 5, 2) := by decide +kernel
theorem dX12_stirred_26 : decode cX12_stirred 26 = .ok (.ifCond .eq 7, 3) := by decide +kernel
theorem dX12_stirred_33 : decode cX12_stirred 33 = .ok (.iload 4, 2) := by decide +kernel
theorem dX12_stirred_35 : decode cX12_stirred 35 = .ok (.iload_n 2, 1) := by decide +kernel
theorem dX12_stirred_36 : decode cX12_stirred 36 = .ok (.bipush 12, 2) := by decide +kernel
theorem dX12_stirred_38 : decode cX12_stirred 38 = .ok (.irem, 1) := by decide +kernel
theorem dX12_stirred_39 : decode cX12_stirred 39 = .ok (.iconst 2, 1) := by decide +kernel
theorem dX12_stirred_40 : decode cX12_stirred 40 = .ok (.idiv, 1) := by decide +kernel
theorem dX12_stirred_41 : decode cX12_stirred 41 = .ok (.if_icmp .eq 5, 3) := by decide +kernel
theorem dX12_stirred_46 : decode cX12_stirred 46 = .ok (.aload_n 0, 1) := by decide +kernel
theorem dX12_stirred_47 : decode cX12_stirred 47 = .ok (.getfield 98, 3) := by decide +kernel
theorem dX12_stirred_50 : decode cX12_stirred 50 = .ok (.iload 5, 2) := by decide +kernel
theorem dX12_stirred_52 : decode cX12_stirred 52 = .ok (.ifCond .eq 7, 3) := by decide +kernel
theorem dX12_stirred_59 : decode cX12_stirred 59 = .ok (.iconst 0, 1) := by decide +kernel
theorem dX12_stirred_60 : decode cX12_stirred 60 = .ok (.iaload, 1) := by decide +kernel
theorem dX12_stirred_61 : decode cX12_stirred 61 = .ok (.istore 6, 2) := by decide +kernel
theorem dX12_stirred_63 : decode cX12_stirred 63 = .ok (.iload 5, 2) := by decide +kernel
theorem dX12_stirred_65 : decode cX12_stirred 65 = .ok (.ifCond .eq 8, 3) := by decide +kernel
theorem dX12_stirred_73 : decode cX12_stirred 73 = .ok (.iload_n 3, 1) := by decide +kernel
theorem dX12_stirred_74 : decode cX12_stirred 74 = .ok (.iload_n 2, 1) := by decide +kernel
theorem dX12_stirred_75 : decode cX12_stirred 75 = .ok (.iconst 2, 1) := by decide +kernel
theorem dX12_stirred_76 : decode cX12_stirred 76 = .ok (.irem, 1) := by decide +kernel
theorem dX12_stirred_77 : decode cX12_stirred 77 = .ok (.ifCond .ne 7, 3) := by decide +kernel
theorem dX12_stirred_84 : decode cX12_stirred 84 = .ok (.iload 6, 2) := by decide +kernel
theorem dX12_stirred_86 : decode cX12_stirred 86 = .ok (.iconst 1, 1) := by decide +kernel
theorem dX12_stirred_87 : decode cX12_stirred 87 = .ok (.isub, 1) := by decide +kernel
theorem dX12_stirred_88 : decode cX12_stirred 88 = .ok (.iadd, 1) := by decide +kernel
theorem dX12_stirred_89 : decode cX12_stirred 89 = .ok (.iload 6, 2) := by decide +kernel
theorem dX12_stirred_91 : decode cX12_stirred 91 = .ok (.irem, 1) := by decide +kernel
theorem dX12_stirred_92 : decode cX12_stirred 92 = .ok (.istore 7, 2) := by decide +kernel
theorem dX12_stirred_94 : decode cX12_stirred 94 = .ok (.iload 5, 2) := by decide +kernel
theorem dX12_stirred_96 : decode cX12_stirred 96 = .ok (.ifCond .eq 13, 3) := by decide +kernel
theorem dX12_stirred_109 : decode cX12_stirred 109 = .ok (.bipush 6, 2) := by decide +kernel
theorem dX12_stirred_111 : decode cX12_stirred 111 = .ok (.iload 4, 2) := by decide +kernel
theorem dX12_stirred_113 : decode cX12_stirred 113 = .ok (.imul, 1) := by decide +kernel
theorem dX12_stirred_114 : decode cX12_stirred 114 = .ok (.iload 7, 2) := by decide +kernel
theorem dX12_stirred_116 : decode cX12_stirred 116 = .ok (.iadd, 1) := by decide +kernel
theorem dX12_stirred_117 : decode cX12_stirred 117 = .ok (.ireturn, 1) := by decide +kernel
theorem dX12_stirred_80 : decode cX12_stirred 80 = .ok (.iconst 1, 1) := by decide +kernel
theorem dX12_stirred_81 : decode cX12_stirred 81 = .ok (.goto 7, 3) := by decide +kernel
theorem dX12_stirred_44 : decode cX12_stirred 44 = .ok (.iload_n 1, 1) := by decide +kernel
theorem dX12_stirred_45 : decode cX12_stirred 45 = .ok (.ireturn, 1) := by decide +kernel
theorem dX12_stirred_17 : decode cX12_stirred 17 = .ok (.iconst 1, 1) := by decide +kernel
theorem dX12_stirred_18 : decode cX12_stirred 18 = .ok (.goto 4, 3) := by decide +kernel
theorem dX12_stirred_29 : decode cX12_stirred 29 = .ok (.iload_n 3, 1) := by decide +kernel
theorem dX12_stirred_30 : decode cX12_stirred 30 = .ok (.goto 5, 3) := by decide +kernel
theorem dX12_stirred_55 : decode cX12_stirred 55 = .ok (.iconst 1, 1) := by decide +kernel
theorem dX12_stirred_56 : decode cX12_stirred 56 = .ok (.goto 4, 3) := by decide +kernel
theorem dX12_stirred_68 : decode cX12_stirred 68 = .ok (.iload 4, 2) := by decide +kernel
theorem dX12_stirred_70 : decode cX12_stirred 70 = .ok (.goto 4, 3) := by decide +kernel
theorem dX12_stirred_99 : decode cX12_stirred 99 = .ok (.bipush 6, 2) := by decide +kernel
theorem dX12_stirred_101 : decode cX12_stirred 101 = .ok (.iload 7, 2) := by decide +kernel
theorem dX12_stirred_103 : decode cX12_stirred 103 = .ok (.imul, 1) := by decide +kernel
theorem dX12_stirred_104 : decode cX12_stirred 104 = .ok (.iload_n 3, 1) := by decide +kernel
theorem dX12_stirred_105 : decode cX12_stirred 105 = .ok (.iadd, 1) := by decide +kernel
theorem dX12_stirred_106 : decode cX12_stirred 106 = .ok (.goto 11, 3) := by decide +kernel
theorem dX12_costOf_0 : decode cX12_costOf 0 = .ok (.aload_n 0, 1) := by decide +kernel
theorem dX12_costOf_1 : decode cX12_costOf 1 = .ok (.invokevirtual 240, 3) := by decide +kernel
theorem dX12_costOf_4 : decode cX12_costOf 4 = .ok (.ifCond .eq 7, 3) := by decide +kernel
theorem dX12_costOf_11 : decode cX12_costOf 11 = .ok (.iconst 1, 1) := by decide +kernel
theorem dX12_costOf_12 : decode cX12_costOf 12 = .ok (.aload_n 0, 1) := by decide +kernel
theorem dX12_costOf_13 : decode cX12_costOf 13 = .ok (.getfield 98, 3) := by decide +kernel
theorem dX12_costOf_16 : decode cX12_costOf 16 = .ok (.bipush 71, 2) := by decide +kernel
theorem dX12_costOf_18 : decode cX12_costOf 18 = .ok (.iload_n 1, 1) := by decide +kernel
theorem dX12_costOf_19 : decode cX12_costOf 19 = .ok (.iadd, 1) := by decide +kernel
theorem dX12_costOf_20 : decode cX12_costOf 20 = .ok (.iaload, 1) := by decide +kernel
theorem dX12_costOf_21 : decode cX12_costOf 21 = .ok (.iconst 3, 1) := by decide +kernel
theorem dX12_costOf_22 : decode cX12_costOf 22 = .ok (.idiv, 1) := by decide +kernel
theorem dX12_costOf_23 : decode cX12_costOf 23 = .ok (.iadd, 1) := by decide +kernel
theorem dX12_costOf_24 : decode cX12_costOf 24 = .ok (.ireturn, 1) := by decide +kernel
set_option maxRecDepth 20000 in
theorem ggX12_isCell_X12_isIn : GoodIn wsX12_isCell wsX12_isIn := goodIn_r _ [5] (by decide +kernel) (by decide +kernel)
set_option maxRecDepth 20000 in
theorem ggX12_isLump_X12_isIn : GoodIn wsX12_isLump wsX12_isIn := goodIn_r _ [5] (by decide +kernel) (by decide +kernel)
set_option maxRecDepth 20000 in
theorem ggX12_isBoat_X12_isIn : GoodIn wsX12_isBoat wsX12_isIn := goodIn_r _ [5] (by decide +kernel) (by decide +kernel)
set_option maxRecDepth 20000 in
theorem ggX12_costOf_X12_hasSkin : GoodIn wsX12_costOf wsX12_hasSkin := goodIn_r _ [6, 1, 7, 8, 9, 10, 11, 12, 13, 14, 15, 16, 17, 18, 19, 20, 21, 22, 23, 24, 25, 26, 27, 28, 29, 30, 31, 32, 33, 34, 35, 36, 37, 38, 39, 40, 41, 42, 43, 44, 45, 46, 47, 48, 49, 50, 51, 52, 53, 54, 55, 56, 57, 58] (by decide +kernel) (by decide +kernel)
set_option maxRecDepth 20000 in
theorem gX12_isCell_X12_isIn : GoodIn wsX12_isCell (va_wsS RX12 75 yX12_isIn wsX12_isIn) := goodIn_app (goodIn_of _ (by decide +kernel)) ggX12_isCell_X12_isIn
set_option maxRecDepth 20000 in
theorem gX12_isLump_X12_isIn : GoodIn wsX12_isLump (va_wsS RX12 75 yX12_isIn wsX12_isIn) := goodIn_app (goodIn_of _ (by decide +kernel)) ggX12_isLump_X12_isIn
set_option maxRecDepth 20000 in
theorem gX12_isBoat_X12_isIn : GoodIn wsX12_isBoat (va_wsS RX12 75 yX12_isIn wsX12_isIn) := goodIn_app (goodIn_of _ (by decide +kernel)) ggX12_isBoat_X12_isIn
set_option maxRecDepth 20000 in
theorem gX12_costOf_X12_hasSkin : GoodIn wsX12_costOf (wsV RX12 240 RX12 yX12_hasSkin wsX12_hasSkin) := goodIn_app (goodIn_of _ (by decide +kernel)) ggX12_costOf_X12_hasSkin
/-- what startRead() leaves in the row 'read' -/
def rd0 : Nat → Int32 := fun j => if j = 0 then nI 4 else if j = 1 then nI 4 else if j = 4 then nI 10 else if j = 5 then nI 1 else if j = 6 then nI 3 else nI 0
/-- the row 'now' of a fresh object -/
def NowOk (f : Nat → Int32) : Prop := (∀ j, j < 67 → f j = rd0 j) ∧ f 67 = nI 0 ∧ f 68 = nI 10 ∧ ∀ j, 69 ≤ j → j < 373 → f j = nI 0
/-- what stays through days and stirs: four wide, four high, no lump, no boat -/
def NowB (f : Nat → Int32) : Prop := f 0 = nI 4 ∧ f 1 = nI 4 ∧ f 2 = nI 0 ∧ f 3 = nI 0
theorem NowOk.b {f : Nat → Int32} (h : NowOk f) : NowB f := ⟨h.1 0 (by decide), h.1 1 (by decide), h.1 2 (by decide), h.1 3 (by decide)⟩
theorem NowB.up {f : Nat → Int32} {j : Nat} {x : Int32} (h : NowB f) (hj : 4 ≤ j) : NowB (upd f j x) := by
  obtain ⟨h0, h1, h2, h3⟩ := h
  refine ⟨?_, ?_, ?_, ?_⟩ <;> (unfold upd; rw [if_neg (by omega)]; assumption)
theorem NowOk.up0 {f : Nat → Int32} {j : Nat} (h : NowOk f) (hj : 69 ≤ j) : NowOk (upd f j (nI 0)) := by
  obtain ⟨h0, h1, h2, h3⟩ := h
  refine ⟨?_, ?_, ?_, ?_⟩
  · intro i hi; unfold upd; rw [if_neg (by omega)]; exact h0 i hi
  · unfold upd; rw [if_neg (by omega)]; exact h1
  · unfold upd; rw [if_neg (by omega)]; exact h2
  · intro i hi hi2; unfold upd; by_cases h : i = j
    · rw [if_pos h]
    · rw [if_neg h]; exact h3 i hi hi2
theorem now_lo {f : Nat → Int32} (h : NowOk f) (j : Nat) (h1 : 7 ≤ j) (h2 : j < 67) : f j = nI 0 := by
  rw [h.1 j h2]; unfold rd0
  rw [if_neg (by omega), if_neg (by omega), if_neg (by omega), if_neg (by omega), if_neg (by omega)]
theorem now_hi {f : Nat → Int32} (h : NowOk f) (j : Nat) (h1 : 69 ≤ j) (h2 : j < 373) : f j = nI 0 := h.2.2.2 j h1 h2
theorem now_4 {f : Nat → Int32} (h : NowOk f) : f 4 = nI 10 := h.1 4 (by decide)
theorem now_5 {f : Nat → Int32} (h : NowOk f) : f 5 = nI 1 := h.1 5 (by decide)
theorem now_6 {f : Nat → Int32} (h : NowOk f) : f 6 = nI 3 := h.1 6 (by decide)
theorem nowOk_mk {f : Nat → Int32} (hr : ∀ j, j < 67 → f j = rd0 j) (hz : ∀ j, 67 ≤ j → j < 373 → f j = nI 0) : NowOk (upd f 68 (nI 10)) := by
  refine ⟨?_, ?_, ?_, ?_⟩
  · intro i hi; unfold upd; rw [if_neg (by omega)]; exact hr i hi
  · unfold upd; rw [if_neg (by omega)]; exact hz 67 (by omega) (by omega)
  · unfold upd; rw [if_pos rfl]
  · intro i hi hi2; unfold upd; rw [if_neg (by omega)]; exact hz i (by omega) hi2
theorem nI_self (y : Int32) : y = nI y.toBitVec.toNat := by
  rw [← Int32.toBitVec_inj]; simp [nI]
theorem ush8 (x : Int32) : ∃ m : Nat, m < 16777216 ∧ (x.toUInt32 >>> ((nI 8).toUInt32 &&& Int32.toUInt32 31)).toInt32 = nI m := by
  refine ⟨(x.toUInt32 >>> ((nI 8).toUInt32 &&& Int32.toUInt32 31)).toInt32.toBitVec.toNat, ?_, ?_⟩
  · rw [pk_ushr x (nI 8) 8 (by decide)]
    have h := x.toBitVec.isLt
    omega
  · exact nI_self _
set_option maxRecDepth 20000 in
theorem lf_isIn_1 (x : Int32) (a : Int32) (b : Int32) (c1 : x < a) : ((nI 0) = nI 1 ∧ a.toInt ≤ x.toInt ∧ x.toInt ≤ b.toInt) ∨ ((nI 0) = nI 0 ∧ ¬ (a.toInt ≤ x.toInt ∧ x.toInt ≤ b.toInt)) := by
  have k_0 := ia_n 0 (by decide)
  have k_1 := ia_n 1 (by decide)
  simp only [ia_lt, ia_le, ia_eq, ia_m1, ia_0, ia_1, ne_eq, true_and, and_true, false_and, and_false, or_false, false_or, or_true, true_or, not_true_eq_false, not_false_eq_true] at *
  all_goals omega
set_option maxRecDepth 20000 in
theorem lf_isIn_2 (x : Int32) (a : Int32) (b : Int32) (c1 : ¬ x < a) (c2 : b < x) : ((nI 0) = nI 1 ∧ a.toInt ≤ x.toInt ∧ x.toInt ≤ b.toInt) ∨ ((nI 0) = nI 0 ∧ ¬ (a.toInt ≤ x.toInt ∧ x.toInt ≤ b.toInt)) := by
  have k_0 := ia_n 0 (by decide)
  have k_1 := ia_n 1 (by decide)
  simp only [ia_lt, ia_le, ia_eq, ia_m1, ia_0, ia_1, ne_eq, true_and, and_true, false_and, and_false, or_false, false_or, or_true, true_or, not_true_eq_false, not_false_eq_true] at *
  all_goals omega
set_option maxRecDepth 20000 in
theorem lf_isIn_3 (x : Int32) (a : Int32) (b : Int32) (c1 : ¬ x < a) (c2 : ¬ b < x) : ((nI 1) = nI 1 ∧ a.toInt ≤ x.toInt ∧ x.toInt ≤ b.toInt) ∨ ((nI 1) = nI 0 ∧ ¬ (a.toInt ≤ x.toInt ∧ x.toInt ≤ b.toInt)) := by
  have k_0 := ia_n 1 (by decide)
  have k_1 := ia_n 0 (by decide)
  simp only [ia_lt, ia_le, ia_eq, ia_m1, ia_0, ia_1, ne_eq, true_and, and_true, false_and, and_false, or_false, false_or, or_true, true_or, not_true_eq_false, not_false_eq_true] at *
  all_goals omega
set_option maxHeartbeats 4000000 in
set_option maxRecDepth 100000 in
theorem c_isIn (l : Launch) (dC : Nat → ClassId) (dI : Nat → Nat → Nat) (ky : Nat → ClassId) (x : Int32) (a : Int32) (b : Int32)  : Met l yX12_isIn wsX12_isIn ({ frames := 0, cells := 0, slots := 0, locals := 0 }) (PcP dC dI ky [.int x, .int a, .int b] []) (vp_Si (fun r : Int32 => (r = nI 1 ∧ a.toInt ≤ x.toInt ∧ x.toInt ≤ b.toInt) ∨ (r = nI 0 ∧ ¬ (a.toInt ≤ x.toInt ∧ x.toInt ≤ b.toInt)))) 0 0 (fun _ => False) := by
  refine Met.ofW (cc := cX12_isIn) (maxL := 3) (ret := (some .boolean)) (by decide) rfl ?_
  intro p e s m args below meth c s₁ B hml hv
  obtain ⟨rfl, hP, hK⟩ := hv
  have hx := B.exec
  have hb := B.bytes
  have hr := B.returns
  have hts := atoms_spec (ws := wsX12_isIn) B.pre
  have hown : s.vm.findClass RX12 = some m.cls := findClass_of_methodNamed B.named
  have hlocks := B.notSynchronized
  have hl := lv_entry ([.int x, .int a, .int b]) (n := 3) (Nat.le_of_ble_eq_true rfl)
  rw [lg_entry_eq]
  generalize (lg_sl ([.int x, .int a, .int b]) ++ List.replicate (3 - (lg_sl ([.int x, .int a, .int b])).length) Slot.unset).toArray = ls at hl ⊢
  have hl : lv_has ls 3 [(0, .int x), (1, .int a), (2, .int b)] := hl
  refine lv_iload_n hx hb dX12_isIn_0 rfl (lv_at hl 0 rfl) ?_
  refine lv_iload_n hx hb dX12_isIn_1 rfl (lv_at hl 1 rfl) ?_
  refine lv_icmp_lt (tgt := 14) hx hb dX12_isIn_2 (by decide) (fun c1 => ?_) (fun c1 => ?_)
  · refine lv_iconst (v := nI 0) hx hb dX12_isIn_14 (by decide) ?_
    exact W.zret (v := nI 0) hx hb hr (by decide) (fun t ht9 hW9 => ⟨nI 0, rfl, (lf_isIn_1 x a b c1), ht9⟩) (fun _ h => absurd h List.not_mem_nil) dX12_isIn_15
  · refine lv_iload_n hx hb dX12_isIn_5 rfl (lv_at hl 0 rfl) ?_
    refine lv_iload_n hx hb dX12_isIn_6 rfl (lv_at hl 2 rfl) ?_
    refine lv_icmp_gt (tgt := 14) hx hb dX12_isIn_7 (by decide) (fun c2 => ?_) (fun c2 => ?_)
    · refine lv_iconst (v := nI 0) hx hb dX12_isIn_14 (by decide) ?_
      exact W.zret (v := nI 0) hx hb hr (by decide) (fun t ht9 hW9 => ⟨nI 0, rfl, (lf_isIn_2 x a b c1 c2), ht9⟩) (fun _ h => absurd h List.not_mem_nil) dX12_isIn_15
    · refine lv_iconst (v := nI 1) hx hb dX12_isIn_10 (by decide) ?_
      refine lv_goto (tgt := 15) hx hb dX12_isIn_11 (by decide) ?_
      exact W.zret (v := nI 1) hx hb hr (by decide) (fun t ht9 hW9 => ⟨nI 1, rfl, (lf_isIn_3 x a b c1 c2), ht9⟩) (fun _ h => absurd h List.not_mem_nil) dX12_isIn_15
set_option maxRecDepth 20000 in
theorem lf_isInNone_1 (x : Int32) (c1 : ¬ x < nI 0) (c2 : ¬ (-1 : Int32) < x) : (nI 1) = nI 0 := by
  have k_0 := ia_n 0 (by decide)
  have k_1 := ia_n 1 (by decide)
  simp only [ia_lt, ia_le, ia_eq, ia_m1, ia_0, ia_1, ne_eq, true_and, and_true, false_and, and_false, or_false, false_or, or_true, true_or, not_true_eq_false, not_false_eq_true] at *
  all_goals omega
set_option maxHeartbeats 4000000 in
set_option maxRecDepth 100000 in
theorem c_isInNone (l : Launch) (dC : Nat → ClassId) (dI : Nat → Nat → Nat) (ky : Nat → ClassId) (x : Int32)  : Met l yX12_isIn wsX12_isIn ({ frames := 0, cells := 0, slots := 0, locals := 0 }) (PcP dC dI ky [.int x, .int (nI 0), .int (-1 : Int32)] []) (vp_Si (fun r : Int32 => r = nI 0)) 0 0 (fun _ => False) := by
  refine Met.ofW (cc := cX12_isIn) (maxL := 3) (ret := (some .boolean)) (by decide) rfl ?_
  intro p e s m args below meth c s₁ B hml hv
  obtain ⟨rfl, hP, hK⟩ := hv
  have hx := B.exec
  have hb := B.bytes
  have hr := B.returns
  have hts := atoms_spec (ws := wsX12_isIn) B.pre
  have hown : s.vm.findClass RX12 = some m.cls := findClass_of_methodNamed B.named
  have hlocks := B.notSynchronized
  have hl := lv_entry ([.int x, .int (nI 0), .int (-1 : Int32)]) (n := 3) (Nat.le_of_ble_eq_true rfl)
  rw [lg_entry_eq]
  generalize (lg_sl ([.int x, .int (nI 0), .int (-1 : Int32)]) ++ List.replicate (3 - (lg_sl ([.int x, .int (nI 0), .int (-1 : Int32)])).length) Slot.unset).toArray = ls at hl ⊢
  have hl : lv_has ls 3 [(0, .int x), (1, .int (nI 0)), (2, .int (-1 : Int32))] := hl
  refine lv_iload_n hx hb dX12_isIn_0 rfl (lv_at hl 0 rfl) ?_
  refine lv_iload_n hx hb dX12_isIn_1 rfl (lv_at hl 1 rfl) ?_
  refine lv_icmp_lt (tgt := 14) hx hb dX12_isIn_2 (by decide) (fun c1 => ?_) (fun c1 => ?_)
  · refine lv_iconst (v := nI 0) hx hb dX12_isIn_14 (by decide) ?_
    exact W.zret (v := nI 0) hx hb hr (by decide) (fun t ht9 hW9 => ⟨nI 0, rfl, rfl, ht9⟩) (fun _ h => absurd h List.not_mem_nil) dX12_isIn_15
  · refine lv_iload_n hx hb dX12_isIn_5 rfl (lv_at hl 0 rfl) ?_
    refine lv_iload_n hx hb dX12_isIn_6 rfl (lv_at hl 2 rfl) ?_
    refine lv_icmp_gt (tgt := 14) hx hb dX12_isIn_7 (by decide) (fun c2 => ?_) (fun c2 => ?_)
    · refine lv_iconst (v := nI 0) hx hb dX12_isIn_14 (by decide) ?_
      exact W.zret (v := nI 0) hx hb hr (by decide) (fun t ht9 hW9 => ⟨nI 0, rfl, rfl, ht9⟩) (fun _ h => absurd h List.not_mem_nil) dX12_isIn_15
    · refine lv_iconst (v := nI 1) hx hb dX12_isIn_10 (by decide) ?_
      refine lv_goto (tgt := 15) hx hb dX12_isIn_11 (by decide) ?_
      exact W.zret (v := nI 1) hx hb hr (by decide) (fun t ht9 hW9 => ⟨nI 1, rfl, (lf_isInNone_1 x c1 c2), ht9⟩) (fun _ h => absurd h List.not_mem_nil) dX12_isIn_15
set_option maxHeartbeats 4000000 in
set_option maxRecDepth 100000 in
theorem c_isIn016 (l : Launch) (dC : Nat → ClassId) (dI : Nat → Nat → Nat) (ky : Nat → ClassId)   : Met l yX12_isIn wsX12_isIn ({ frames := 0, cells := 0, slots := 0, locals := 0 }) (PcP dC dI ky [.int (nI 0), .int (nI 1), .int (nI 6)] []) (vp_Si (fun r : Int32 => r = nI 0)) 0 0 (fun _ => False) := by
  refine Met.ofW (cc := cX12_isIn) (maxL := 3) (ret := (some .boolean)) (by decide) rfl ?_
  intro p e s m args below meth c s₁ B hml hv
  obtain ⟨rfl, hP, hK⟩ := hv
  have hx := B.exec
  have hb := B.bytes
  have hr := B.returns
  have hts := atoms_spec (ws := wsX12_isIn) B.pre
  have hown : s.vm.findClass RX12 = some m.cls := findClass_of_methodNamed B.named
  have hlocks := B.notSynchronized
  have hl := lv_entry ([.int (nI 0), .int (nI 1), .int (nI 6)]) (n := 3) (Nat.le_of_ble_eq_true rfl)
  rw [lg_entry_eq]
  generalize (lg_sl ([.int (nI 0), .int (nI 1), .int (nI 6)]) ++ List.replicate (3 - (lg_sl ([.int (nI 0), .int (nI 1), .int (nI 6)])).length) Slot.unset).toArray = ls at hl ⊢
  have hl : lv_has ls 3 [(0, .int (nI 0)), (1, .int (nI 1)), (2, .int (nI 6))] := hl
  refine lv_iload_n hx hb dX12_isIn_0 rfl (lv_at hl 0 rfl) ?_
  refine lv_iload_n hx hb dX12_isIn_1 rfl (lv_at hl 1 rfl) ?_
  refine lv_icmp_lt (tgt := 14) hx hb dX12_isIn_2 (by decide) (fun c1 => ?_) (fun c1 => absurd (by decide) c1)
  refine lv_iconst (v := nI 0) hx hb dX12_isIn_14 (by decide) ?_
  exact W.zret (v := nI 0) hx hb hr (by decide) (fun t ht9 hW9 => ⟨nI 0, rfl, rfl, ht9⟩) (fun _ h => absurd h List.not_mem_nil) dX12_isIn_15
set_option maxHeartbeats 4000000 in
set_option maxRecDepth 100000 in
theorem c_isIn003 (l : Launch) (dC : Nat → ClassId) (dI : Nat → Nat → Nat) (ky : Nat → ClassId)   : Met l yX12_isIn wsX12_isIn ({ frames := 0, cells := 0, slots := 0, locals := 0 }) (PcP dC dI ky [.int (nI 0), .int (nI 0), .int (nI 3)] []) (vp_Si (fun r : Int32 => r = nI 1)) 0 0 (fun _ => False) := by
  refine Met.ofW (cc := cX12_isIn) (maxL := 3) (ret := (some .boolean)) (by decide) rfl ?_
  intro p e s m args below meth c s₁ B hml hv
  obtain ⟨rfl, hP, hK⟩ := hv
  have hx := B.exec
  have hb := B.bytes
  have hr := B.returns
  have hts := atoms_spec (ws := wsX12_isIn) B.pre
  have hown : s.vm.findClass RX12 = some m.cls := findClass_of_methodNamed B.named
  have hlocks := B.notSynchronized
  have hl := lv_entry ([.int (nI 0), .int (nI 0), .int (nI 3)]) (n := 3) (Nat.le_of_ble_eq_true rfl)
  rw [lg_entry_eq]
  generalize (lg_sl ([.int (nI 0), .int (nI 0), .int (nI 3)]) ++ List.replicate (3 - (lg_sl ([.int (nI 0), .int (nI 0), .int (nI 3)])).length) Slot.unset).toArray = ls at hl ⊢
  have hl : lv_has ls 3 [(0, .int (nI 0)), (1, .int (nI 0)), (2, .int (nI 3))] := hl
  refine lv_iload_n hx hb dX12_isIn_0 rfl (lv_at hl 0 rfl) ?_
  refine lv_iload_n hx hb dX12_isIn_1 rfl (lv_at hl 1 rfl) ?_
  refine lv_icmp_lt (tgt := 14) hx hb dX12_isIn_2 (by decide) (fun c1 => absurd c1 (by decide)) (fun c1 => ?_)
  refine lv_iload_n hx hb dX12_isIn_5 rfl (lv_at hl 0 rfl) ?_
  refine lv_iload_n hx hb dX12_isIn_6 rfl (lv_at hl 2 rfl) ?_
  refine lv_icmp_gt (tgt := 14) hx hb dX12_isIn_7 (by decide) (fun c2 => absurd c2 (by decide)) (fun c2 => ?_)
  refine lv_iconst (v := nI 1) hx hb dX12_isIn_10 (by decide) ?_
  refine lv_goto (tgt := 15) hx hb dX12_isIn_11 (by decide) ?_
  exact W.zret (v := nI 1) hx hb hr (by decide) (fun t ht9 hW9 => ⟨nI 1, rfl, rfl, ht9⟩) (fun _ h => absurd h List.not_mem_nil) dX12_isIn_15
set_option maxRecDepth 20000 in
theorem lf_m_least_1 (x : Int32) (y : Int32) (c1 : y ≤ x) : True := by
  simp only [ia_lt, ia_le, ia_eq, ia_m1, ia_0, ia_1, ne_eq, true_and, and_true, false_and, and_false, or_false, false_or, or_true, true_or, not_true_eq_false, not_false_eq_true] at *
  all_goals omega
set_option maxRecDepth 20000 in
theorem lf_m_least_2 (x : Int32) (y : Int32) (c1 : ¬ y ≤ x) : True := by
  simp only [ia_lt, ia_le, ia_eq, ia_m1, ia_0, ia_1, ne_eq, true_and, and_true, false_and, and_false, or_false, false_or, or_true, true_or, not_true_eq_false, not_false_eq_true] at *
  all_goals omega
set_option maxHeartbeats 4000000 in
set_option maxRecDepth 100000 in
theorem c_m_least (l : Launch) (dC : Nat → ClassId) (dI : Nat → Nat → Nat) (ky : Nat → ClassId) (x : Int32) (y : Int32)  : Met l yX12_least wsX12_least ({ frames := 0, cells := 0, slots := 0, locals := 0 }) (PcP dC dI ky [.int x, .int y] []) (vp_Si (fun r : Int32 => True)) 0 0 (fun _ => False) := by
  refine Met.ofW (cc := cX12_least) (maxL := 2) (ret := (some .int)) (by decide) rfl ?_
  intro p e s m args below meth c s₁ B hml hv
  obtain ⟨rfl, hP, hK⟩ := hv
  have hx := B.exec
  have hb := B.bytes
  have hr := B.returns
  have hts := atoms_spec (ws := wsX12_least) B.pre
  have hown : s.vm.findClass RX12 = some m.cls := findClass_of_methodNamed B.named
  have hlocks := B.notSynchronized
  have hl := lv_entry ([.int x, .int y]) (n := 2) (Nat.le_of_ble_eq_true rfl)
  rw [lg_entry_eq]
  generalize (lg_sl ([.int x, .int y]) ++ List.replicate (2 - (lg_sl ([.int x, .int y])).length) Slot.unset).toArray = ls at hl ⊢
  have hl : lv_has ls 2 [(0, .int x), (1, .int y)] := hl
  refine lv_iload_n hx hb dX12_least_0 rfl (lv_at hl 0 rfl) ?_
  refine lv_iload_n hx hb dX12_least_1 rfl (lv_at hl 1 rfl) ?_
  refine lv_icmp_ge (tgt := 9) hx hb dX12_least_2 (by decide) (fun c1 => ?_) (fun c1 => ?_)
  · refine lv_iload_n hx hb dX12_least_9 rfl (lv_at hl 1 rfl) ?_
    exact W.iret (v := y) hx hb hr (fun t ht9 hW9 => ⟨y, rfl, (lf_m_least_1 x y c1), ht9⟩) (fun _ h => absurd h List.not_mem_nil) dX12_least_10
  · refine lv_iload_n hx hb dX12_least_5 rfl (lv_at hl 0 rfl) ?_
    refine lv_goto (tgt := 10) hx hb dX12_least_6 (by decide) ?_
    exact W.iret (v := x) hx hb hr (fun t ht9 hW9 => ⟨x, rfl, (lf_m_least_2 x y c1), ht9⟩) (fun _ h => absurd h List.not_mem_nil) dX12_least_10
set_option maxHeartbeats 4000000 in
set_option maxRecDepth 100000 in
theorem c_m_leastN (l : Launch) (dC : Nat → ClassId) (dI : Nat → Nat → Nat) (ky : Nat → ClassId) (n : Nat) (hn : n ≤ 60) : Met l yX12_least wsX12_least ({ frames := 0, cells := 0, slots := 0, locals := 0 }) (PcP dC dI ky [.int (nI n), .int (nI 400)] []) (vp_Si (fun r : Int32 => r = nI n)) 0 0 (fun _ => False) := by
  refine Met.ofW (cc := cX12_least) (maxL := 2) (ret := (some .int)) (by decide) rfl ?_
  intro p e s m args below meth c s₁ B hml hv
  obtain ⟨rfl, hP, hK⟩ := hv
  have hx := B.exec
  have hb := B.bytes
  have hr := B.returns
  have hts := atoms_spec (ws := wsX12_least) B.pre
  have hown : s.vm.findClass RX12 = some m.cls := findClass_of_methodNamed B.named
  have hlocks := B.notSynchronized
  have hl := lv_entry ([.int (nI n), .int (nI 400)]) (n := 2) (Nat.le_of_ble_eq_true rfl)
  rw [lg_entry_eq]
  generalize (lg_sl ([.int (nI n), .int (nI 400)]) ++ List.replicate (2 - (lg_sl ([.int (nI n), .int (nI 400)])).length) Slot.unset).toArray = ls at hl ⊢
  have hl : lv_has ls 2 [(0, .int (nI n)), (1, .int (nI 400))] := hl
  refine lv_iload_n hx hb dX12_least_0 rfl (lv_at hl 0 rfl) ?_
  refine lv_iload_n hx hb dX12_least_1 rfl (lv_at hl 1 rfl) ?_
  refine n_icmp_ge (x := n) (y := 400) (tgt := 9) hx hb (by omega) (by omega) dX12_least_2 (by decide) (fun c1 => by exfalso; omega) (fun c1 => ?_)
  refine lv_iload_n hx hb dX12_least_5 rfl (lv_at hl 0 rfl) ?_
  refine lv_goto (tgt := 10) hx hb dX12_least_6 (by decide) ?_
  exact W.iret (v := nI n) hx hb hr (fun t ht9 hW9 => ⟨nI n, rfl, rfl, ht9⟩) (fun _ h => absurd h List.not_mem_nil) dX12_least_10
set_option maxRecDepth 20000 in
theorem lf_m_lineOf_1 (x : Int32) (y : Int32) (z : Int32) (y1 : Int32) (y3 : Int32) (y5 : Int32) (y7 : Int32) (e2 : y1 = (nI 12) * x) (e4 : y3 = (nI 2) * y) (e6 : y5 = y1 + y3) (e8 : y7 = y5 + z) : True := by
  have k_0 := ia_n 12 (by decide)
  have k_1 := ia_n 2 (by decide)
  simp only [ia_lt, ia_le, ia_eq, ia_m1, ia_0, ia_1, ne_eq, true_and, and_true, false_and, and_false, or_false, false_or, or_true, true_or, not_true_eq_false, not_false_eq_true] at *
  all_goals omega
set_option maxHeartbeats 4000000 in
set_option maxRecDepth 100000 in
theorem c_m_lineOf (l : Launch) (dC : Nat → ClassId) (dI : Nat → Nat → Nat) (ky : Nat → ClassId) (x : Int32) (y : Int32) (z : Int32)  : Met l yX12_lineOf wsX12_lineOf ({ frames := 0, cells := 0, slots := 0, locals := 0 }) (PcP dC dI ky [.int x, .int y, .int z] []) (vp_Si (fun r : Int32 => True)) 0 0 (fun _ => False) := by
  refine Met.ofW (cc := cX12_lineOf) (maxL := 3) (ret := (some .int)) (by decide) rfl ?_
  intro p e s m args below meth c s₁ B hml hv
  obtain ⟨rfl, hP, hK⟩ := hv
  have hx := B.exec
  have hb := B.bytes
  have hr := B.returns
  have hts := atoms_spec (ws := wsX12_lineOf) B.pre
  have hown : s.vm.findClass RX12 = some m.cls := findClass_of_methodNamed B.named
  have hlocks := B.notSynchronized
  have hl := lv_entry ([.int x, .int y, .int z]) (n := 3) (Nat.le_of_ble_eq_true rfl)
  rw [lg_entry_eq]
  generalize (lg_sl ([.int x, .int y, .int z]) ++ List.replicate (3 - (lg_sl ([.int x, .int y, .int z])).length) Slot.unset).toArray = ls at hl ⊢
  have hl : lv_has ls 3 [(0, .int x), (1, .int y), (2, .int z)] := hl
  refine lv_bipush (v := nI 12) hx hb dX12_lineOf_0 (by decide) ?_
  refine lv_iload_n hx hb dX12_lineOf_2 rfl (lv_at hl 0 rfl) ?_
  refine lv_imul hx hb dX12_lineOf_3 ?_
  refine lv_topi (fun y1 e2 => ?_)
  refine lv_iconst (v := nI 2) hx hb dX12_lineOf_4 (by decide) ?_
  refine lv_iload_n hx hb dX12_lineOf_5 rfl (lv_at hl 1 rfl) ?_
  refine lv_imul hx hb dX12_lineOf_6 ?_
  refine lv_topi (fun y3 e4 => ?_)
  refine lv_iadd hx hb dX12_lineOf_7 ?_
  refine lv_topi (fun y5 e6 => ?_)
  refine lv_iload_n hx hb dX12_lineOf_8 rfl (lv_at hl 2 rfl) ?_
  refine lv_iadd hx hb dX12_lineOf_9 ?_
  refine lv_topi (fun y7 e8 => ?_)
  exact W.iret (v := y7) hx hb hr (fun t ht9 hW9 => ⟨y7, rfl, (lf_m_lineOf_1 x y z y1 y3 y5 y7 e2 e4 e6 e8), ht9⟩) (fun _ h => absurd h List.not_mem_nil) dX12_lineOf_10
set_option maxHeartbeats 4000000 in
set_option maxRecDepth 100000 in
theorem c_m_lineOfN (l : Launch) (dC : Nat → ClassId) (dI : Nat → Nat → Nat) (ky : Nat → ClassId) (x : Nat) (y : Nat) (z : Nat) (h1 : x < 2) (h2 : y < 4) (h3 : z < 2) : Met l yX12_lineOf wsX12_lineOf ({ frames := 0, cells := 0, slots := 0, locals := 0 }) (PcP dC dI ky [.int (nI x), .int (nI y), .int (nI z)] []) (vp_Si (fun r : Int32 => ∃ k9 : Nat, k9 < 24 ∧ r = nI k9)) 0 0 (fun _ => False) := by
  refine Met.ofW (cc := cX12_lineOf) (maxL := 3) (ret := (some .int)) (by decide) rfl ?_
  intro p e s m args below meth c s₁ B hml hv
  obtain ⟨rfl, hP, hK⟩ := hv
  have hx := B.exec
  have hb := B.bytes
  have hr := B.returns
  have hts := atoms_spec (ws := wsX12_lineOf) B.pre
  have hown : s.vm.findClass RX12 = some m.cls := findClass_of_methodNamed B.named
  have hlocks := B.notSynchronized
  have hl := lv_entry ([.int (nI x), .int (nI y), .int (nI z)]) (n := 3) (Nat.le_of_ble_eq_true rfl)
  rw [lg_entry_eq]
  generalize (lg_sl ([.int (nI x), .int (nI y), .int (nI z)]) ++ List.replicate (3 - (lg_sl ([.int (nI x), .int (nI y), .int (nI z)])).length) Slot.unset).toArray = ls at hl ⊢
  have hl : lv_has ls 3 [(0, .int (nI x)), (1, .int (nI y)), (2, .int (nI z))] := hl
  refine lv_bipush (v := nI 12) hx hb dX12_lineOf_0 (by decide) ?_
  refine lv_iload_n hx hb dX12_lineOf_2 rfl (lv_at hl 0 rfl) ?_
  refine lv_imul hx hb dX12_lineOf_3 ?_
  refine r_ti (nI (12 * x)) (pk_mul _ _) ?_
  refine lv_iconst (v := nI 2) hx hb dX12_lineOf_4 (by decide) ?_
  refine lv_iload_n hx hb dX12_lineOf_5 rfl (lv_at hl 1 rfl) ?_
  refine lv_imul hx hb dX12_lineOf_6 ?_
  refine r_ti (nI (2 * y)) (pk_mul _ _) ?_
  refine lv_iadd hx hb dX12_lineOf_7 ?_
  refine r_ti (nI ((12 * x) + (2 * y))) (nI_add _ _) ?_
  refine lv_iload_n hx hb dX12_lineOf_8 rfl (lv_at hl 2 rfl) ?_
  refine lv_iadd hx hb dX12_lineOf_9 ?_
  refine r_ti (nI (((12 * x) + (2 * y)) + z)) (nI_add _ _) ?_
  exact W.iret (v := nI (((12 * x) + (2 * y)) + z)) hx hb hr (fun t ht9 hW9 => ⟨nI (((12 * x) + (2 * y)) + z), rfl, ⟨(((12 * x) + (2 * y)) + z), by omega, rfl⟩, ht9⟩) (fun _ h => absurd h List.not_mem_nil) dX12_lineOf_10
set_option maxHeartbeats 4000000 in
set_option maxRecDepth 100000 in
theorem c_m_common (l : Launch) (dC : Nat → ClassId) (dI : Nat → Nat → Nat) (ky : Nat → ClassId)   : Met l yX12_common wsX12_common ({ frames := 0, cells := 0, slots := 0, locals := 0 }) (PcP dC dI ky [.int (nI 4), .int (nI 0)] []) (vp_Si (fun r : Int32 => r = nI 4)) 0 0 (fun _ => False) := by
  refine Met.ofW (cc := cX12_common) (maxL := 5) (ret := (some .int)) (by decide) rfl ?_
  intro p e s m args below meth c s₁ B hml hv
  obtain ⟨rfl, hP, hK⟩ := hv
  have hx := B.exec
  have hb := B.bytes
  have hr := B.returns
  have hts := atoms_spec (ws := wsX12_common) B.pre
  have hown : s.vm.findClass RX12 = some m.cls := findClass_of_methodNamed B.named
  have hlocks := B.notSynchronized
  have hl := lv_entry ([.int (nI 4), .int (nI 0)]) (n := 5) (Nat.le_of_ble_eq_true rfl)
  rw [lg_entry_eq]
  generalize (lg_sl ([.int (nI 4), .int (nI 0)]) ++ List.replicate (5 - (lg_sl ([.int (nI 4), .int (nI 0)])).length) Slot.unset).toArray = ls at hl ⊢
  have hl : lv_has ls 5 [(0, .int (nI 4)), (1, .int (nI 0))] := hl
  refine lv_iload_n hx hb dX12_common_0 rfl (lv_at hl 0 rfl) ?_
  refine lv_istore_n (lv' := [(2, .int (nI 4)), (0, .int (nI 4)), (1, .int (nI 0))]) hx hb dX12_common_1 rfl hl (by decide) rfl (fun ls hl => ?_)
  refine lv_iload_n hx hb dX12_common_2 rfl (lv_at hl 2 rfl) ?_
  refine lv_istore_n (lv' := [(3, .int (nI 0)), (2, .int (nI 4)), (0, .int (nI 4)), (1, .int (nI 0))]) hx hb dX12_common_3 rfl hl (by decide) rfl (fun ls hl => ?_)
  refine lv_iload_n hx hb dX12_common_4 rfl (lv_at hl 0 rfl) ?_
  refine lv_if_eq (tgt := 21) hx hb dX12_common_5 (by decide) (fun c1 => ?_) (fun c1 => absurd (by decide) c1)
  refine lv_iload_n hx hb dX12_common_21 rfl (lv_at hl 1 rfl) ?_
  exact W.iret (v := nI 4) hx hb hr (fun t ht9 hW9 => ⟨nI 4, rfl, rfl, ht9⟩) (fun _ h => absurd h List.not_mem_nil) dX12_common_22
set_option maxRecDepth 20000 in
theorem lf_m_isCell_1 (o : Nat) (kthrown : Int32) (ktape : Nat) (ktaped : Int32) (ksize : Int32) (klimit : Int32) (kto : Int32) (kfrom : Int32) (kkind : Int32) (knumber : Int32) (ksign : Int32) (kfault : Int32) (kplace : Int32) (kword : Int64) (ktold : Int32) (know : Nat) (kread : Nat) (kkept : Nat) (ksnaps : Nat) (kaside : Nat) (kname : Nat) (kreadName : Nat) (kkeptName : Nat) (kisKept : Nat) (konces : Nat) (ksnapMany : Int32) (khasCells : Int32) (kpoured : Nat) (kfar : Nat) (ksides : Nat) (ksideMany : Int32) (kwayDays : Int32) (khasWay : Int32) (klines : Nat) (kmet : Nat) (kmetMany : Int32) (ksunk : Nat) (ktrying : Nat) (ksunkMany : Int32) (ksending : Int32) (kfleets : Int32) (ktext : Nat) (ktexts : Int32) (kseed : Int32) (kline : Nat) (kwritten : Nat) (klineMany : Int32) (khasWritten : Int32) (knode : Nat) (knodes : Int32) (konesMany : Int32) (kwithin : Int32) (ktop : Int32) (knowF : Nat → Int32) (x : Int32) (y : Int32) (r1 : Int32) (hB : NowB knowF) (p2 : (r1 = nI 1 ∧ (nI 0).toInt ≤ x.toInt ∧ x.toInt ≤ (nI 3).toInt) ∨ (r1 = nI 0 ∧ ¬ ((nI 0).toInt ≤ x.toInt ∧ x.toInt ≤ (nI 3).toInt))) (c3 : r1 = 0) : ((nI 0) = nI 1 ∧ (0 ≤ x.toInt ∧ x.toInt < 4 ∧ 0 ≤ y.toInt ∧ y.toInt < 4)) ∨ ((nI 0) = nI 0 ∧ ¬ (0 ≤ x.toInt ∧ x.toInt < 4 ∧ 0 ≤ y.toInt ∧ y.toInt < 4)) := by
  have k_0 := ia_n 1 (by decide)
  have k_1 := ia_n 0 (by decide)
  have k_2 := ia_n 3 (by decide)
  simp only [ia_lt, ia_le, ia_eq, ia_m1, ia_0, ia_1, ne_eq, true_and, and_true, false_and, and_false, or_false, false_or, or_true, true_or, not_true_eq_false, not_false_eq_true] at *
  all_goals omega
set_option maxRecDepth 20000 in
theorem lf_m_isCell_2 (o : Nat) (kthrown : Int32) (ktape : Nat) (ktaped : Int32) (ksize : Int32) (klimit : Int32) (kto : Int32) (kfrom : Int32) (kkind : Int32) (knumber : Int32) (ksign : Int32) (kfault : Int32) (kplace : Int32) (kword : Int64) (ktold : Int32) (know : Nat) (kread : Nat) (kkept : Nat) (ksnaps : Nat) (kaside : Nat) (kname : Nat) (kreadName : Nat) (kkeptName : Nat) (kisKept : Nat) (konces : Nat) (ksnapMany : Int32) (khasCells : Int32) (kpoured : Nat) (kfar : Nat) (ksides : Nat) (ksideMany : Int32) (kwayDays : Int32) (khasWay : Int32) (klines : Nat) (kmet : Nat) (kmetMany : Int32) (ksunk : Nat) (ktrying : Nat) (ksunkMany : Int32) (ksending : Int32) (kfleets : Int32) (ktext : Nat) (ktexts : Int32) (kseed : Int32) (kline : Nat) (kwritten : Nat) (klineMany : Int32) (khasWritten : Int32) (knode : Nat) (knodes : Int32) (konesMany : Int32) (kwithin : Int32) (ktop : Int32) (knowF : Nat → Int32) (x : Int32) (y : Int32) (r1 : Int32) (r4 : Int32) (hB : NowB knowF) (p2 : (r1 = nI 1 ∧ (nI 0).toInt ≤ x.toInt ∧ x.toInt ≤ (nI 3).toInt) ∨ (r1 = nI 0 ∧ ¬ ((nI 0).toInt ≤ x.toInt ∧ x.toInt ≤ (nI 3).toInt))) (c3 : ¬ r1 = 0) (p5 : (r4 = nI 1 ∧ (nI 0).toInt ≤ y.toInt ∧ y.toInt ≤ (nI 3).toInt) ∨ (r4 = nI 0 ∧ ¬ ((nI 0).toInt ≤ y.toInt ∧ y.toInt ≤ (nI 3).toInt))) (c6 : r4 = 0) : ((nI 0) = nI 1 ∧ (0 ≤ x.toInt ∧ x.toInt < 4 ∧ 0 ≤ y.toInt ∧ y.toInt < 4)) ∨ ((nI 0) = nI 0 ∧ ¬ (0 ≤ x.toInt ∧ x.toInt < 4 ∧ 0 ≤ y.toInt ∧ y.toInt < 4)) := by
  have k_0 := ia_n 1 (by decide)
  have k_1 := ia_n 0 (by decide)
  have k_2 := ia_n 3 (by decide)
  simp only [ia_lt, ia_le, ia_eq, ia_m1, ia_0, ia_1, ne_eq, true_and, and_true, false_and, and_false, or_false, false_or, or_true, true_or, not_true_eq_false, not_false_eq_true] at *
  all_goals omega
set_option maxRecDepth 20000 in
theorem lf_m_isCell_3 (o : Nat) (kthrown : Int32) (ktape : Nat) (ktaped : Int32) (ksize : Int32) (klimit : Int32) (kto : Int32) (kfrom : Int32) (kkind : Int32) (knumber : Int32) (ksign : Int32) (kfault : Int32) (kplace : Int32) (kword : Int64) (ktold : Int32) (know : Nat) (kread : Nat) (kkept : Nat) (ksnaps : Nat) (kaside : Nat) (kname : Nat) (kreadName : Nat) (kkeptName : Nat) (kisKept : Nat) (konces : Nat) (ksnapMany : Int32) (khasCells : Int32) (kpoured : Nat) (kfar : Nat) (ksides : Nat) (ksideMany : Int32) (kwayDays : Int32) (khasWay : Int32) (klines : Nat) (kmet : Nat) (kmetMany : Int32) (ksunk : Nat) (ktrying : Nat) (ksunkMany : Int32) (ksending : Int32) (kfleets : Int32) (ktext : Nat) (ktexts : Int32) (kseed : Int32) (kline : Nat) (kwritten : Nat) (klineMany : Int32) (khasWritten : Int32) (knode : Nat) (knodes : Int32) (konesMany : Int32) (kwithin : Int32) (ktop : Int32) (knowF : Nat → Int32) (x : Int32) (y : Int32) (r1 : Int32) (r4 : Int32) (hB : NowB knowF) (p2 : (r1 = nI 1 ∧ (nI 0).toInt ≤ x.toInt ∧ x.toInt ≤ (nI 3).toInt) ∨ (r1 = nI 0 ∧ ¬ ((nI 0).toInt ≤ x.toInt ∧ x.toInt ≤ (nI 3).toInt))) (c3 : ¬ r1 = 0) (p5 : (r4 = nI 1 ∧ (nI 0).toInt ≤ y.toInt ∧ y.toInt ≤ (nI 3).toInt) ∨ (r4 = nI 0 ∧ ¬ ((nI 0).toInt ≤ y.toInt ∧ y.toInt ≤ (nI 3).toInt))) (c6 : ¬ r4 = 0) : ((nI 1) = nI 1 ∧ (0 ≤ x.toInt ∧ x.toInt < 4 ∧ 0 ≤ y.toInt ∧ y.toInt < 4)) ∨ ((nI 1) = nI 0 ∧ ¬ (0 ≤ x.toInt ∧ x.toInt < 4 ∧ 0 ≤ y.toInt ∧ y.toInt < 4)) := by
  have k_0 := ia_n 1 (by decide)
  have k_1 := ia_n 0 (by decide)
  have k_2 := ia_n 3 (by decide)
  simp only [ia_lt, ia_le, ia_eq, ia_m1, ia_0, ia_1, ne_eq, true_and, and_true, false_and, and_false, or_false, false_or, or_true, true_or, not_true_eq_false, not_false_eq_true] at *
  all_goals omega
set_option maxHeartbeats 4000000 in
set_option maxRecDepth 100000 in
theorem c_m_isCell (l : Launch) (dC : Nat → ClassId) (dI : Nat → Nat → Nat) (ky : Nat → ClassId) (o : Nat) (kthrown : Int32) (ktape : Nat) (ktaped : Int32) (ksize : Int32) (klimit : Int32) (kto : Int32) (kfrom : Int32) (kkind : Int32) (knumber : Int32) (ksign : Int32) (kfault : Int32) (kplace : Int32) (kword : Int64) (ktold : Int32) (know : Nat) (kread : Nat) (kkept : Nat) (ksnaps : Nat) (kaside : Nat) (kname : Nat) (kreadName : Nat) (kkeptName : Nat) (kisKept : Nat) (konces : Nat) (ksnapMany : Int32) (khasCells : Int32) (kpoured : Nat) (kfar : Nat) (ksides : Nat) (ksideMany : Int32) (kwayDays : Int32) (khasWay : Int32) (klines : Nat) (kmet : Nat) (kmetMany : Int32) (ksunk : Nat) (ktrying : Nat) (ksunkMany : Int32) (ksending : Int32) (kfleets : Int32) (ktext : Nat) (ktexts : Int32) (kseed : Int32) (kline : Nat) (kwritten : Nat) (klineMany : Int32) (khasWritten : Int32) (knode : Nat) (knodes : Int32) (konesMany : Int32) (kwithin : Int32) (ktop : Int32) (knowF : Nat → Int32) (x : Int32) (y : Int32) (hB : NowB knowF) : Met l yX12_isCell wsX12_isCell ({ frames := 1, cells := 0, slots := 0, locals := 22 }) (PcP dC dI ky [.ref o, .int x, .int y] [(o, .inr (12, [.int kthrown, .ref ktape, .int ktaped, .int ksize, .int klimit, .int kto, .int kfrom, .int kkind, .int knumber, .int ksign, .int kfault, .int kplace, .long kword, .int ktold, .ref know, .ref kread, .ref kkept, .ref ksnaps, .ref kaside, .ref kname, .ref kreadName, .ref kkeptName, .ref kisKept, .ref konces, .int ksnapMany, .int khasCells, .ref kpoured, .ref kfar, .ref ksides, .int ksideMany, .int kwayDays, .int khasWay, .ref klines, .ref kmet, .int kmetMany, .ref ksunk, .ref ktrying, .int ksunkMany, .int ksending, .int kfleets, .ref ktext, .int ktexts, .int kseed, .ref kline, .ref kwritten, .int klineMany, .int khasWritten, .ref knode, .int knodes, .int konesMany, .int kwithin, .int ktop])), (know, .inl (ky 0, 373, .inl knowF))]) (vp_Si (fun r : Int32 => (r = nI 1 ∧ (0 ≤ x.toInt ∧ x.toInt < 4 ∧ 0 ≤ y.toInt ∧ y.toInt < 4)) ∨ (r = nI 0 ∧ ¬ (0 ≤ x.toInt ∧ x.toInt < 4 ∧ 0 ≤ y.toInt ∧ y.toInt < 4)))) 0 0 (fun _ => False) := by
  refine Met.ofW (cc := cX12_isCell) (maxL := 3) (ret := (some .boolean)) (by decide) rfl ?_
  intro p e s m args below meth c s₁ B hml hv
  obtain ⟨rfl, hP, hK⟩ := hv
  have hx := B.exec
  have hb := B.bytes
  have hr := B.returns
  have hts := atoms_spec (ws := wsX12_isCell) B.pre
  have hown : s.vm.findClass RX12 = some m.cls := findClass_of_methodNamed B.named
  have hlocks := B.notSynchronized
  have hin12 : ∀ w ∈ u_ws RX12 TX12 52, w ∈ wsX12_isCell := by decide +kernel
  have hl := lv_entry ([.ref o, .int x, .int y]) (n := 3) (Nat.le_of_ble_eq_true rfl)
  rw [lg_entry_eq]
  generalize (lg_sl ([.ref o, .int x, .int y]) ++ List.replicate (3 - (lg_sl ([.ref o, .int x, .int y])).length) Slot.unset).toArray = ls at hl ⊢
  have hl : lv_has ls 3 [(0, .ref o), (1, .int x), (2, .int y)] := hl
  refine lv_iload_n hx hb dX12_isCell_0 rfl (lv_at hl 1 rfl) ?_
  refine lv_iconst (v := nI 0) hx hb dX12_isCell_1 (by decide) ?_
  refine lv_aload_n hx hb dX12_isCell_2 rfl (lv_at hl 0 rfl) ?_
  refine va_get (D := (dC, dI)) (ci := 12) (v := .ref know) (C := RX12) (T := TX12) (N := 52) hx hb hts hin12 hown hK hP 0 rfl rfl 14 (by decide) (hts (.fieldLink RX12 98 "PorridgeSeaModel" "now" "[I") (List.mem_of_getElem? (i := 1) rfl)) (fun _ h9 => h9) rfl dX12_isCell_3 ?_
  refine lv_iconst (v := nI 0) hx hb dX12_isCell_6 (by decide) ?_
  refine r_iald hx hb hK hP 1 rfl 0 (by decide) (by decide) (nI 4) hB.1 dX12_isCell_7 ?_
  refine lv_iconst (v := nI 1) hx hb dX12_isCell_8 (by decide) ?_
  refine lv_isub hx hb dX12_isCell_9 ?_
  refine r_ti (nI 3) (by decide) ?_
  refine vp_callSi (W.runS (As := [.int x, .int (nI 0), .int (nI 3)]) (rest := []) ⟨hx, hb, hml, hown, hts⟩ (c_isIn l dC dI ky x (nI 0) (nI 3)) (va_cwS 3 hts gX12_isCell_X12_isIn rfl rfl rfl (by decide +kernel) ⟨(Nat.le_of_ble_eq_true rfl), (Nat.le_of_ble_eq_true rfl)⟩) (pre_PS hK hP [] rfl) rfl rfl hl.1 rfl (lv_room (Nat.le_of_ble_eq_true rfl)) dX12_isCell_10 ⟨(Nat.le_of_ble_eq_true rfl), (Nat.le_of_ble_eq_true rfl)⟩) (fun r1 p2 => ?_)
  refine lv_if_eq (tgt := 36) hx hb dX12_isCell_13 (by decide) (fun c3 => ?_) (fun c3 => ?_)
  · refine lv_iconst (v := nI 0) hx hb dX12_isCell_36 (by decide) ?_
    exact W.zret (v := nI 0) hx hb hr (by decide) (fun t ht9 hW9 => ⟨nI 0, rfl, (lf_m_isCell_1 o kthrown ktape ktaped ksize klimit kto kfrom kkind knumber ksign kfault kplace kword ktold know kread kkept ksnaps kaside kname kreadName kkeptName kisKept konces ksnapMany khasCells kpoured kfar ksides ksideMany kwayDays khasWay klines kmet kmetMany ksunk ktrying ksunkMany ksending kfleets ktext ktexts kseed kline kwritten klineMany khasWritten knode knodes konesMany kwithin ktop knowF x y r1 hB p2 c3), ht9⟩) (fun _ h => absurd h List.not_mem_nil) dX12_isCell_37
  · refine lv_iload_n hx hb dX12_isCell_16 rfl (lv_at hl 2 rfl) ?_
    refine lv_iconst (v := nI 0) hx hb dX12_isCell_17 (by decide) ?_
    refine lv_aload_n hx hb dX12_isCell_18 rfl (lv_at hl 0 rfl) ?_
    refine va_get (D := (dC, dI)) (ci := 12) (v := .ref know) (C := RX12) (T := TX12) (N := 52) hx hb hts hin12 hown hK hP 0 rfl rfl 14 (by decide) (hts (.fieldLink RX12 98 "PorridgeSeaModel" "now" "[I") (List.mem_of_getElem? (i := 1) rfl)) (fun _ h9 => h9) rfl dX12_isCell_19 ?_
    refine lv_iconst (v := nI 1) hx hb dX12_isCell_22 (by decide) ?_
    refine r_iald hx hb hK hP 1 rfl 1 (by decide) (by decide) (nI 4) hB.2.1 dX12_isCell_23 ?_
    refine lv_iconst (v := nI 1) hx hb dX12_isCell_24 (by decide) ?_
    refine lv_isub hx hb dX12_isCell_25 ?_
    refine r_ti (nI 3) (by decide) ?_
    refine vp_callSi (W.runS (As := [.int y, .int (nI 0), .int (nI 3)]) (rest := []) ⟨hx, hb, hml, hown, hts⟩ (c_isIn l dC dI ky y (nI 0) (nI 3)) (va_cwS 3 hts gX12_isCell_X12_isIn rfl rfl rfl (by decide +kernel) ⟨(Nat.le_of_ble_eq_true rfl), (Nat.le_of_ble_eq_true rfl)⟩) (pre_PS hK hP [] rfl) rfl rfl hl.1 rfl (lv_room (Nat.le_of_ble_eq_true rfl)) dX12_isCell_26 ⟨(Nat.le_of_ble_eq_true rfl), (Nat.le_of_ble_eq_true rfl)⟩) (fun r4 p5 => ?_)
    refine lv_if_eq (tgt := 36) hx hb dX12_isCell_29 (by decide) (fun c6 => ?_) (fun c6 => ?_)
    · refine lv_iconst (v := nI 0) hx hb dX12_isCell_36 (by decide) ?_
      exact W.zret (v := nI 0) hx hb hr (by decide) (fun t ht9 hW9 => ⟨nI 0, rfl, (lf_m_isCell_2 o kthrown ktape ktaped ksize klimit kto kfrom kkind knumber ksign kfault kplace kword ktold know kread kkept ksnaps kaside kname kreadName kkeptName kisKept konces ksnapMany khasCells kpoured kfar ksides ksideMany kwayDays khasWay klines kmet kmetMany ksunk ktrying ksunkMany ksending kfleets ktext ktexts kseed kline kwritten klineMany khasWritten knode knodes konesMany kwithin ktop knowF x y r1 r4 hB p2 c3 p5 c6), ht9⟩) (fun _ h => absurd h List.not_mem_nil) dX12_isCell_37
    · refine lv_iconst (v := nI 1) hx hb dX12_isCell_32 (by decide) ?_
      refine lv_goto (tgt := 37) hx hb dX12_isCell_33 (by decide) ?_
      exact W.zret (v := nI 1) hx hb hr (by decide) (fun t ht9 hW9 => ⟨nI 1, rfl, (lf_m_isCell_3 o kthrown ktape ktaped ksize klimit kto kfrom kkind knumber ksign kfault kplace kword ktold know kread kkept ksnaps kaside kname kreadName kkeptName kisKept konces ksnapMany khasCells kpoured kfar ksides ksideMany kwayDays khasWay klines kmet kmetMany ksunk ktrying ksunkMany ksending kfleets ktext ktexts kseed kline kwritten klineMany khasWritten knode knodes konesMany kwithin ktop knowF x y r1 r4 hB p2 c3 p5 c6), ht9⟩) (fun _ h => absurd h List.not_mem_nil) dX12_isCell_37
set_option maxRecDepth 20000 in
theorem lf_m_isCell0_1 (o : Nat) (kthrown : Int32) (ktape : Nat) (ktaped : Int32) (ksize : Int32) (klimit : Int32) (kto : Int32) (kfrom : Int32) (kkind : Int32) (knumber : Int32) (ksign : Int32) (kfault : Int32) (kplace : Int32) (kword : Int64) (ktold : Int32) (know : Nat) (kread : Nat) (kkept : Nat) (ksnaps : Nat) (kaside : Nat) (kname : Nat) (kreadName : Nat) (kkeptName : Nat) (kisKept : Nat) (konces : Nat) (ksnapMany : Int32) (khasCells : Int32) (kpoured : Nat) (kfar : Nat) (ksides : Nat) (ksideMany : Int32) (kwayDays : Int32) (khasWay : Int32) (klines : Nat) (kmet : Nat) (kmetMany : Int32) (ksunk : Nat) (ktrying : Nat) (ksunkMany : Int32) (ksending : Int32) (kfleets : Int32) (ktext : Nat) (ktexts : Int32) (kseed : Int32) (kline : Nat) (kwritten : Nat) (klineMany : Int32) (khasWritten : Int32) (knode : Nat) (knodes : Int32) (konesMany : Int32) (kwithin : Int32) (ktop : Int32) (knowF : Nat → Int32) (y : Int32) (r4 : Int32) (hB : NowB knowF) (p5 : (r4 = nI 1 ∧ (nI 0).toInt ≤ y.toInt ∧ y.toInt ≤ (nI 3).toInt) ∨ (r4 = nI 0 ∧ ¬ ((nI 0).toInt ≤ y.toInt ∧ y.toInt ≤ (nI 3).toInt))) (c6 : r4 = 0) : ((nI 0) = nI 1 ∧ (0 ≤ y.toInt ∧ y.toInt < 4)) ∨ ((nI 0) = nI 0 ∧ ¬ (0 ≤ y.toInt ∧ y.toInt < 4)) := by
  have k_0 := ia_n 1 (by decide)
  have k_1 := ia_n 0 (by decide)
  have k_2 := ia_n 3 (by decide)
  simp only [ia_lt, ia_le, ia_eq, ia_m1, ia_0, ia_1, ne_eq, true_and, and_true, false_and, and_false, or_false, false_or, or_true, true_or, not_true_eq_false, not_false_eq_true] at *
  all_goals omega
set_option maxRecDepth 20000 in
theorem lf_m_isCell0_2 (o : Nat) (kthrown : Int32) (ktape : Nat) (ktaped : Int32) (ksize : Int32) (klimit : Int32) (kto : Int32) (kfrom : Int32) (kkind : Int32) (knumber : Int32) (ksign : Int32) (kfault : Int32) (kplace : Int32) (kword : Int64) (ktold : Int32) (know : Nat) (kread : Nat) (kkept : Nat) (ksnaps : Nat) (kaside : Nat) (kname : Nat) (kreadName : Nat) (kkeptName : Nat) (kisKept : Nat) (konces : Nat) (ksnapMany : Int32) (khasCells : Int32) (kpoured : Nat) (kfar : Nat) (ksides : Nat) (ksideMany : Int32) (kwayDays : Int32) (khasWay : Int32) (klines : Nat) (kmet : Nat) (kmetMany : Int32) (ksunk : Nat) (ktrying : Nat) (ksunkMany : Int32) (ksending : Int32) (kfleets : Int32) (ktext : Nat) (ktexts : Int32) (kseed : Int32) (kline : Nat) (kwritten : Nat) (klineMany : Int32) (khasWritten : Int32) (knode : Nat) (knodes : Int32) (konesMany : Int32) (kwithin : Int32) (ktop : Int32) (knowF : Nat → Int32) (y : Int32) (r4 : Int32) (hB : NowB knowF) (p5 : (r4 = nI 1 ∧ (nI 0).toInt ≤ y.toInt ∧ y.toInt ≤ (nI 3).toInt) ∨ (r4 = nI 0 ∧ ¬ ((nI 0).toInt ≤ y.toInt ∧ y.toInt ≤ (nI 3).toInt))) (c6 : ¬ r4 = 0) : ((nI 1) = nI 1 ∧ (0 ≤ y.toInt ∧ y.toInt < 4)) ∨ ((nI 1) = nI 0 ∧ ¬ (0 ≤ y.toInt ∧ y.toInt < 4)) := by
  have k_0 := ia_n 1 (by decide)
  have k_1 := ia_n 0 (by decide)
  have k_2 := ia_n 3 (by decide)
  simp only [ia_lt, ia_le, ia_eq, ia_m1, ia_0, ia_1, ne_eq, true_and, and_true, false_and, and_false, or_false, false_or, or_true, true_or, not_true_eq_false, not_false_eq_true] at *
  all_goals omega
set_option maxHeartbeats 4000000 in
set_option maxRecDepth 100000 in
theorem c_m_isCell0 (l : Launch) (dC : Nat → ClassId) (dI : Nat → Nat → Nat) (ky : Nat → ClassId) (o : Nat) (kthrown : Int32) (ktape : Nat) (ktaped : Int32) (ksize : Int32) (klimit : Int32) (kto : Int32) (kfrom : Int32) (kkind : Int32) (knumber : Int32) (ksign : Int32) (kfault : Int32) (kplace : Int32) (kword : Int64) (ktold : Int32) (know : Nat) (kread : Nat) (kkept : Nat) (ksnaps : Nat) (kaside : Nat) (kname : Nat) (kreadName : Nat) (kkeptName : Nat) (kisKept : Nat) (konces : Nat) (ksnapMany : Int32) (khasCells : Int32) (kpoured : Nat) (kfar : Nat) (ksides : Nat) (ksideMany : Int32) (kwayDays : Int32) (khasWay : Int32) (klines : Nat) (kmet : Nat) (kmetMany : Int32) (ksunk : Nat) (ktrying : Nat) (ksunkMany : Int32) (ksending : Int32) (kfleets : Int32) (ktext : Nat) (ktexts : Int32) (kseed : Int32) (kline : Nat) (kwritten : Nat) (klineMany : Int32) (khasWritten : Int32) (knode : Nat) (knodes : Int32) (konesMany : Int32) (kwithin : Int32) (ktop : Int32) (knowF : Nat → Int32) (y : Int32) (hB : NowB knowF) : Met l yX12_isCell wsX12_isCell ({ frames := 1, cells := 0, slots := 0, locals := 22 }) (PcP dC dI ky [.ref o, .int (nI 0), .int y] [(o, .inr (12, [.int kthrown, .ref ktape, .int ktaped, .int ksize, .int klimit, .int kto, .int kfrom, .int kkind, .int knumber, .int ksign, .int kfault, .int kplace, .long kword, .int ktold, .ref know, .ref kread, .ref kkept, .ref ksnaps, .ref kaside, .ref kname, .ref kreadName, .ref kkeptName, .ref kisKept, .ref konces, .int ksnapMany, .int khasCells, .ref kpoured, .ref kfar, .ref ksides, .int ksideMany, .int kwayDays, .int khasWay, .ref klines, .ref kmet, .int kmetMany, .ref ksunk, .ref ktrying, .int ksunkMany, .int ksending, .int kfleets, .ref ktext, .int ktexts, .int kseed, .ref kline, .ref kwritten, .int klineMany, .int khasWritten, .ref knode, .int knodes, .int konesMany, .int kwithin, .int ktop])), (know, .inl (ky 0, 373, .inl knowF))]) (vp_Si (fun r : Int32 => (r = nI 1 ∧ (0 ≤ y.toInt ∧ y.toInt < 4)) ∨ (r = nI 0 ∧ ¬ (0 ≤ y.toInt ∧ y.toInt < 4)))) 0 0 (fun _ => False) := by
  refine Met.ofW (cc := cX12_isCell) (maxL := 3) (ret := (some .boolean)) (by decide) rfl ?_
  intro p e s m args below meth c s₁ B hml hv
  obtain ⟨rfl, hP, hK⟩ := hv
  have hx := B.exec
  have hb := B.bytes
  have hr := B.returns
  have hts := atoms_spec (ws := wsX12_isCell) B.pre
  have hown : s.vm.findClass RX12 = some m.cls := findClass_of_methodNamed B.named
  have hlocks := B.notSynchronized
  have hin12 : ∀ w ∈ u_ws RX12 TX12 52, w ∈ wsX12_isCell := by decide +kernel
  have hl := lv_entry ([.ref o, .int (nI 0), .int y]) (n := 3) (Nat.le_of_ble_eq_true rfl)
  rw [lg_entry_eq]
  generalize (lg_sl ([.ref o, .int (nI 0), .int y]) ++ List.replicate (3 - (lg_sl ([.ref o, .int (nI 0), .int y])).length) Slot.unset).toArray = ls at hl ⊢
  have hl : lv_has ls 3 [(0, .ref o), (1, .int (nI 0)), (2, .int y)] := hl
  refine lv_iload_n hx hb dX12_isCell_0 rfl (lv_at hl 1 rfl) ?_
  refine lv_iconst (v := nI 0) hx hb dX12_isCell_1 (by decide) ?_
  refine lv_aload_n hx hb dX12_isCell_2 rfl (lv_at hl 0 rfl) ?_
  refine va_get (D := (dC, dI)) (ci := 12) (v := .ref know) (C := RX12) (T := TX12) (N := 52) hx hb hts hin12 hown hK hP 0 rfl rfl 14 (by decide) (hts (.fieldLink RX12 98 "PorridgeSeaModel" "now" "[I") (List.mem_of_getElem? (i := 1) rfl)) (fun _ h9 => h9) rfl dX12_isCell_3 ?_
  refine lv_iconst (v := nI 0) hx hb dX12_isCell_6 (by decide) ?_
  refine r_iald hx hb hK hP 1 rfl 0 (by decide) (by decide) (nI 4) hB.1 dX12_isCell_7 ?_
  refine lv_iconst (v := nI 1) hx hb dX12_isCell_8 (by decide) ?_
  refine lv_isub hx hb dX12_isCell_9 ?_
  refine r_ti (nI 3) (by decide) ?_
  refine vp_callSi (W.runS (As := [.int (nI 0), .int (nI 0), .int (nI 3)]) (rest := []) ⟨hx, hb, hml, hown, hts⟩ (c_isIn003 l dC dI ky) (va_cwS 3 hts gX12_isCell_X12_isIn rfl rfl rfl (by decide +kernel) ⟨(Nat.le_of_ble_eq_true rfl), (Nat.le_of_ble_eq_true rfl)⟩) (pre_PS hK hP [] rfl) rfl rfl hl.1 rfl (lv_room (Nat.le_of_ble_eq_true rfl)) dX12_isCell_10 ⟨(Nat.le_of_ble_eq_true rfl), (Nat.le_of_ble_eq_true rfl)⟩) (fun r1 p2 => ?_)
  subst p2
  refine lv_if_eq (tgt := 36) hx hb dX12_isCell_13 (by decide) (fun c3 => absurd c3 (by decide)) (fun c3 => ?_)
  refine lv_iload_n hx hb dX12_isCell_16 rfl (lv_at hl 2 rfl) ?_
  refine lv_iconst (v := nI 0) hx hb dX12_isCell_17 (by decide) ?_
  refine lv_aload_n hx hb dX12_isCell_18 rfl (lv_at hl 0 rfl) ?_
  refine va_get (D := (dC, dI)) (ci := 12) (v := .ref know) (C := RX12) (T := TX12) (N := 52) hx hb hts hin12 hown hK hP 0 rfl rfl 14 (by decide) (hts (.fieldLink RX12 98 "PorridgeSeaModel" "now" "[I") (List.mem_of_getElem? (i := 1) rfl)) (fun _ h9 => h9) rfl dX12_isCell_19 ?_
  refine lv_iconst (v := nI 1) hx hb dX12_isCell_22 (by decide) ?_
  refine r_iald hx hb hK hP 1 rfl 1 (by decide) (by decide) (nI 4) hB.2.1 dX12_isCell_23 ?_
  refine lv_iconst (v := nI 1) hx hb dX12_isCell_24 (by decide) ?_
  refine lv_isub hx hb dX12_isCell_25 ?_
  refine r_ti (nI 3) (by decide) ?_
  refine vp_callSi (W.runS (As := [.int y, .int (nI 0), .int (nI 3)]) (rest := []) ⟨hx, hb, hml, hown, hts⟩ (c_isIn l dC dI ky y (nI 0) (nI 3)) (va_cwS 3 hts gX12_isCell_X12_isIn rfl rfl rfl (by decide +kernel) ⟨(Nat.le_of_ble_eq_true rfl), (Nat.le_of_ble_eq_true rfl)⟩) (pre_PS hK hP [] rfl) rfl rfl hl.1 rfl (lv_room (Nat.le_of_ble_eq_true rfl)) dX12_isCell_26 ⟨(Nat.le_of_ble_eq_true rfl), (Nat.le_of_ble_eq_true rfl)⟩) (fun r4 p5 => ?_)
  refine lv_if_eq (tgt := 36) hx hb dX12_isCell_29 (by decide) (fun c6 => ?_) (fun c6 => ?_)
  · refine lv_iconst (v := nI 0) hx hb dX12_isCell_36 (by decide) ?_
    exact W.zret (v := nI 0) hx hb hr (by decide) (fun t ht9 hW9 => ⟨nI 0, rfl, (lf_m_isCell0_1 o kthrown ktape ktaped ksize klimit kto kfrom kkind knumber ksign kfault kplace kword ktold know kread kkept ksnaps kaside kname kreadName kkeptName kisKept konces ksnapMany khasCells kpoured kfar ksides ksideMany kwayDays khasWay klines kmet kmetMany ksunk ktrying ksunkMany ksending kfleets ktext ktexts kseed kline kwritten klineMany khasWritten knode knodes konesMany kwithin ktop knowF y r4 hB p5 c6), ht9⟩) (fun _ h => absurd h List.not_mem_nil) dX12_isCell_37
  · refine lv_iconst (v := nI 1) hx hb dX12_isCell_32 (by decide) ?_
    refine lv_goto (tgt := 37) hx hb dX12_isCell_33 (by decide) ?_
    exact W.zret (v := nI 1) hx hb hr (by decide) (fun t ht9 hW9 => ⟨nI 1, rfl, (lf_m_isCell0_2 o kthrown ktape ktaped ksize klimit kto kfrom kkind knumber ksign kfault kplace kword ktold know kread kkept ksnaps kaside kname kreadName kkeptName kisKept konces ksnapMany khasCells kpoured kfar ksides ksideMany kwayDays khasWay klines kmet kmetMany ksunk ktrying ksunkMany ksending kfleets ktext ktexts kseed kline kwritten klineMany khasWritten knode knodes konesMany kwithin ktop knowF y r4 hB p5 c6), ht9⟩) (fun _ h => absurd h List.not_mem_nil) dX12_isCell_37
set_option maxHeartbeats 4000000 in
set_option maxRecDepth 100000 in
theorem c_m_isLump (l : Launch) (dC : Nat → ClassId) (dI : Nat → Nat → Nat) (ky : Nat → ClassId) (o : Nat) (kthrown : Int32) (ktape : Nat) (ktaped : Int32) (ksize : Int32) (klimit : Int32) (kto : Int32) (kfrom : Int32) (kkind : Int32) (knumber : Int32) (ksign : Int32) (kfault : Int32) (kplace : Int32) (kword : Int64) (ktold : Int32) (know : Nat) (kread : Nat) (kkept : Nat) (ksnaps : Nat) (kaside : Nat) (kname : Nat) (kreadName : Nat) (kkeptName : Nat) (kisKept : Nat) (konces : Nat) (ksnapMany : Int32) (khasCells : Int32) (kpoured : Nat) (kfar : Nat) (ksides : Nat) (ksideMany : Int32) (kwayDays : Int32) (khasWay : Int32) (klines : Nat) (kmet : Nat) (kmetMany : Int32) (ksunk : Nat) (ktrying : Nat) (ksunkMany : Int32) (ksending : Int32) (kfleets : Int32) (ktext : Nat) (ktexts : Int32) (kseed : Int32) (kline : Nat) (kwritten : Nat) (klineMany : Int32) (khasWritten : Int32) (knode : Nat) (knodes : Int32) (konesMany : Int32) (kwithin : Int32) (ktop : Int32) (knowF : Nat → Int32) (x : Int32) (hB : NowB knowF) : Met l yX12_isLump wsX12_isLump ({ frames := 1, cells := 0, slots := 0, locals := 22 }) (PcP dC dI ky [.ref o, .int x] [(o, .inr (12, [.int kthrown, .ref ktape, .int ktaped, .int ksize, .int klimit, .int kto, .int kfrom, .int kkind, .int knumber, .int ksign, .int kfault, .int kplace, .long kword, .int ktold, .ref know, .ref kread, .ref kkept, .ref ksnaps, .ref kaside, .ref kname, .ref kreadName, .ref kkeptName, .ref kisKept, .ref konces, .int ksnapMany, .int khasCells, .ref kpoured, .ref kfar, .ref ksides, .int ksideMany, .int kwayDays, .int khasWay, .ref klines, .ref kmet, .int kmetMany, .ref ksunk, .ref ktrying, .int ksunkMany, .int ksending, .int kfleets, .ref ktext, .int ktexts, .int kseed, .ref kline, .ref kwritten, .int klineMany, .int khasWritten, .ref knode, .int knodes, .int konesMany, .int kwithin, .int ktop])), (know, .inl (ky 0, 373, .inl knowF))]) (vp_Si (fun r : Int32 => r = nI 0)) 0 0 (fun _ => False) := by
  refine Met.ofW (cc := cX12_isLump) (maxL := 2) (ret := (some .boolean)) (by decide) rfl ?_
  intro p e s m args below meth c s₁ B hml hv
  obtain ⟨rfl, hP, hK⟩ := hv
  have hx := B.exec
  have hb := B.bytes
  have hr := B.returns
  have hts := atoms_spec (ws := wsX12_isLump) B.pre
  have hown : s.vm.findClass RX12 = some m.cls := findClass_of_methodNamed B.named
  have hlocks := B.notSynchronized
  have hin12 : ∀ w ∈ u_ws RX12 TX12 52, w ∈ wsX12_isLump := by decide +kernel
  have hl := lv_entry ([.ref o, .int x]) (n := 2) (Nat.le_of_ble_eq_true rfl)
  rw [lg_entry_eq]
  generalize (lg_sl ([.ref o, .int x]) ++ List.replicate (2 - (lg_sl ([.ref o, .int x])).length) Slot.unset).toArray = ls at hl ⊢
  have hl : lv_has ls 2 [(0, .ref o), (1, .int x)] := hl
  refine lv_iload_n hx hb dX12_isLump_0 rfl (lv_at hl 1 rfl) ?_
  refine lv_iconst (v := nI 0) hx hb dX12_isLump_1 (by decide) ?_
  refine lv_aload_n hx hb dX12_isLump_2 rfl (lv_at hl 0 rfl) ?_
  refine va_get (D := (dC, dI)) (ci := 12) (v := .ref know) (C := RX12) (T := TX12) (N := 52) hx hb hts hin12 hown hK hP 0 rfl rfl 14 (by decide) (hts (.fieldLink RX12 98 "PorridgeSeaModel" "now" "[I") (List.mem_of_getElem? (i := 1) rfl)) (fun _ h9 => h9) rfl dX12_isLump_3 ?_
  refine lv_iconst (v := nI 2) hx hb dX12_isLump_6 (by decide) ?_
  refine r_iald hx hb hK hP 1 rfl 2 (by decide) (by decide) (nI 0) hB.2.2.1 dX12_isLump_7 ?_
  refine lv_iconst (v := nI 1) hx hb dX12_isLump_8 (by decide) ?_
  refine lv_isub hx hb dX12_isLump_9 ?_
  refine r_ti ((-1 : Int32)) (by decide) ?_
  refine vp_callSi (W.runS (As := [.int x, .int (nI 0), .int (-1 : Int32)]) (rest := []) ⟨hx, hb, hml, hown, hts⟩ (c_isInNone l dC dI ky x) (va_cwS 3 hts gX12_isLump_X12_isIn rfl rfl rfl (by decide +kernel) ⟨(Nat.le_of_ble_eq_true rfl), (Nat.le_of_ble_eq_true rfl)⟩) (pre_PS hK hP [] rfl) rfl rfl hl.1 rfl (lv_room (Nat.le_of_ble_eq_true rfl)) dX12_isLump_10 ⟨(Nat.le_of_ble_eq_true rfl), (Nat.le_of_ble_eq_true rfl)⟩) (fun r1 p2 => ?_)
  subst p2
  exact W.zret (v := nI 0) hx hb hr (by decide) (fun t ht9 hW9 => ⟨nI 0, rfl, rfl, ht9⟩) (fun _ h => absurd h List.not_mem_nil) dX12_isLump_13
set_option maxHeartbeats 4000000 in
set_option maxRecDepth 100000 in
theorem c_m_isBoat (l : Launch) (dC : Nat → ClassId) (dI : Nat → Nat → Nat) (ky : Nat → ClassId) (o : Nat) (kthrown : Int32) (ktape : Nat) (ktaped : Int32) (ksize : Int32) (klimit : Int32) (kto : Int32) (kfrom : Int32) (kkind : Int32) (knumber : Int32) (ksign : Int32) (kfault : Int32) (kplace : Int32) (kword : Int64) (ktold : Int32) (know : Nat) (kread : Nat) (kkept : Nat) (ksnaps : Nat) (kaside : Nat) (kname : Nat) (kreadName : Nat) (kkeptName : Nat) (kisKept : Nat) (konces : Nat) (ksnapMany : Int32) (khasCells : Int32) (kpoured : Nat) (kfar : Nat) (ksides : Nat) (ksideMany : Int32) (kwayDays : Int32) (khasWay : Int32) (klines : Nat) (kmet : Nat) (kmetMany : Int32) (ksunk : Nat) (ktrying : Nat) (ksunkMany : Int32) (ksending : Int32) (kfleets : Int32) (ktext : Nat) (ktexts : Int32) (kseed : Int32) (kline : Nat) (kwritten : Nat) (klineMany : Int32) (khasWritten : Int32) (knode : Nat) (knodes : Int32) (konesMany : Int32) (kwithin : Int32) (ktop : Int32) (knowF : Nat → Int32) (x : Int32) (hB : NowB knowF) : Met l yX12_isBoat wsX12_isBoat ({ frames := 1, cells := 0, slots := 0, locals := 22 }) (PcP dC dI ky [.ref o, .int x] [(o, .inr (12, [.int kthrown, .ref ktape, .int ktaped, .int ksize, .int klimit, .int kto, .int kfrom, .int kkind, .int knumber, .int ksign, .int kfault, .int kplace, .long kword, .int ktold, .ref know, .ref kread, .ref kkept, .ref ksnaps, .ref kaside, .ref kname, .ref kreadName, .ref kkeptName, .ref kisKept, .ref konces, .int ksnapMany, .int khasCells, .ref kpoured, .ref kfar, .ref ksides, .int ksideMany, .int kwayDays, .int khasWay, .ref klines, .ref kmet, .int kmetMany, .ref ksunk, .ref ktrying, .int ksunkMany, .int ksending, .int kfleets, .ref ktext, .int ktexts, .int kseed, .ref kline, .ref kwritten, .int klineMany, .int khasWritten, .ref knode, .int knodes, .int konesMany, .int kwithin, .int ktop])), (know, .inl (ky 0, 373, .inl knowF))]) (vp_Si (fun r : Int32 => r = nI 0)) 0 0 (fun _ => False) := by
  refine Met.ofW (cc := cX12_isBoat) (maxL := 2) (ret := (some .boolean)) (by decide) rfl ?_
  intro p e s m args below meth c s₁ B hml hv
  obtain ⟨rfl, hP, hK⟩ := hv
  have hx := B.exec
  have hb := B.bytes
  have hr := B.returns
  have hts := atoms_spec (ws := wsX12_isBoat) B.pre
  have hown : s.vm.findClass RX12 = some m.cls := findClass_of_methodNamed B.named
  have hlocks := B.notSynchronized
  have hin12 : ∀ w ∈ u_ws RX12 TX12 52, w ∈ wsX12_isBoat := by decide +kernel
  have hl := lv_entry ([.ref o, .int x]) (n := 2) (Nat.le_of_ble_eq_true rfl)
  rw [lg_entry_eq]
  generalize (lg_sl ([.ref o, .int x]) ++ List.replicate (2 - (lg_sl ([.ref o, .int x])).length) Slot.unset).toArray = ls at hl ⊢
  have hl : lv_has ls 2 [(0, .ref o), (1, .int x)] := hl
  refine lv_iload_n hx hb dX12_isBoat_0 rfl (lv_at hl 1 rfl) ?_
  refine lv_iconst (v := nI 0) hx hb dX12_isBoat_1 (by decide) ?_
  refine lv_aload_n hx hb dX12_isBoat_2 rfl (lv_at hl 0 rfl) ?_
  refine va_get (D := (dC, dI)) (ci := 12) (v := .ref know) (C := RX12) (T := TX12) (N := 52) hx hb hts hin12 hown hK hP 0 rfl rfl 14 (by decide) (hts (.fieldLink RX12 98 "PorridgeSeaModel" "now" "[I") (List.mem_of_getElem? (i := 1) rfl)) (fun _ h9 => h9) rfl dX12_isBoat_3 ?_
  refine lv_iconst (v := nI 3) hx hb dX12_isBoat_6 (by decide) ?_
  refine r_iald hx hb hK hP 1 rfl 3 (by decide) (by decide) (nI 0) hB.2.2.2 dX12_isBoat_7 ?_
  refine lv_iconst (v := nI 1) hx hb dX12_isBoat_8 (by decide) ?_
  refine lv_isub hx hb dX12_isBoat_9 ?_
  refine r_ti ((-1 : Int32)) (by decide) ?_
  refine vp_callSi (W.runS (As := [.int x, .int (nI 0), .int (-1 : Int32)]) (rest := []) ⟨hx, hb, hml, hown, hts⟩ (c_isInNone l dC dI ky x) (va_cwS 3 hts gX12_isBoat_X12_isIn rfl rfl rfl (by decide +kernel) ⟨(Nat.le_of_ble_eq_true rfl), (Nat.le_of_ble_eq_true rfl)⟩) (pre_PS hK hP [] rfl) rfl rfl hl.1 rfl (lv_room (Nat.le_of_ble_eq_true rfl)) dX12_isBoat_10 ⟨(Nat.le_of_ble_eq_true rfl), (Nat.le_of_ble_eq_true rfl)⟩) (fun r1 p2 => ?_)
  subst p2
  exact W.zret (v := nI 0) hx hb hr (by decide) (fun t ht9 hW9 => ⟨nI 0, rfl, rfl, ht9⟩) (fun _ h => absurd h List.not_mem_nil) dX12_isBoat_13
set_option maxRecDepth 20000 in
theorem lf_m_hasSkin_1 (o : Nat) (kthrown : Int32) (ktape : Nat) (ktaped : Int32) (ksize : Int32) (klimit : Int32) (kto : Int32) (kfrom : Int32) (kkind : Int32) (knumber : Int32) (ksign : Int32) (kfault : Int32) (kplace : Int32) (kword : Int64) (ktold : Int32) (know : Nat) (kread : Nat) (kkept : Nat) (ksnaps : Nat) (kaside : Nat) (kname : Nat) (kreadName : Nat) (kkeptName : Nat) (kisKept : Nat) (konces : Nat) (ksnapMany : Int32) (khasCells : Int32) (kpoured : Nat) (kfar : Nat) (ksides : Nat) (ksideMany : Int32) (kwayDays : Int32) (khasWay : Int32) (klines : Nat) (kmet : Nat) (kmetMany : Int32) (ksunk : Nat) (ktrying : Nat) (ksunkMany : Int32) (ksending : Int32) (kfleets : Int32) (ktext : Nat) (ktexts : Int32) (kseed : Int32) (kline : Nat) (kwritten : Nat) (klineMany : Int32) (khasWritten : Int32) (knode : Nat) (knodes : Int32) (konesMany : Int32) (kwithin : Int32) (ktop : Int32) (knowF : Nat → Int32) (y1 : Int32) (y3 : Int32) (e2 : y1 = knowF 68) (e4 : y3 = knowF 6) (c5 : y3 < y1) : (nI 0) = nI 0 ∨ (nI 0) = nI 1 := by
  have k_0 := ia_n 0 (by decide)
  have k_1 := ia_n 1 (by decide)
  simp only [ia_lt, ia_le, ia_eq, ia_m1, ia_0, ia_1, ne_eq, true_and, and_true, false_and, and_false, or_false, false_or, or_true, true_or, not_true_eq_false, not_false_eq_true] at *
  all_goals omega
set_option maxRecDepth 20000 in
theorem lf_m_hasSkin_2 (o : Nat) (kthrown : Int32) (ktape : Nat) (ktaped : Int32) (ksize : Int32) (klimit : Int32) (kto : Int32) (kfrom : Int32) (kkind : Int32) (knumber : Int32) (ksign : Int32) (kfault : Int32) (kplace : Int32) (kword : Int64) (ktold : Int32) (know : Nat) (kread : Nat) (kkept : Nat) (ksnaps : Nat) (kaside : Nat) (kname : Nat) (kreadName : Nat) (kkeptName : Nat) (kisKept : Nat) (konces : Nat) (ksnapMany : Int32) (khasCells : Int32) (kpoured : Nat) (kfar : Nat) (ksides : Nat) (ksideMany : Int32) (kwayDays : Int32) (khasWay : Int32) (klines : Nat) (kmet : Nat) (kmetMany : Int32) (ksunk : Nat) (ktrying : Nat) (ksunkMany : Int32) (ksending : Int32) (kfleets : Int32) (ktext : Nat) (ktexts : Int32) (kseed : Int32) (kline : Nat) (kwritten : Nat) (klineMany : Int32) (khasWritten : Int32) (knode : Nat) (knodes : Int32) (konesMany : Int32) (kwithin : Int32) (ktop : Int32) (knowF : Nat → Int32) (y1 : Int32) (y3 : Int32) (e2 : y1 = knowF 68) (e4 : y3 = knowF 6) (c5 : ¬ y3 < y1) : (nI 1) = nI 0 ∨ (nI 1) = nI 1 := by
  have k_0 := ia_n 1 (by decide)
  have k_1 := ia_n 0 (by decide)
  simp only [ia_lt, ia_le, ia_eq, ia_m1, ia_0, ia_1, ne_eq, true_and, and_true, false_and, and_false, or_false, false_or, or_true, true_or, not_true_eq_false, not_false_eq_true] at *
  all_goals omega
set_option maxHeartbeats 4000000 in
set_option maxRecDepth 100000 in
theorem c_m_hasSkin (l : Launch) (dC : Nat → ClassId) (dI : Nat → Nat → Nat) (ky : Nat → ClassId) (o : Nat) (kthrown : Int32) (ktape : Nat) (ktaped : Int32) (ksize : Int32) (klimit : Int32) (kto : Int32) (kfrom : Int32) (kkind : Int32) (knumber : Int32) (ksign : Int32) (kfault : Int32) (kplace : Int32) (kword : Int64) (ktold : Int32) (know : Nat) (kread : Nat) (kkept : Nat) (ksnaps : Nat) (kaside : Nat) (kname : Nat) (kreadName : Nat) (kkeptName : Nat) (kisKept : Nat) (konces : Nat) (ksnapMany : Int32) (khasCells : Int32) (kpoured : Nat) (kfar : Nat) (ksides : Nat) (ksideMany : Int32) (kwayDays : Int32) (khasWay : Int32) (klines : Nat) (kmet : Nat) (kmetMany : Int32) (ksunk : Nat) (ktrying : Nat) (ksunkMany : Int32) (ksending : Int32) (kfleets : Int32) (ktext : Nat) (ktexts : Int32) (kseed : Int32) (kline : Nat) (kwritten : Nat) (klineMany : Int32) (khasWritten : Int32) (knode : Nat) (knodes : Int32) (konesMany : Int32) (kwithin : Int32) (ktop : Int32) (knowF : Nat → Int32)  : Met l yX12_hasSkin wsX12_hasSkin ({ frames := 0, cells := 0, slots := 0, locals := 0 }) (PcP dC dI ky [.ref o] [(o, .inr (12, [.int kthrown, .ref ktape, .int ktaped, .int ksize, .int klimit, .int kto, .int kfrom, .int kkind, .int knumber, .int ksign, .int kfault, .int kplace, .long kword, .int ktold, .ref know, .ref kread, .ref kkept, .ref ksnaps, .ref kaside, .ref kname, .ref kreadName, .ref kkeptName, .ref kisKept, .ref konces, .int ksnapMany, .int khasCells, .ref kpoured, .ref kfar, .ref ksides, .int ksideMany, .int kwayDays, .int khasWay, .ref klines, .ref kmet, .int kmetMany, .ref ksunk, .ref ktrying, .int ksunkMany, .int ksending, .int kfleets, .ref ktext, .int ktexts, .int kseed, .ref kline, .ref kwritten, .int klineMany, .int khasWritten, .ref knode, .int knodes, .int konesMany, .int kwithin, .int ktop])), (know, .inl (ky 0, 373, .inl knowF))]) (vp_Si (fun r : Int32 => r = nI 0 ∨ r = nI 1)) 0 0 (fun _ => False) := by
  refine Met.ofW (cc := cX12_hasSkin) (maxL := 1) (ret := (some .boolean)) (by decide) rfl ?_
  intro p e s m args below meth c s₁ B hml hv
  obtain ⟨rfl, hP, hK⟩ := hv
  have hx := B.exec
  have hb := B.bytes
  have hr := B.returns
  have hts := atoms_spec (ws := wsX12_hasSkin) B.pre
  have hown : s.vm.findClass RX12 = some m.cls := findClass_of_methodNamed B.named
  have hlocks := B.notSynchronized
  have hin12 : ∀ w ∈ u_ws RX12 TX12 52, w ∈ wsX12_hasSkin := by decide +kernel
  have hl := lv_entry ([.ref o]) (n := 1) (Nat.le_of_ble_eq_true rfl)
  rw [lg_entry_eq]
  generalize (lg_sl ([.ref o]) ++ List.replicate (1 - (lg_sl ([.ref o])).length) Slot.unset).toArray = ls at hl ⊢
  have hl : lv_has ls 1 [(0, .ref o)] := hl
  refine lv_aload_n hx hb dX12_hasSkin_0 rfl (lv_at hl 0 rfl) ?_
  refine va_get (D := (dC, dI)) (ci := 12) (v := .ref know) (C := RX12) (T := TX12) (N := 52) hx hb hts hin12 hown hK hP 0 rfl rfl 14 (by decide) (hts (.fieldLink RX12 98 "PorridgeSeaModel" "now" "[I") (List.mem_of_getElem? (i := 1) rfl)) (fun _ h9 => h9) rfl dX12_hasSkin_1 ?_
  refine lv_bipush (v := nI 68) hx hb dX12_hasSkin_4 (by decide) ?_
  obtain ⟨y1, e2⟩ : ∃ z9, z9 = knowF 68 := ⟨_, rfl⟩
  refine r_iald hx hb hK hP 1 rfl 68 (by decide) (by decide) y1 e2.symm dX12_hasSkin_6 ?_
  refine lv_aload_n hx hb dX12_hasSkin_7 rfl (lv_at hl 0 rfl) ?_
  refine va_get (D := (dC, dI)) (ci := 12) (v := .ref know) (C := RX12) (T := TX12) (N := 52) hx hb hts hin12 hown hK hP 0 rfl rfl 14 (by decide) (hts (.fieldLink RX12 98 "PorridgeSeaModel" "now" "[I") (List.mem_of_getElem? (i := 1) rfl)) (fun _ h9 => h9) rfl dX12_hasSkin_8 ?_
  refine lv_bipush (v := nI 6) hx hb dX12_hasSkin_11 (by decide) ?_
  obtain ⟨y3, e4⟩ : ∃ z9, z9 = knowF 6 := ⟨_, rfl⟩
  refine r_iald hx hb hK hP 1 rfl 6 (by decide) (by decide) y3 e4.symm dX12_hasSkin_13 ?_
  refine lv_icmp_gt (tgt := 21) hx hb dX12_hasSkin_14 (by decide) (fun c5 => ?_) (fun c5 => ?_)
  · refine lv_iconst (v := nI 0) hx hb dX12_hasSkin_21 (by decide) ?_
    exact W.zret (v := nI 0) hx hb hr (by decide) (fun t ht9 hW9 => ⟨nI 0, rfl, (lf_m_hasSkin_1 o kthrown ktape ktaped ksize klimit kto kfrom kkind knumber ksign kfault kplace kword ktold know kread kkept ksnaps kaside kname kreadName kkeptName kisKept konces ksnapMany khasCells kpoured kfar ksides ksideMany kwayDays khasWay klines kmet kmetMany ksunk ktrying ksunkMany ksending kfleets ktext ktexts kseed kline kwritten klineMany khasWritten knode knodes konesMany kwithin ktop knowF y1 y3 e2 e4 c5), ht9⟩) (fun _ h => absurd h List.not_mem_nil) dX12_hasSkin_22
  · refine lv_iconst (v := nI 1) hx hb dX12_hasSkin_17 (by decide) ?_
    refine lv_goto (tgt := 22) hx hb dX12_hasSkin_18 (by decide) ?_
    exact W.zret (v := nI 1) hx hb hr (by decide) (fun t ht9 hW9 => ⟨nI 1, rfl, (lf_m_hasSkin_2 o kthrown ktape ktaped ksize klimit kto kfrom kkind knumber ksign kfault kplace kword ktold know kread kkept ksnaps kaside kname kreadName kkeptName kisKept konces ksnapMany khasCells kpoured kfar ksides ksideMany kwayDays khasWay klines kmet kmetMany ksunk ktrying ksunkMany ksending kfleets ktext ktexts kseed kline kwritten klineMany khasWritten knode knodes konesMany kwithin ktop knowF y1 y3 e2 e4 c5), ht9⟩) (fun _ h => absurd h List.not_mem_nil) dX12_hasSkin_22
set_option maxHeartbeats 4000000 in
set_option maxRecDepth 100000 in
theorem c_m_hasSkin0 (l : Launch) (dC : Nat → ClassId) (dI : Nat → Nat → Nat) (ky : Nat → ClassId) (o : Nat) (kthrown : Int32) (ktape : Nat) (ktaped : Int32) (ksize : Int32) (klimit : Int32) (kto : Int32) (kfrom : Int32) (kkind : Int32) (knumber : Int32) (ksign : Int32) (kfault : Int32) (kplace : Int32) (kword : Int64) (ktold : Int32) (know : Nat) (kread : Nat) (kkept : Nat) (ksnaps : Nat) (kaside : Nat) (kname : Nat) (kreadName : Nat) (kkeptName : Nat) (kisKept : Nat) (konces : Nat) (ksnapMany : Int32) (khasCells : Int32) (kpoured : Nat) (kfar : Nat) (ksides : Nat) (ksideMany : Int32) (kwayDays : Int32) (khasWay : Int32) (klines : Nat) (kmet : Nat) (kmetMany : Int32) (ksunk : Nat) (ktrying : Nat) (ksunkMany : Int32) (ksending : Int32) (kfleets : Int32) (ktext : Nat) (ktexts : Int32) (kseed : Int32) (kline : Nat) (kwritten : Nat) (klineMany : Int32) (khasWritten : Int32) (knode : Nat) (knodes : Int32) (konesMany : Int32) (kwithin : Int32) (ktop : Int32) (knowF : Nat → Int32) (hN : NowOk knowF) : Met l yX12_hasSkin wsX12_hasSkin ({ frames := 0, cells := 0, slots := 0, locals := 0 }) (PcP dC dI ky [.ref o] [(o, .inr (12, [.int kthrown, .ref ktape, .int ktaped, .int ksize, .int klimit, .int kto, .int kfrom, .int kkind, .int knumber, .int ksign, .int kfault, .int kplace, .long kword, .int ktold, .ref know, .ref kread, .ref kkept, .ref ksnaps, .ref kaside, .ref kname, .ref kreadName, .ref kkeptName, .ref kisKept, .ref konces, .int ksnapMany, .int khasCells, .ref kpoured, .ref kfar, .ref ksides, .int ksideMany, .int kwayDays, .int khasWay, .ref klines, .ref kmet, .int kmetMany, .ref ksunk, .ref ktrying, .int ksunkMany, .int ksending, .int kfleets, .ref ktext, .int ktexts, .int kseed, .ref kline, .ref kwritten, .int klineMany, .int khasWritten, .ref knode, .int knodes, .int konesMany, .int kwithin, .int ktop])), (know, .inl (ky 0, 373, .inl knowF))]) (vp_Si (fun r : Int32 => r = nI 0)) 0 0 (fun _ => False) := by
  refine Met.ofW (cc := cX12_hasSkin) (maxL := 1) (ret := (some .boolean)) (by decide) rfl ?_
  intro p e s m args below meth c s₁ B hml hv
  obtain ⟨rfl, hP, hK⟩ := hv
  have hx := B.exec
  have hb := B.bytes
  have hr := B.returns
  have hts := atoms_spec (ws := wsX12_hasSkin) B.pre
  have hown : s.vm.findClass RX12 = some m.cls := findClass_of_methodNamed B.named
  have hlocks := B.notSynchronized
  have hin12 : ∀ w ∈ u_ws RX12 TX12 52, w ∈ wsX12_hasSkin := by decide +kernel
  have hl := lv_entry ([.ref o]) (n := 1) (Nat.le_of_ble_eq_true rfl)
  rw [lg_entry_eq]
  generalize (lg_sl ([.ref o]) ++ List.replicate (1 - (lg_sl ([.ref o])).length) Slot.unset).toArray = ls at hl ⊢
  have hl : lv_has ls 1 [(0, .ref o)] := hl
  refine lv_aload_n hx hb dX12_hasSkin_0 rfl (lv_at hl 0 rfl) ?_
  refine va_get (D := (dC, dI)) (ci := 12) (v := .ref know) (C := RX12) (T := TX12) (N := 52) hx hb hts hin12 hown hK hP 0 rfl rfl 14 (by decide) (hts (.fieldLink RX12 98 "PorridgeSeaModel" "now" "[I") (List.mem_of_getElem? (i := 1) rfl)) (fun _ h9 => h9) rfl dX12_hasSkin_1 ?_
  refine lv_bipush (v := nI 68) hx hb dX12_hasSkin_4 (by decide) ?_
  refine r_iald hx hb hK hP 1 rfl 68 (by decide) (by decide) (nI 10) hN.2.2.1 dX12_hasSkin_6 ?_
  refine lv_aload_n hx hb dX12_hasSkin_7 rfl (lv_at hl 0 rfl) ?_
  refine va_get (D := (dC, dI)) (ci := 12) (v := .ref know) (C := RX12) (T := TX12) (N := 52) hx hb hts hin12 hown hK hP 0 rfl rfl 14 (by decide) (hts (.fieldLink RX12 98 "PorridgeSeaModel" "now" "[I") (List.mem_of_getElem? (i := 1) rfl)) (fun _ h9 => h9) rfl dX12_hasSkin_8 ?_
  refine lv_bipush (v := nI 6) hx hb dX12_hasSkin_11 (by decide) ?_
  refine r_iald hx hb hK hP 1 rfl 6 (by decide) (by decide) (nI 3) (now_6 hN) dX12_hasSkin_13 ?_
  refine lv_icmp_gt (tgt := 21) hx hb dX12_hasSkin_14 (by decide) (fun c1 => ?_) (fun c1 => absurd (by decide) c1)
  refine lv_iconst (v := nI 0) hx hb dX12_hasSkin_21 (by decide) ?_
  exact W.zret (v := nI 0) hx hb hr (by decide) (fun t ht9 hW9 => ⟨nI 0, rfl, rfl, ht9⟩) (fun _ h => absurd h List.not_mem_nil) dX12_hasSkin_22
set_option maxHeartbeats 4000000 in
set_option maxRecDepth 100000 in
theorem c_m_eaten (l : Launch) (dC : Nat → ClassId) (dI : Nat → Nat → Nat) (ky : Nat → ClassId) (o : Nat) (kthrown : Int32) (ktape : Nat) (ktaped : Int32) (ksize : Int32) (klimit : Int32) (kto : Int32) (kfrom : Int32) (kkind : Int32) (knumber : Int32) (ksign : Int32) (kfault : Int32) (kplace : Int32) (kword : Int64) (ktold : Int32) (know : Nat) (kread : Nat) (kkept : Nat) (ksnaps : Nat) (kaside : Nat) (kname : Nat) (kreadName : Nat) (kkeptName : Nat) (kisKept : Nat) (konces : Nat) (ksnapMany : Int32) (khasCells : Int32) (kpoured : Nat) (kfar : Nat) (ksides : Nat) (ksideMany : Int32) (kwayDays : Int32) (khasWay : Int32) (klines : Nat) (kmet : Nat) (kmetMany : Int32) (ksunk : Nat) (ktrying : Nat) (ksunkMany : Int32) (ksending : Int32) (kfleets : Int32) (ktext : Nat) (ktexts : Int32) (kseed : Int32) (kline : Nat) (kwritten : Nat) (klineMany : Int32) (khasWritten : Int32) (knode : Nat) (knodes : Int32) (konesMany : Int32) (kwithin : Int32) (ktop : Int32) (knowF : Nat → Int32) (hB : NowB knowF) : Met l yX12_eaten wsX12_eaten ({ frames := 0, cells := 0, slots := 0, locals := 0 }) (PcP dC dI ky [.ref o] [(o, .inr (12, [.int kthrown, .ref ktape, .int ktaped, .int ksize, .int klimit, .int kto, .int kfrom, .int kkind, .int knumber, .int ksign, .int kfault, .int kplace, .long kword, .int ktold, .ref know, .ref kread, .ref kkept, .ref ksnaps, .ref kaside, .ref kname, .ref kreadName, .ref kkeptName, .ref kisKept, .ref konces, .int ksnapMany, .int khasCells, .ref kpoured, .ref kfar, .ref ksides, .int ksideMany, .int kwayDays, .int khasWay, .ref klines, .ref kmet, .int kmetMany, .ref ksunk, .ref ktrying, .int ksunkMany, .int ksending, .int kfleets, .ref ktext, .int ktexts, .int kseed, .ref kline, .ref kwritten, .int klineMany, .int khasWritten, .ref knode, .int knodes, .int konesMany, .int kwithin, .int ktop])), (know, .inl (ky 0, 373, .inl knowF))]) (vp_Si (fun r : Int32 => r = nI 0)) 0 0 (fun _ => False) := by
  refine Met.ofW (cc := cX12_eaten) (maxL := 3) (ret := (some .int)) (by decide) rfl ?_
  intro p e s m args below meth c s₁ B hml hv
  obtain ⟨rfl, hP, hK⟩ := hv
  have hx := B.exec
  have hb := B.bytes
  have hr := B.returns
  have hts := atoms_spec (ws := wsX12_eaten) B.pre
  have hown : s.vm.findClass RX12 = some m.cls := findClass_of_methodNamed B.named
  have hlocks := B.notSynchronized
  have hin12 : ∀ w ∈ u_ws RX12 TX12 52, w ∈ wsX12_eaten := by decide +kernel
  have hl := lv_entry ([.ref o]) (n := 3) (Nat.le_of_ble_eq_true rfl)
  rw [lg_entry_eq]
  generalize (lg_sl ([.ref o]) ++ List.replicate (3 - (lg_sl ([.ref o])).length) Slot.unset).toArray = ls at hl ⊢
  have hl : lv_has ls 3 [(0, .ref o)] := hl
  refine lv_iconst (v := nI 0) hx hb dX12_eaten_0 (by decide) ?_
  refine lv_istore_n (lv' := [(1, .int (nI 0)), (0, .ref o)]) hx hb dX12_eaten_1 rfl hl (by decide) rfl (fun ls hl => ?_)
  refine lv_iconst (v := nI 0) hx hb dX12_eaten_2 (by decide) ?_
  refine lv_istore_n (lv' := [(2, .int (nI 0)), (1, .int (nI 0)), (0, .ref o)]) hx hb dX12_eaten_3 rfl hl (by decide) rfl (fun ls hl => ?_)
  refine lv_iload_n hx hb dX12_eaten_4 rfl (lv_at hl 0 rfl) ?_
  refine lv_aload_n hx hb dX12_eaten_5 rfl (lv_at hl 2 rfl) ?_
  refine va_get (D := (dC, dI)) (ci := 12) (v := .ref know) (C := RX12) (T := TX12) (N := 52) hx hb hts hin12 hown hK hP 0 rfl rfl 14 (by decide) (hts (.fieldLink RX12 98 "PorridgeSeaModel" "now" "[I") (List.mem_of_getElem? (i := 1) rfl)) (fun _ h9 => h9) rfl dX12_eaten_6 ?_
  refine lv_iconst (v := nI 3) hx hb dX12_eaten_9 (by decide) ?_
  refine r_iald hx hb hK hP 1 rfl 3 (by decide) (by decide) (nI 0) hB.2.2.2 dX12_eaten_10 ?_
  refine lv_icmp_ge (tgt := 34) hx hb dX12_eaten_11 (by decide) (fun c1 => ?_) (fun c1 => absurd (by decide) c1)
  refine lv_iload_n hx hb dX12_eaten_34 rfl (lv_at hl 1 rfl) ?_
  exact W.iret (v := nI 0) hx hb hr (fun t ht9 hW9 => ⟨nI 0, rfl, rfl, ht9⟩) (fun _ h => absurd h List.not_mem_nil) dX12_eaten_35
set_option maxRecDepth 20000 in
theorem lf_m_isInSea_1 (o : Nat) (kthrown : Int32) (ktape : Nat) (ktaped : Int32) (ksize : Int32) (klimit : Int32) (kto : Int32) (kfrom : Int32) (kkind : Int32) (knumber : Int32) (ksign : Int32) (kfault : Int32) (kplace : Int32) (kword : Int64) (ktold : Int32) (know : Nat) (kread : Nat) (kkept : Nat) (ksnaps : Nat) (kaside : Nat) (kname : Nat) (kreadName : Nat) (kkeptName : Nat) (kisKept : Nat) (konces : Nat) (ksnapMany : Int32) (khasCells : Int32) (kpoured : Nat) (kfar : Nat) (ksides : Nat) (ksideMany : Int32) (kwayDays : Int32) (khasWay : Int32) (klines : Nat) (kmet : Nat) (kmetMany : Int32) (ksunk : Nat) (ktrying : Nat) (ksunkMany : Int32) (ksending : Int32) (kfleets : Int32) (ktext : Nat) (ktexts : Int32) (kseed : Int32) (kline : Nat) (kwritten : Nat) (klineMany : Int32) (khasWritten : Int32) (knode : Nat) (knodes : Int32) (konesMany : Int32) (kwithin : Int32) (ktop : Int32) (knowF : Nat → Int32) (k : Nat) (hB : NowB knowF) (hk : k < 36) (c1 : 4 ≤ (k % 6)) : (nI 0) = nI 0 ∨ (nI 0) = nI 1 := by
  have k_0 := ia_n 0 (by decide)
  have k_1 := ia_n 1 (by decide)
  simp only [ia_lt, ia_le, ia_eq, ia_m1, ia_0, ia_1, ne_eq, true_and, and_true, false_and, and_false, or_false, false_or, or_true, true_or, not_true_eq_false, not_false_eq_true] at *
  all_goals omega
set_option maxRecDepth 20000 in
theorem lf_m_isInSea_2 (o : Nat) (kthrown : Int32) (ktape : Nat) (ktaped : Int32) (ksize : Int32) (klimit : Int32) (kto : Int32) (kfrom : Int32) (kkind : Int32) (knumber : Int32) (ksign : Int32) (kfault : Int32) (kplace : Int32) (kword : Int64) (ktold : Int32) (know : Nat) (kread : Nat) (kkept : Nat) (ksnaps : Nat) (kaside : Nat) (kname : Nat) (kreadName : Nat) (kkeptName : Nat) (kisKept : Nat) (konces : Nat) (ksnapMany : Int32) (khasCells : Int32) (kpoured : Nat) (kfar : Nat) (ksides : Nat) (ksideMany : Int32) (kwayDays : Int32) (khasWay : Int32) (klines : Nat) (kmet : Nat) (kmetMany : Int32) (ksunk : Nat) (ktrying : Nat) (ksunkMany : Int32) (ksending : Int32) (kfleets : Int32) (ktext : Nat) (ktexts : Int32) (kseed : Int32) (kline : Nat) (kwritten : Nat) (klineMany : Int32) (khasWritten : Int32) (knode : Nat) (knodes : Int32) (konesMany : Int32) (kwithin : Int32) (ktop : Int32) (knowF : Nat → Int32) (k : Nat) (hB : NowB knowF) (hk : k < 36) (c1 : (k % 6) < 4) (c2 : 4 ≤ (k / 6)) : (nI 0) = nI 0 ∨ (nI 0) = nI 1 := by
  have k_0 := ia_n 0 (by decide)
  have k_1 := ia_n 1 (by decide)
  simp only [ia_lt, ia_le, ia_eq, ia_m1, ia_0, ia_1, ne_eq, true_and, and_true, false_and, and_false, or_false, false_or, or_true, true_or, not_true_eq_false, not_false_eq_true] at *
  all_goals omega
set_option maxRecDepth 20000 in
theorem lf_m_isInSea_3 (o : Nat) (kthrown : Int32) (ktape : Nat) (ktaped : Int32) (ksize : Int32) (klimit : Int32) (kto : Int32) (kfrom : Int32) (kkind : Int32) (knumber : Int32) (ksign : Int32) (kfault : Int32) (kplace : Int32) (kword : Int64) (ktold : Int32) (know : Nat) (kread : Nat) (kkept : Nat) (ksnaps : Nat) (kaside : Nat) (kname : Nat) (kreadName : Nat) (kkeptName : Nat) (kisKept : Nat) (konces : Nat) (ksnapMany : Int32) (khasCells : Int32) (kpoured : Nat) (kfar : Nat) (ksides : Nat) (ksideMany : Int32) (kwayDays : Int32) (khasWay : Int32) (klines : Nat) (kmet : Nat) (kmetMany : Int32) (ksunk : Nat) (ktrying : Nat) (ksunkMany : Int32) (ksending : Int32) (kfleets : Int32) (ktext : Nat) (ktexts : Int32) (kseed : Int32) (kline : Nat) (kwritten : Nat) (klineMany : Int32) (khasWritten : Int32) (knode : Nat) (knodes : Int32) (konesMany : Int32) (kwithin : Int32) (ktop : Int32) (knowF : Nat → Int32) (k : Nat) (hB : NowB knowF) (hk : k < 36) (c1 : (k % 6) < 4) (c2 : (k / 6) < 4) : (nI 1) = nI 0 ∨ (nI 1) = nI 1 := by
  have k_0 := ia_n 1 (by decide)
  have k_1 := ia_n 0 (by decide)
  simp only [ia_lt, ia_le, ia_eq, ia_m1, ia_0, ia_1, ne_eq, true_and, and_true, false_and, and_false, or_false, false_or, or_true, true_or, not_true_eq_false, not_false_eq_true] at *
  all_goals omega
set_option maxHeartbeats 4000000 in
set_option maxRecDepth 100000 in
theorem c_m_isInSea (l : Launch) (dC : Nat → ClassId) (dI : Nat → Nat → Nat) (ky : Nat → ClassId) (o : Nat) (kthrown : Int32) (ktape : Nat) (ktaped : Int32) (ksize : Int32) (klimit : Int32) (kto : Int32) (kfrom : Int32) (kkind : Int32) (knumber : Int32) (ksign : Int32) (kfault : Int32) (kplace : Int32) (kword : Int64) (ktold : Int32) (know : Nat) (kread : Nat) (kkept : Nat) (ksnaps : Nat) (kaside : Nat) (kname : Nat) (kreadName : Nat) (kkeptName : Nat) (kisKept : Nat) (konces : Nat) (ksnapMany : Int32) (khasCells : Int32) (kpoured : Nat) (kfar : Nat) (ksides : Nat) (ksideMany : Int32) (kwayDays : Int32) (khasWay : Int32) (klines : Nat) (kmet : Nat) (kmetMany : Int32) (ksunk : Nat) (ktrying : Nat) (ksunkMany : Int32) (ksending : Int32) (kfleets : Int32) (ktext : Nat) (ktexts : Int32) (kseed : Int32) (kline : Nat) (kwritten : Nat) (klineMany : Int32) (khasWritten : Int32) (knode : Nat) (knodes : Int32) (konesMany : Int32) (kwithin : Int32) (ktop : Int32) (knowF : Nat → Int32) (k : Nat) (hB : NowB knowF) (hk : k < 36) : Met l yX12_isInSea wsX12_isInSea ({ frames := 0, cells := 0, slots := 0, locals := 0 }) (PcP dC dI ky [.ref o, .int (nI k)] [(o, .inr (12, [.int kthrown, .ref ktape, .int ktaped, .int ksize, .int klimit, .int kto, .int kfrom, .int kkind, .int knumber, .int ksign, .int kfault, .int kplace, .long kword, .int ktold, .ref know, .ref kread, .ref kkept, .ref ksnaps, .ref kaside, .ref kname, .ref kreadName, .ref kkeptName, .ref kisKept, .ref konces, .int ksnapMany, .int khasCells, .ref kpoured, .ref kfar, .ref ksides, .int ksideMany, .int kwayDays, .int khasWay, .ref klines, .ref kmet, .int kmetMany, .ref ksunk, .ref ktrying, .int ksunkMany, .int ksending, .int kfleets, .ref ktext, .int ktexts, .int kseed, .ref kline, .ref kwritten, .int klineMany, .int khasWritten, .ref knode, .int knodes, .int konesMany, .int kwithin, .int ktop])), (know, .inl (ky 0, 373, .inl knowF))]) (vp_Si (fun r : Int32 => r = nI 0 ∨ r = nI 1)) 0 0 (fun _ => False) := by
  refine Met.ofW (cc := cX12_isInSea) (maxL := 2) (ret := (some .boolean)) (by decide) rfl ?_
  intro p e s m args below meth c s₁ B hml hv
  obtain ⟨rfl, hP, hK⟩ := hv
  have hx := B.exec
  have hb := B.bytes
  have hr := B.returns
  have hts := atoms_spec (ws := wsX12_isInSea) B.pre
  have hown : s.vm.findClass RX12 = some m.cls := findClass_of_methodNamed B.named
  have hlocks := B.notSynchronized
  have hin12 : ∀ w ∈ u_ws RX12 TX12 52, w ∈ wsX12_isInSea := by decide +kernel
  have hl := lv_entry ([.ref o, .int (nI k)]) (n := 2) (Nat.le_of_ble_eq_true rfl)
  rw [lg_entry_eq]
  generalize (lg_sl ([.ref o, .int (nI k)]) ++ List.replicate (2 - (lg_sl ([.ref o, .int (nI k)])).length) Slot.unset).toArray = ls at hl ⊢
  have hl : lv_has ls 2 [(0, .ref o), (1, .int (nI k))] := hl
  refine lv_iload_n hx hb dX12_isInSea_0 rfl (lv_at hl 1 rfl) ?_
  refine lv_bipush (v := nI 6) hx hb dX12_isInSea_1 (by decide) ?_
  refine lv_irem hx hb dX12_isInSea_3 (by decide) ?_
  refine r_ti (nI (k % 6)) (pk_rem (by omega) (by omega) (by omega)) ?_
  refine lv_aload_n hx hb dX12_isInSea_4 rfl (lv_at hl 0 rfl) ?_
  refine va_get (D := (dC, dI)) (ci := 12) (v := .ref know) (C := RX12) (T := TX12) (N := 52) hx hb hts hin12 hown hK hP 0 rfl rfl 14 (by decide) (hts (.fieldLink RX12 98 "PorridgeSeaModel" "now" "[I") (List.mem_of_getElem? (i := 1) rfl)) (fun _ h9 => h9) rfl dX12_isInSea_5 ?_
  refine lv_iconst (v := nI 0) hx hb dX12_isInSea_8 (by decide) ?_
  refine r_iald hx hb hK hP 1 rfl 0 (by decide) (by decide) (nI 4) hB.1 dX12_isInSea_9 ?_
  refine n_icmp_ge (x := (k % 6)) (y := 4) (tgt := 30) hx hb (by omega) (by omega) dX12_isInSea_10 (by decide) (fun c1 => ?_) (fun c1 => ?_)
  · refine lv_iconst (v := nI 0) hx hb dX12_isInSea_30 (by decide) ?_
    exact W.zret (v := nI 0) hx hb hr (by decide) (fun t ht9 hW9 => ⟨nI 0, rfl, (lf_m_isInSea_1 o kthrown ktape ktaped ksize klimit kto kfrom kkind knumber ksign kfault kplace kword ktold know kread kkept ksnaps kaside kname kreadName kkeptName kisKept konces ksnapMany khasCells kpoured kfar ksides ksideMany kwayDays khasWay klines kmet kmetMany ksunk ktrying ksunkMany ksending kfleets ktext ktexts kseed kline kwritten klineMany khasWritten knode knodes konesMany kwithin ktop knowF k hB hk c1), ht9⟩) (fun _ h => absurd h List.not_mem_nil) dX12_isInSea_31
  · refine lv_iload_n hx hb dX12_isInSea_13 rfl (lv_at hl 1 rfl) ?_
    refine lv_bipush (v := nI 6) hx hb dX12_isInSea_14 (by decide) ?_
    refine lv_idiv hx hb dX12_isInSea_16 (by decide) ?_
    refine r_ti (nI (k / 6)) (pk_div (by omega) (by omega) (by omega)) ?_
    refine lv_aload_n hx hb dX12_isInSea_17 rfl (lv_at hl 0 rfl) ?_
    refine va_get (D := (dC, dI)) (ci := 12) (v := .ref know) (C := RX12) (T := TX12) (N := 52) hx hb hts hin12 hown hK hP 0 rfl rfl 14 (by decide) (hts (.fieldLink RX12 98 "PorridgeSeaModel" "now" "[I") (List.mem_of_getElem? (i := 1) rfl)) (fun _ h9 => h9) rfl dX12_isInSea_18 ?_
    refine lv_iconst (v := nI 1) hx hb dX12_isInSea_21 (by decide) ?_
    refine r_iald hx hb hK hP 1 rfl 1 (by decide) (by decide) (nI 4) hB.2.1 dX12_isInSea_22 ?_
    refine n_icmp_ge (x := (k / 6)) (y := 4) (tgt := 30) hx hb (by omega) (by omega) dX12_isInSea_23 (by decide) (fun c2 => ?_) (fun c2 => ?_)
    · refine lv_iconst (v := nI 0) hx hb dX12_isInSea_30 (by decide) ?_
      exact W.zret (v := nI 0) hx hb hr (by decide) (fun t ht9 hW9 => ⟨nI 0, rfl, (lf_m_isInSea_2 o kthrown ktape ktaped ksize klimit kto kfrom kkind knumber ksign kfault kplace kword ktold know kread kkept ksnaps kaside kname kreadName kkeptName kisKept konces ksnapMany khasCells kpoured kfar ksides ksideMany kwayDays khasWay klines kmet kmetMany ksunk ktrying ksunkMany ksending kfleets ktext ktexts kseed kline kwritten klineMany khasWritten knode knodes konesMany kwithin ktop knowF k hB hk c1 c2), ht9⟩) (fun _ h => absurd h List.not_mem_nil) dX12_isInSea_31
    · refine lv_iconst (v := nI 1) hx hb dX12_isInSea_26 (by decide) ?_
      refine lv_goto (tgt := 31) hx hb dX12_isInSea_27 (by decide) ?_
      exact W.zret (v := nI 1) hx hb hr (by decide) (fun t ht9 hW9 => ⟨nI 1, rfl, (lf_m_isInSea_3 o kthrown ktape ktaped ksize klimit kto kfrom kkind knumber ksign kfault kplace kword ktold know kread kkept ksnaps kaside kname kreadName kkeptName kisKept konces ksnapMany khasCells kpoured kfar ksides ksideMany kwayDays khasWay klines kmet kmetMany ksunk ktrying ksunkMany ksending kfleets ktext ktexts kseed kline kwritten klineMany khasWritten knode knodes konesMany kwithin ktop knowF k hB hk c1 c2), ht9⟩) (fun _ h => absurd h List.not_mem_nil) dX12_isInSea_31
set_option maxHeartbeats 4000000 in
set_option maxRecDepth 100000 in
theorem c_m_stirred (l : Launch) (dC : Nat → ClassId) (dI : Nat → Nat → Nat) (ky : Nat → ClassId) (o : Nat) (kthrown : Int32) (ktape : Nat) (ktaped : Int32) (ksize : Int32) (klimit : Int32) (kto : Int32) (kfrom : Int32) (kkind : Int32) (knumber : Int32) (ksign : Int32) (kfault : Int32) (kplace : Int32) (kword : Int64) (ktold : Int32) (know : Nat) (kread : Nat) (kkept : Nat) (ksnaps : Nat) (kaside : Nat) (kname : Nat) (kreadName : Nat) (kkeptName : Nat) (kisKept : Nat) (konces : Nat) (ksnapMany : Int32) (khasCells : Int32) (kpoured : Nat) (kfar : Nat) (ksides : Nat) (ksideMany : Int32) (kwayDays : Int32) (khasWay : Int32) (klines : Nat) (kmet : Nat) (kmetMany : Int32) (ksunk : Nat) (ktrying : Nat) (ksunkMany : Int32) (ksending : Int32) (kfleets : Int32) (ktext : Nat) (ktexts : Int32) (kseed : Int32) (kline : Nat) (kwritten : Nat) (klineMany : Int32) (khasWritten : Int32) (knode : Nat) (knodes : Int32) (konesMany : Int32) (kwithin : Int32) (ktop : Int32) (knowF : Nat → Int32) (k : Nat) (ln : Nat) (hB : NowB knowF) (hk : k < 36) (hln : ln < 24) : Met l yX12_stirred wsX12_stirred ({ frames := 0, cells := 0, slots := 0, locals := 0 }) (PcP dC dI ky [.ref o, .int (nI k), .int (nI ln)] [(o, .inr (12, [.int kthrown, .ref ktape, .int ktaped, .int ksize, .int klimit, .int kto, .int kfrom, .int kkind, .int knumber, .int ksign, .int kfault, .int kplace, .long kword, .int ktold, .ref know, .ref kread, .ref kkept, .ref ksnaps, .ref kaside, .ref kname, .ref kreadName, .ref kkeptName, .ref kisKept, .ref konces, .int ksnapMany, .int khasCells, .ref kpoured, .ref kfar, .ref ksides, .int ksideMany, .int kwayDays, .int khasWay, .ref klines, .ref kmet, .int kmetMany, .ref ksunk, .ref ktrying, .int ksunkMany, .int ksending, .int kfleets, .ref ktext, .int ktexts, .int kseed, .ref kline, .ref kwritten, .int klineMany, .int khasWritten, .ref knode, .int knodes, .int konesMany, .int kwithin, .int ktop])), (know, .inl (ky 0, 373, .inl knowF))]) (vp_Si (fun r : Int32 => ∃ k9 : Nat, k9 < 36 ∧ r = nI k9)) 0 0 (fun _ => False) := by
  refine Met.ofW (cc := cX12_stirred) (maxL := 8) (ret := (some .int)) (by decide) rfl ?_
  intro p e s m args below meth c s₁ B hml hv
  obtain ⟨rfl, hP, hK⟩ := hv
  have hx := B.exec
  have hb := B.bytes
  have hr := B.returns
  have hts := atoms_spec (ws := wsX12_stirred) B.pre
  have hown : s.vm.findClass RX12 = some m.cls := findClass_of_methodNamed B.named
  have hlocks := B.notSynchronized
  have hin12 : ∀ w ∈ u_ws RX12 TX12 52, w ∈ wsX12_stirred := by decide +kernel
  have hl := lv_entry ([.ref o, .int (nI k), .int (nI ln)]) (n := 8) (Nat.le_of_ble_eq_true rfl)
  rw [lg_entry_eq]
  generalize (lg_sl ([.ref o, .int (nI k), .int (nI ln)]) ++ List.replicate (8 - (lg_sl ([.ref o, .int (nI k), .int (nI ln)])).length) Slot.unset).toArray = ls at hl ⊢
  have hl : lv_has ls 8 [(0, .ref o), (1, .int (nI k)), (2, .int (nI ln))] := hl
  refine lv_iload_n hx hb dX12_stirred_0 rfl (lv_at hl 1 rfl) ?_
  refine lv_bipush (v := nI 6) hx hb dX12_stirred_1 (by decide) ?_
  refine lv_irem hx hb dX12_stirred_3 (by decide) ?_
  refine r_ti (nI (k % 6)) (pk_rem (by omega) (by omega) (by omega)) ?_
  refine lv_istore_n (lv' := [(3, .int (nI (k % 6))), (0, .ref o), (1, .int (nI k)), (2, .int (nI ln))]) hx hb dX12_stirred_4 rfl hl (by decide) rfl (fun ls hl => ?_)
  refine lv_iload_n hx hb dX12_stirred_5 rfl (lv_at hl 2 rfl) ?_
  refine lv_bipush (v := nI 6) hx hb dX12_stirred_6 (by decide) ?_
  refine lv_idiv hx hb dX12_stirred_8 (by decide) ?_
  refine r_ti (nI (k / 6)) (pk_div (by omega) (by omega) (by omega)) ?_
  refine lv_istore (lv' := [(4, .int (nI (k / 6))), (3, .int (nI (k % 6))), (0, .ref o), (1, .int (nI k)), (2, .int (nI ln))]) hx hb dX12_stirred_9 hl (by decide) rfl (fun ls hl => ?_)
  refine lv_iload_n hx hb dX12_stirred_11 rfl (lv_at hl 4 rfl) ?_
  refine lv_bipush (v := nI 12) hx hb dX12_stirred_12 (by decide) ?_
  refine n_icmp_lt (x := ln) (y := 12) (tgt := 21) hx hb (by omega) (by omega) dX12_stirred_14 (by decide) (fun c1 => ?_) (fun c1 => ?_)
  · refine lv_iconst (v := nI 0) hx hb dX12_stirred_21 (by decide) ?_
    refine lv_istore (lv' := [(5, .int (nI 0)), (4, .int (nI (k / 6))), (3, .int (nI (k % 6))), (0, .ref o), (1, .int (nI k)), (2, .int (nI ln))]) hx hb dX12_stirred_22 hl (by decide) rfl (fun ls hl => ?_)
    refine lv_iload hx hb dX12_stirred_24 (lv_at hl 0 rfl) ?_
    refine lv_if_eq (tgt := 33) hx hb dX12_stirred_26 (by decide) (fun c2 => ?_) (fun c2 => absurd (by decide) c2)
    refine lv_iload hx hb dX12_stirred_33 (lv_at hl 1 rfl) ?_
    refine lv_iload_n hx hb dX12_stirred_35 rfl (lv_at hl 5 rfl) ?_
    refine lv_bipush (v := nI 12) hx hb dX12_stirred_36 (by decide) ?_
    refine lv_irem hx hb dX12_stirred_38 (by decide) ?_
    refine r_ti (nI (ln % 12)) (pk_rem (by omega) (by omega) (by omega)) ?_
    refine lv_iconst (v := nI 2) hx hb dX12_stirred_39 (by decide) ?_
    refine lv_idiv hx hb dX12_stirred_40 (by decide) ?_
    refine r_ti (nI ((ln % 12) / 2)) (pk_div (by omega) (by omega) (by omega)) ?_
    refine n_icmp_eq (x := (k / 6)) (y := ((ln % 12) / 2)) (tgt := 46) hx hb (by omega) (by omega) dX12_stirred_41 (by decide) (fun c3 => ?_) (fun c3 => ?_)
    · refine lv_aload_n hx hb dX12_stirred_46 rfl (lv_at hl 3 rfl) ?_
      refine va_get (D := (dC, dI)) (ci := 12) (v := .ref know) (C := RX12) (T := TX12) (N := 52) hx hb hts hin12 hown hK hP 0 rfl rfl 14 (by decide) (hts (.fieldLink RX12 98 "PorridgeSeaModel" "now" "[I") (List.mem_of_getElem? (i := 1) rfl)) (fun _ h9 => h9) rfl dX12_stirred_47 ?_
      refine lv_iload hx hb dX12_stirred_50 (lv_at hl 0 rfl) ?_
      refine lv_if_eq (tgt := 59) hx hb dX12_stirred_52 (by decide) (fun c4 => ?_) (fun c4 => absurd (by decide) c4)
      refine lv_iconst (v := nI 0) hx hb dX12_stirred_59 (by decide) ?_
      refine r_iald hx hb hK hP 1 rfl 0 (by decide) (by decide) (nI 4) hB.1 dX12_stirred_60 ?_
      refine lv_istore (lv' := [(6, .int (nI 4)), (5, .int (nI 0)), (4, .int (nI (k / 6))), (3, .int (nI (k % 6))), (0, .ref o), (1, .int (nI k)), (2, .int (nI ln))]) hx hb dX12_stirred_61 hl (by decide) rfl (fun ls hl => ?_)
      refine lv_iload hx hb dX12_stirred_63 (lv_at hl 1 rfl) ?_
      refine lv_if_eq (tgt := 73) hx hb dX12_stirred_65 (by decide) (fun c5 => ?_) (fun c5 => absurd (by decide) c5)
      refine lv_iload_n hx hb dX12_stirred_73 rfl (lv_at hl 3 rfl) ?_
      refine lv_iload_n hx hb dX12_stirred_74 rfl (lv_at hl 6 rfl) ?_
      refine lv_iconst (v := nI 2) hx hb dX12_stirred_75 (by decide) ?_
      refine lv_irem hx hb dX12_stirred_76 (by decide) ?_
      refine r_ti (nI (ln % 2)) (pk_rem (by omega) (by omega) (by omega)) ?_
      refine n_if_ne (x := (ln % 2)) (tgt := 84) hx hb (by omega) dX12_stirred_77 (by decide) (fun c6 => ?_) (fun c6 => ?_)
      · refine lv_iload hx hb dX12_stirred_84 (lv_at hl 0 rfl) ?_
        refine lv_iconst (v := nI 1) hx hb dX12_stirred_86 (by decide) ?_
        refine lv_isub hx hb dX12_stirred_87 ?_
        refine r_ti (nI 3) (by decide) ?_
        refine lv_iadd hx hb dX12_stirred_88 ?_
        refine r_ti (nI ((k % 6) + 3)) (nI_add _ _) ?_
        refine lv_iload hx hb dX12_stirred_89 (lv_at hl 0 rfl) ?_
        refine lv_irem hx hb dX12_stirred_91 (by decide) ?_
        refine r_ti (nI (((k % 6) + 3) % 4)) (pk_rem (by omega) (by omega) (by omega)) ?_
        refine lv_istore (lv' := [(7, .int (nI (((k % 6) + 3) % 4))), (6, .int (nI 4)), (5, .int (nI 0)), (4, .int (nI (k / 6))), (3, .int (nI (k % 6))), (0, .ref o), (1, .int (nI k)), (2, .int (nI ln))]) hx hb dX12_stirred_92 hl (by decide) rfl (fun ls hl => ?_)
        refine lv_iload hx hb dX12_stirred_94 (lv_at hl 2 rfl) ?_
        refine lv_if_eq (tgt := 109) hx hb dX12_stirred_96 (by decide) (fun c7 => ?_) (fun c7 => absurd (by decide) c7)
        refine lv_bipush (v := nI 6) hx hb dX12_stirred_109 (by decide) ?_
        refine lv_iload hx hb dX12_stirred_111 (lv_at hl 3 rfl) ?_
        refine lv_imul hx hb dX12_stirred_113 ?_
        refine r_ti (nI (6 * (k / 6))) (pk_mul _ _) ?_
        refine lv_iload hx hb dX12_stirred_114 (lv_at hl 0 rfl) ?_
        refine lv_iadd hx hb dX12_stirred_116 ?_
        refine r_ti (nI ((6 * (k / 6)) + (((k % 6) + 3) % 4))) (nI_add _ _) ?_
        exact W.iret (v := nI ((6 * (k / 6)) + (((k % 6) + 3) % 4))) hx hb hr (fun t ht9 hW9 => ⟨nI ((6 * (k / 6)) + (((k % 6) + 3) % 4)), rfl, ⟨((6 * (k / 6)) + (((k % 6) + 3) % 4)), by omega, rfl⟩, ht9⟩) (fun _ h => absurd h List.not_mem_nil) dX12_stirred_117
      · refine lv_iconst (v := nI 1) hx hb dX12_stirred_80 (by decide) ?_
        refine lv_goto (tgt := 88) hx hb dX12_stirred_81 (by decide) ?_
        refine lv_iadd hx hb dX12_stirred_88 ?_
        refine r_ti (nI ((k % 6) + 1)) (nI_add _ _) ?_
        refine lv_iload hx hb dX12_stirred_89 (lv_at hl 0 rfl) ?_
        refine lv_irem hx hb dX12_stirred_91 (by decide) ?_
        refine r_ti (nI (((k % 6) + 1) % 4)) (pk_rem (by omega) (by omega) (by omega)) ?_
        refine lv_istore (lv' := [(7, .int (nI (((k % 6) + 1) % 4))), (6, .int (nI 4)), (5, .int (nI 0)), (4, .int (nI (k / 6))), (3, .int (nI (k % 6))), (0, .ref o), (1, .int (nI k)), (2, .int (nI ln))]) hx hb dX12_stirred_92 hl (by decide) rfl (fun ls hl => ?_)
        refine lv_iload hx hb dX12_stirred_94 (lv_at hl 2 rfl) ?_
        refine lv_if_eq (tgt := 109) hx hb dX12_stirred_96 (by decide) (fun c8 => ?_) (fun c8 => absurd (by decide) c8)
        refine lv_bipush (v := nI 6) hx hb dX12_stirred_109 (by decide) ?_
        refine lv_iload hx hb dX12_stirred_111 (lv_at hl 3 rfl) ?_
        refine lv_imul hx hb dX12_stirred_113 ?_
        refine r_ti (nI (6 * (k / 6))) (pk_mul _ _) ?_
        refine lv_iload hx hb dX12_stirred_114 (lv_at hl 0 rfl) ?_
        refine lv_iadd hx hb dX12_stirred_116 ?_
        refine r_ti (nI ((6 * (k / 6)) + (((k % 6) + 1) % 4))) (nI_add _ _) ?_
        exact W.iret (v := nI ((6 * (k / 6)) + (((k % 6) + 1) % 4))) hx hb hr (fun t ht9 hW9 => ⟨nI ((6 * (k / 6)) + (((k % 6) + 1) % 4)), rfl, ⟨((6 * (k / 6)) + (((k % 6) + 1) % 4)), by omega, rfl⟩, ht9⟩) (fun _ h => absurd h List.not_mem_nil) dX12_stirred_117
    · refine lv_iload_n hx hb dX12_stirred_44 rfl (lv_at hl 4 rfl) ?_
      exact W.iret (v := nI k) hx hb hr (fun t ht9 hW9 => ⟨nI k, rfl, ⟨k, by omega, rfl⟩, ht9⟩) (fun _ h => absurd h List.not_mem_nil) dX12_stirred_45
  · refine lv_iconst (v := nI 1) hx hb dX12_stirred_17 (by decide) ?_
    refine lv_goto (tgt := 22) hx hb dX12_stirred_18 (by decide) ?_
    refine lv_istore (lv' := [(5, .int (nI 1)), (4, .int (nI (k / 6))), (3, .int (nI (k % 6))), (0, .ref o), (1, .int (nI k)), (2, .int (nI ln))]) hx hb dX12_stirred_22 hl (by decide) rfl (fun ls hl => ?_)
    refine lv_iload hx hb dX12_stirred_24 (lv_at hl 0 rfl) ?_
    refine lv_if_eq (tgt := 33) hx hb dX12_stirred_26 (by decide) (fun c9 => absurd c9 (by decide)) (fun c9 => ?_)
    refine lv_iload_n hx hb dX12_stirred_29 rfl (lv_at hl 2 rfl) ?_
    refine lv_goto (tgt := 35) hx hb dX12_stirred_30 (by decide) ?_
    refine lv_iload_n hx hb dX12_stirred_35 rfl (lv_at hl 5 rfl) ?_
    refine lv_bipush (v := nI 12) hx hb dX12_stirred_36 (by decide) ?_
    refine lv_irem hx hb dX12_stirred_38 (by decide) ?_
    refine r_ti (nI (ln % 12)) (pk_rem (by omega) (by omega) (by omega)) ?_
    refine lv_iconst (v := nI 2) hx hb dX12_stirred_39 (by decide) ?_
    refine lv_idiv hx hb dX12_stirred_40 (by decide) ?_
    refine r_ti (nI ((ln % 12) / 2)) (pk_div (by omega) (by omega) (by omega)) ?_
    refine n_icmp_eq (x := (k % 6)) (y := ((ln % 12) / 2)) (tgt := 46) hx hb (by omega) (by omega) dX12_stirred_41 (by decide) (fun c10 => ?_) (fun c10 => ?_)
    · refine lv_aload_n hx hb dX12_stirred_46 rfl (lv_at hl 3 rfl) ?_
      refine va_get (D := (dC, dI)) (ci := 12) (v := .ref know) (C := RX12) (T := TX12) (N := 52) hx hb hts hin12 hown hK hP 0 rfl rfl 14 (by decide) (hts (.fieldLink RX12 98 "PorridgeSeaModel" "now" "[I") (List.mem_of_getElem? (i := 1) rfl)) (fun _ h9 => h9) rfl dX12_stirred_47 ?_
      refine lv_iload hx hb dX12_stirred_50 (lv_at hl 0 rfl) ?_
      refine lv_if_eq (tgt := 59) hx hb dX12_stirred_52 (by decide) (fun c11 => absurd c11 (by decide)) (fun c11 => ?_)
      refine lv_iconst (v := nI 1) hx hb dX12_stirred_55 (by decide) ?_
      refine lv_goto (tgt := 60) hx hb dX12_stirred_56 (by decide) ?_
      refine r_iald hx hb hK hP 1 rfl 1 (by decide) (by decide) (nI 4) hB.2.1 dX12_stirred_60 ?_
      refine lv_istore (lv' := [(6, .int (nI 4)), (5, .int (nI 1)), (4, .int (nI (k / 6))), (3, .int (nI (k % 6))), (0, .ref o), (1, .int (nI k)), (2, .int (nI ln))]) hx hb dX12_stirred_61 hl (by decide) rfl (fun ls hl => ?_)
      refine lv_iload hx hb dX12_stirred_63 (lv_at hl 1 rfl) ?_
      refine lv_if_eq (tgt := 73) hx hb dX12_stirred_65 (by decide) (fun c12 => absurd c12 (by decide)) (fun c12 => ?_)
      refine lv_iload hx hb dX12_stirred_68 (lv_at hl 2 rfl) ?_
      refine lv_goto (tgt := 74) hx hb dX12_stirred_70 (by decide) ?_
      refine lv_iload_n hx hb dX12_stirred_74 rfl (lv_at hl 6 rfl) ?_
      refine lv_iconst (v := nI 2) hx hb dX12_stirred_75 (by decide) ?_
      refine lv_irem hx hb dX12_stirred_76 (by decide) ?_
      refine r_ti (nI (ln % 2)) (pk_rem (by omega) (by omega) (by omega)) ?_
      refine n_if_ne (x := (ln % 2)) (tgt := 84) hx hb (by omega) dX12_stirred_77 (by decide) (fun c13 => ?_) (fun c13 => ?_)
      · refine lv_iload hx hb dX12_stirred_84 (lv_at hl 0 rfl) ?_
        refine lv_iconst (v := nI 1) hx hb dX12_stirred_86 (by decide) ?_
        refine lv_isub hx hb dX12_stirred_87 ?_
        refine r_ti (nI 3) (by decide) ?_
        refine lv_iadd hx hb dX12_stirred_88 ?_
        refine r_ti (nI ((k / 6) + 3)) (nI_add _ _) ?_
        refine lv_iload hx hb dX12_stirred_89 (lv_at hl 0 rfl) ?_
        refine lv_irem hx hb dX12_stirred_91 (by decide) ?_
        refine r_ti (nI (((k / 6) + 3) % 4)) (pk_rem (by omega) (by omega) (by omega)) ?_
        refine lv_istore (lv' := [(7, .int (nI (((k / 6) + 3) % 4))), (6, .int (nI 4)), (5, .int (nI 1)), (4, .int (nI (k / 6))), (3, .int (nI (k % 6))), (0, .ref o), (1, .int (nI k)), (2, .int (nI ln))]) hx hb dX12_stirred_92 hl (by decide) rfl (fun ls hl => ?_)
        refine lv_iload hx hb dX12_stirred_94 (lv_at hl 2 rfl) ?_
        refine lv_if_eq (tgt := 109) hx hb dX12_stirred_96 (by decide) (fun c14 => absurd c14 (by decide)) (fun c14 => ?_)
        refine lv_bipush (v := nI 6) hx hb dX12_stirred_99 (by decide) ?_
        refine lv_iload hx hb dX12_stirred_101 (lv_at hl 0 rfl) ?_
        refine lv_imul hx hb dX12_stirred_103 ?_
        refine r_ti (nI (6 * (((k / 6) + 3) % 4))) (pk_mul _ _) ?_
        refine lv_iload_n hx hb dX12_stirred_104 rfl (lv_at hl 4 rfl) ?_
        refine lv_iadd hx hb dX12_stirred_105 ?_
        refine r_ti (nI ((6 * (((k / 6) + 3) % 4)) + (k % 6))) (nI_add _ _) ?_
        refine lv_goto (tgt := 117) hx hb dX12_stirred_106 (by decide) ?_
        exact W.iret (v := nI ((6 * (((k / 6) + 3) % 4)) + (k % 6))) hx hb hr (fun t ht9 hW9 => ⟨nI ((6 * (((k / 6) + 3) % 4)) + (k % 6)), rfl, ⟨((6 * (((k / 6) + 3) % 4)) + (k % 6)), by omega, rfl⟩, ht9⟩) (fun _ h => absurd h List.not_mem_nil) dX12_stirred_117
      · refine lv_iconst (v := nI 1) hx hb dX12_stirred_80 (by decide) ?_
        refine lv_goto (tgt := 88) hx hb dX12_stirred_81 (by decide) ?_
        refine lv_iadd hx hb dX12_stirred_88 ?_
        refine r_ti (nI ((k / 6) + 1)) (nI_add _ _) ?_
        refine lv_iload hx hb dX12_stirred_89 (lv_at hl 0 rfl) ?_
        refine lv_irem hx hb dX12_stirred_91 (by decide) ?_
        refine r_ti (nI (((k / 6) + 1) % 4)) (pk_rem (by omega) (by omega) (by omega)) ?_
        refine lv_istore (lv' := [(7, .int (nI (((k / 6) + 1) % 4))), (6, .int (nI 4)), (5, .int (nI 1)), (4, .int (nI (k / 6))), (3, .int (nI (k % 6))), (0, .ref o), (1, .int (nI k)), (2, .int (nI ln))]) hx hb dX12_stirred_92 hl (by decide) rfl (fun ls hl => ?_)
        refine lv_iload hx hb dX12_stirred_94 (lv_at hl 2 rfl) ?_
        refine lv_if_eq (tgt := 109) hx hb dX12_stirred_96 (by decide) (fun c15 => absurd c15 (by decide)) (fun c15 => ?_)
        refine lv_bipush (v := nI 6) hx hb dX12_stirred_99 (by decide) ?_
        refine lv_iload hx hb dX12_stirred_101 (lv_at hl 0 rfl) ?_
        refine lv_imul hx hb dX12_stirred_103 ?_
        refine r_ti (nI (6 * (((k / 6) + 1) % 4))) (pk_mul _ _) ?_
        refine lv_iload_n hx hb dX12_stirred_104 rfl (lv_at hl 4 rfl) ?_
        refine lv_iadd hx hb dX12_stirred_105 ?_
        refine r_ti (nI ((6 * (((k / 6) + 1) % 4)) + (k % 6))) (nI_add _ _) ?_
        refine lv_goto (tgt := 117) hx hb dX12_stirred_106 (by decide) ?_
        exact W.iret (v := nI ((6 * (((k / 6) + 1) % 4)) + (k % 6))) hx hb hr (fun t ht9 hW9 => ⟨nI ((6 * (((k / 6) + 1) % 4)) + (k % 6)), rfl, ⟨((6 * (((k / 6) + 1) % 4)) + (k % 6)), by omega, rfl⟩, ht9⟩) (fun _ h => absurd h List.not_mem_nil) dX12_stirred_117
    · refine lv_iload_n hx hb dX12_stirred_44 rfl (lv_at hl 4 rfl) ?_
      exact W.iret (v := nI k) hx hb hr (fun t ht9 hW9 => ⟨nI k, rfl, ⟨k, by omega, rfl⟩, ht9⟩) (fun _ h => absurd h List.not_mem_nil) dX12_stirred_45
set_option maxHeartbeats 4000000 in
set_option maxRecDepth 100000 in
theorem c_m_costOf (l : Launch) (dC : Nat → ClassId) (dI : Nat → Nat → Nat) (ky : Nat → ClassId) (o : Nat) (kthrown : Int32) (ktape : Nat) (ktaped : Int32) (ksize : Int32) (klimit : Int32) (kto : Int32) (kfrom : Int32) (kkind : Int32) (knumber : Int32) (ksign : Int32) (kfault : Int32) (kplace : Int32) (kword : Int64) (ktold : Int32) (know : Nat) (kread : Nat) (kkept : Nat) (ksnaps : Nat) (kaside : Nat) (kname : Nat) (kreadName : Nat) (kkeptName : Nat) (kisKept : Nat) (konces : Nat) (ksnapMany : Int32) (khasCells : Int32) (kpoured : Nat) (kfar : Nat) (ksides : Nat) (ksideMany : Int32) (kwayDays : Int32) (khasWay : Int32) (klines : Nat) (kmet : Nat) (kmetMany : Int32) (ksunk : Nat) (ktrying : Nat) (ksunkMany : Int32) (ksending : Int32) (kfleets : Int32) (ktext : Nat) (ktexts : Int32) (kseed : Int32) (kline : Nat) (kwritten : Nat) (klineMany : Int32) (khasWritten : Int32) (knode : Nat) (knodes : Int32) (konesMany : Int32) (kwithin : Int32) (ktop : Int32) (knowF : Nat → Int32) (k : Nat) (hN : NowOk knowF) (hk : k < 36) : Met l yX12_costOf wsX12_costOf ({ frames := 1, cells := 0, slots := 0, locals := 20 }) (PcP dC dI ky [.ref o, .int (nI k)] [(o, .inr (12, [.int kthrown, .ref ktape, .int ktaped, .int ksize, .int klimit, .int kto, .int kfrom, .int kkind, .int knumber, .int ksign, .int kfault, .int kplace, .long kword, .int ktold, .ref know, .ref kread, .ref kkept, .ref ksnaps, .ref kaside, .ref kname, .ref kreadName, .ref kkeptName, .ref kisKept, .ref konces, .int ksnapMany, .int khasCells, .ref kpoured, .ref kfar, .ref ksides, .int ksideMany, .int kwayDays, .int khasWay, .ref klines, .ref kmet, .int kmetMany, .ref ksunk, .ref ktrying, .int ksunkMany, .int ksending, .int kfleets, .ref ktext, .int ktexts, .int kseed, .ref kline, .ref kwritten, .int klineMany, .int khasWritten, .ref knode, .int knodes, .int konesMany, .int kwithin, .int ktop])), (know, .inl (ky 0, 373, .inl knowF))]) (vp_Si (fun r : Int32 => r = nI 1)) 0 0 (fun _ => False) := by
  refine Met.ofW (cc := cX12_costOf) (maxL := 2) (ret := (some .int)) (by decide) rfl ?_
  intro p e s m args below meth c s₁ B hml hv
  obtain ⟨rfl, hP, hK⟩ := hv
  have hx := B.exec
  have hb := B.bytes
  have hr := B.returns
  have hts := atoms_spec (ws := wsX12_costOf) B.pre
  have hown : s.vm.findClass RX12 = some m.cls := findClass_of_methodNamed B.named
  have hlocks := B.notSynchronized
  have hin12 : ∀ w ∈ u_ws RX12 TX12 52, w ∈ wsX12_costOf := by decide +kernel
  have hl := lv_entry ([.ref o, .int (nI k)]) (n := 2) (Nat.le_of_ble_eq_true rfl)
  rw [lg_entry_eq]
  generalize (lg_sl ([.ref o, .int (nI k)]) ++ List.replicate (2 - (lg_sl ([.ref o, .int (nI k)])).length) Slot.unset).toArray = ls at hl ⊢
  have hl : lv_has ls 2 [(0, .ref o), (1, .int (nI k))] := hl
  refine lv_aload_n hx hb dX12_costOf_0 rfl (lv_at hl 0 rfl) ?_
  refine vp_callSi (W.runV (As := []) (rest := []) ⟨hx, hb, hml, hown, hts⟩ (c_m_hasSkin0 l dC dI ky o kthrown ktape ktaped ksize klimit kto kfrom kkind knumber ksign kfault kplace kword ktold know kread kkept ksnaps kaside kname kreadName kkeptName kisKept konces ksnapMany khasCells kpoured kfar ksides ksideMany kwayDays khasWay klines kmet kmetMany ksunk ktrying ksunkMany ksending kfleets ktext ktexts kseed kline kwritten klineMany khasWritten knode knodes konesMany kwithin ktop knowF hN) (cwV 0 hts gX12_costOf_X12_hasSkin rfl rfl rfl (by decide +kernel) ⟨(Nat.le_of_ble_eq_true rfl), (Nat.le_of_ble_eq_true rfl)⟩) (pre_PV hK hP [0, 1] rfl (ci := 12) (q0 := 0) rfl rfl) rfl rfl hl.1 rfl (lv_room (Nat.le_of_ble_eq_true rfl)) dX12_costOf_1 ⟨(Nat.le_of_ble_eq_true rfl), (Nat.le_of_ble_eq_true rfl)⟩) (fun r1 p2 => ?_)
  subst p2
  refine lv_if_eq (tgt := 11) hx hb dX12_costOf_4 (by decide) (fun c3 => ?_) (fun c3 => absurd (by decide) c3)
  refine lv_iconst (v := nI 1) hx hb dX12_costOf_11 (by decide) ?_
  refine lv_aload_n hx hb dX12_costOf_12 rfl (lv_at hl 0 rfl) ?_
  refine va_get (D := (dC, dI)) (ci := 12) (v := .ref know) (C := RX12) (T := TX12) (N := 52) hx hb hts hin12 hown hK hP 0 rfl rfl 14 (by decide) (hts (.fieldLink RX12 98 "PorridgeSeaModel" "now" "[I") (List.mem_of_getElem? (i := 1) rfl)) (fun _ h9 => h9) rfl dX12_costOf_13 ?_
  refine lv_bipush (v := nI 71) hx hb dX12_costOf_16 (by decide) ?_
  refine lv_iload_n hx hb dX12_costOf_18 rfl (lv_at hl 1 rfl) ?_
  refine lv_iadd hx hb dX12_costOf_19 ?_
  refine r_ti (nI (71 + k)) (nI_add _ _) ?_
  refine r_iald hx hb hK hP 1 rfl (71 + k) (by omega) (by decide) (nI 0) (now_hi hN (71 + k) (by omega) (by omega)) dX12_costOf_20 ?_
  refine lv_iconst (v := nI 3) hx hb dX12_costOf_21 (by decide) ?_
  refine lv_idiv hx hb dX12_costOf_22 (by decide) ?_
  refine r_ti (nI 0) (by decide) ?_
  refine lv_iadd hx hb dX12_costOf_23 ?_
  refine r_ti (nI 1) (by decide) ?_
  exact W.iret (v := nI 1) hx hb hr (fun t ht9 hW9 => ⟨nI 1, rfl, rfl, ht9⟩) (fun _ h => absurd h List.not_mem_nil) dX12_costOf_24
