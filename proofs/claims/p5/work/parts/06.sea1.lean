theorem dX7_stirThickness_0 : decode cX7_stirThickness 0 = .ok (.iload_n 1, 1) := by decide +kernel
theorem dX7_stirThickness_1 : decode cX7_stirThickness 1 = .ok (.iconst 1, 1) := by decide +kernel
theorem dX7_stirThickness_2 : decode cX7_stirThickness 2 = .ok (.if_icmp .ne 10, 3) := by decide +kernel
theorem dX7_stirThickness_12 : decode cX7_stirThickness 12 = .ok (.aload_n 0, 1) := by decide +kernel
theorem dX7_stirThickness_13 : decode cX7_stirThickness 13 = .ok (.getfield 43, 3) := by decide +kernel
theorem dX7_stirThickness_5 : decode cX7_stirThickness 5 = .ok (.aload_n 0, 1) := by decide +kernel
theorem dX7_stirThickness_6 : decode cX7_stirThickness 6 = .ok (.getfield 47, 3) := by decide +kernel
theorem dX7_stirThickness_9 : decode cX7_stirThickness 9 = .ok (.goto 7, 3) := by decide +kernel
theorem dX7_stirThickness_16 : decode cX7_stirThickness 16 = .ok (.istore 4, 2) := by decide +kernel
theorem dX7_stirThickness_18 : decode cX7_stirThickness 18 = .ok (.iload_n 1, 1) := by decide +kernel
theorem dX7_stirThickness_19 : decode cX7_stirThickness 19 = .ok (.iconst 1, 1) := by decide +kernel
theorem dX7_stirThickness_20 : decode cX7_stirThickness 20 = .ok (.if_icmp .ne 7, 3) := by decide +kernel
theorem dX7_stirThickness_27 : decode cX7_stirThickness 27 = .ok (.bipush 6, 2) := by decide +kernel
theorem dX7_stirThickness_29 : decode cX7_stirThickness 29 = .ok (.iload_n 2, 1) := by decide +kernel
theorem dX7_stirThickness_30 : decode cX7_stirThickness 30 = .ok (.imul, 1) := by decide +kernel
theorem dX7_stirThickness_23 : decode cX7_stirThickness 23 = .ok (.iload_n 2, 1) := by decide +kernel
theorem dX7_stirThickness_24 : decode cX7_stirThickness 24 = .ok (.goto 7, 3) := by decide +kernel
theorem dX7_stirThickness_31 : decode cX7_stirThickness 31 = .ok (.istore 5, 2) := by decide +kernel
theorem dX7_stirThickness_33 : decode cX7_stirThickness 33 = .ok (.iload_n 1, 1) := by decide +kernel
theorem dX7_stirThickness_34 : decode cX7_stirThickness 34 = .ok (.iconst 1, 1) := by decide +kernel
theorem dX7_stirThickness_35 : decode cX7_stirThickness 35 = .ok (.if_icmp .ne 8, 3) := by decide +kernel
theorem dX7_stirThickness_43 : decode cX7_stirThickness 43 = .ok (.iconst 1, 1) := by decide +kernel
theorem dX7_stirThickness_38 : decode cX7_stirThickness 38 = .ok (.bipush 6, 2) := by decide +kernel
theorem dX7_stirThickness_40 : decode cX7_stirThickness 40 = .ok (.goto 4, 3) := by decide +kernel
theorem dX7_stirThickness_44 : decode cX7_stirThickness 44 = .ok (.istore 6, 2) := by decide +kernel
theorem dX7_stirThickness_46 : decode cX7_stirThickness 46 = .ok (.iconst 1, 1) := by decide +kernel
theorem dX7_stirThickness_47 : decode cX7_stirThickness 47 = .ok (.istore 7, 2) := by decide +kernel
theorem dX7_stirThickness_49 : decode cX7_stirThickness 49 = .ok (.iload 7, 2) := by decide +kernel
theorem dX7_stirThickness_51 : decode cX7_stirThickness 51 = .ok (.iload 4, 2) := by decide +kernel
theorem dX7_stirThickness_53 : decode cX7_stirThickness 53 = .ok (.if_icmp .ge 83, 3) := by decide +kernel
theorem dX7_stirThickness_136 : decode cX7_stirThickness 136 = .ok (.return_, 1) := by decide +kernel
theorem dX7_stirThickness_56 : decode cX7_stirThickness 56 = .ok (.iload 5, 2) := by decide +kernel
theorem dX7_stirThickness_58 : decode cX7_stirThickness 58 = .ok (.iload 6, 2) := by decide +kernel
theorem dX7_stirThickness_60 : decode cX7_stirThickness 60 = .ok (.iload_n 3, 1) := by decide +kernel
theorem dX7_stirThickness_61 : decode cX7_stirThickness 61 = .ok (.iconst 1, 1) := by decide +kernel
theorem dX7_stirThickness_62 : decode cX7_stirThickness 62 = .ok (.if_icmp .ne 8, 3) := by decide +kernel
theorem dX7_stirThickness_70 : decode cX7_stirThickness 70 = .ok (.iload 4, 2) := by decide +kernel
theorem dX7_stirThickness_72 : decode cX7_stirThickness 72 = .ok (.iload 7, 2) := by decide +kernel
theorem dX7_stirThickness_74 : decode cX7_stirThickness 74 = .ok (.isub, 1) := by decide +kernel
theorem dX7_stirThickness_65 : decode cX7_stirThickness 65 = .ok (.iload 7, 2) := by decide +kernel
theorem dX7_stirThickness_67 : decode cX7_stirThickness 67 = .ok (.goto 8, 3) := by decide +kernel
theorem dX7_stirThickness_75 : decode cX7_stirThickness 75 = .ok (.imul, 1) := by decide +kernel
theorem dX7_stirThickness_76 : decode cX7_stirThickness 76 = .ok (.iadd, 1) := by decide +kernel
theorem dX7_stirThickness_77 : decode cX7_stirThickness 77 = .ok (.istore 8, 2) := by decide +kernel
theorem dX7_stirThickness_79 : decode cX7_stirThickness 79 = .ok (.iload 8, 2) := by decide +kernel
theorem dX7_stirThickness_81 : decode cX7_stirThickness 81 = .ok (.iload 6, 2) := by decide +kernel
theorem dX7_stirThickness_83 : decode cX7_stirThickness 83 = .ok (.isub, 1) := by decide +kernel
theorem dX7_stirThickness_84 : decode cX7_stirThickness 84 = .ok (.istore 9, 2) := by decide +kernel
theorem dX7_stirThickness_86 : decode cX7_stirThickness 86 = .ok (.iload 9, 2) := by decide +kernel
theorem dX7_stirThickness_88 : decode cX7_stirThickness 88 = .ok (.ifCond .lt 42, 3) := by decide +kernel
theorem dX7_stirThickness_130 : decode cX7_stirThickness 130 = .ok (.iinc 7 1, 3) := by decide +kernel
theorem dX7_stirThickness_133 : decode cX7_stirThickness 133 = .ok (.goto (-84), 3) := by decide +kernel
theorem dX7_stirThickness_91 : decode cX7_stirThickness 91 = .ok (.iload 8, 2) := by decide +kernel
theorem dX7_stirThickness_93 : decode cX7_stirThickness 93 = .ok (.bipush 36, 2) := by decide +kernel
theorem dX7_stirThickness_95 : decode cX7_stirThickness 95 = .ok (.if_icmp .ge 35, 3) := by decide +kernel
theorem dX7_stirThickness_98 : decode cX7_stirThickness 98 = .ok (.aload_n 0, 1) := by decide +kernel
theorem dX7_stirThickness_99 : decode cX7_stirThickness 99 = .ok (.getfield 9, 3) := by decide +kernel
theorem dX7_stirThickness_102 : decode cX7_stirThickness 102 = .ok (.iload 8, 2) := by decide +kernel
theorem dX7_stirThickness_104 : decode cX7_stirThickness 104 = .ok (.iaload, 1) := by decide +kernel
theorem dX7_stirThickness_105 : decode cX7_stirThickness 105 = .ok (.istore 10, 2) := by decide +kernel
theorem dX7_stirThickness_107 : decode cX7_stirThickness 107 = .ok (.aload_n 0, 1) := by decide +kernel
theorem dX7_stirThickness_108 : decode cX7_stirThickness 108 = .ok (.getfield 9, 3) := by decide +kernel
theorem dX7_stirThickness_111 : decode cX7_stirThickness 111 = .ok (.iload 8, 2) := by decide +kernel
theorem dX7_stirThickness_113 : decode cX7_stirThickness 113 = .ok (.aload_n 0, 1) := by decide +kernel
theorem dX7_stirThickness_114 : decode cX7_stirThickness 114 = .ok (.getfield 9, 3) := by decide +kernel
theorem dX7_stirThickness_117 : decode cX7_stirThickness 117 = .ok (.iload 9, 2) := by decide +kernel
theorem dX7_stirThickness_119 : decode cX7_stirThickness 119 = .ok (.iaload, 1) := by decide +kernel
theorem dX7_stirThickness_120 : decode cX7_stirThickness 120 = .ok (.iastore, 1) := by decide +kernel
theorem dX7_stirThickness_121 : decode cX7_stirThickness 121 = .ok (.aload_n 0, 1) := by decide +kernel
theorem dX7_stirThickness_122 : decode cX7_stirThickness 122 = .ok (.getfield 9, 3) := by decide +kernel
theorem dX7_stirThickness_125 : decode cX7_stirThickness 125 = .ok (.iload 9, 2) := by decide +kernel
theorem dX7_stirThickness_127 : decode cX7_stirThickness 127 = .ok (.iload 10, 2) := by decide +kernel
theorem dX7_stirThickness_129 : decode cX7_stirThickness 129 = .ok (.iastore, 1) := by decide +kernel
theorem dX7_stirLine_0 : decode cX7_stirLine 0 = .ok (.aload_n 0, 1) := by decide +kernel
theorem dX7_stirLine_1 : decode cX7_stirLine 1 = .ok (.iload_n 1, 1) := by decide +kernel
theorem dX7_stirLine_2 : decode cX7_stirLine 2 = .ok (.iload_n 2, 1) := by decide +kernel
theorem dX7_stirLine_3 : decode cX7_stirLine 3 = .ok (.invokevirtual 114, 3) := by decide +kernel
theorem dX7_stirLine_6 : decode cX7_stirLine 6 = .ok (.ifCond .ne 4, 3) := by decide +kernel
theorem dX7_stirLine_10 : decode cX7_stirLine 10 = .ok (.aload_n 0, 1) := by decide +kernel
theorem dX7_stirLine_11 : decode cX7_stirLine 11 = .ok (.iload_n 1, 1) := by decide +kernel
theorem dX7_stirLine_12 : decode cX7_stirLine 12 = .ok (.iload_n 2, 1) := by decide +kernel
theorem dX7_stirLine_13 : decode cX7_stirLine 13 = .ok (.iload_n 3, 1) := by decide +kernel
theorem dX7_stirLine_14 : decode cX7_stirLine 14 = .ok (.invokevirtual 117, 3) := by decide +kernel
theorem dX7_stirLine_17 : decode cX7_stirLine 17 = .ok (.iconst 0, 1) := by decide +kernel
theorem dX7_stirLine_18 : decode cX7_stirLine 18 = .ok (.istore 4, 2) := by decide +kernel
theorem dX7_stirLine_20 : decode cX7_stirLine 20 = .ok (.iload 4, 2) := by decide +kernel
theorem dX7_stirLine_22 : decode cX7_stirLine 22 = .ok (.aload_n 0, 1) := by decide +kernel
theorem dX7_stirLine_23 : decode cX7_stirLine 23 = .ok (.getfield 68, 3) := by decide +kernel
theorem dX7_stirLine_26 : decode cX7_stirLine 26 = .ok (.if_icmp .ge 30, 3) := by decide +kernel
theorem dX7_stirLine_29 : decode cX7_stirLine 29 = .ok (.aload_n 0, 1) := by decide +kernel
theorem dX7_stirLine_30 : decode cX7_stirLine 30 = .ok (.getfield 19, 3) := by decide +kernel
theorem dX7_stirLine_33 : decode cX7_stirLine 33 = .ok (.iload 4, 2) := by decide +kernel
theorem dX7_stirLine_35 : decode cX7_stirLine 35 = .ok (.aload_n 0, 1) := by decide +kernel
theorem dX7_stirLine_36 : decode cX7_stirLine 36 = .ok (.aload_n 0, 1) := by decide +kernel
theorem dX7_stirLine_37 : decode cX7_stirLine 37 = .ok (.getfield 19, 3) := by decide +kernel
theorem dX7_stirLine_40 : decode cX7_stirLine 40 = .ok (.iload 4, 2) := by decide +kernel
theorem dX7_stirLine_42 : decode cX7_stirLine 42 = .ok (.iaload, 1) := by decide +kernel
theorem dX7_stirLine_43 : decode cX7_stirLine 43 = .ok (.iload_n 1, 1) := by decide +kernel
theorem dX7_stirLine_44 : decode cX7_stirLine 44 = .ok (.iload_n 2, 1) := by decide +kernel
theorem dX7_stirLine_45 : decode cX7_stirLine 45 = .ok (.iload_n 3, 1) := by decide +kernel
theorem dX7_stirLine_46 : decode cX7_stirLine 46 = .ok (.invokevirtual 121, 3) := by decide +kernel
theorem dX7_stirLine_49 : decode cX7_stirLine 49 = .ok (.iastore, 1) := by decide +kernel
theorem dX7_stirLine_50 : decode cX7_stirLine 50 = .ok (.iinc 4 1, 3) := by decide +kernel
theorem dX7_stirLine_53 : decode cX7_stirLine 53 = .ok (.goto (-33), 3) := by decide +kernel
theorem dX7_stirLine_56 : decode cX7_stirLine 56 = .ok (.iconst 0, 1) := by decide +kernel
theorem dX7_stirLine_57 : decode cX7_stirLine 57 = .ok (.istore 4, 2) := by decide +kernel
theorem dX7_stirLine_59 : decode cX7_stirLine 59 = .ok (.iload 4, 2) := by decide +kernel
theorem dX7_stirLine_61 : decode cX7_stirLine 61 = .ok (.aload_n 0, 1) := by decide +kernel
theorem dX7_stirLine_62 : decode cX7_stirLine 62 = .ok (.getfield 71, 3) := by decide +kernel
theorem dX7_stirLine_65 : decode cX7_stirLine 65 = .ok (.if_icmp .ge 39, 3) := by decide +kernel
theorem dX7_stirLine_104 : decode cX7_stirLine 104 = .ok (.aload_n 0, 1) := by decide +kernel
theorem dX7_stirLine_105 : decode cX7_stirLine 105 = .ok (.dup, 1) := by decide +kernel
theorem dX7_stirLine_106 : decode cX7_stirLine 106 = .ok (.getfield 62, 3) := by decide +kernel
theorem dX7_stirLine_109 : decode cX7_stirLine 109 = .ok (.iconst 1, 1) := by decide +kernel
theorem dX7_stirLine_110 : decode cX7_stirLine 110 = .ok (.iadd, 1) := by decide +kernel
theorem dX7_stirLine_111 : decode cX7_stirLine 111 = .ok (.putfield 62, 3) := by decide +kernel
theorem dX7_stirLine_114 : decode cX7_stirLine 114 = .ok (.return_, 1) := by decide +kernel
theorem dX7_stirLine_68 : decode cX7_stirLine 68 = .ok (.aload_n 0, 1) := by decide +kernel
theorem dX7_stirLine_69 : decode cX7_stirLine 69 = .ok (.iload 4, 2) := by decide +kernel
theorem dX7_stirLine_71 : decode cX7_stirLine 71 = .ok (.invokevirtual 95, 3) := by decide +kernel
theorem dX7_stirLine_74 : decode cX7_stirLine 74 = .ok (.ifCond .ne 24, 3) := by decide +kernel
theorem dX7_stirLine_98 : decode cX7_stirLine 98 = .ok (.iinc 4 1, 3) := by decide +kernel
theorem dX7_stirLine_101 : decode cX7_stirLine 101 = .ok (.goto (-42), 3) := by decide +kernel
theorem dX7_stirLine_77 : decode cX7_stirLine 77 = .ok (.aload_n 0, 1) := by decide +kernel
theorem dX7_stirLine_78 : decode cX7_stirLine 78 = .ok (.getfield 25, 3) := by decide +kernel
theorem dX7_stirLine_81 : decode cX7_stirLine 81 = .ok (.iload 4, 2) := by decide +kernel
theorem dX7_stirLine_83 : decode cX7_stirLine 83 = .ok (.aload_n 0, 1) := by decide +kernel
theorem dX7_stirLine_84 : decode cX7_stirLine 84 = .ok (.aload_n 0, 1) := by decide +kernel
theorem dX7_stirLine_85 : decode cX7_stirLine 85 = .ok (.getfield 25, 3) := by decide +kernel
theorem dX7_stirLine_88 : decode cX7_stirLine 88 = .ok (.iload 4, 2) := by decide +kernel
theorem dX7_stirLine_90 : decode cX7_stirLine 90 = .ok (.iaload, 1) := by decide +kernel
theorem dX7_stirLine_91 : decode cX7_stirLine 91 = .ok (.iload_n 1, 1) := by decide +kernel
theorem dX7_stirLine_92 : decode cX7_stirLine 92 = .ok (.iload_n 2, 1) := by decide +kernel
theorem dX7_stirLine_93 : decode cX7_stirLine 93 = .ok (.iload_n 3, 1) := by decide +kernel
theorem dX7_stirLine_94 : decode cX7_stirLine 94 = .ok (.invokevirtual 121, 3) := by decide +kernel
theorem dX7_stirLine_97 : decode cX7_stirLine 97 = .ok (.iastore, 1) := by decide +kernel
theorem dX7_stirLine_9 : decode cX7_stirLine 9 = .ok (.return_, 1) := by decide +kernel
theorem dX7_whyNotRowed_0 : decode cX7_whyNotRowed 0 = .ok (.aload_n 0, 1) := by decide +kernel
theorem dX7_whyNotRowed_1 : decode cX7_whyNotRowed 1 = .ok (.iload_n 1, 1) := by decide +kernel
theorem dX7_whyNotRowed_2 : decode cX7_whyNotRowed 2 = .ok (.invokevirtual 80, 3) := by decide +kernel
theorem dX7_whyNotRowed_5 : decode cX7_whyNotRowed 5 = .ok (.ifCond .eq 12, 3) := by decide +kernel
theorem dX7_whyNotRowed_8 : decode cX7_whyNotRowed 8 = .ok (.iload_n 2, 1) := by decide +kernel
theorem dX7_whyNotRowed_9 : decode cX7_whyNotRowed 9 = .ok (.ifCond .lt 8, 3) := by decide +kernel
theorem dX7_whyNotRowed_17 : decode cX7_whyNotRowed 17 = .ok (.iconst (-1), 1) := by decide +kernel
theorem dX7_whyNotRowed_18 : decode cX7_whyNotRowed 18 = .ok (.ireturn, 1) := by decide +kernel
theorem dX7_whyNotRowed_12 : decode cX7_whyNotRowed 12 = .ok (.iload_n 2, 1) := by decide +kernel
theorem dX7_whyNotRowed_13 : decode cX7_whyNotRowed 13 = .ok (.iconst 4, 1) := by decide +kernel
theorem dX7_whyNotRowed_14 : decode cX7_whyNotRowed 14 = .ok (.if_icmp .lt 5, 3) := by decide +kernel
theorem dX7_whyNotRowed_19 : decode cX7_whyNotRowed 19 = .ok (.aload_n 0, 1) := by decide +kernel
theorem dX7_whyNotRowed_20 : decode cX7_whyNotRowed 20 = .ok (.iload_n 1, 1) := by decide +kernel
theorem dX7_whyNotRowed_21 : decode cX7_whyNotRowed 21 = .ok (.invokevirtual 95, 3) := by decide +kernel
theorem dX7_whyNotRowed_24 : decode cX7_whyNotRowed 24 = .ok (.ifCond .eq 5, 3) := by decide +kernel
theorem dX7_whyNotRowed_27 : decode cX7_whyNotRowed 27 = .ok (.iconst 1, 1) := by decide +kernel
theorem dX7_whyNotRowed_28 : decode cX7_whyNotRowed 28 = .ok (.ireturn, 1) := by decide +kernel
theorem dX7_whyNotRowed_29 : decode cX7_whyNotRowed 29 = .ok (.aload_n 0, 1) := by decide +kernel
theorem dX7_whyNotRowed_30 : decode cX7_whyNotRowed 30 = .ok (.aload_n 0, 1) := by decide +kernel
theorem dX7_whyNotRowed_31 : decode cX7_whyNotRowed 31 = .ok (.getfield 25, 3) := by decide +kernel
theorem dX7_whyNotRowed_34 : decode cX7_whyNotRowed 34 = .ok (.iload_n 1, 1) := by decide +kernel
theorem dX7_whyNotRowed_35 : decode cX7_whyNotRowed 35 = .ok (.iaload, 1) := by decide +kernel
theorem dX7_whyNotRowed_36 : decode cX7_whyNotRowed 36 = .ok (.iload_n 2, 1) := by decide +kernel
theorem dX7_whyNotRowed_37 : decode cX7_whyNotRowed 37 = .ok (.invokevirtual 125, 3) := by decide +kernel
theorem dX7_whyNotRowed_40 : decode cX7_whyNotRowed 40 = .ok (.istore_n 3, 1) := by decide +kernel
theorem dX7_whyNotRowed_41 : decode cX7_whyNotRowed 41 = .ok (.iload_n 3, 1) := by decide +kernel
theorem dX7_whyNotRowed_42 : decode cX7_whyNotRowed 42 = .ok (.iconst (-1), 1) := by decide +kernel
theorem dX7_whyNotRowed_43 : decode cX7_whyNotRowed 43 = .ok (.if_icmp .ne 5, 3) := by decide +kernel
theorem dX7_whyNotRowed_46 : decode cX7_whyNotRowed 46 = .ok (.iconst 2, 1) := by decide +kernel
theorem dX7_whyNotRowed_47 : decode cX7_whyNotRowed 47 = .ok (.ireturn, 1) := by decide +kernel
theorem dX7_whyNotRowed_48 : decode cX7_whyNotRowed 48 = .ok (.aload_n 0, 1) := by decide +kernel
theorem dX7_whyNotRowed_49 : decode cX7_whyNotRowed 49 = .ok (.iload_n 3, 1) := by decide +kernel
theorem dX7_whyNotRowed_50 : decode cX7_whyNotRowed 50 = .ok (.invokevirtual 128, 3) := by decide +kernel
theorem dX7_whyNotRowed_53 : decode cX7_whyNotRowed 53 = .ok (.aload_n 0, 1) := by decide +kernel
theorem dX7_whyNotRowed_54 : decode cX7_whyNotRowed 54 = .ok (.getfield 34, 3) := by decide +kernel
theorem dX7_whyNotRowed_57 : decode cX7_whyNotRowed 57 = .ok (.iload_n 1, 1) := by decide +kernel
theorem dX7_whyNotRowed_58 : decode cX7_whyNotRowed 58 = .ok (.iaload, 1) := by decide +kernel
theorem dX7_whyNotRowed_59 : decode cX7_whyNotRowed 59 = .ok (.if_icmp .le 7, 3) := by decide +kernel
theorem dX7_whyNotRowed_66 : decode cX7_whyNotRowed 66 = .ok (.iconst 0, 1) := by decide +kernel
theorem dX7_whyNotRowed_67 : decode cX7_whyNotRowed 67 = .ok (.ireturn, 1) := by decide +kernel
theorem dX7_whyNotRowed_62 : decode cX7_whyNotRowed 62 = .ok (.iconst 3, 1) := by decide +kernel
theorem dX7_whyNotRowed_63 : decode cX7_whyNotRowed 63 = .ok (.goto 4, 3) := by decide +kernel
theorem dX7_rowBoat_0 : decode cX7_rowBoat 0 = .ok (.aload_n 0, 1) := by decide +kernel
theorem dX7_rowBoat_1 : decode cX7_rowBoat 1 = .ok (.iload_n 1, 1) := by decide +kernel
theorem dX7_rowBoat_2 : decode cX7_rowBoat 2 = .ok (.invokevirtual 80, 3) := by decide +kernel
theorem dX7_rowBoat_5 : decode cX7_rowBoat 5 = .ok (.ifCond .ne 4, 3) := by decide +kernel
theorem dX7_rowBoat_9 : decode cX7_rowBoat 9 = .ok (.aload_n 0, 1) := by decide +kernel
theorem dX7_rowBoat_10 : decode cX7_rowBoat 10 = .ok (.aload_n 0, 1) := by decide +kernel
theorem dX7_rowBoat_11 : decode cX7_rowBoat 11 = .ok (.getfield 25, 3) := by decide +kernel
theorem dX7_rowBoat_14 : decode cX7_rowBoat 14 = .ok (.iload_n 1, 1) := by decide +kernel
theorem dX7_rowBoat_15 : decode cX7_rowBoat 15 = .ok (.iaload, 1) := by decide +kernel
theorem dX7_rowBoat_16 : decode cX7_rowBoat 16 = .ok (.iload_n 2, 1) := by decide +kernel
theorem dX7_rowBoat_17 : decode cX7_rowBoat 17 = .ok (.invokevirtual 125, 3) := by decide +kernel
theorem dX7_rowBoat_20 : decode cX7_rowBoat 20 = .ok (.istore_n 3, 1) := by decide +kernel
theorem dX7_rowBoat_21 : decode cX7_rowBoat 21 = .ok (.iload_n 3, 1) := by decide +kernel
theorem dX7_rowBoat_22 : decode cX7_rowBoat 22 = .ok (.iconst (-1), 1) := by decide +kernel
theorem dX7_rowBoat_23 : decode cX7_rowBoat 23 = .ok (.if_icmp .ne 4, 3) := by decide +kernel
theorem dX7_rowBoat_26 : decode cX7_rowBoat 26 = .ok (.return_, 1) := by decide +kernel
theorem dX7_rowBoat_27 : decode cX7_rowBoat 27 = .ok (.aload_n 0, 1) := by decide +kernel
theorem dX7_rowBoat_28 : decode cX7_rowBoat 28 = .ok (.getfield 34, 3) := by decide +kernel
theorem dX7_rowBoat_31 : decode cX7_rowBoat 31 = .ok (.iload_n 1, 1) := by decide +kernel
theorem dX7_rowBoat_32 : decode cX7_rowBoat 32 = .ok (.dup2, 1) := by decide +kernel
theorem dX7_rowBoat_33 : decode cX7_rowBoat 33 = .ok (.iaload, 1) := by decide +kernel
theorem dX7_rowBoat_34 : decode cX7_rowBoat 34 = .ok (.aload_n 0, 1) := by decide +kernel
theorem dX7_rowBoat_35 : decode cX7_rowBoat 35 = .ok (.iload_n 3, 1) := by decide +kernel
theorem dX7_rowBoat_36 : decode cX7_rowBoat 36 = .ok (.invokevirtual 128, 3) := by decide +kernel
theorem dX7_rowBoat_39 : decode cX7_rowBoat 39 = .ok (.isub, 1) := by decide +kernel
theorem dX7_rowBoat_40 : decode cX7_rowBoat 40 = .ok (.iastore, 1) := by decide +kernel
theorem dX7_rowBoat_41 : decode cX7_rowBoat 41 = .ok (.aload_n 0, 1) := by decide +kernel
theorem dX7_rowBoat_42 : decode cX7_rowBoat 42 = .ok (.getfield 25, 3) := by decide +kernel
theorem dX7_rowBoat_45 : decode cX7_rowBoat 45 = .ok (.iload_n 1, 1) := by decide +kernel
theorem dX7_rowBoat_46 : decode cX7_rowBoat 46 = .ok (.iload_n 3, 1) := by decide +kernel
theorem dX7_rowBoat_47 : decode cX7_rowBoat 47 = .ok (.iastore, 1) := by decide +kernel
theorem dX7_rowBoat_48 : decode cX7_rowBoat 48 = .ok (.aload_n 0, 1) := by decide +kernel
theorem dX7_rowBoat_49 : decode cX7_rowBoat 49 = .ok (.dup, 1) := by decide +kernel
theorem dX7_rowBoat_50 : decode cX7_rowBoat 50 = .ok (.getfield 65, 3) := by decide +kernel
theorem dX7_rowBoat_53 : decode cX7_rowBoat 53 = .ok (.iconst 1, 1) := by decide +kernel
theorem dX7_rowBoat_54 : decode cX7_rowBoat 54 = .ok (.iadd, 1) := by decide +kernel
theorem dX7_rowBoat_55 : decode cX7_rowBoat 55 = .ok (.putfield 65, 3) := by decide +kernel
theorem dX7_rowBoat_58 : decode cX7_rowBoat 58 = .ok (.return_, 1) := by decide +kernel
theorem dX7_rowBoat_8 : decode cX7_rowBoat 8 = .ok (.return_, 1) := by decide +kernel
theorem dX7_whyNotFloured_0 : decode cX7_whyNotFloured 0 = .ok (.aload_n 0, 1) := by decide +kernel
theorem dX7_whyNotFloured_1 : decode cX7_whyNotFloured 1 = .ok (.iload_n 1, 1) := by decide +kernel
theorem dX7_whyNotFloured_2 : decode cX7_whyNotFloured 2 = .ok (.iload_n 2, 1) := by decide +kernel
theorem dX7_whyNotFloured_3 : decode cX7_whyNotFloured 3 = .ok (.invokevirtual 102, 3) := by decide +kernel
theorem dX7_whyNotFloured_6 : decode cX7_whyNotFloured 6 = .ok (.ifCond .eq 14, 3) := by decide +kernel
theorem dX7_whyNotFloured_9 : decode cX7_whyNotFloured 9 = .ok (.iload_n 3, 1) := by decide +kernel
theorem dX7_whyNotFloured_10 : decode cX7_whyNotFloured 10 = .ok (.iconst 1, 1) := by decide +kernel
theorem dX7_whyNotFloured_11 : decode cX7_whyNotFloured 11 = .ok (.if_icmp .lt 9, 3) := by decide +kernel
theorem dX7_whyNotFloured_20 : decode cX7_whyNotFloured 20 = .ok (.iconst (-1), 1) := by decide +kernel
theorem dX7_whyNotFloured_21 : decode cX7_whyNotFloured 21 = .ok (.ireturn, 1) := by decide +kernel
theorem dX7_whyNotFloured_14 : decode cX7_whyNotFloured 14 = .ok (.iload_n 3, 1) := by decide +kernel
theorem dX7_whyNotFloured_15 : decode cX7_whyNotFloured 15 = .ok (.bipush 9, 2) := by decide +kernel
theorem dX7_whyNotFloured_17 : decode cX7_whyNotFloured 17 = .ok (.if_icmp .le 5, 3) := by decide +kernel
theorem dX7_whyNotFloured_22 : decode cX7_whyNotFloured 22 = .ok (.aload_n 0, 1) := by decide +kernel
theorem dX7_whyNotFloured_23 : decode cX7_whyNotFloured 23 = .ok (.bipush 6, 2) := by decide +kernel
theorem dX7_whyNotFloured_25 : decode cX7_whyNotFloured 25 = .ok (.iload_n 2, 1) := by decide +kernel
theorem dX7_whyNotFloured_26 : decode cX7_whyNotFloured 26 = .ok (.imul, 1) := by decide +kernel
theorem dX7_whyNotFloured_27 : decode cX7_whyNotFloured 27 = .ok (.iload_n 1, 1) := by decide +kernel
theorem dX7_whyNotFloured_28 : decode cX7_whyNotFloured 28 = .ok (.iadd, 1) := by decide +kernel
theorem dX7_whyNotFloured_29 : decode cX7_whyNotFloured 29 = .ok (.invokevirtual 91, 3) := by decide +kernel
theorem dX7_whyNotFloured_32 : decode cX7_whyNotFloured 32 = .ok (.bipush 9, 2) := by decide +kernel
theorem dX7_whyNotFloured_34 : decode cX7_whyNotFloured 34 = .ok (.if_icmp .ne 7, 3) := by decide +kernel
theorem dX7_whyNotFloured_41 : decode cX7_whyNotFloured 41 = .ok (.iconst 0, 1) := by decide +kernel
theorem dX7_whyNotFloured_42 : decode cX7_whyNotFloured 42 = .ok (.ireturn, 1) := by decide +kernel
theorem dX7_whyNotFloured_37 : decode cX7_whyNotFloured 37 = .ok (.iconst 1, 1) := by decide +kernel
theorem dX7_whyNotFloured_38 : decode cX7_whyNotFloured 38 = .ok (.goto 4, 3) := by decide +kernel
theorem dX7_whyNotMilked_0 : decode cX7_whyNotMilked 0 = .ok (.aload_n 0, 1) := by decide +kernel
theorem dX7_whyNotMilked_1 : decode cX7_whyNotMilked 1 = .ok (.iload_n 1, 1) := by decide +kernel
theorem dX7_whyNotMilked_2 : decode cX7_whyNotMilked 2 = .ok (.iload_n 2, 1) := by decide +kernel
theorem dX7_whyNotMilked_3 : decode cX7_whyNotMilked 3 = .ok (.invokevirtual 102, 3) := by decide +kernel
theorem dX7_whyNotMilked_6 : decode cX7_whyNotMilked 6 = .ok (.ifCond .eq 14, 3) := by decide +kernel
theorem dX7_whyNotMilked_9 : decode cX7_whyNotMilked 9 = .ok (.iload_n 3, 1) := by decide +kernel
theorem dX7_whyNotMilked_10 : decode cX7_whyNotMilked 10 = .ok (.iconst 1, 1) := by decide +kernel
theorem dX7_whyNotMilked_11 : decode cX7_whyNotMilked 11 = .ok (.if_icmp .lt 9, 3) := by decide +kernel
theorem dX7_whyNotMilked_20 : decode cX7_whyNotMilked 20 = .ok (.iconst (-1), 1) := by decide +kernel
theorem dX7_whyNotMilked_21 : decode cX7_whyNotMilked 21 = .ok (.ireturn, 1) := by decide +kernel
theorem dX7_whyNotMilked_14 : decode cX7_whyNotMilked 14 = .ok (.iload_n 3, 1) := by decide +kernel
theorem dX7_whyNotMilked_15 : decode cX7_whyNotMilked 15 = .ok (.bipush 9, 2) := by decide +kernel
theorem dX7_whyNotMilked_17 : decode cX7_whyNotMilked 17 = .ok (.if_icmp .le 5, 3) := by decide +kernel
theorem dX7_whyNotMilked_22 : decode cX7_whyNotMilked 22 = .ok (.aload_n 0, 1) := by decide +kernel
theorem dX7_whyNotMilked_23 : decode cX7_whyNotMilked 23 = .ok (.bipush 6, 2) := by decide +kernel
theorem dX7_whyNotMilked_25 : decode cX7_whyNotMilked 25 = .ok (.iload_n 2, 1) := by decide +kernel
theorem dX7_whyNotMilked_26 : decode cX7_whyNotMilked 26 = .ok (.imul, 1) := by decide +kernel
theorem dX7_whyNotMilked_27 : decode cX7_whyNotMilked 27 = .ok (.iload_n 1, 1) := by decide +kernel
theorem dX7_whyNotMilked_28 : decode cX7_whyNotMilked 28 = .ok (.iadd, 1) := by decide +kernel
theorem dX7_whyNotMilked_29 : decode cX7_whyNotMilked 29 = .ok (.invokevirtual 91, 3) := by decide +kernel
theorem dX7_whyNotMilked_32 : decode cX7_whyNotMilked 32 = .ok (.ifCond .ne 7, 3) := by decide +kernel
theorem dX7_whyNotMilked_39 : decode cX7_whyNotMilked 39 = .ok (.iconst 0, 1) := by decide +kernel
theorem dX7_whyNotMilked_40 : decode cX7_whyNotMilked 40 = .ok (.ireturn, 1) := by decide +kernel
theorem dX7_whyNotMilked_35 : decode cX7_whyNotMilked 35 = .ok (.iconst 1, 1) := by decide +kernel
theorem dX7_whyNotMilked_36 : decode cX7_whyNotMilked 36 = .ok (.goto 4, 3) := by decide +kernel
theorem dX7_thicken_0 : decode cX7_thicken 0 = .ok (.aload_n 0, 1) := by decide +kernel
theorem dX7_thicken_1 : decode cX7_thicken 1 = .ok (.iload_n 1, 1) := by decide +kernel
theorem dX7_thicken_2 : decode cX7_thicken 2 = .ok (.iload_n 2, 1) := by decide +kernel
theorem dX7_thicken_3 : decode cX7_thicken 3 = .ok (.invokevirtual 102, 3) := by decide +kernel
theorem dX7_thicken_6 : decode cX7_thicken 6 = .ok (.ifCond .eq 36, 3) := by decide +kernel
theorem dX7_thicken_9 : decode cX7_thicken 9 = .ok (.bipush 6, 2) := by decide +kernel
theorem dX7_thicken_11 : decode cX7_thicken 11 = .ok (.iload_n 2, 1) := by decide +kernel
theorem dX7_thicken_12 : decode cX7_thicken 12 = .ok (.imul, 1) := by decide +kernel
theorem dX7_thicken_13 : decode cX7_thicken 13 = .ok (.iload_n 1, 1) := by decide +kernel
theorem dX7_thicken_14 : decode cX7_thicken 14 = .ok (.iadd, 1) := by decide +kernel
theorem dX7_thicken_15 : decode cX7_thicken 15 = .ok (.istore 4, 2) := by decide +kernel
theorem dX7_thicken_17 : decode cX7_thicken 17 = .ok (.aload_n 0, 1) := by decide +kernel
theorem dX7_thicken_18 : decode cX7_thicken 18 = .ok (.getfield 9, 3) := by decide +kernel
theorem dX7_thicken_21 : decode cX7_thicken 21 = .ok (.iload 4, 2) := by decide +kernel
theorem dX7_thicken_23 : decode cX7_thicken 23 = .ok (.iconst 0, 1) := by decide +kernel
theorem dX7_thicken_24 : decode cX7_thicken 24 = .ok (.bipush 9, 2) := by decide +kernel
theorem dX7_thicken_26 : decode cX7_thicken 26 = .ok (.aload_n 0, 1) := by decide +kernel
theorem dX7_thicken_27 : decode cX7_thicken 27 = .ok (.getfield 9, 3) := by decide +kernel
theorem dX7_thicken_30 : decode cX7_thicken 30 = .ok (.iload 4, 2) := by decide +kernel
theorem dX7_thicken_32 : decode cX7_thicken 32 = .ok (.iaload, 1) := by decide +kernel
theorem dX7_thicken_33 : decode cX7_thicken 33 = .ok (.iload_n 3, 1) := by decide +kernel
theorem dX7_thicken_34 : decode cX7_thicken 34 = .ok (.iadd, 1) := by decide +kernel
theorem dX7_thicken_35 : decode cX7_thicken 35 = .ok (.invokestatic 131, 3) := by decide +kernel
theorem dX7_thicken_38 : decode cX7_thicken 38 = .ok (.invokestatic 134, 3) := by decide +kernel
theorem dX7_thicken_41 : decode cX7_thicken 41 = .ok (.iastore, 1) := by decide +kernel
theorem dX7_thicken_42 : decode cX7_thicken 42 = .ok (.return_, 1) := by decide +kernel
theorem dX7_whyNotWarmed_0 : decode cX7_whyNotWarmed 0 = .ok (.iload_n 1, 1) := by decide +kernel
theorem dX7_whyNotWarmed_1 : decode cX7_whyNotWarmed 1 = .ok (.iconst 1, 1) := by decide +kernel
theorem dX7_whyNotWarmed_2 : decode cX7_whyNotWarmed 2 = .ok (.if_icmp .lt 9, 3) := by decide +kernel
theorem dX7_whyNotWarmed_11 : decode cX7_whyNotWarmed 11 = .ok (.iconst (-1), 1) := by decide +kernel
theorem dX7_whyNotWarmed_12 : decode cX7_whyNotWarmed 12 = .ok (.ireturn, 1) := by decide +kernel
theorem dX7_whyNotWarmed_5 : decode cX7_whyNotWarmed 5 = .ok (.iload_n 1, 1) := by decide +kernel
theorem dX7_whyNotWarmed_6 : decode cX7_whyNotWarmed 6 = .ok (.bipush 20, 2) := by decide +kernel
theorem dX7_whyNotWarmed_8 : decode cX7_whyNotWarmed 8 = .ok (.if_icmp .le 5, 3) := by decide +kernel
theorem dX7_whyNotWarmed_13 : decode cX7_whyNotWarmed 13 = .ok (.aload_n 0, 1) := by decide +kernel
theorem dX7_whyNotWarmed_14 : decode cX7_whyNotWarmed 14 = .ok (.getfield 50, 3) := by decide +kernel
theorem dX7_whyNotWarmed_17 : decode cX7_whyNotWarmed 17 = .ok (.bipush 30, 2) := by decide +kernel
theorem dX7_whyNotWarmed_19 : decode cX7_whyNotWarmed 19 = .ok (.if_icmp .ne 7, 3) := by decide +kernel
theorem dX7_whyNotWarmed_26 : decode cX7_whyNotWarmed 26 = .ok (.iconst 0, 1) := by decide +kernel
theorem dX7_whyNotWarmed_27 : decode cX7_whyNotWarmed 27 = .ok (.ireturn, 1) := by decide +kernel
theorem dX7_whyNotWarmed_22 : decode cX7_whyNotWarmed 22 = .ok (.iconst 1, 1) := by decide +kernel
theorem dX7_whyNotWarmed_23 : decode cX7_whyNotWarmed 23 = .ok (.goto 4, 3) := by decide +kernel
theorem dX7_warm_0 : decode cX7_warm 0 = .ok (.aload_n 0, 1) := by decide +kernel
theorem dX7_warm_1 : decode cX7_warm 1 = .ok (.bipush 30, 2) := by decide +kernel
theorem dX7_warm_3 : decode cX7_warm 3 = .ok (.aload_n 0, 1) := by decide +kernel
theorem dX7_warm_4 : decode cX7_warm 4 = .ok (.getfield 50, 3) := by decide +kernel
theorem dX7_warm_7 : decode cX7_warm 7 = .ok (.iload_n 1, 1) := by decide +kernel
theorem dX7_warm_8 : decode cX7_warm 8 = .ok (.iadd, 1) := by decide +kernel
theorem dX7_warm_9 : decode cX7_warm 9 = .ok (.invokestatic 131, 3) := by decide +kernel
theorem dX7_warm_12 : decode cX7_warm 12 = .ok (.putfield 50, 3) := by decide +kernel
theorem dX7_warm_15 : decode cX7_warm 15 = .ok (.return_, 1) := by decide +kernel
theorem dX7_passDay_0 : decode cX7_passDay 0 = .ok (.iconst 0, 1) := by decide +kernel
theorem dX7_passDay_1 : decode cX7_passDay 1 = .ok (.istore_n 1, 1) := by decide +kernel
theorem dX7_passDay_2 : decode cX7_passDay 2 = .ok (.iload_n 1, 1) := by decide +kernel
theorem dX7_passDay_3 : decode cX7_passDay 3 = .ok (.aload_n 0, 1) := by decide +kernel
theorem dX7_passDay_4 : decode cX7_passDay 4 = .ok (.getfield 71, 3) := by decide +kernel
theorem dX7_passDay_7 : decode cX7_passDay 7 = .ok (.if_icmp .ge 55, 3) := by decide +kernel
theorem dX7_passDay_10 : decode cX7_passDay 10 = .ok (.aload_n 0, 1) := by decide +kernel
theorem dX7_passDay_11 : decode cX7_passDay 11 = .ok (.iload_n 1, 1) := by decide +kernel
theorem dX7_passDay_12 : decode cX7_passDay 12 = .ok (.invokevirtual 95, 3) := by decide +kernel
theorem dX7_passDay_15 : decode cX7_passDay 15 = .ok (.ifCond .ne 29, 3) := by decide +kernel
theorem dX7_passDay_44 : decode cX7_passDay 44 = .ok (.aload_n 0, 1) := by decide +kernel
theorem dX7_passDay_45 : decode cX7_passDay 45 = .ok (.getfield 34, 3) := by decide +kernel
theorem dX7_passDay_48 : decode cX7_passDay 48 = .ok (.iload_n 1, 1) := by decide +kernel
theorem dX7_passDay_49 : decode cX7_passDay 49 = .ok (.aload_n 0, 1) := by decide +kernel
theorem dX7_passDay_50 : decode cX7_passDay 50 = .ok (.getfield 31, 3) := by decide +kernel
theorem dX7_passDay_53 : decode cX7_passDay 53 = .ok (.iload_n 1, 1) := by decide +kernel
theorem dX7_passDay_54 : decode cX7_passDay 54 = .ok (.iaload, 1) := by decide +kernel
theorem dX7_passDay_55 : decode cX7_passDay 55 = .ok (.iastore, 1) := by decide +kernel
theorem dX7_passDay_56 : decode cX7_passDay 56 = .ok (.iinc 1 1, 3) := by decide +kernel
theorem dX7_passDay_59 : decode cX7_passDay 59 = .ok (.goto (-57), 3) := by decide +kernel
theorem dX7_passDay_18 : decode cX7_passDay 18 = .ok (.aload_n 0, 1) := by decide +kernel
theorem dX7_passDay_19 : decode cX7_passDay 19 = .ok (.getfield 37, 3) := by decide +kernel
theorem dX7_passDay_22 : decode cX7_passDay 22 = .ok (.iload_n 1, 1) := by decide +kernel
theorem dX7_passDay_23 : decode cX7_passDay 23 = .ok (.aload_n 0, 1) := by decide +kernel
theorem dX7_passDay_24 : decode cX7_passDay 24 = .ok (.iload_n 1, 1) := by decide +kernel
theorem dX7_passDay_25 : decode cX7_passDay 25 = .ok (.invokevirtual 144, 3) := by decide +kernel
theorem dX7_passDay_28 : decode cX7_passDay 28 = .ok (.ifCond .eq 7, 3) := by decide +kernel
theorem dX7_passDay_35 : decode cX7_passDay 35 = .ok (.aload_n 0, 1) := by decide +kernel
theorem dX7_passDay_36 : decode cX7_passDay 36 = .ok (.getfield 37, 3) := by decide +kernel
theorem dX7_passDay_39 : decode cX7_passDay 39 = .ok (.iload_n 1, 1) := by decide +kernel
theorem dX7_passDay_40 : decode cX7_passDay 40 = .ok (.iaload, 1) := by decide +kernel
theorem dX7_passDay_41 : decode cX7_passDay 41 = .ok (.iconst 1, 1) := by decide +kernel
theorem dX7_passDay_42 : decode cX7_passDay 42 = .ok (.iadd, 1) := by decide +kernel
theorem dX7_passDay_31 : decode cX7_passDay 31 = .ok (.iconst 0, 1) := by decide +kernel
theorem dX7_passDay_32 : decode cX7_passDay 32 = .ok (.goto 11, 3) := by decide +kernel
theorem dX7_passDay_43 : decode cX7_passDay 43 = .ok (.iastore, 1) := by decide +kernel
theorem dX7_passDay_62 : decode cX7_passDay 62 = .ok (.aload_n 0, 1) := by decide +kernel
theorem dX7_passDay_63 : decode cX7_passDay 63 = .ok (.iconst 0, 1) := by decide +kernel
theorem dX7_passDay_64 : decode cX7_passDay 64 = .ok (.aload_n 0, 1) := by decide +kernel
theorem dX7_passDay_65 : decode cX7_passDay 65 = .ok (.getfield 50, 3) := by decide +kernel
theorem dX7_passDay_68 : decode cX7_passDay 68 = .ok (.aload_n 0, 1) := by decide +kernel
theorem dX7_passDay_69 : decode cX7_passDay 69 = .ok (.getfield 53, 3) := by decide +kernel
theorem dX7_passDay_72 : decode cX7_passDay 72 = .ok (.isub, 1) := by decide +kernel
theorem dX7_passDay_73 : decode cX7_passDay 73 = .ok (.invokestatic 134, 3) := by decide +kernel
theorem dX7_passDay_76 : decode cX7_passDay 76 = .ok (.putfield 50, 3) := by decide +kernel
theorem dX7_passDay_79 : decode cX7_passDay 79 = .ok (.aload_n 0, 1) := by decide +kernel
theorem dX7_passDay_80 : decode cX7_passDay 80 = .ok (.dup, 1) := by decide +kernel
theorem dX7_passDay_81 : decode cX7_passDay 81 = .ok (.getfield 59, 3) := by decide +kernel
theorem dX7_passDay_84 : decode cX7_passDay 84 = .ok (.iconst 1, 1) := by decide +kernel
theorem dX7_passDay_85 : decode cX7_passDay 85 = .ok (.iadd, 1) := by decide +kernel
theorem dX7_passDay_86 : decode cX7_passDay 86 = .ok (.putfield 59, 3) := by decide +kernel
theorem dX7_passDay_89 : decode cX7_passDay 89 = .ok (.return_, 1) := by decide +kernel
theorem dX7_passDays_0 : decode cX7_passDays 0 = .ok (.iload_n 1, 1) := by decide +kernel
theorem dX7_passDays_1 : decode cX7_passDays 1 = .ok (.aload_n 0, 1) := by decide +kernel
theorem dX7_passDays_2 : decode cX7_passDays 2 = .ok (.invokevirtual 137, 3) := by decide +kernel
theorem dX7_passDays_5 : decode cX7_passDays 5 = .ok (.invokestatic 131, 3) := by decide +kernel
theorem dX7_passDays_8 : decode cX7_passDays 8 = .ok (.istore_n 2, 1) := by decide +kernel
theorem dX7_passDays_9 : decode cX7_passDays 9 = .ok (.iconst 0, 1) := by decide +kernel
theorem dX7_passDays_10 : decode cX7_passDays 10 = .ok (.istore_n 3, 1) := by decide +kernel
theorem dX7_passDays_11 : decode cX7_passDays 11 = .ok (.iload_n 3, 1) := by decide +kernel
theorem dX7_passDays_12 : decode cX7_passDays 12 = .ok (.iload_n 2, 1) := by decide +kernel
theorem dX7_passDays_13 : decode cX7_passDays 13 = .ok (.if_icmp .ge 13, 3) := by decide +kernel
theorem dX7_passDays_26 : decode cX7_passDays 26 = .ok (.iload_n 2, 1) := by decide +kernel
theorem dX7_passDays_27 : decode cX7_passDays 27 = .ok (.ireturn, 1) := by decide +kernel
theorem dX7_passDays_16 : decode cX7_passDays 16 = .ok (.aload_n 0, 1) := by decide +kernel
theorem dX7_passDays_17 : decode cX7_passDays 17 = .ok (.invokevirtual 141, 3) := by decide +kernel
theorem dX7_passDays_20 : decode cX7_passDays 20 = .ok (.iinc 3 1, 3) := by decide +kernel
theorem dX7_passDays_23 : decode cX7_passDays 23 = .ok (.goto (-12), 3) := by decide +kernel
theorem dX7_factOfBoat_0 : decode cX7_factOfBoat 0 = .ok (.aload_n 0, 1) := by decide +kernel
theorem dX7_factOfBoat_1 : decode cX7_factOfBoat 1 = .ok (.iload_n 1, 1) := by decide +kernel
theorem dX7_factOfBoat_2 : decode cX7_factOfBoat 2 = .ok (.invokevirtual 80, 3) := by decide +kernel
theorem dX7_factOfBoat_5 : decode cX7_factOfBoat 5 = .ok (.ifCond .ne 5, 3) := by decide +kernel
theorem dX7_factOfBoat_10 : decode cX7_factOfBoat 10 = .ok (.iload_n 2, 1) := by decide +kernel
theorem dX7_factOfBoat_11 : decode cX7_factOfBoat 11 = .ok (.tableswitch 103 0 6 #[41, 51, 61, 68, 75, 82, 89], 41) := by decide +kernel
theorem dX7_factOfBoat_114 : decode cX7_factOfBoat 114 = .ok (.aload_n 0, 1) := by decide +kernel
theorem dX7_factOfBoat_115 : decode cX7_factOfBoat 115 = .ok (.iload_n 1, 1) := by decide +kernel
theorem dX7_factOfBoat_116 : decode cX7_factOfBoat 116 = .ok (.invokevirtual 144, 3) := by decide +kernel
theorem dX7_factOfBoat_119 : decode cX7_factOfBoat 119 = .ok (.ifCond .eq 7, 3) := by decide +kernel
theorem dX7_factOfBoat_126 : decode cX7_factOfBoat 126 = .ok (.iconst 0, 1) := by decide +kernel
theorem dX7_factOfBoat_127 : decode cX7_factOfBoat 127 = .ok (.ireturn, 1) := by decide +kernel
theorem dX7_factOfBoat_122 : decode cX7_factOfBoat 122 = .ok (.iconst 1, 1) := by decide +kernel
theorem dX7_factOfBoat_123 : decode cX7_factOfBoat 123 = .ok (.goto 4, 3) := by decide +kernel
theorem dX7_factOfBoat_52 : decode cX7_factOfBoat 52 = .ok (.aload_n 0, 1) := by decide +kernel
theorem dX7_factOfBoat_53 : decode cX7_factOfBoat 53 = .ok (.getfield 25, 3) := by decide +kernel
theorem dX7_factOfBoat_56 : decode cX7_factOfBoat 56 = .ok (.iload_n 1, 1) := by decide +kernel
theorem dX7_factOfBoat_57 : decode cX7_factOfBoat 57 = .ok (.iaload, 1) := by decide +kernel
theorem dX7_factOfBoat_58 : decode cX7_factOfBoat 58 = .ok (.bipush 6, 2) := by decide +kernel
theorem dX7_factOfBoat_60 : decode cX7_factOfBoat 60 = .ok (.irem, 1) := by decide +kernel
theorem dX7_factOfBoat_61 : decode cX7_factOfBoat 61 = .ok (.ireturn, 1) := by decide +kernel
theorem dX7_factOfBoat_62 : decode cX7_factOfBoat 62 = .ok (.aload_n 0, 1) := by decide +kernel
theorem dX7_factOfBoat_63 : decode cX7_factOfBoat 63 = .ok (.getfield 25, 3) := by decide +kernel
theorem dX7_factOfBoat_66 : decode cX7_factOfBoat 66 = .ok (.iload_n 1, 1) := by decide +kernel
theorem dX7_factOfBoat_67 : decode cX7_factOfBoat 67 = .ok (.iaload, 1) := by decide +kernel
theorem dX7_factOfBoat_68 : decode cX7_factOfBoat 68 = .ok (.bipush 6, 2) := by decide +kernel
theorem dX7_factOfBoat_70 : decode cX7_factOfBoat 70 = .ok (.idiv, 1) := by decide +kernel
theorem dX7_factOfBoat_71 : decode cX7_factOfBoat 71 = .ok (.ireturn, 1) := by decide +kernel
theorem dX7_factOfBoat_72 : decode cX7_factOfBoat 72 = .ok (.aload_n 0, 1) := by decide +kernel
theorem dX7_factOfBoat_73 : decode cX7_factOfBoat 73 = .ok (.getfield 28, 3) := by decide +kernel
theorem dX7_factOfBoat_76 : decode cX7_factOfBoat 76 = .ok (.iload_n 1, 1) := by decide +kernel
theorem dX7_factOfBoat_77 : decode cX7_factOfBoat 77 = .ok (.iaload, 1) := by decide +kernel
theorem dX7_factOfBoat_78 : decode cX7_factOfBoat 78 = .ok (.ireturn, 1) := by decide +kernel
theorem dX7_factOfBoat_79 : decode cX7_factOfBoat 79 = .ok (.aload_n 0, 1) := by decide +kernel
theorem dX7_factOfBoat_80 : decode cX7_factOfBoat 80 = .ok (.getfield 31, 3) := by decide +kernel
theorem dX7_factOfBoat_83 : decode cX7_factOfBoat 83 = .ok (.iload_n 1, 1) := by decide +kernel
theorem dX7_factOfBoat_84 : decode cX7_factOfBoat 84 = .ok (.iaload, 1) := by decide +kernel
theorem dX7_factOfBoat_85 : decode cX7_factOfBoat 85 = .ok (.ireturn, 1) := by decide +kernel
theorem dX7_factOfBoat_86 : decode cX7_factOfBoat 86 = .ok (.aload_n 0, 1) := by decide +kernel
theorem dX7_factOfBoat_87 : decode cX7_factOfBoat 87 = .ok (.getfield 34, 3) := by decide +kernel
theorem dX7_factOfBoat_90 : decode cX7_factOfBoat 90 = .ok (.iload_n 1, 1) := by decide +kernel
theorem dX7_factOfBoat_91 : decode cX7_factOfBoat 91 = .ok (.iaload, 1) := by decide +kernel
theorem dX7_factOfBoat_92 : decode cX7_factOfBoat 92 = .ok (.ireturn, 1) := by decide +kernel
theorem dX7_factOfBoat_93 : decode cX7_factOfBoat 93 = .ok (.aload_n 0, 1) := by decide +kernel
theorem dX7_factOfBoat_94 : decode cX7_factOfBoat 94 = .ok (.getfield 37, 3) := by decide +kernel
theorem dX7_factOfBoat_97 : decode cX7_factOfBoat 97 = .ok (.iload_n 1, 1) := by decide +kernel
theorem dX7_factOfBoat_98 : decode cX7_factOfBoat 98 = .ok (.iaload, 1) := by decide +kernel
theorem dX7_factOfBoat_99 : decode cX7_factOfBoat 99 = .ok (.ireturn, 1) := by decide +kernel
theorem dX7_factOfBoat_100 : decode cX7_factOfBoat 100 = .ok (.aload_n 0, 1) := by decide +kernel
theorem dX7_factOfBoat_101 : decode cX7_factOfBoat 101 = .ok (.iload_n 1, 1) := by decide +kernel
theorem dX7_factOfBoat_102 : decode cX7_factOfBoat 102 = .ok (.invokevirtual 95, 3) := by decide +kernel
theorem dX7_factOfBoat_105 : decode cX7_factOfBoat 105 = .ok (.ifCond .eq 7, 3) := by decide +kernel
theorem dX7_factOfBoat_108 : decode cX7_factOfBoat 108 = .ok (.iconst 1, 1) := by decide +kernel
theorem dX7_factOfBoat_109 : decode cX7_factOfBoat 109 = .ok (.goto 4, 3) := by decide +kernel
theorem dX7_factOfBoat_113 : decode cX7_factOfBoat 113 = .ok (.ireturn, 1) := by decide +kernel
theorem dX7_factOfBoat_112 : decode cX7_factOfBoat 112 = .ok (.iconst 0, 1) := by decide +kernel
theorem dX7_factOfBoat_8 : decode cX7_factOfBoat 8 = .ok (.iconst (-1), 1) := by decide +kernel
theorem dX7_factOfBoat_9 : decode cX7_factOfBoat 9 = .ok (.ireturn, 1) := by decide +kernel
theorem dX7_eatenBits_0 : decode cX7_eatenBits 0 = .ok (.iconst 0, 1) := by decide +kernel
theorem dX7_eatenBits_1 : decode cX7_eatenBits 1 = .ok (.istore_n 1, 1) := by decide +kernel
theorem dX7_eatenBits_2 : decode cX7_eatenBits 2 = .ok (.iconst 0, 1) := by decide +kernel
theorem dX7_eatenBits_3 : decode cX7_eatenBits 3 = .ok (.istore_n 2, 1) := by decide +kernel
theorem dX7_eatenBits_4 : decode cX7_eatenBits 4 = .ok (.iload_n 2, 1) := by decide +kernel
theorem dX7_eatenBits_5 : decode cX7_eatenBits 5 = .ok (.aload_n 0, 1) := by decide +kernel
theorem dX7_eatenBits_6 : decode cX7_eatenBits 6 = .ok (.getfield 71, 3) := by decide +kernel
theorem dX7_eatenBits_9 : decode cX7_eatenBits 9 = .ok (.if_icmp .ge 27, 3) := by decide +kernel
theorem dX7_eatenBits_36 : decode cX7_eatenBits 36 = .ok (.iload_n 1, 1) := by decide +kernel
theorem dX7_eatenBits_37 : decode cX7_eatenBits 37 = .ok (.ireturn, 1) := by decide +kernel
theorem dX7_eatenBits_12 : decode cX7_eatenBits 12 = .ok (.iload_n 1, 1) := by decide +kernel
theorem dX7_eatenBits_13 : decode cX7_eatenBits 13 = .ok (.aload_n 0, 1) := by decide +kernel
theorem dX7_eatenBits_14 : decode cX7_eatenBits 14 = .ok (.iload_n 2, 1) := by decide +kernel
theorem dX7_eatenBits_15 : decode cX7_eatenBits 15 = .ok (.invokevirtual 95, 3) := by decide +kernel
theorem dX7_eatenBits_18 : decode cX7_eatenBits 18 = .ok (.ifCond .eq 9, 3) := by decide +kernel
theorem dX7_eatenBits_21 : decode cX7_eatenBits 21 = .ok (.iconst 1, 1) := by decide +kernel
theorem dX7_eatenBits_22 : decode cX7_eatenBits 22 = .ok (.iload_n 2, 1) := by decide +kernel
theorem dX7_eatenBits_23 : decode cX7_eatenBits 23 = .ok (.ishl, 1) := by decide +kernel
theorem dX7_eatenBits_24 : decode cX7_eatenBits 24 = .ok (.goto 4, 3) := by decide +kernel
theorem dX7_eatenBits_28 : decode cX7_eatenBits 28 = .ok (.ior, 1) := by decide +kernel
theorem dX7_eatenBits_29 : decode cX7_eatenBits 29 = .ok (.istore_n 1, 1) := by decide +kernel
theorem dX7_eatenBits_30 : decode cX7_eatenBits 30 = .ok (.iinc 2 1, 3) := by decide +kernel
theorem dX7_eatenBits_33 : decode cX7_eatenBits 33 = .ok (.goto (-29), 3) := by decide +kernel
theorem dX7_eatenBits_27 : decode cX7_eatenBits 27 = .ok (.iconst 0, 1) := by decide +kernel
theorem dX7_afloatBits_0 : decode cX7_afloatBits 0 = .ok (.iconst 0, 1) := by decide +kernel
theorem dX7_afloatBits_1 : decode cX7_afloatBits 1 = .ok (.istore_n 1, 1) := by decide +kernel
theorem dX7_afloatBits_2 : decode cX7_afloatBits 2 = .ok (.iconst 0, 1) := by decide +kernel
theorem dX7_afloatBits_3 : decode cX7_afloatBits 3 = .ok (.istore_n 2, 1) := by decide +kernel
theorem dX7_afloatBits_4 : decode cX7_afloatBits 4 = .ok (.iload_n 2, 1) := by decide +kernel
theorem dX7_afloatBits_5 : decode cX7_afloatBits 5 = .ok (.aload_n 0, 1) := by decide +kernel
theorem dX7_afloatBits_6 : decode cX7_afloatBits 6 = .ok (.getfield 71, 3) := by decide +kernel
theorem dX7_afloatBits_9 : decode cX7_afloatBits 9 = .ok (.if_icmp .ge 27, 3) := by decide +kernel
theorem dX7_afloatBits_36 : decode cX7_afloatBits 36 = .ok (.iload_n 1, 1) := by decide +kernel
theorem dX7_afloatBits_37 : decode cX7_afloatBits 37 = .ok (.ireturn, 1) := by decide +kernel
theorem dX7_afloatBits_12 : decode cX7_afloatBits 12 = .ok (.iload_n 1, 1) := by decide +kernel
theorem dX7_afloatBits_13 : decode cX7_afloatBits 13 = .ok (.aload_n 0, 1) := by decide +kernel
theorem dX7_afloatBits_14 : decode cX7_afloatBits 14 = .ok (.iload_n 2, 1) := by decide +kernel
theorem dX7_afloatBits_15 : decode cX7_afloatBits 15 = .ok (.invokevirtual 144, 3) := by decide +kernel
theorem dX7_afloatBits_18 : decode cX7_afloatBits 18 = .ok (.ifCond .eq 9, 3) := by decide +kernel
theorem dX7_afloatBits_27 : decode cX7_afloatBits 27 = .ok (.iconst 0, 1) := by decide +kernel
theorem dX7_afloatBits_28 : decode cX7_afloatBits 28 = .ok (.ior, 1) := by decide +kernel
theorem dX7_afloatBits_29 : decode cX7_afloatBits 29 = .ok (.istore_n 1, 1) := by decide +kernel
theorem dX7_afloatBits_30 : decode cX7_afloatBits 30 = .ok (.iinc 2 1, 3) := by decide +kernel
theorem dX7_afloatBits_33 : decode cX7_afloatBits 33 = .ok (.goto (-29), 3) := by decide +kernel
theorem dX7_afloatBits_21 : decode cX7_afloatBits 21 = .ok (.iconst 1, 1) := by decide +kernel
theorem dX7_afloatBits_22 : decode cX7_afloatBits 22 = .ok (.iload_n 2, 1) := by decide +kernel
theorem dX7_afloatBits_23 : decode cX7_afloatBits 23 = .ok (.ishl, 1) := by decide +kernel
theorem dX7_afloatBits_24 : decode cX7_afloatBits 24 = .ok (.goto 4, 3) := by decide +kernel
theorem dX7_allThickness_0 : decode cX7_allThickness 0 = .ok (.iconst 0, 1) := by decide +kernel
theorem dX7_allThickness_1 : decode cX7_allThickness 1 = .ok (.istore_n 1, 1) := by decide +kernel
theorem dX7_allThickness_2 : decode cX7_allThickness 2 = .ok (.iconst 0, 1) := by decide +kernel
theorem dX7_allThickness_3 : decode cX7_allThickness 3 = .ok (.istore_n 2, 1) := by decide +kernel
theorem dX7_allThickness_4 : decode cX7_allThickness 4 = .ok (.iload_n 2, 1) := by decide +kernel
theorem dX7_allThickness_5 : decode cX7_allThickness 5 = .ok (.bipush 36, 2) := by decide +kernel
theorem dX7_allThickness_7 : decode cX7_allThickness 7 = .ok (.if_icmp .ge 18, 3) := by decide +kernel
theorem dX7_allThickness_10 : decode cX7_allThickness 10 = .ok (.iload_n 1, 1) := by decide +kernel
theorem dX7_allThickness_11 : decode cX7_allThickness 11 = .ok (.aload_n 0, 1) := by decide +kernel
theorem dX7_allThickness_12 : decode cX7_allThickness 12 = .ok (.getfield 9, 3) := by decide +kernel
theorem dX7_allThickness_15 : decode cX7_allThickness 15 = .ok (.iload_n 2, 1) := by decide +kernel
theorem dX7_allThickness_16 : decode cX7_allThickness 16 = .ok (.iaload, 1) := by decide +kernel
theorem dX7_allThickness_17 : decode cX7_allThickness 17 = .ok (.iadd, 1) := by decide +kernel
theorem dX7_allThickness_18 : decode cX7_allThickness 18 = .ok (.istore_n 1, 1) := by decide +kernel
theorem dX7_allThickness_19 : decode cX7_allThickness 19 = .ok (.iinc 2 1, 3) := by decide +kernel
theorem dX7_allThickness_22 : decode cX7_allThickness 22 = .ok (.goto (-18), 3) := by decide +kernel
theorem dX7_allThickness_25 : decode cX7_allThickness 25 = .ok (.iload_n 1, 1) := by decide +kernel
theorem dX7_allThickness_26 : decode cX7_allThickness 26 = .ok (.ireturn, 1) := by decide +kernel
theorem dX7_loadOf_0 : decode cX7_loadOf 0 = .ok (.iconst 0, 1) := by decide +kernel
theorem dX7_loadOf_1 : decode cX7_loadOf 1 = .ok (.istore_n 2, 1) := by decide +kernel
theorem dX7_loadOf_2 : decode cX7_loadOf 2 = .ok (.iconst 0, 1) := by decide +kernel
theorem dX7_loadOf_3 : decode cX7_loadOf 3 = .ok (.istore_n 3, 1) := by decide +kernel
theorem dX7_loadOf_4 : decode cX7_loadOf 4 = .ok (.iload_n 3, 1) := by decide +kernel
theorem dX7_loadOf_5 : decode cX7_loadOf 5 = .ok (.aload_n 0, 1) := by decide +kernel
theorem dX7_loadOf_6 : decode cX7_loadOf 6 = .ok (.getfield 71, 3) := by decide +kernel
theorem dX7_loadOf_9 : decode cX7_loadOf 9 = .ok (.if_icmp .ge 31, 3) := by decide +kernel
theorem dX7_loadOf_40 : decode cX7_loadOf 40 = .ok (.iload_n 2, 1) := by decide +kernel
theorem dX7_loadOf_41 : decode cX7_loadOf 41 = .ok (.ireturn, 1) := by decide +kernel
theorem dX7_loadOf_12 : decode cX7_loadOf 12 = .ok (.iload_n 2, 1) := by decide +kernel
theorem dX7_loadOf_13 : decode cX7_loadOf 13 = .ok (.iload_n 1, 1) := by decide +kernel
theorem dX7_loadOf_14 : decode cX7_loadOf 14 = .ok (.iload_n 3, 1) := by decide +kernel
theorem dX7_loadOf_15 : decode cX7_loadOf 15 = .ok (.ishr, 1) := by decide +kernel
theorem dX7_loadOf_16 : decode cX7_loadOf 16 = .ok (.iconst 1, 1) := by decide +kernel
theorem dX7_loadOf_17 : decode cX7_loadOf 17 = .ok (.iand, 1) := by decide +kernel
theorem dX7_loadOf_18 : decode cX7_loadOf 18 = .ok (.iconst 1, 1) := by decide +kernel
theorem dX7_loadOf_19 : decode cX7_loadOf 19 = .ok (.if_icmp .ne 12, 3) := by decide +kernel
theorem dX7_loadOf_31 : decode cX7_loadOf 31 = .ok (.iconst 0, 1) := by decide +kernel
theorem dX7_loadOf_32 : decode cX7_loadOf 32 = .ok (.iadd, 1) := by decide +kernel
theorem dX7_loadOf_33 : decode cX7_loadOf 33 = .ok (.istore_n 2, 1) := by decide +kernel
theorem dX7_loadOf_34 : decode cX7_loadOf 34 = .ok (.iinc 3 1, 3) := by decide +kernel
theorem dX7_loadOf_37 : decode cX7_loadOf 37 = .ok (.goto (-33), 3) := by decide +kernel
theorem dX7_loadOf_22 : decode cX7_loadOf 22 = .ok (.aload_n 0, 1) := by decide +kernel
theorem dX7_loadOf_23 : decode cX7_loadOf 23 = .ok (.getfield 28, 3) := by decide +kernel
theorem dX7_loadOf_26 : decode cX7_loadOf 26 = .ok (.iload_n 3, 1) := by decide +kernel
theorem dX7_loadOf_27 : decode cX7_loadOf 27 = .ok (.iaload, 1) := by decide +kernel
theorem dX7_loadOf_28 : decode cX7_loadOf 28 = .ok (.goto 4, 3) := by decide +kernel
theorem dX7_shoreBits_0 : decode cX7_shoreBits 0 = .ok (.iconst 0, 1) := by decide +kernel
theorem dX7_shoreBits_1 : decode cX7_shoreBits 1 = .ok (.istore_n 2, 1) := by decide +kernel
theorem dX7_shoreBits_2 : decode cX7_shoreBits 2 = .ok (.iconst 0, 1) := by decide +kernel
theorem dX7_shoreBits_3 : decode cX7_shoreBits 3 = .ok (.istore_n 3, 1) := by decide +kernel
theorem dX7_shoreBits_4 : decode cX7_shoreBits 4 = .ok (.iload_n 3, 1) := by decide +kernel
theorem dX7_shoreBits_5 : decode cX7_shoreBits 5 = .ok (.aload_n 0, 1) := by decide +kernel
theorem dX7_shoreBits_6 : decode cX7_shoreBits 6 = .ok (.getfield 68, 3) := by decide +kernel
theorem dX7_shoreBits_9 : decode cX7_shoreBits 9 = .ok (.if_icmp .ge 66, 3) := by decide +kernel
theorem dX7_shoreBits_75 : decode cX7_shoreBits 75 = .ok (.iload_n 2, 1) := by decide +kernel
theorem dX7_shoreBits_76 : decode cX7_shoreBits 76 = .ok (.ireturn, 1) := by decide +kernel
theorem dX7_shoreBits_12 : decode cX7_shoreBits 12 = .ok (.iconst 0, 1) := by decide +kernel
theorem dX7_shoreBits_13 : decode cX7_shoreBits 13 = .ok (.istore 4, 2) := by decide +kernel
theorem dX7_shoreBits_15 : decode cX7_shoreBits 15 = .ok (.iload 4, 2) := by decide +kernel
theorem dX7_shoreBits_17 : decode cX7_shoreBits 17 = .ok (.aload_n 0, 1) := by decide +kernel
theorem dX7_shoreBits_18 : decode cX7_shoreBits 18 = .ok (.getfield 68, 3) := by decide +kernel
theorem dX7_shoreBits_21 : decode cX7_shoreBits 21 = .ok (.if_icmp .ge 48, 3) := by decide +kernel
theorem dX7_shoreBits_69 : decode cX7_shoreBits 69 = .ok (.iinc 3 1, 3) := by decide +kernel
theorem dX7_shoreBits_72 : decode cX7_shoreBits 72 = .ok (.goto (-68), 3) := by decide +kernel
theorem dX7_shoreBits_24 : decode cX7_shoreBits 24 = .ok (.iload_n 1, 1) := by decide +kernel
theorem dX7_shoreBits_25 : decode cX7_shoreBits 25 = .ok (.iload_n 3, 1) := by decide +kernel
theorem dX7_shoreBits_26 : decode cX7_shoreBits 26 = .ok (.ishr, 1) := by decide +kernel
theorem dX7_shoreBits_27 : decode cX7_shoreBits 27 = .ok (.iconst 1, 1) := by decide +kernel
theorem dX7_shoreBits_28 : decode cX7_shoreBits 28 = .ok (.iand, 1) := by decide +kernel
theorem dX7_shoreBits_29 : decode cX7_shoreBits 29 = .ok (.iconst 1, 1) := by decide +kernel
theorem dX7_shoreBits_30 : decode cX7_shoreBits 30 = .ok (.if_icmp .ne 39, 3) := by decide +kernel
theorem dX7_shoreBits_33 : decode cX7_shoreBits 33 = .ok (.iload_n 2, 1) := by decide +kernel
theorem dX7_shoreBits_34 : decode cX7_shoreBits 34 = .ok (.aload_n 0, 1) := by decide +kernel
theorem dX7_shoreBits_35 : decode cX7_shoreBits 35 = .ok (.getfield 19, 3) := by decide +kernel
theorem dX7_shoreBits_38 : decode cX7_shoreBits 38 = .ok (.iload_n 3, 1) := by decide +kernel
theorem dX7_shoreBits_39 : decode cX7_shoreBits 39 = .ok (.iaload, 1) := by decide +kernel
theorem dX7_shoreBits_40 : decode cX7_shoreBits 40 = .ok (.aload_n 0, 1) := by decide +kernel
theorem dX7_shoreBits_41 : decode cX7_shoreBits 41 = .ok (.getfield 19, 3) := by decide +kernel
theorem dX7_shoreBits_44 : decode cX7_shoreBits 44 = .ok (.iload 4, 2) := by decide +kernel
theorem dX7_shoreBits_46 : decode cX7_shoreBits 46 = .ok (.iaload, 1) := by decide +kernel
theorem dX7_shoreBits_47 : decode cX7_shoreBits 47 = .ok (.invokestatic 150, 3) := by decide +kernel
theorem dX7_shoreBits_50 : decode cX7_shoreBits 50 = .ok (.ifCond .eq 10, 3) := by decide +kernel
theorem dX7_shoreBits_60 : decode cX7_shoreBits 60 = .ok (.iconst 0, 1) := by decide +kernel
theorem dX7_shoreBits_61 : decode cX7_shoreBits 61 = .ok (.ior, 1) := by decide +kernel
theorem dX7_shoreBits_62 : decode cX7_shoreBits 62 = .ok (.istore_n 2, 1) := by decide +kernel
theorem dX7_shoreBits_63 : decode cX7_shoreBits 63 = .ok (.iinc 4 1, 3) := by decide +kernel
theorem dX7_shoreBits_66 : decode cX7_shoreBits 66 = .ok (.goto (-51), 3) := by decide +kernel
theorem dX7_shoreBits_53 : decode cX7_shoreBits 53 = .ok (.iconst 1, 1) := by decide +kernel
theorem dX7_shoreBits_54 : decode cX7_shoreBits 54 = .ok (.iload 4, 2) := by decide +kernel
theorem dX7_shoreBits_56 : decode cX7_shoreBits 56 = .ok (.ishl, 1) := by decide +kernel
theorem dX7_shoreBits_57 : decode cX7_shoreBits 57 = .ok (.goto 4, 3) := by decide +kernel
theorem dX7_landBits_0 : decode cX7_landBits 0 = .ok (.iconst 1, 1) := by decide +kernel
theorem dX7_landBits_1 : decode cX7_landBits 1 = .ok (.iload_n 1, 1) := by decide +kernel
theorem dX7_landBits_2 : decode cX7_landBits 2 = .ok (.ishl, 1) := by decide +kernel
theorem dX7_landBits_3 : decode cX7_landBits 3 = .ok (.istore_n 2, 1) := by decide +kernel
theorem dX7_landBits_4 : decode cX7_landBits 4 = .ok (.iconst 1, 1) := by decide +kernel
theorem dX7_landBits_5 : decode cX7_landBits 5 = .ok (.istore_n 3, 1) := by decide +kernel
theorem dX7_landBits_6 : decode cX7_landBits 6 = .ok (.iload_n 3, 1) := by decide +kernel
theorem dX7_landBits_7 : decode cX7_landBits 7 = .ok (.aload_n 0, 1) := by decide +kernel
theorem dX7_landBits_8 : decode cX7_landBits 8 = .ok (.getfield 68, 3) := by decide +kernel
theorem dX7_landBits_11 : decode cX7_landBits 11 = .ok (.if_icmp .ge 17, 3) := by decide +kernel
theorem dX7_landBits_28 : decode cX7_landBits 28 = .ok (.iload_n 2, 1) := by decide +kernel
theorem dX7_landBits_29 : decode cX7_landBits 29 = .ok (.ireturn, 1) := by decide +kernel
theorem dX7_landBits_14 : decode cX7_landBits 14 = .ok (.iload_n 2, 1) := by decide +kernel
theorem dX7_landBits_15 : decode cX7_landBits 15 = .ok (.aload_n 0, 1) := by decide +kernel
theorem dX7_landBits_16 : decode cX7_landBits 16 = .ok (.iload_n 2, 1) := by decide +kernel
theorem dX7_landBits_17 : decode cX7_landBits 17 = .ok (.invokevirtual 147, 3) := by decide +kernel
theorem dX7_landBits_20 : decode cX7_landBits 20 = .ok (.ior, 1) := by decide +kernel
theorem dX7_landBits_21 : decode cX7_landBits 21 = .ok (.istore_n 2, 1) := by decide +kernel
theorem dX7_landBits_22 : decode cX7_landBits 22 = .ok (.iinc 3 1, 3) := by decide +kernel
theorem dX7_landBits_25 : decode cX7_landBits 25 = .ok (.goto (-19), 3) := by decide +kernel
set_option maxRecDepth 100000 in
theorem ggX7_stirLine_X7_isLine : GoodIn wsX7_stirLine wsX7_isLine := goodIn_r _ [10, 11, 12, 34, 35, 36, 37, 38, 39, 40, 41, 42, 43, 44, 45, 46, 47, 48, 49, 50, 51, 52] rfl (by decide +kernel)
set_option maxRecDepth 100000 in
theorem ggX7_stirLine_X7_stirThickness : GoodIn wsX7_stirLine wsX7_stirThickness := goodIn_r _ [16, 12, 11, 17, 34, 35, 36, 37, 38, 39, 40, 41, 42, 43, 44, 45, 46, 47, 48, 49, 50, 51, 52] rfl (by decide +kernel)
set_option maxRecDepth 100000 in
theorem ggX7_stirLine_X7_stirredTo : GoodIn wsX7_stirLine wsX7_stirredTo := goodIn_r _ [21, 12, 11, 22, 23, 9, 24, 34, 35, 36, 37, 38, 39, 40, 41, 42, 43, 44, 45, 46, 47, 48, 49, 50, 51, 52] rfl (by decide +kernel)
set_option maxRecDepth 100000 in
theorem ggX7_stirLine_X7_isEaten : GoodIn wsX7_stirLine wsX7_isEaten := goodIn_r _ [28, 29, 30, 31, 32, 9, 33, 3, 34, 35, 36, 37, 38, 39, 40, 41, 42, 43, 44, 45, 46, 47, 48, 49, 50, 51, 52] rfl (by decide +kernel)
set_option maxRecDepth 100000 in
theorem ggX7_whyNotRowed_X7_isBoat : GoodIn wsX7_whyNotRowed wsX7_isBoat := goodIn_r _ [7, 8, 39, 40, 41, 42, 43, 44, 45, 46, 47, 48, 49, 50, 51, 52, 53, 54, 55, 56, 57] rfl (by decide +kernel)
set_option maxRecDepth 100000 in
theorem ggX7_whyNotRowed_X7_isEaten : GoodIn wsX7_whyNotRowed wsX7_isEaten := goodIn_r _ [12, 13, 3, 4, 5, 6, 7, 8, 39, 40, 41, 42, 43, 44, 45, 46, 47, 48, 49, 50, 51, 52, 53, 54, 55, 56, 57] rfl (by decide +kernel)
set_option maxRecDepth 100000 in
theorem ggX7_whyNotRowed_X7_nextCell : GoodIn wsX7_whyNotRowed wsX7_nextCell := goodIn_r _ [17, 18, 19, 20, 6, 21, 22, 23, 39, 40, 41, 42, 43, 44, 45, 46, 47, 48, 49, 50, 51, 52, 53, 54, 55, 56, 57] rfl (by decide +kernel)
set_option maxRecDepth 100000 in
theorem ggX7_whyNotRowed_X7_stepCost : GoodIn wsX7_whyNotRowed wsX7_stepCost := goodIn_r _ [27, 28, 29, 30, 6, 31, 32, 33, 34, 35, 36, 37, 38, 39, 40, 41, 42, 43, 44, 45, 46, 47, 48, 49, 50, 51, 52, 53, 54, 55, 56, 57] rfl (by decide +kernel)
set_option maxRecDepth 100000 in
theorem ggX7_rowBoat_X7_isBoat : GoodIn wsX7_rowBoat wsX7_isBoat := goodIn_r _ [8, 9, 35, 36, 37, 38, 39, 40, 41, 42, 43, 44, 45, 46, 47, 48, 49, 50, 51, 52, 53] rfl (by decide +kernel)
set_option maxRecDepth 100000 in
theorem ggX7_rowBoat_X7_nextCell : GoodIn wsX7_rowBoat wsX7_nextCell := goodIn_r _ [13, 14, 15, 16, 7, 17, 18, 19, 35, 36, 37, 38, 39, 40, 41, 42, 43, 44, 45, 46, 47, 48, 49, 50, 51, 52, 53] rfl (by decide +kernel)
set_option maxRecDepth 100000 in
theorem ggX7_rowBoat_X7_stepCost : GoodIn wsX7_rowBoat wsX7_stepCost := goodIn_r _ [23, 24, 25, 26, 7, 27, 28, 29, 30, 31, 32, 33, 34, 35, 36, 37, 38, 39, 40, 41, 42, 43, 44, 45, 46, 47, 48, 49, 50, 51, 52, 53] rfl (by decide +kernel)
set_option maxRecDepth 100000 in
theorem ggX7_whyNotFloured_X7_isCell : GoodIn wsX7_whyNotFloured wsX7_isCell := goodIn_r _ [5, 6, 7, 13, 14, 15, 16, 17, 18, 19, 20, 21, 22, 23, 24, 25, 26, 27, 28, 29, 30, 31] rfl (by decide +kernel)
set_option maxRecDepth 100000 in
theorem ggX7_whyNotFloured_X7_thicknessIn : GoodIn wsX7_whyNotFloured wsX7_thicknessIn := goodIn_r _ [11, 12, 13, 14, 15, 16, 17, 18, 19, 20, 21, 22, 23, 24, 25, 26, 27, 28, 29, 30, 31] rfl (by decide +kernel)
set_option maxRecDepth 100000 in
theorem ggX7_whyNotMilked_X7_isCell : GoodIn wsX7_whyNotMilked wsX7_isCell := goodIn_r _ [5, 6, 7, 13, 14, 15, 16, 17, 18, 19, 20, 21, 22, 23, 24, 25, 26, 27, 28, 29, 30, 31] rfl (by decide +kernel)
set_option maxRecDepth 100000 in
theorem ggX7_whyNotMilked_X7_thicknessIn : GoodIn wsX7_whyNotMilked wsX7_thicknessIn := goodIn_r _ [11, 12, 13, 14, 15, 16, 17, 18, 19, 20, 21, 22, 23, 24, 25, 26, 27, 28, 29, 30, 31] rfl (by decide +kernel)
set_option maxRecDepth 100000 in
theorem ggX7_thicken_X7_isCell : GoodIn wsX7_thicken wsX7_isCell := goodIn_r _ [13, 14, 15, 16, 17, 18, 19, 20, 21, 22, 23, 24, 25, 26, 27, 28, 29, 30, 31, 32, 33, 34] rfl (by decide +kernel)
set_option maxRecDepth 100000 in
theorem ggX7_passDay_X7_isEaten : GoodIn wsX7_passDay wsX7_isEaten := goodIn_r _ [16, 2, 17, 18, 19, 15, 20, 1, 47, 48, 49, 50, 51, 52, 53, 54, 55, 56, 57, 58, 59, 60, 61, 62, 63, 64, 65] rfl (by decide +kernel)
set_option maxRecDepth 100000 in
theorem ggX7_passDay_X7_isAfloat : GoodIn wsX7_passDay wsX7_isAfloat := goodIn_r _ [24, 25, 17, 18, 19, 15, 20, 1, 12, 13, 14, 16, 2, 26, 27, 28, 29, 30, 31, 32, 33, 34, 5, 35, 36, 37, 38, 39, 40, 41, 42, 43, 44, 45, 46, 47, 48, 49, 50, 51, 52, 53, 54, 55, 56, 57, 58, 59, 60, 61, 62, 63, 64, 65] rfl (by decide +kernel)
set_option maxRecDepth 100000 in
theorem ggX7_passDays_X7_daysLeft : GoodIn wsX7_passDays wsX7_daysLeft := goodIn_r _ [9, 10, 58, 59, 60, 61, 62, 63, 64, 65, 66, 67, 68, 69, 70, 71, 72, 73, 74, 75, 76] rfl (by decide +kernel)
set_option maxRecDepth 100000 in
theorem ggX7_passDays_X7_passDay : GoodIn wsX7_passDays wsX7_passDay := goodIn_r _ [14, 15, 16, 17, 18, 19, 20, 21, 22, 3, 23, 10, 24, 25, 26, 8, 27, 28, 29, 30, 31, 32, 33, 34, 35, 36, 37, 38, 39, 40, 41, 42, 43, 44, 45, 46, 47, 48, 49, 50, 51, 52, 53, 54, 55, 56, 57, 58, 59, 60, 61, 62, 63, 64, 65, 66, 67, 68, 69, 70, 71, 72, 73, 74, 75, 76] rfl (by decide +kernel)
set_option maxRecDepth 100000 in
theorem ggX7_factOfBoat_X7_isBoat : GoodIn wsX7_factOfBoat wsX7_isBoat := goodIn_r _ [10, 11, 41, 42, 43, 44, 45, 46, 47, 48, 49, 50, 51, 52, 53, 54, 55, 56, 57, 58, 59] rfl (by decide +kernel)
set_option maxRecDepth 100000 in
theorem ggX7_factOfBoat_X7_isAfloat : GoodIn wsX7_factOfBoat wsX7_isAfloat := goodIn_r _ [19, 1, 6, 7, 8, 9, 10, 11, 12, 13, 14, 15, 5, 20, 21, 22, 23, 2, 24, 25, 26, 27, 28, 29, 30, 31, 32, 33, 34, 35, 36, 37, 38, 39, 40, 41, 42, 43, 44, 45, 46, 47, 48, 49, 50, 51, 52, 53, 54, 55, 56, 57, 58, 59] rfl (by decide +kernel)
set_option maxRecDepth 100000 in
theorem ggX7_factOfBoat_X7_isEaten : GoodIn wsX7_factOfBoat wsX7_isEaten := goodIn_r _ [15, 5, 6, 7, 8, 9, 10, 11, 41, 42, 43, 44, 45, 46, 47, 48, 49, 50, 51, 52, 53, 54, 55, 56, 57, 58, 59] rfl (by decide +kernel)
set_option maxRecDepth 100000 in
theorem ggX7_eatenBits_X7_isEaten : GoodIn wsX7_eatenBits wsX7_isEaten := goodIn_r _ [6, 7, 8, 9, 10, 5, 11, 1, 12, 13, 14, 15, 16, 17, 18, 19, 20, 21, 22, 23, 24, 25, 26, 27, 28, 29, 30] rfl (by decide +kernel)
set_option maxRecDepth 100000 in
theorem ggX7_afloatBits_X7_isAfloat : GoodIn wsX7_afloatBits wsX7_isAfloat := goodIn_r _ [6, 7, 8, 9, 10, 5, 11, 1, 12, 13, 14, 15, 16, 17, 18, 19, 20, 21, 22, 23, 24, 25, 26, 27, 28, 29, 30, 31, 32, 33, 34, 35, 36, 37, 38, 39, 40, 41, 42, 43, 44, 45, 46, 47, 48, 49, 50, 51, 52, 53, 54, 55, 56, 57] rfl (by decide +kernel)
set_option maxRecDepth 100000 in
theorem ggX7_shoreBits_X7_areNear : GoodIn wsX7_shoreBits wsX7_areNear := goodIn_r _ [6, 7, 8, 9, 10] rfl (by decide +kernel)
set_option maxRecDepth 100000 in
theorem ggX7_landBits_X7_shoreBits : GoodIn wsX7_landBits wsX7_shoreBits := goodIn_r _ [6, 1, 7, 8, 9, 5, 10, 11, 12, 13, 14, 15, 16, 17, 18, 19, 20, 21, 22, 23, 24, 25, 26, 27, 28, 29, 30, 31, 32, 33] rfl (by decide +kernel)
set_option maxRecDepth 100000 in
theorem gX7_stirLine_X7_isLine : GoodIn wsX7_stirLine (wsV RX7 114 RX7 yX7_isLine wsX7_isLine) := goodIn_app (goodIn_of _ (by decide +kernel)) ggX7_stirLine_X7_isLine
set_option maxRecDepth 100000 in
theorem gX7_stirLine_X7_stirThickness : GoodIn wsX7_stirLine (wsV RX7 117 RX7 yX7_stirThickness wsX7_stirThickness) := goodIn_app (goodIn_of _ (by decide +kernel)) ggX7_stirLine_X7_stirThickness
set_option maxRecDepth 100000 in
theorem gX7_stirLine_X7_stirredTo : GoodIn wsX7_stirLine (wsV RX7 121 RX7 yX7_stirredTo wsX7_stirredTo) := goodIn_app (goodIn_of _ (by decide +kernel)) ggX7_stirLine_X7_stirredTo
set_option maxRecDepth 100000 in
theorem gX7_stirLine_X7_isEaten : GoodIn wsX7_stirLine (wsV RX7 95 RX7 yX7_isEaten wsX7_isEaten) := goodIn_app (goodIn_of _ (by decide +kernel)) ggX7_stirLine_X7_isEaten
set_option maxRecDepth 100000 in
theorem gX7_whyNotRowed_X7_isBoat : GoodIn wsX7_whyNotRowed (wsV RX7 80 RX7 yX7_isBoat wsX7_isBoat) := goodIn_app (goodIn_of _ (by decide +kernel)) ggX7_whyNotRowed_X7_isBoat
set_option maxRecDepth 100000 in
theorem gX7_whyNotRowed_X7_isEaten : GoodIn wsX7_whyNotRowed (wsV RX7 95 RX7 yX7_isEaten wsX7_isEaten) := goodIn_app (goodIn_of _ (by decide +kernel)) ggX7_whyNotRowed_X7_isEaten
set_option maxRecDepth 100000 in
theorem gX7_whyNotRowed_X7_nextCell : GoodIn wsX7_whyNotRowed (wsV RX7 125 RX7 yX7_nextCell wsX7_nextCell) := goodIn_app (goodIn_of _ (by decide +kernel)) ggX7_whyNotRowed_X7_nextCell
set_option maxRecDepth 100000 in
theorem gX7_whyNotRowed_X7_stepCost : GoodIn wsX7_whyNotRowed (wsV RX7 128 RX7 yX7_stepCost wsX7_stepCost) := goodIn_app (goodIn_of _ (by decide +kernel)) ggX7_whyNotRowed_X7_stepCost
set_option maxRecDepth 100000 in
theorem gX7_rowBoat_X7_isBoat : GoodIn wsX7_rowBoat (wsV RX7 80 RX7 yX7_isBoat wsX7_isBoat) := goodIn_app (goodIn_of _ (by decide +kernel)) ggX7_rowBoat_X7_isBoat
set_option maxRecDepth 100000 in
theorem gX7_rowBoat_X7_nextCell : GoodIn wsX7_rowBoat (wsV RX7 125 RX7 yX7_nextCell wsX7_nextCell) := goodIn_app (goodIn_of _ (by decide +kernel)) ggX7_rowBoat_X7_nextCell
set_option maxRecDepth 100000 in
theorem gX7_rowBoat_X7_stepCost : GoodIn wsX7_rowBoat (wsV RX7 128 RX7 yX7_stepCost wsX7_stepCost) := goodIn_app (goodIn_of _ (by decide +kernel)) ggX7_rowBoat_X7_stepCost
set_option maxRecDepth 100000 in
theorem gX7_whyNotFloured_X7_isCell : GoodIn wsX7_whyNotFloured (wsV RX7 102 RX7 yX7_isCell wsX7_isCell) := goodIn_app (goodIn_of _ (by decide +kernel)) ggX7_whyNotFloured_X7_isCell
set_option maxRecDepth 100000 in
theorem gX7_whyNotFloured_X7_thicknessIn : GoodIn wsX7_whyNotFloured (wsV RX7 91 RX7 yX7_thicknessIn wsX7_thicknessIn) := goodIn_app (goodIn_of _ (by decide +kernel)) ggX7_whyNotFloured_X7_thicknessIn
set_option maxRecDepth 100000 in
theorem gX7_whyNotMilked_X7_isCell : GoodIn wsX7_whyNotMilked (wsV RX7 102 RX7 yX7_isCell wsX7_isCell) := goodIn_app (goodIn_of _ (by decide +kernel)) ggX7_whyNotMilked_X7_isCell
set_option maxRecDepth 100000 in
theorem gX7_whyNotMilked_X7_thicknessIn : GoodIn wsX7_whyNotMilked (wsV RX7 91 RX7 yX7_thicknessIn wsX7_thicknessIn) := goodIn_app (goodIn_of _ (by decide +kernel)) ggX7_whyNotMilked_X7_thicknessIn
set_option maxRecDepth 100000 in
theorem gX7_thicken_X7_isCell : GoodIn wsX7_thicken (wsV RX7 102 RX7 yX7_isCell wsX7_isCell) := goodIn_app (goodIn_of _ (by decide +kernel)) ggX7_thicken_X7_isCell
set_option maxRecDepth 100000 in
theorem gX7_passDay_X7_isEaten : GoodIn wsX7_passDay (wsV RX7 95 RX7 yX7_isEaten wsX7_isEaten) := goodIn_app (goodIn_of _ (by decide +kernel)) ggX7_passDay_X7_isEaten
set_option maxRecDepth 100000 in
theorem gX7_passDay_X7_isAfloat : GoodIn wsX7_passDay (wsV RX7 144 RX7 yX7_isAfloat wsX7_isAfloat) := goodIn_app (goodIn_of _ (by decide +kernel)) ggX7_passDay_X7_isAfloat
set_option maxRecDepth 100000 in
theorem gX7_passDays_X7_daysLeft : GoodIn wsX7_passDays (wsV RX7 137 RX7 yX7_daysLeft wsX7_daysLeft) := goodIn_app (goodIn_of _ (by decide +kernel)) ggX7_passDays_X7_daysLeft
set_option maxRecDepth 100000 in
theorem gX7_passDays_X7_passDay : GoodIn wsX7_passDays (wsV RX7 141 RX7 yX7_passDay wsX7_passDay) := goodIn_app (goodIn_of _ (by decide +kernel)) ggX7_passDays_X7_passDay
set_option maxRecDepth 100000 in
theorem gX7_factOfBoat_X7_isBoat : GoodIn wsX7_factOfBoat (wsV RX7 80 RX7 yX7_isBoat wsX7_isBoat) := goodIn_app (goodIn_of _ (by decide +kernel)) ggX7_factOfBoat_X7_isBoat
set_option maxRecDepth 100000 in
theorem gX7_factOfBoat_X7_isAfloat : GoodIn wsX7_factOfBoat (wsV RX7 144 RX7 yX7_isAfloat wsX7_isAfloat) := goodIn_app (goodIn_of _ (by decide +kernel)) ggX7_factOfBoat_X7_isAfloat
set_option maxRecDepth 100000 in
theorem gX7_factOfBoat_X7_isEaten : GoodIn wsX7_factOfBoat (wsV RX7 95 RX7 yX7_isEaten wsX7_isEaten) := goodIn_app (goodIn_of _ (by decide +kernel)) ggX7_factOfBoat_X7_isEaten
set_option maxRecDepth 100000 in
theorem gX7_eatenBits_X7_isEaten : GoodIn wsX7_eatenBits (wsV RX7 95 RX7 yX7_isEaten wsX7_isEaten) := goodIn_app (goodIn_of _ (by decide +kernel)) ggX7_eatenBits_X7_isEaten
set_option maxRecDepth 100000 in
theorem gX7_afloatBits_X7_isAfloat : GoodIn wsX7_afloatBits (wsV RX7 144 RX7 yX7_isAfloat wsX7_isAfloat) := goodIn_app (goodIn_of _ (by decide +kernel)) ggX7_afloatBits_X7_isAfloat
set_option maxRecDepth 100000 in
theorem gX7_shoreBits_X7_areNear : GoodIn wsX7_shoreBits (va_wsS RX7 150 yX7_areNear wsX7_areNear) := goodIn_app (goodIn_of _ (by decide +kernel)) ggX7_shoreBits_X7_areNear
set_option maxRecDepth 100000 in
theorem gX7_landBits_X7_shoreBits : GoodIn wsX7_landBits (wsV RX7 147 RX7 yX7_shoreBits wsX7_shoreBits) := goodIn_app (goodIn_of _ (by decide +kernel)) ggX7_landBits_X7_shoreBits
set_option maxRecDepth 20000 in
theorem lf_s_stirThickness_1 (x12 : Int32) (j13 : x12 = nI 1 ∨ x12 = nI 6) : 0 ≤ x12.toInt ∧ x12.toInt < ((7 : Nat) : Int) := by
  have b_x12 := ia_b x12
  try have k_0 := ia_n 1 (by first | decide | omega)
  try have k_1 := ia_n 6 (by first | decide | omega)
  try simp only [ia_lt, ia_le, ia_eq, ia_m1, ia_0, ia_1, ne_eq, true_and, and_true, false_and, and_false, or_false, false_or, or_true, true_or, not_true_eq_false, not_false_eq_true] at *
  all_goals omega
set_option maxRecDepth 20000 in
theorem lf_s_stirThickness_2 (x30 : Int32) (j31 : 0 ≤ x30.toInt) (j32 : x30.toInt ≤ 6) : 0 ≤ x30.toInt ∧ x30.toInt < ((7 : Nat) : Int) := by
  have b_x30 := ia_b x30
  try simp only [ia_lt, ia_le, ia_eq, ia_m1, ia_0, ia_1, ne_eq, true_and, and_true, false_and, and_false, or_false, false_or, or_true, true_or, not_true_eq_false, not_false_eq_true] at *
  all_goals omega
set_option maxRecDepth 20000 in
theorem lf_s_stirThickness_3 (x7 : Int32) (j8 : 0 ≤ x7.toInt) (j9 : x7.toInt ≤ 30) : 0 ≤ x7.toInt ∧ x7.toInt < ((31 : Nat) : Int) := by
  have b_x7 := ia_b x7
  try simp only [ia_lt, ia_le, ia_eq, ia_m1, ia_0, ia_1, ne_eq, true_and, and_true, false_and, and_false, or_false, false_or, or_true, true_or, not_true_eq_false, not_false_eq_true] at *
  all_goals omega
set_option maxRecDepth 20000 in
theorem lf_s_stirThickness_4 (x2 : Int32) (k21 : Nat) (n25 : Nat) (j3 : 0 ≤ x2.toInt) (j4 : x2.toInt ≤ 6) (j23 : k21 ≤ 6) (hm27 : 6 - k21 < n25 + 1) (c28 : ¬ x2 ≤ nI k21) : (k21 + 1) ≤ 6 := by
  have b_x2 := ia_b x2
  try have k_0 := ia_n k21 (by first | decide | omega)
  try simp only [ia_lt, ia_le, ia_eq, ia_m1, ia_0, ia_1, ne_eq, true_and, and_true, false_and, and_false, or_false, false_or, or_true, true_or, not_true_eq_false, not_false_eq_true] at *
  all_goals omega
set_option maxRecDepth 20000 in
theorem lf_s_stirThickness_5 (x2 : Int32) (k21 : Nat) (n25 : Nat) (j3 : 0 ≤ x2.toInt) (j4 : x2.toInt ≤ 6) (j23 : k21 ≤ 6) (hm27 : 6 - k21 < n25 + 1) (c28 : ¬ x2 ≤ nI k21) : 6 - (k21 + 1) < n25 := by
  have b_x2 := ia_b x2
  try have k_0 := ia_n k21 (by first | decide | omega)
  try simp only [ia_lt, ia_le, ia_eq, ia_m1, ia_0, ia_1, ne_eq, true_and, and_true, false_and, and_false, or_false, false_or, or_true, true_or, not_true_eq_false, not_false_eq_true] at *
  all_goals omega
set_option maxRecDepth 20000 in
theorem lf_s_stirThickness_6 (x2 : Int32) (k21 : Nat) (n25 : Nat) (j3 : 0 ≤ x2.toInt) (j4 : x2.toInt ≤ 6) (j23 : k21 ≤ 6) (hm27 : 6 - k21 < n25 + 1) (c28 : ¬ x2 ≤ nI k21) : (k21 + 1) ≤ 6 := by
  have b_x2 := ia_b x2
  try have k_0 := ia_n k21 (by first | decide | omega)
  try simp only [ia_lt, ia_le, ia_eq, ia_m1, ia_0, ia_1, ne_eq, true_and, and_true, false_and, and_false, or_false, false_or, or_true, true_or, not_true_eq_false, not_false_eq_true] at *
  all_goals omega
set_option maxRecDepth 20000 in
theorem lf_s_stirThickness_7 (x2 : Int32) (k21 : Nat) (n25 : Nat) (j3 : 0 ≤ x2.toInt) (j4 : x2.toInt ≤ 6) (j23 : k21 ≤ 6) (hm27 : 6 - k21 < n25 + 1) (c28 : ¬ x2 ≤ nI k21) : 6 - (k21 + 1) < n25 := by
  have b_x2 := ia_b x2
  try have k_0 := ia_n k21 (by first | decide | omega)
  try simp only [ia_lt, ia_le, ia_eq, ia_m1, ia_0, ia_1, ne_eq, true_and, and_true, false_and, and_false, or_false, false_or, or_true, true_or, not_true_eq_false, not_false_eq_true] at *
  all_goals omega
set_option maxRecDepth 20000 in
theorem lf_s_stirThickness_8 (x7 : Int32) (x12 : Int32) (f22 : Nat → Int32) (x30 : Int32) (n34 : Nat) (n37 : Nat) (n41 : Nat) (y44 : Int32) (y49 : Int32) (j8 : 0 ≤ x7.toInt) (j9 : x7.toInt ≤ 30) (j13 : x12 = nI 1 ∨ x12 = nI 6) (j31 : 0 ≤ x30.toInt) (j32 : x30.toInt ≤ 6) (h35 : n34 < 7) (e36 : x12 = nI n34) (h38 : n37 < 7) (e39 : x30 = nI n37) (f40 : n34 * n37 ≤ 36) (h42 : n41 < 31) (e43 : x7 = nI n41) (f46 : y44.toInt = (((n41 + (n34 * n37)) : Nat) : Int) - ((n34 : Nat) : Int)) (c47 : ¬ y44 < 0) (c48 : (n41 + (n34 * n37)) < 36) (e50 : y49 = f22 (n41 + (n34 * n37))) : 0 ≤ y44.toInt ∧ y44.toInt < ((36 : Nat) : Int) := by
  have b_x7 := ia_b x7
  have b_x12 := ia_b x12
  have b_x30 := ia_b x30
  have b_y44 := ia_b y44
  have b_y49 := ia_b y49
  try have k_0 := ia_n 1 (by first | decide | omega)
  try have k_1 := ia_n 6 (by first | decide | omega)
  try have k_2 := ia_n n34 (by first | decide | omega)
  try have k_3 := ia_n n37 (by first | decide | omega)
  try have k_4 := ia_n n41 (by first | decide | omega)
  try simp only [ia_lt, ia_le, ia_eq, ia_m1, ia_0, ia_1, ne_eq, true_and, and_true, false_and, and_false, or_false, false_or, or_true, true_or, not_true_eq_false, not_false_eq_true] at *
  all_goals omega
set_option maxRecDepth 20000 in
theorem lf_s_stirThickness_9 (x2 : Int32) (k21 : Nat) (n25 : Nat) (j3 : 0 ≤ x2.toInt) (j4 : x2.toInt ≤ 6) (j23 : k21 ≤ 6) (hm27 : 6 - k21 < n25 + 1) (c28 : ¬ x2 ≤ nI k21) : (k21 + 1) ≤ 6 := by
  have b_x2 := ia_b x2
  try have k_0 := ia_n k21 (by first | decide | omega)
  try simp only [ia_lt, ia_le, ia_eq, ia_m1, ia_0, ia_1, ne_eq, true_and, and_true, false_and, and_false, or_false, false_or, or_true, true_or, not_true_eq_false, not_false_eq_true] at *
  all_goals omega
set_option maxRecDepth 20000 in
theorem lf_s_stirThickness_10 (x2 : Int32) (k21 : Nat) (n25 : Nat) (j3 : 0 ≤ x2.toInt) (j4 : x2.toInt ≤ 6) (j23 : k21 ≤ 6) (hm27 : 6 - k21 < n25 + 1) (c28 : ¬ x2 ≤ nI k21) : 6 - (k21 + 1) < n25 := by
  have b_x2 := ia_b x2
  try have k_0 := ia_n k21 (by first | decide | omega)
  try simp only [ia_lt, ia_le, ia_eq, ia_m1, ia_0, ia_1, ne_eq, true_and, and_true, false_and, and_false, or_false, false_or, or_true, true_or, not_true_eq_false, not_false_eq_true] at *
  all_goals omega
set_option maxRecDepth 20000 in
theorem lf_s_stirThickness_11 (x2 : Int32) (k21 : Nat) (n25 : Nat) (j3 : 0 ≤ x2.toInt) (j4 : x2.toInt ≤ 6) (j23 : k21 ≤ 6) (hm27 : 6 - k21 < n25 + 1) (c28 : ¬ x2 ≤ nI k21) : 0 ≤ x2.toInt ∧ x2.toInt < ((7 : Nat) : Int) := by
  have b_x2 := ia_b x2
  try have k_0 := ia_n k21 (by first | decide | omega)
  try simp only [ia_lt, ia_le, ia_eq, ia_m1, ia_0, ia_1, ne_eq, true_and, and_true, false_and, and_false, or_false, false_or, or_true, true_or, not_true_eq_false, not_false_eq_true] at *
  all_goals omega
set_option maxRecDepth 20000 in
theorem lf_s_stirThickness_12 (x2 : Int32) (k21 : Nat) (n25 : Nat) (n60 : Nat) (j3 : 0 ≤ x2.toInt) (j4 : x2.toInt ≤ 6) (j23 : k21 ≤ 6) (hm27 : 6 - k21 < n25 + 1) (c28 : ¬ x2 ≤ nI k21) (h61 : n60 < 7) (e62 : x2 = nI n60) : k21 ≤ n60 := by
  have b_x2 := ia_b x2
  try have k_0 := ia_n k21 (by first | decide | omega)
  try have k_1 := ia_n n60 (by first | decide | omega)
  try simp only [ia_lt, ia_le, ia_eq, ia_m1, ia_0, ia_1, ne_eq, true_and, and_true, false_and, and_false, or_false, false_or, or_true, true_or, not_true_eq_false, not_false_eq_true] at *
  all_goals omega
set_option maxRecDepth 20000 in
theorem lf_s_stirThickness_13 (x2 : Int32) (k21 : Nat) (n25 : Nat) (n60 : Nat) (j3 : 0 ≤ x2.toInt) (j4 : x2.toInt ≤ 6) (j23 : k21 ≤ 6) (hm27 : 6 - k21 < n25 + 1) (c28 : ¬ x2 ≤ nI k21) (h61 : n60 < 7) (e62 : x2 = nI n60) : 0 ≤ (nI (n60 - k21)).toInt := by
  have b_x2 := ia_b x2
  try have k_0 := ia_n k21 (by first | decide | omega)
  try have k_1 := ia_n n60 (by first | decide | omega)
  try have k_2 := ia_n (n60 - k21) (by first | decide | omega)
  try simp only [ia_lt, ia_le, ia_eq, ia_m1, ia_0, ia_1, ne_eq, true_and, and_true, false_and, and_false, or_false, false_or, or_true, true_or, not_true_eq_false, not_false_eq_true] at *
  all_goals omega
set_option maxRecDepth 20000 in
theorem lf_s_stirThickness_14 (x2 : Int32) (k21 : Nat) (n25 : Nat) (n60 : Nat) (j3 : 0 ≤ x2.toInt) (j4 : x2.toInt ≤ 6) (j23 : k21 ≤ 6) (hm27 : 6 - k21 < n25 + 1) (c28 : ¬ x2 ≤ nI k21) (h61 : n60 < 7) (e62 : x2 = nI n60) : (nI (n60 - k21)).toInt ≤ 6 := by
  have b_x2 := ia_b x2
  try have k_0 := ia_n k21 (by first | decide | omega)
  try have k_1 := ia_n n60 (by first | decide | omega)
  try have k_2 := ia_n (n60 - k21) (by first | decide | omega)
  try simp only [ia_lt, ia_le, ia_eq, ia_m1, ia_0, ia_1, ne_eq, true_and, and_true, false_and, and_false, or_false, false_or, or_true, true_or, not_true_eq_false, not_false_eq_true] at *
  all_goals omega
set_option maxRecDepth 20000 in
theorem lf_s_stirThickness_15 (x2 : Int32) (k21 : Nat) (n25 : Nat) (j3 : 0 ≤ x2.toInt) (j4 : x2.toInt ≤ 6) (j23 : k21 ≤ 6) (hm27 : 6 - k21 < n25 + 1) (c28 : ¬ x2 ≤ nI k21) : 0 ≤ (nI k21).toInt := by
  have b_x2 := ia_b x2
  try have k_0 := ia_n k21 (by first | decide | omega)
  try simp only [ia_lt, ia_le, ia_eq, ia_m1, ia_0, ia_1, ne_eq, true_and, and_true, false_and, and_false, or_false, false_or, or_true, true_or, not_true_eq_false, not_false_eq_true] at *
  all_goals omega
set_option maxRecDepth 20000 in
theorem lf_s_stirThickness_16 (x2 : Int32) (k21 : Nat) (n25 : Nat) (j3 : 0 ≤ x2.toInt) (j4 : x2.toInt ≤ 6) (j23 : k21 ≤ 6) (hm27 : 6 - k21 < n25 + 1) (c28 : ¬ x2 ≤ nI k21) : (nI k21).toInt ≤ 6 := by
  have b_x2 := ia_b x2
  try have k_0 := ia_n k21 (by first | decide | omega)
  try simp only [ia_lt, ia_le, ia_eq, ia_m1, ia_0, ia_1, ne_eq, true_and, and_true, false_and, and_false, or_false, false_or, or_true, true_or, not_true_eq_false, not_false_eq_true] at *
  all_goals omega
set_option maxRecDepth 20000 in
theorem lf_s_stirThickness_17   : 1 ≤ 6 := by
  try simp only [ia_lt, ia_le, ia_eq, ia_m1, ia_0, ia_1, ne_eq, true_and, and_true, false_and, and_false, or_false, false_or, or_true, true_or, not_true_eq_false, not_false_eq_true] at *
  all_goals omega
set_option maxRecDepth 20000 in
theorem lf_s_stirThickness_18   : (nI 1) = nI 1 ∨ (nI 1) = nI 6 := by
  try have k_0 := ia_n 1 (by first | decide | omega)
  try have k_1 := ia_n 6 (by first | decide | omega)
  try simp only [ia_lt, ia_le, ia_eq, ia_m1, ia_0, ia_1, ne_eq, true_and, and_true, false_and, and_false, or_false, false_or, or_true, true_or, not_true_eq_false, not_false_eq_true] at *
  all_goals omega
set_option maxRecDepth 20000 in
theorem lf_s_stirThickness_19   : (nI 6) = nI 1 ∨ (nI 6) = nI 6 := by
  try have k_0 := ia_n 6 (by first | decide | omega)
  try have k_1 := ia_n 1 (by first | decide | omega)
  try simp only [ia_lt, ia_le, ia_eq, ia_m1, ia_0, ia_1, ne_eq, true_and, and_true, false_and, and_false, or_false, false_or, or_true, true_or, not_true_eq_false, not_false_eq_true] at *
  all_goals omega
set_option maxRecDepth 20000 in
theorem lf_s_stirThickness_20 (n : Int32) (hn0 : 0 ≤ n.toInt) (hn6 : n.toInt < 6) : 0 ≤ n.toInt ∧ n.toInt < ((6 : Nat) : Int) := by
  have b_n := ia_b n
  try simp only [ia_lt, ia_le, ia_eq, ia_m1, ia_0, ia_1, ne_eq, true_and, and_true, false_and, and_false, or_false, false_or, or_true, true_or, not_true_eq_false, not_false_eq_true] at *
  all_goals omega
set_option maxRecDepth 20000 in
theorem lf_s_stirThickness_21 (n : Int32) (n63 : Nat) (hn0 : 0 ≤ n.toInt) (hn6 : n.toInt < 6) (h64 : n63 < 6) (e65 : n = nI n63) : 0 ≤ (nI (6 * n63)).toInt := by
  have b_n := ia_b n
  try have k_0 := ia_n n63 (by first | decide | omega)
  try have k_1 := ia_n (6 * n63) (by first | decide | omega)
  try simp only [ia_lt, ia_le, ia_eq, ia_m1, ia_0, ia_1, ne_eq, true_and, and_true, false_and, and_false, or_false, false_or, or_true, true_or, not_true_eq_false, not_false_eq_true] at *
  all_goals omega
set_option maxRecDepth 20000 in
theorem lf_s_stirThickness_22 (n : Int32) (n63 : Nat) (hn0 : 0 ≤ n.toInt) (hn6 : n.toInt < 6) (h64 : n63 < 6) (e65 : n = nI n63) : (nI (6 * n63)).toInt ≤ 30 := by
  have b_n := ia_b n
  try have k_0 := ia_n n63 (by first | decide | omega)
  try have k_1 := ia_n (6 * n63) (by first | decide | omega)
  try simp only [ia_lt, ia_le, ia_eq, ia_m1, ia_0, ia_1, ne_eq, true_and, and_true, false_and, and_false, or_false, false_or, or_true, true_or, not_true_eq_false, not_false_eq_true] at *
  all_goals omega
set_option maxRecDepth 20000 in
theorem lf_s_stirThickness_23 (n : Int32) (hn0 : 0 ≤ n.toInt) (hn6 : n.toInt < 6) : n.toInt ≤ 30 := by
  have b_n := ia_b n
  try simp only [ia_lt, ia_le, ia_eq, ia_m1, ia_0, ia_1, ne_eq, true_and, and_true, false_and, and_false, or_false, false_or, or_true, true_or, not_true_eq_false, not_false_eq_true] at *
  all_goals omega
set_option maxRecDepth 20000 in
theorem lf_s_stirThickness_24 (wide : Nat) (iv_a_0 : 2 ≤ wide) (iv_a_1 : wide ≤ 6) : 0 ≤ (nI wide).toInt := by
  try have k_0 := ia_n wide (by first | decide | omega)
  try simp only [ia_lt, ia_le, ia_eq, ia_m1, ia_0, ia_1, ne_eq, true_and, and_true, false_and, and_false, or_false, false_or, or_true, true_or, not_true_eq_false, not_false_eq_true] at *
  all_goals omega
set_option maxRecDepth 20000 in
theorem lf_s_stirThickness_25 (wide : Nat) (iv_a_0 : 2 ≤ wide) (iv_a_1 : wide ≤ 6) : (nI wide).toInt ≤ 6 := by
  try have k_0 := ia_n wide (by first | decide | omega)
  try simp only [ia_lt, ia_le, ia_eq, ia_m1, ia_0, ia_1, ne_eq, true_and, and_true, false_and, and_false, or_false, false_or, or_true, true_or, not_true_eq_false, not_false_eq_true] at *
  all_goals omega
set_option maxRecDepth 20000 in
theorem lf_s_stirThickness_26 (high : Nat) (iv_a_2 : 2 ≤ high) (iv_a_3 : high ≤ 6) : 0 ≤ (nI high).toInt := by
  try have k_0 := ia_n high (by first | decide | omega)
  try simp only [ia_lt, ia_le, ia_eq, ia_m1, ia_0, ia_1, ne_eq, true_and, and_true, false_and, and_false, or_false, false_or, or_true, true_or, not_true_eq_false, not_false_eq_true] at *
  all_goals omega
set_option maxRecDepth 20000 in
theorem lf_s_stirThickness_27 (high : Nat) (iv_a_2 : 2 ≤ high) (iv_a_3 : high ≤ 6) : (nI high).toInt ≤ 6 := by
  try have k_0 := ia_n high (by first | decide | omega)
  try simp only [ia_lt, ia_le, ia_eq, ia_m1, ia_0, ia_1, ne_eq, true_and, and_true, false_and, and_false, or_false, false_or, or_true, true_or, not_true_eq_false, not_false_eq_true] at *
  all_goals omega
set_option maxHeartbeats 4000000 in
set_option maxRecDepth 100000 in
theorem c_s_stirThickness (l : Launch) (dC : Nat → ClassId) (dI : Nat → Nat → Nat) (ky : Nat → ClassId) (sz : Nat) (a : Nat) (wide : Nat) (high : Nat) (heat : Int32) (cools : Int32) (skinHeat : Int32) (today : Int32) (stirs : Int32) (steps : Int32) (lumps : Nat) (boats : Nat) (thickness : Nat) (lumpNames : Nat) (lumpCells : Nat) (boatNames : Nat) (boatCells : Nat) (loads : Nat) (spoons : Nat) (spoonsLeft : Nat) (depths : Nat) (thicknessF : Nat → Int32) (column : Int32) (n : Int32) (back : Int32) (iv_a_0 : 2 ≤ wide) (iv_a_1 : wide ≤ 6) (iv_a_2 : 2 ≤ high) (iv_a_3 : high ≤ 6) (iv_a_4 : lumps ≤ 6) (iv_a_5 : boats ≤ 6) (hn0 : 0 ≤ n.toInt) (hn6 : n.toInt < 6) : Met l yX7_stirThickness wsX7_stirThickness ({ frames := 0, cells := 0, slots := 0, locals := 0 }) (PcU dC dI ky [.ref a, .int column, .int n, .int back] [(a, .inr (7, [.int (nI wide), .int (nI high), .int heat, .int cools, .int skinHeat, .int today, .int stirs, .int steps, .int (nI lumps), .int (nI boats), .ref thickness, .ref lumpNames, .ref lumpCells, .ref boatNames, .ref boatCells, .ref loads, .ref spoons, .ref spoonsLeft, .ref depths])), (thickness, .inl (ky 0, 36, .inl thicknessF))] sz) (va_Qv (fun (thicknessG : (Nat → Int32)) => True) (BU dC dI ky (fun (thicknessG : (Nat → Int32)) => [(a, .inr (7, [.int (nI wide), .int (nI high), .int heat, .int cools, .int skinHeat, .int today, .int stirs, .int steps, .int (nI lumps), .int (nI boats), .ref thickness, .ref lumpNames, .ref lumpCells, .ref boatNames, .ref boatCells, .ref loads, .ref spoons, .ref spoonsLeft, .ref depths])), (thickness, .inl (ky 0, 36, .inl thicknessG))]) (va_A [(a, .inr (7, [.int (nI wide), .int (nI high), .int heat, .int cools, .int skinHeat, .int today, .int stirs, .int steps, .int (nI lumps), .int (nI boats), .ref thickness, .ref lumpNames, .ref lumpCells, .ref boatNames, .ref boatCells, .ref loads, .ref spoons, .ref spoonsLeft, .ref depths])), (thickness, .inl (ky 0, 36, .inl thicknessF))] sz)) (va_A [(a, .inr (7, [.int (nI wide), .int (nI high), .int heat, .int cools, .int skinHeat, .int today, .int stirs, .int steps, .int (nI lumps), .int (nI boats), .ref thickness, .ref lumpNames, .ref lumpCells, .ref boatNames, .ref boatCells, .ref loads, .ref spoons, .ref spoonsLeft, .ref depths])), (thickness, .inl (ky 0, 36, .inl thicknessF))] sz)) 0 0 (va_A [(a, .inr (7, [.int (nI wide), .int (nI high), .int heat, .int cools, .int skinHeat, .int today, .int stirs, .int steps, .int (nI lumps), .int (nI boats), .ref thickness, .ref lumpNames, .ref lumpCells, .ref boatNames, .ref boatCells, .ref loads, .ref spoons, .ref spoonsLeft, .ref depths])), (thickness, .inl (ky 0, 36, .inl thicknessF))] sz) := by
  refine Met.ofW (cc := cX7_stirThickness) (maxL := 11) (ret := none) (by decide) rfl ?_
  intro p e s m args below meth c s₁ B hml hv
  obtain ⟨rfl, hsz, hP, hK, hD0⟩ := hv
  have hx := B.exec
  have hb := B.bytes
  have hr := B.returns
  have hts := atoms_spec (ws := wsX7_stirThickness) B.pre
  have hown : s.vm.findClass RX7 = some m.cls := findClass_of_methodNamed B.named
  have hlocks := B.notSynchronized
  have hin7 : ∀ w ∈ u_ws RX7 TX7 19, w ∈ wsX7_stirThickness := by decide +kernel
  subst hsz
  have hD := hD0.self (sz := s.heap.size)
  generalize hAe : va_A [(a, .inr (7, [.int (nI wide), .int (nI high), .int heat, .int cools, .int skinHeat, .int today, .int stirs, .int steps, .int (nI lumps), .int (nI boats), .ref thickness, .ref lumpNames, .ref lumpCells, .ref boatNames, .ref boatCells, .ref loads, .ref spoons, .ref spoonsLeft, .ref depths])), (thickness, .inl (ky 0, 36, .inl thicknessF))] s.heap.size = A at hD ⊢
  have hA : ∀ q : Nat, s.heap.size ≤ q → A q := fun q h => by rw [← hAe]; exact Or.inr h
  have hS : va_S A s.heap s.heap [] := va_S.rf
  have hl := lv_entry ([.ref a, .int column, .int n, .int back]) (n := 11) (Nat.le_of_ble_eq_true rfl)
  rw [lg_entry_eq]
  generalize (lg_sl ([.ref a, .int column, .int n, .int back]) ++ List.replicate (11 - (lg_sl ([.ref a, .int column, .int n, .int back])).length) Slot.unset).toArray = ls at hl ⊢
  have hl : lv_has ls 11 [(0, .ref a), (1, .int column), (2, .int n), (3, .int back)] := hl
  refine q_name (fun Q hQ => ?_)
  generalize ([.ref a, .int column, .int n, .int back] : List Value).toArray = args at hts hQ ⊢
  refine lv_iload_n hx hb dX7_stirThickness_0 rfl (lv_at hl 1 rfl) ?_
  refine lv_iconst (v := nI 1) hx hb dX7_stirThickness_1 (by decide) ?_
  have hJ5 : ∀ (x2 : Int32), (0 ≤ x2.toInt) → (x2.toInt ≤ 6) → ∀ (H : Heap) (locs : List Loc) (ls : Array Slot), va_P (dC, dI) vwCl [(a, .inr (7, [.int (nI wide), .int (nI high), .int heat, .int cools, .int skinHeat, .int today, .int stirs, .int steps, .int (nI lumps), .int (nI boats), .ref thickness, .ref lumpNames, .ref lumpCells, .ref boatNames, .ref boatCells, .ref loads, .ref spoons, .ref spoonsLeft, .ref depths])), (thickness, .inl (ky 0, 36, .inl thicknessF))] H → va_D A [(a, .inr (7, [.int (nI wide), .int (nI high), .int heat, .int cools, .int skinHeat, .int today, .int stirs, .int steps, .int (nI lumps), .int (nI boats), .ref thickness, .ref lumpNames, .ref lumpCells, .ref boatNames, .ref boatCells, .ref loads, .ref spoons, .ref spoonsLeft, .ref depths])), (thickness, .inl (ky 0, 36, .inl thicknessF))] → va_S A s.heap H locs → lv_has ls 11 [(0, .ref a), (1, .int column), (2, .int n), (3, .int back)] → W p l e (headSpec wsX7_stirThickness ({ frames := 0, cells := 0, slots := 0, locals := 0 })).room s m args below meth c H locs 0 0 Q (F0 m 16 ls [.int x2]) := by
    intro x2 j3 j4 H locs ls hP hD hS hl
    refine lv_istore (lv' := [(4, .int x2), (0, .ref a), (1, .int column), (2, .int n), (3, .int back)]) hx hb dX7_stirThickness_16 hl (by decide) rfl (fun ls hl => ?_)
    refine lv_iload_n hx hb dX7_stirThickness_18 rfl (lv_at hl 2 rfl) ?_
    refine lv_iconst (v := nI 1) hx hb dX7_stirThickness_19 (by decide) ?_
    have hJ10 : ∀ (x7 : Int32), (0 ≤ x7.toInt) → (x7.toInt ≤ 30) → ∀ (H : Heap) (locs : List Loc) (ls : Array Slot), va_P (dC, dI) vwCl [(a, .inr (7, [.int (nI wide), .int (nI high), .int heat, .int cools, .int skinHeat, .int today, .int stirs, .int steps, .int (nI lumps), .int (nI boats), .ref thickness, .ref lumpNames, .ref lumpCells, .ref boatNames, .ref boatCells, .ref loads, .ref spoons, .ref spoonsLeft, .ref depths])), (thickness, .inl (ky 0, 36, .inl thicknessF))] H → va_D A [(a, .inr (7, [.int (nI wide), .int (nI high), .int heat, .int cools, .int skinHeat, .int today, .int stirs, .int steps, .int (nI lumps), .int (nI boats), .ref thickness, .ref lumpNames, .ref lumpCells, .ref boatNames, .ref boatCells, .ref loads, .ref spoons, .ref spoonsLeft, .ref depths])), (thickness, .inl (ky 0, 36, .inl thicknessF))] → va_S A s.heap H locs → lv_has ls 11 [(4, .int x2), (0, .ref a), (1, .int column), (3, .int back)] → W p l e (headSpec wsX7_stirThickness ({ frames := 0, cells := 0, slots := 0, locals := 0 })).room s m args below meth c H locs 0 0 Q (F0 m 31 ls [.int x7]) := by
      intro x7 j8 j9 H locs ls hP hD hS hl
      refine lv_istore (lv' := [(5, .int x7), (4, .int x2), (0, .ref a), (1, .int column), (3, .int back)]) hx hb dX7_stirThickness_31 hl (by decide) rfl (fun ls hl => ?_)
      refine lv_iload_n hx hb dX7_stirThickness_33 rfl (lv_at hl 3 rfl) ?_
      refine lv_iconst (v := nI 1) hx hb dX7_stirThickness_34 (by decide) ?_
      have hJ14 : ∀ (x12 : Int32), (x12 = nI 1 ∨ x12 = nI 6) → ∀ (H : Heap) (locs : List Loc) (ls : Array Slot), va_P (dC, dI) vwCl [(a, .inr (7, [.int (nI wide), .int (nI high), .int heat, .int cools, .int skinHeat, .int today, .int stirs, .int steps, .int (nI lumps), .int (nI boats), .ref thickness, .ref lumpNames, .ref lumpCells, .ref boatNames, .ref boatCells, .ref loads, .ref spoons, .ref spoonsLeft, .ref depths])), (thickness, .inl (ky 0, 36, .inl thicknessF))] H → va_D A [(a, .inr (7, [.int (nI wide), .int (nI high), .int heat, .int cools, .int skinHeat, .int today, .int stirs, .int steps, .int (nI lumps), .int (nI boats), .ref thickness, .ref lumpNames, .ref lumpCells, .ref boatNames, .ref boatCells, .ref loads, .ref spoons, .ref spoonsLeft, .ref depths])), (thickness, .inl (ky 0, 36, .inl thicknessF))] → va_S A s.heap H locs → lv_has ls 11 [(5, .int x7), (4, .int x2), (0, .ref a), (3, .int back)] → W p l e (headSpec wsX7_stirThickness ({ frames := 0, cells := 0, slots := 0, locals := 0 })).room s m args below meth c H locs 0 0 Q (F0 m 44 ls [.int x12]) := by
        intro x12 j13 H locs ls hP hD hS hl
        refine lv_istore (lv' := [(6, .int x12), (5, .int x7), (4, .int x2), (0, .ref a), (3, .int back)]) hx hb dX7_stirThickness_44 hl (by decide) rfl (fun ls hl => ?_)
        refine lv_iconst (v := nI 1) hx hb dX7_stirThickness_46 (by decide) ?_
        refine lv_istore (lv' := [(7, .int (nI 1)), (6, .int x12), (5, .int x7), (4, .int x2), (0, .ref a), (3, .int back)]) hx hb dX7_stirThickness_47 hl (by decide) rfl (fun ls hl => ?_)
        have hL24 : ∀ (n25 : Nat) (k21 : Nat) (f22 : Nat → Int32), (k21 ≤ 6) → 6 - k21 < n25 → ∀ (H : Heap) (locs : List Loc) (ls : Array Slot), va_P (dC, dI) vwCl [(a, .inr (7, [.int (nI wide), .int (nI high), .int heat, .int cools, .int skinHeat, .int today, .int stirs, .int steps, .int (nI lumps), .int (nI boats), .ref thickness, .ref lumpNames, .ref lumpCells, .ref boatNames, .ref boatCells, .ref loads, .ref spoons, .ref spoonsLeft, .ref depths])), (thickness, .inl (ky 0, 36, .inl f22))] H → va_D A [(a, .inr (7, [.int (nI wide), .int (nI high), .int heat, .int cools, .int skinHeat, .int today, .int stirs, .int steps, .int (nI lumps), .int (nI boats), .ref thickness, .ref lumpNames, .ref lumpCells, .ref boatNames, .ref boatCells, .ref loads, .ref spoons, .ref spoonsLeft, .ref depths])), (thickness, .inl (ky 0, 36, .inl f22))] → va_S A s.heap H locs → lv_has ls 11 [(7, .int (nI k21)), (6, .int x12), (5, .int x7), (4, .int x2), (0, .ref a), (3, .int back)] → W p l e (headSpec wsX7_stirThickness ({ frames := 0, cells := 0, slots := 0, locals := 0 })).room s m args below meth c H locs 0 0 Q (F0 m 49 ls []) := by
          intro n25
          induction n25 with
          | zero => intro k21 f22 _ h9; exact absurd h9 (Nat.not_lt_zero _)
          | succ n25 ih26 =>
            intro k21 f22 j23 hm27 H locs ls hP hD hS hl
            refine lv_iload hx hb dX7_stirThickness_49 (lv_at hl 0 rfl) ?_
            refine lv_iload hx hb dX7_stirThickness_51 (lv_at hl 3 rfl) ?_
            refine lv_icmp_ge (tgt := 136) hx hb dX7_stirThickness_53 (by decide) (fun c28 => ?_) (fun c28 => ?_)
            · rw [hQ]
              exact W.vret hx hb hr (fun t9 ht9 hW9 => ⟨⟨f22, rfl, trivial, by rw [ht9]; exact hP, va_K.moved hW9.alike hK, hD⟩, hS.F ht9⟩) hS.2.2 dX7_stirThickness_136
            · refine lv_iload hx hb dX7_stirThickness_56 (lv_at hl 2 rfl) ?_
              refine lv_iload hx hb dX7_stirThickness_58 (lv_at hl 1 rfl) ?_
              refine lv_iload_n hx hb dX7_stirThickness_60 rfl (lv_at hl 5 rfl) ?_
              refine lv_iconst (v := nI 1) hx hb dX7_stirThickness_61 (by decide) ?_
              have hJ33 : ∀ (x30 : Int32), (0 ≤ x30.toInt) → (x30.toInt ≤ 6) → ∀ (H : Heap) (locs : List Loc) (ls : Array Slot), va_P (dC, dI) vwCl [(a, .inr (7, [.int (nI wide), .int (nI high), .int heat, .int cools, .int skinHeat, .int today, .int stirs, .int steps, .int (nI lumps), .int (nI boats), .ref thickness, .ref lumpNames, .ref lumpCells, .ref boatNames, .ref boatCells, .ref loads, .ref spoons, .ref spoonsLeft, .ref depths])), (thickness, .inl (ky 0, 36, .inl f22))] H → va_D A [(a, .inr (7, [.int (nI wide), .int (nI high), .int heat, .int cools, .int skinHeat, .int today, .int stirs, .int steps, .int (nI lumps), .int (nI boats), .ref thickness, .ref lumpNames, .ref lumpCells, .ref boatNames, .ref boatCells, .ref loads, .ref spoons, .ref spoonsLeft, .ref depths])), (thickness, .inl (ky 0, 36, .inl f22))] → va_S A s.heap H locs → lv_has ls 11 [(7, .int (nI k21)), (6, .int x12), (5, .int x7), (4, .int x2), (0, .ref a), (3, .int back)] → W p l e (headSpec wsX7_stirThickness ({ frames := 0, cells := 0, slots := 0, locals := 0 })).room s m args below meth c H locs 0 0 Q (F0 m 75 ls [.int x30, .int x12, .int x7]) := by
                intro x30 j31 j32 H locs ls hP hD hS hl
                obtain ⟨n34, h35, e36⟩ := nat_of x12 7 (by decide) (lf_s_stirThickness_1 x12 j13)
                rw [e36]
                obtain ⟨n37, h38, e39⟩ := nat_of x30 7 (by decide) (lf_s_stirThickness_2 x30 j31 j32)
                rw [e39]
                refine lv_imul hx hb dX7_stirThickness_75 ?_
                refine r_ti (nI (n34 * n37)) (pk_mul _ _) ?_
                have f40 : n34 * n37 ≤ 36 := Nat.mul_le_mul (show n34 ≤ 6 by omega) (show n37 ≤ 6 by omega)
                obtain ⟨n41, h42, e43⟩ := nat_of x7 31 (by decide) (lf_s_stirThickness_3 x7 j8 j9)
                rw [e43]
                refine lv_iadd hx hb dX7_stirThickness_76 ?_
                refine r_ti (nI (n41 + (n34 * n37))) (nI_add _ _) ?_
                refine lv_istore (lv' := [(8, .int (nI (n41 + (n34 * n37)))), (7, .int (nI k21)), (6, .int x12), (5, .int x7), (4, .int x2), (0, .ref a), (3, .int back)]) hx hb dX7_stirThickness_77 hl (by decide) rfl (fun ls hl => ?_)
                refine lv_iload hx hb dX7_stirThickness_79 (lv_at hl 0 rfl) ?_
                refine lv_iload hx hb dX7_stirThickness_81 (lv_at hl 2 rfl) ?_
                rw [e36]
                refine lv_isub hx hb dX7_stirThickness_83 ?_
                refine lv_topi (fun y44 e45 => ?_)
                have f46 : y44.toInt = (((n41 + (n34 * n37)) : Nat) : Int) - ((n34 : Nat) : Int) := by rw [e45]; exact ia_sub _ _ (by omega) (by omega)
                refine lv_istore (lv' := [(9, .int y44), (8, .int (nI (n41 + (n34 * n37)))), (7, .int (nI k21)), (6, .int x12), (5, .int x7), (4, .int x2), (0, .ref a), (3, .int back)]) hx hb dX7_stirThickness_84 hl (by decide) rfl (fun ls hl => ?_)
                refine lv_iload hx hb dX7_stirThickness_86 (lv_at hl 0 rfl) ?_
                refine lv_if_lt (tgt := 130) hx hb dX7_stirThickness_88 (by decide) (fun c47 => ?_) (fun c47 => ?_)
                · refine lv_iinc (v := nI (k21 + 1)) (lv' := [(7, .int (nI (k21 + 1))), (9, .int y44), (8, .int (nI (n41 + (n34 * n37)))), (6, .int x12), (5, .int x7), (4, .int x2), (0, .ref a), (3, .int back)]) hx hb dX7_stirThickness_130 hl (k := 2) rfl (show nI k21 + nI 1 = nI (k21 + 1) from nI_add _ _) (by decide) rfl (fun ls hl => ?_)
                  refine lv_goto (tgt := 49) hx hb dX7_stirThickness_133 (by decide) ?_
                  exact ih26 (k21 + 1) f22 (lf_s_stirThickness_4 x2 k21 n25 j3 j4 j23 hm27 c28) (lf_s_stirThickness_5 x2 k21 n25 j3 j4 j23 hm27 c28) _ _ _ hP hD hS (lv_sub hl [0, 3, 4, 5, 6, 7] rfl)
                · refine lv_iload hx hb dX7_stirThickness_91 (lv_at hl 1 rfl) ?_
                  refine lv_bipush (v := nI 36) hx hb dX7_stirThickness_93 (by decide) ?_
                  refine n_icmp_ge (x := (n41 + (n34 * n37))) (y := 36) (tgt := 130) hx hb (by omega) (by omega) dX7_stirThickness_95 (by decide) (fun c48 => ?_) (fun c48 => ?_)
                  · refine lv_iinc (v := nI (k21 + 1)) (lv' := [(7, .int (nI (k21 + 1))), (9, .int y44), (8, .int (nI (n41 + (n34 * n37)))), (6, .int x12), (5, .int x7), (4, .int x2), (0, .ref a), (3, .int back)]) hx hb dX7_stirThickness_130 hl (k := 2) rfl (show nI k21 + nI 1 = nI (k21 + 1) from nI_add _ _) (by decide) rfl (fun ls hl => ?_)
                    refine lv_goto (tgt := 49) hx hb dX7_stirThickness_133 (by decide) ?_
                    exact ih26 (k21 + 1) f22 (lf_s_stirThickness_6 x2 k21 n25 j3 j4 j23 hm27 c28) (lf_s_stirThickness_7 x2 k21 n25 j3 j4 j23 hm27 c28) _ _ _ hP hD hS (lv_sub hl [0, 3, 4, 5, 6, 7] rfl)
                  · refine lv_aload_n hx hb dX7_stirThickness_98 rfl (lv_at hl 6 rfl) ?_
                    refine va_get (D := (dC, dI)) (ci := 7) (v := .ref thickness) (C := RX7) (T := TX7) (N := 19) hx hb hts hin7 hown hK hP 0 rfl rfl 10 (by decide) (hts (.fieldLink RX7 9 "PorridgeSea$Sea" "thickness" "[I") (List.mem_of_getElem? (i := 3) rfl)) (fun _ h9 => h9) rfl dX7_stirThickness_99 ?_
                    refine lv_iload hx hb dX7_stirThickness_102 (lv_at hl 1 rfl) ?_
                    obtain ⟨y49, e50⟩ : ∃ z9, z9 = f22 (n41 + (n34 * n37)) := ⟨_, rfl⟩
                    refine r_iald hx hb hK hP 1 rfl (n41 + (n34 * n37)) (by omega) (by decide) y49 e50.symm dX7_stirThickness_104 ?_
                    refine lv_istore (lv' := [(10, .int y49), (9, .int y44), (8, .int (nI (n41 + (n34 * n37)))), (7, .int (nI k21)), (6, .int x12), (5, .int x7), (4, .int x2), (0, .ref a), (3, .int back)]) hx hb dX7_stirThickness_105 hl (by decide) rfl (fun ls hl => ?_)
                    refine lv_aload_n hx hb dX7_stirThickness_107 rfl (lv_at hl 7 rfl) ?_
                    refine va_get (D := (dC, dI)) (ci := 7) (v := .ref thickness) (C := RX7) (T := TX7) (N := 19) hx hb hts hin7 hown hK hP 0 rfl rfl 10 (by decide) (hts (.fieldLink RX7 9 "PorridgeSea$Sea" "thickness" "[I") (List.mem_of_getElem? (i := 3) rfl)) (fun _ h9 => h9) rfl dX7_stirThickness_108 ?_
                    refine lv_iload hx hb dX7_stirThickness_111 (lv_at hl 2 rfl) ?_
                    refine lv_aload_n hx hb dX7_stirThickness_113 rfl (lv_at hl 7 rfl) ?_
                    refine va_get (D := (dC, dI)) (ci := 7) (v := .ref thickness) (C := RX7) (T := TX7) (N := 19) hx hb hts hin7 hown hK hP 0 rfl rfl 10 (by decide) (hts (.fieldLink RX7 9 "PorridgeSea$Sea" "thickness" "[I") (List.mem_of_getElem? (i := 3) rfl)) (fun _ h9 => h9) rfl dX7_stirThickness_114 ?_
                    refine lv_iload hx hb dX7_stirThickness_117 (lv_at hl 1 rfl) ?_
                    obtain ⟨n51, h52, e53⟩ := nat_of y44 36 (by decide) (lf_s_stirThickness_8 x7 x12 f22 x30 n34 n37 n41 y44 y49 j8 j9 j13 j31 j32 h35 e36 h38 e39 f40 h42 e43 f46 c47 c48 e50)
                    rw [e53]
                    obtain ⟨y54, e55⟩ : ∃ z9, z9 = f22 n51 := ⟨_, rfl⟩
                    refine r_iald hx hb hK hP 1 rfl n51 (by omega) (by decide) y54 e55.symm dX7_stirThickness_119 ?_
                    refine r_iast (x := y54) hx hb hK hP hD hS 1 rfl (n41 + (n34 * n37)) (by omega) (by decide) dX7_stirThickness_120 (fun H locs hP hD hS => ?_)
                    obtain ⟨g56, e57⟩ : ∃ z9, z9 = upd f22 (n41 + (n34 * n37)) y54 := ⟨_, rfl⟩
                    rw [← e57] at hP hD
                    have hP : va_P (dC, dI) vwCl [(a, .inr (7, [.int (nI wide), .int (nI high), .int heat, .int cools, .int skinHeat, .int today, .int stirs, .int steps, .int (nI lumps), .int (nI boats), .ref thickness, .ref lumpNames, .ref lumpCells, .ref boatNames, .ref boatCells, .ref loads, .ref spoons, .ref spoonsLeft, .ref depths])), (thickness, .inl (ky 0, 36, .inl g56))] H := hP
                    have hD : va_D A [(a, .inr (7, [.int (nI wide), .int (nI high), .int heat, .int cools, .int skinHeat, .int today, .int stirs, .int steps, .int (nI lumps), .int (nI boats), .ref thickness, .ref lumpNames, .ref lumpCells, .ref boatNames, .ref boatCells, .ref loads, .ref spoons, .ref spoonsLeft, .ref depths])), (thickness, .inl (ky 0, 36, .inl g56))] := hD
                    refine lv_aload_n hx hb dX7_stirThickness_121 rfl (lv_at hl 7 rfl) ?_
                    refine va_get (D := (dC, dI)) (ci := 7) (v := .ref thickness) (C := RX7) (T := TX7) (N := 19) hx hb hts hin7 hown hK hP 0 rfl rfl 10 (by decide) (hts (.fieldLink RX7 9 "PorridgeSea$Sea" "thickness" "[I") (List.mem_of_getElem? (i := 3) rfl)) (fun _ h9 => h9) rfl dX7_stirThickness_122 ?_
                    refine lv_iload hx hb dX7_stirThickness_125 (lv_at hl 1 rfl) ?_
                    refine lv_iload hx hb dX7_stirThickness_127 (lv_at hl 0 rfl) ?_
                    rw [e53]
                    refine r_iast (x := y49) hx hb hK hP hD hS 1 rfl n51 (by omega) (by decide) dX7_stirThickness_129 (fun H locs hP hD hS => ?_)
                    obtain ⟨g58, e59⟩ : ∃ z9, z9 = upd g56 n51 y49 := ⟨_, rfl⟩
                    rw [← e59] at hP hD
                    have hP : va_P (dC, dI) vwCl [(a, .inr (7, [.int (nI wide), .int (nI high), .int heat, .int cools, .int skinHeat, .int today, .int stirs, .int steps, .int (nI lumps), .int (nI boats), .ref thickness, .ref lumpNames, .ref lumpCells, .ref boatNames, .ref boatCells, .ref loads, .ref spoons, .ref spoonsLeft, .ref depths])), (thickness, .inl (ky 0, 36, .inl g58))] H := hP
                    have hD : va_D A [(a, .inr (7, [.int (nI wide), .int (nI high), .int heat, .int cools, .int skinHeat, .int today, .int stirs, .int steps, .int (nI lumps), .int (nI boats), .ref thickness, .ref lumpNames, .ref lumpCells, .ref boatNames, .ref boatCells, .ref loads, .ref spoons, .ref spoonsLeft, .ref depths])), (thickness, .inl (ky 0, 36, .inl g58))] := hD
                    refine lv_iinc (v := nI (k21 + 1)) (lv' := [(7, .int (nI (k21 + 1))), (10, .int y49), (9, .int y44), (8, .int (nI (n41 + (n34 * n37)))), (6, .int x12), (5, .int x7), (4, .int x2), (0, .ref a), (3, .int back)]) hx hb dX7_stirThickness_130 hl (k := 3) rfl (show nI k21 + nI 1 = nI (k21 + 1) from nI_add _ _) (by decide) rfl (fun ls hl => ?_)
                    refine lv_goto (tgt := 49) hx hb dX7_stirThickness_133 (by decide) ?_
                    exact ih26 (k21 + 1) g58 (lf_s_stirThickness_9 x2 k21 n25 j3 j4 j23 hm27 c28) (lf_s_stirThickness_10 x2 k21 n25 j3 j4 j23 hm27 c28) _ _ _ hP hD hS (lv_sub hl [0, 4, 5, 6, 7, 8] rfl)
              refine lv_icmp_ne (tgt := 70) hx hb dX7_stirThickness_62 (by decide) (fun c29 => ?_) (fun c29 => ?_)
              · refine lv_iload hx hb dX7_stirThickness_70 (lv_at hl 3 rfl) ?_
                refine lv_iload hx hb dX7_stirThickness_72 (lv_at hl 0 rfl) ?_
                obtain ⟨n60, h61, e62⟩ := nat_of x2 7 (by decide) (lf_s_stirThickness_11 x2 k21 n25 j3 j4 j23 hm27 c28)
                rw [e62]
                refine lv_isub hx hb dX7_stirThickness_74 ?_
                refine r_ti (nI (n60 - k21)) (pk_sub (lf_s_stirThickness_12 x2 k21 n25 n60 j3 j4 j23 hm27 c28 h61 e62)) ?_
                exact hJ33 (nI (n60 - k21)) (lf_s_stirThickness_13 x2 k21 n25 n60 j3 j4 j23 hm27 c28 h61 e62) (lf_s_stirThickness_14 x2 k21 n25 n60 j3 j4 j23 hm27 c28 h61 e62) _ _ _ hP hD hS (lv_sub hl [0, 1, 2, 3, 4, 5] rfl)
              · refine lv_iload hx hb dX7_stirThickness_65 (lv_at hl 0 rfl) ?_
                refine lv_goto (tgt := 75) hx hb dX7_stirThickness_67 (by decide) ?_
                exact hJ33 (nI k21) (lf_s_stirThickness_15 x2 k21 n25 j3 j4 j23 hm27 c28) (lf_s_stirThickness_16 x2 k21 n25 j3 j4 j23 hm27 c28) _ _ _ hP hD hS (lv_sub hl [0, 1, 2, 3, 4, 5] rfl)
        exact hL24 ((6 - 1) + 1) 1 thicknessF (lf_s_stirThickness_17) (Nat.lt_succ_self _) _ _ _ hP hD hS (lv_sub hl [0, 1, 2, 3, 4, 5] rfl)
      refine lv_icmp_ne (tgt := 43) hx hb dX7_stirThickness_35 (by decide) (fun c11 => ?_) (fun c11 => ?_)
      · refine lv_iconst (v := nI 1) hx hb dX7_stirThickness_43 (by decide) ?_
        exact hJ14 (nI 1) (lf_s_stirThickness_18) _ _ _ hP hD hS (lv_sub hl [0, 1, 2, 4] rfl)
      · refine lv_bipush (v := nI 6) hx hb dX7_stirThickness_38 (by decide) ?_
        refine lv_goto (tgt := 44) hx hb dX7_stirThickness_40 (by decide) ?_
        exact hJ14 (nI 6) (lf_s_stirThickness_19) _ _ _ hP hD hS (lv_sub hl [0, 1, 2, 4] rfl)
    refine lv_icmp_ne (tgt := 27) hx hb dX7_stirThickness_20 (by decide) (fun c6 => ?_) (fun c6 => ?_)
    · refine lv_bipush (v := nI 6) hx hb dX7_stirThickness_27 (by decide) ?_
      refine lv_iload_n hx hb dX7_stirThickness_29 rfl (lv_at hl 3 rfl) ?_
      obtain ⟨n63, h64, e65⟩ := nat_of n 6 (by decide) (lf_s_stirThickness_20 n hn0 hn6)
      rw [e65]
      refine lv_imul hx hb dX7_stirThickness_30 ?_
      refine r_ti (nI (6 * n63)) (pk_mul _ _) ?_
      exact hJ10 (nI (6 * n63)) (lf_s_stirThickness_21 n n63 hn0 hn6 h64 e65) (lf_s_stirThickness_22 n n63 hn0 hn6 h64 e65) _ _ _ hP hD hS (lv_sub hl [0, 1, 2, 4] rfl)
    · refine lv_iload_n hx hb dX7_stirThickness_23 rfl (lv_at hl 3 rfl) ?_
      refine lv_goto (tgt := 31) hx hb dX7_stirThickness_24 (by decide) ?_
      exact hJ10 n hn0 (lf_s_stirThickness_23 n hn0 hn6) _ _ _ hP hD hS (lv_sub hl [0, 1, 2, 4] rfl)
  refine lv_icmp_ne (tgt := 12) hx hb dX7_stirThickness_2 (by decide) (fun c1 => ?_) (fun c1 => ?_)
  · refine lv_aload_n hx hb dX7_stirThickness_12 rfl (lv_at hl 0 rfl) ?_
    refine va_get (D := (dC, dI)) (ci := 7) (v := .int (nI wide)) (C := RX7) (T := TX7) (N := 19) hx hb hts hin7 hown hK hP 0 rfl rfl 0 (by decide) (hts (.fieldLink RX7 43 "PorridgeSea$Sea" "wide" "I") (List.mem_of_getElem? (i := 2) rfl)) (fun _ h9 => h9) rfl dX7_stirThickness_13 ?_
    exact hJ5 (nI wide) (lf_s_stirThickness_24 wide iv_a_0 iv_a_1) (lf_s_stirThickness_25 wide iv_a_0 iv_a_1) _ _ _ hP hD hS (lv_sub hl [0, 1, 2, 3] rfl)
  · refine lv_aload_n hx hb dX7_stirThickness_5 rfl (lv_at hl 0 rfl) ?_
    refine va_get (D := (dC, dI)) (ci := 7) (v := .int (nI high)) (C := RX7) (T := TX7) (N := 19) hx hb hts hin7 hown hK hP 0 rfl rfl 1 (by decide) (hts (.fieldLink RX7 47 "PorridgeSea$Sea" "high" "I") (List.mem_of_getElem? (i := 1) rfl)) (fun _ h9 => h9) rfl dX7_stirThickness_6 ?_
    refine lv_goto (tgt := 16) hx hb dX7_stirThickness_9 (by decide) ?_
    exact hJ5 (nI high) (lf_s_stirThickness_26 high iv_a_2 iv_a_3) (lf_s_stirThickness_27 high iv_a_2 iv_a_3) _ _ _ hP hD hS (lv_sub hl [0, 1, 2, 3] rfl)
set_option maxRecDepth 20000 in
theorem lf_s_stirLine_1 (boats : Nat) (k30 : Nat) (n34 : Nat) (iv_a_5 : boats ≤ 6) (j32 : k30 ≤ 6) (hm36 : 6 - k30 < n34 + 1) (c37 : k30 < boats) (t42 : 0 ≤ (nI k30).toInt) (t43 : (nI k30).toInt < boats) : (k30 + 1) ≤ 6 := by
  try have k_0 := ia_n k30 (by first | decide | omega)
  try simp only [ia_lt, ia_le, ia_eq, ia_m1, ia_0, ia_1, ne_eq, true_and, and_true, false_and, and_false, or_false, false_or, or_true, true_or, not_true_eq_false, not_false_eq_true] at *
  all_goals omega
set_option maxRecDepth 20000 in
theorem lf_s_stirLine_2 (boats : Nat) (k30 : Nat) (n34 : Nat) (iv_a_5 : boats ≤ 6) (j32 : k30 ≤ 6) (hm36 : 6 - k30 < n34 + 1) (c37 : k30 < boats) (t42 : 0 ≤ (nI k30).toInt) (t43 : (nI k30).toInt < boats) : 6 - (k30 + 1) < n34 := by
  try have k_0 := ia_n k30 (by first | decide | omega)
  try simp only [ia_lt, ia_le, ia_eq, ia_m1, ia_0, ia_1, ne_eq, true_and, and_true, false_and, and_false, or_false, false_or, or_true, true_or, not_true_eq_false, not_false_eq_true] at *
  all_goals omega
set_option maxRecDepth 20000 in
theorem lf_s_stirLine_3 (boats : Nat) (k30 : Nat) (f31 : Nat → Int32) (n34 : Nat) (y47 : Int32) (iv_a_5 : boats ≤ 6) (j32 : k30 ≤ 6) (hm36 : 6 - k30 < n34 + 1) (c37 : k30 < boats) (t44 : True) (e48 : y47 = f31 k30) (p50 : True) : (k30 + 1) ≤ 6 := by
  have b_y47 := ia_b y47
  try simp only [ia_lt, ia_le, ia_eq, ia_m1, ia_0, ia_1, ne_eq, true_and, and_true, false_and, and_false, or_false, false_or, or_true, true_or, not_true_eq_false, not_false_eq_true] at *
  all_goals omega
set_option maxRecDepth 20000 in
theorem lf_s_stirLine_4 (boats : Nat) (k30 : Nat) (f31 : Nat → Int32) (n34 : Nat) (y47 : Int32) (iv_a_5 : boats ≤ 6) (j32 : k30 ≤ 6) (hm36 : 6 - k30 < n34 + 1) (c37 : k30 < boats) (t44 : True) (e48 : y47 = f31 k30) (p50 : True) : 6 - (k30 + 1) < n34 := by
  have b_y47 := ia_b y47
  try simp only [ia_lt, ia_le, ia_eq, ia_m1, ia_0, ia_1, ne_eq, true_and, and_true, false_and, and_false, or_false, false_or, or_true, true_or, not_true_eq_false, not_false_eq_true] at *
  all_goals omega
set_option maxRecDepth 20000 in
theorem lf_s_stirLine_5   : 0 ≤ 6 := by
  try simp only [ia_lt, ia_le, ia_eq, ia_m1, ia_0, ia_1, ne_eq, true_and, and_true, false_and, and_false, or_false, false_or, or_true, true_or, not_true_eq_false, not_false_eq_true] at *
  all_goals omega
set_option maxRecDepth 20000 in
theorem lf_s_stirLine_6 (lumps : Nat) (k16 : Nat) (f17 : Nat → Int32) (n20 : Nat) (y53 : Int32) (iv_a_4 : lumps ≤ 6) (j18 : k16 ≤ 6) (hm22 : 6 - k16 < n20 + 1) (c23 : k16 < lumps) (e54 : y53 = f17 k16) (p56 : True) : (k16 + 1) ≤ 6 := by
  have b_y53 := ia_b y53
  try simp only [ia_lt, ia_le, ia_eq, ia_m1, ia_0, ia_1, ne_eq, true_and, and_true, false_and, and_false, or_false, false_or, or_true, true_or, not_true_eq_false, not_false_eq_true] at *
  all_goals omega
set_option maxRecDepth 20000 in
theorem lf_s_stirLine_7 (lumps : Nat) (k16 : Nat) (f17 : Nat → Int32) (n20 : Nat) (y53 : Int32) (iv_a_4 : lumps ≤ 6) (j18 : k16 ≤ 6) (hm22 : 6 - k16 < n20 + 1) (c23 : k16 < lumps) (e54 : y53 = f17 k16) (p56 : True) : 6 - (k16 + 1) < n20 := by
  have b_y53 := ia_b y53
  try simp only [ia_lt, ia_le, ia_eq, ia_m1, ia_0, ia_1, ne_eq, true_and, and_true, false_and, and_false, or_false, false_or, or_true, true_or, not_true_eq_false, not_false_eq_true] at *
  all_goals omega
set_option maxRecDepth 20000 in
theorem lf_s_stirLine_8   : 0 ≤ 6 := by
  try simp only [ia_lt, ia_le, ia_eq, ia_m1, ia_0, ia_1, ne_eq, true_and, and_true, false_and, and_false, or_false, false_or, or_true, true_or, not_true_eq_false, not_false_eq_true] at *
  all_goals omega
set_option maxHeartbeats 4000000 in
set_option maxRecDepth 100000 in
theorem c_s_stirLine (l : Launch) (dC : Nat → ClassId) (dI : Nat → Nat → Nat) (ky : Nat → ClassId) (sz : Nat) (a : Nat) (wide : Nat) (high : Nat) (heat : Int32) (cools : Int32) (skinHeat : Int32) (today : Int32) (stirs : Int32) (steps : Int32) (lumps : Nat) (boats : Nat) (thickness : Nat) (lumpNames : Nat) (lumpCells : Nat) (boatNames : Nat) (boatCells : Nat) (loads : Nat) (spoons : Nat) (spoonsLeft : Nat) (depths : Nat) (thicknessF : Nat → Int32) (lumpCellsF : Nat → Int32) (boatCellsF : Nat → Int32) (depthsF : Nat → Int32) (column : Int32) (n : Int32) (back : Int32) (iv_a_0 : 2 ≤ wide) (iv_a_1 : wide ≤ 6) (iv_a_2 : 2 ≤ high) (iv_a_3 : high ≤ 6) (iv_a_4 : lumps ≤ 6) (iv_a_5 : boats ≤ 6) : Met l yX7_stirLine wsX7_stirLine ({ frames := 2, cells := 0, slots := 0, locals := 48 }) (PcU dC dI ky [.ref a, .int column, .int n, .int back] [(a, .inr (7, [.int (nI wide), .int (nI high), .int heat, .int cools, .int skinHeat, .int today, .int stirs, .int steps, .int (nI lumps), .int (nI boats), .ref thickness, .ref lumpNames, .ref lumpCells, .ref boatNames, .ref boatCells, .ref loads, .ref spoons, .ref spoonsLeft, .ref depths])), (thickness, .inl (ky 0, 36, .inl thicknessF)), (lumpCells, .inl (ky 0, 6, .inl lumpCellsF)), (boatCells, .inl (ky 0, 6, .inl boatCellsF)), (depths, .inl (ky 0, 6, .inl depthsF))] sz) (va_Qv (fun (u : Int32 × (Nat → Int32) × (Nat → Int32) × (Nat → Int32)) => match u with | (stirsG, thicknessG, lumpCellsG, boatCellsG) => True) (BU dC dI ky (fun (u : Int32 × (Nat → Int32) × (Nat → Int32) × (Nat → Int32)) => match u with | (stirsG, thicknessG, lumpCellsG, boatCellsG) => [(a, .inr (7, [.int (nI wide), .int (nI high), .int heat, .int cools, .int skinHeat, .int today, .int stirsG, .int steps, .int (nI lumps), .int (nI boats), .ref thickness, .ref lumpNames, .ref lumpCells, .ref boatNames, .ref boatCells, .ref loads, .ref spoons, .ref spoonsLeft, .ref depths])), (thickness, .inl (ky 0, 36, .inl thicknessG)), (lumpCells, .inl (ky 0, 6, .inl lumpCellsG)), (boatCells, .inl (ky 0, 6, .inl boatCellsG)), (depths, .inl (ky 0, 6, .inl depthsF))]) (va_A [(a, .inr (7, [.int (nI wide), .int (nI high), .int heat, .int cools, .int skinHeat, .int today, .int stirs, .int steps, .int (nI lumps), .int (nI boats), .ref thickness, .ref lumpNames, .ref lumpCells, .ref boatNames, .ref boatCells, .ref loads, .ref spoons, .ref spoonsLeft, .ref depths])), (thickness, .inl (ky 0, 36, .inl thicknessF)), (lumpCells, .inl (ky 0, 6, .inl lumpCellsF)), (boatCells, .inl (ky 0, 6, .inl boatCellsF)), (depths, .inl (ky 0, 6, .inl depthsF))] sz)) (va_A [(a, .inr (7, [.int (nI wide), .int (nI high), .int heat, .int cools, .int skinHeat, .int today, .int stirs, .int steps, .int (nI lumps), .int (nI boats), .ref thickness, .ref lumpNames, .ref lumpCells, .ref boatNames, .ref boatCells, .ref loads, .ref spoons, .ref spoonsLeft, .ref depths])), (thickness, .inl (ky 0, 36, .inl thicknessF)), (lumpCells, .inl (ky 0, 6, .inl lumpCellsF)), (boatCells, .inl (ky 0, 6, .inl boatCellsF)), (depths, .inl (ky 0, 6, .inl depthsF))] sz)) 0 0 (va_A [(a, .inr (7, [.int (nI wide), .int (nI high), .int heat, .int cools, .int skinHeat, .int today, .int stirs, .int steps, .int (nI lumps), .int (nI boats), .ref thickness, .ref lumpNames, .ref lumpCells, .ref boatNames, .ref boatCells, .ref loads, .ref spoons, .ref spoonsLeft, .ref depths])), (thickness, .inl (ky 0, 36, .inl thicknessF)), (lumpCells, .inl (ky 0, 6, .inl lumpCellsF)), (boatCells, .inl (ky 0, 6, .inl boatCellsF)), (depths, .inl (ky 0, 6, .inl depthsF))] sz) := by
  refine Met.ofW (cc := cX7_stirLine) (maxL := 5) (ret := none) (by decide) rfl ?_
  intro p e s m args below meth c s₁ B hml hv
  obtain ⟨rfl, hsz, hP, hK, hD0⟩ := hv
  have hx := B.exec
  have hb := B.bytes
  have hr := B.returns
  have hts := atoms_spec (ws := wsX7_stirLine) B.pre
  have hown : s.vm.findClass RX7 = some m.cls := findClass_of_methodNamed B.named
  have hlocks := B.notSynchronized
  have hin7 : ∀ w ∈ u_ws RX7 TX7 19, w ∈ wsX7_stirLine := by decide +kernel
  subst hsz
  have hD := hD0.self (sz := s.heap.size)
  generalize hAe : va_A [(a, .inr (7, [.int (nI wide), .int (nI high), .int heat, .int cools, .int skinHeat, .int today, .int stirs, .int steps, .int (nI lumps), .int (nI boats), .ref thickness, .ref lumpNames, .ref lumpCells, .ref boatNames, .ref boatCells, .ref loads, .ref spoons, .ref spoonsLeft, .ref depths])), (thickness, .inl (ky 0, 36, .inl thicknessF)), (lumpCells, .inl (ky 0, 6, .inl lumpCellsF)), (boatCells, .inl (ky 0, 6, .inl boatCellsF)), (depths, .inl (ky 0, 6, .inl depthsF))] s.heap.size = A at hD ⊢
  have hA : ∀ q : Nat, s.heap.size ≤ q → A q := fun q h => by rw [← hAe]; exact Or.inr h
  have hS : va_S A s.heap s.heap [] := va_S.rf
  have hl := lv_entry ([.ref a, .int column, .int n, .int back]) (n := 5) (Nat.le_of_ble_eq_true rfl)
  rw [lg_entry_eq]
  generalize (lg_sl ([.ref a, .int column, .int n, .int back]) ++ List.replicate (5 - (lg_sl ([.ref a, .int column, .int n, .int back])).length) Slot.unset).toArray = ls at hl ⊢
  have hl : lv_has ls 5 [(0, .ref a), (1, .int column), (2, .int n), (3, .int back)] := hl
  refine q_name (fun Q hQ => ?_)
  generalize ([.ref a, .int column, .int n, .int back] : List Value).toArray = args at hts hQ ⊢
  refine lv_aload_n hx hb dX7_stirLine_0 rfl (lv_at hl 0 rfl) ?_
  refine lv_iload_n hx hb dX7_stirLine_1 rfl (lv_at hl 1 rfl) ?_
  refine lv_iload_n hx hb dX7_stirLine_2 rfl (lv_at hl 2 rfl) ?_
  refine vp_callSi (W.runV (As := [.int column, .int n]) (rest := []) ⟨hx, hb, hml, hown, hts⟩ (c_s_isLine l dC dI ky a wide high heat cools skinHeat today stirs steps lumps boats thickness lumpNames lumpCells boatNames boatCells loads spoons spoonsLeft depths column n iv_a_0 iv_a_1 iv_a_2 iv_a_3 iv_a_4 iv_a_5) (cwV 2 hts gX7_stirLine_X7_isLine rfl rfl rfl (by decide +kernel) ⟨(Nat.le_of_ble_eq_true rfl), (Nat.le_of_ble_eq_true rfl)⟩) (pre_PV hK hP [0] rfl (ci := 7) (q0 := 0) rfl rfl) rfl rfl hl.1 rfl (lv_room (Nat.le_of_ble_eq_true rfl)) dX7_stirLine_3 ⟨(Nat.le_of_ble_eq_true rfl), (Nat.le_of_ble_eq_true rfl)⟩) (fun r1 p2 => ?_)
  rcases p2 with ⟨rfl, t3, t4⟩ | ⟨rfl, t5⟩
  · refine lv_if_ne (tgt := 10) hx hb dX7_stirLine_6 (by decide) (fun c6 => ?_) (fun c6 => absurd c6 (by decide))
    refine lv_aload_n hx hb dX7_stirLine_10 rfl (lv_at hl 0 rfl) ?_
    refine lv_iload_n hx hb dX7_stirLine_11 rfl (lv_at hl 1 rfl) ?_
    refine lv_iload_n hx hb dX7_stirLine_12 rfl (lv_at hl 2 rfl) ?_
    refine lv_iload_n hx hb dX7_stirLine_13 rfl (lv_at hl 3 rfl) ?_
    refine r_call_v (wr := [(lumpCells, .inl (ky 0, 6, .inl lumpCellsF)), (boatCells, .inl (ky 0, 6, .inl boatCellsF)), (depths, .inl (ky 0, 6, .inl depthsF))]) (va_runV (As := [.int column, .int n, .int back]) (rest := []) ⟨hx, hb, hml, hown, hts⟩ (c_s_stirThickness l dC dI ky s.heap.size a wide high heat cools skinHeat today stirs steps lumps boats thickness lumpNames lumpCells boatNames boatCells loads spoons spoonsLeft depths thicknessF column n back iv_a_0 iv_a_1 iv_a_2 iv_a_3 iv_a_4 iv_a_5 t3 t4) (cwV 3 hts gX7_stirLine_X7_stirThickness rfl rfl rfl (by decide +kernel) ⟨(Nat.le_of_ble_eq_true rfl), (Nat.le_of_ble_eq_true rfl)⟩) (pre_UV hK hP hD [0, 1] (by decide) rfl (ci := 7) (q0 := 0) rfl rfl) rfl rfl hl.1 rfl (lv_room (Nat.le_of_ble_eq_true rfl)) dX7_stirLine_14 ⟨(Nat.le_of_ble_eq_true rfl), (Nat.le_of_ble_eq_true rfl)⟩) hP hD hS hA [0, 1] [2, 3, 4] rfl rfl (by decide) (by decide) (fun  u7 H locs p8 hP hD hS => ?_)
    obtain ⟨thicknessG_9, rfl⟩ : ∃ z, z = u7 := ⟨_, rfl⟩
    refine W.widen (k := 0) (n := 0) (Nat.le_of_ble_eq_true rfl) (Nat.le_of_ble_eq_true rfl) ?_
    have hP : va_P (dC, dI) vwCl [(lumpCells, .inl (ky 0, 6, .inl lumpCellsF)), (boatCells, .inl (ky 0, 6, .inl boatCellsF)), (depths, .inl (ky 0, 6, .inl depthsF)), (a, .inr (7, [.int (nI wide), .int (nI high), .int heat, .int cools, .int skinHeat, .int today, .int stirs, .int steps, .int (nI lumps), .int (nI boats), .ref thickness, .ref lumpNames, .ref lumpCells, .ref boatNames, .ref boatCells, .ref loads, .ref spoons, .ref spoonsLeft, .ref depths])), (thickness, .inl (ky 0, 36, .inl thicknessG_9))] H := hP
    have hD : va_D A [(lumpCells, .inl (ky 0, 6, .inl lumpCellsF)), (boatCells, .inl (ky 0, 6, .inl boatCellsF)), (depths, .inl (ky 0, 6, .inl depthsF)), (a, .inr (7, [.int (nI wide), .int (nI high), .int heat, .int cools, .int skinHeat, .int today, .int stirs, .int steps, .int (nI lumps), .int (nI boats), .ref thickness, .ref lumpNames, .ref lumpCells, .ref boatNames, .ref boatCells, .ref loads, .ref spoons, .ref spoonsLeft, .ref depths])), (thickness, .inl (ky 0, 36, .inl thicknessG_9))] := hD
    refine lv_iconst (v := nI 0) hx hb dX7_stirLine_17 (by decide) ?_
    refine lv_istore (lv' := [(4, .int (nI 0)), (0, .ref a), (1, .int column), (2, .int n), (3, .int back)]) hx hb dX7_stirLine_18 hl (by decide) rfl (fun ls hl => ?_)
    have hL19 : ∀ (n20 : Nat) (k16 : Nat) (f17 : Nat → Int32), (k16 ≤ 6) → 6 - k16 < n20 → ∀ (H : Heap) (locs : List Loc) (ls : Array Slot), va_P (dC, dI) vwCl [(lumpCells, .inl (ky 0, 6, .inl f17)), (boatCells, .inl (ky 0, 6, .inl boatCellsF)), (depths, .inl (ky 0, 6, .inl depthsF)), (a, .inr (7, [.int (nI wide), .int (nI high), .int heat, .int cools, .int skinHeat, .int today, .int stirs, .int steps, .int (nI lumps), .int (nI boats), .ref thickness, .ref lumpNames, .ref lumpCells, .ref boatNames, .ref boatCells, .ref loads, .ref spoons, .ref spoonsLeft, .ref depths])), (thickness, .inl (ky 0, 36, .inl thicknessG_9))] H → va_D A [(lumpCells, .inl (ky 0, 6, .inl f17)), (boatCells, .inl (ky 0, 6, .inl boatCellsF)), (depths, .inl (ky 0, 6, .inl depthsF)), (a, .inr (7, [.int (nI wide), .int (nI high), .int heat, .int cools, .int skinHeat, .int today, .int stirs, .int steps, .int (nI lumps), .int (nI boats), .ref thickness, .ref lumpNames, .ref lumpCells, .ref boatNames, .ref boatCells, .ref loads, .ref spoons, .ref spoonsLeft, .ref depths])), (thickness, .inl (ky 0, 36, .inl thicknessG_9))] → va_S A s.heap H locs → lv_has ls 5 [(4, .int (nI k16)), (0, .ref a), (1, .int column), (2, .int n), (3, .int back)] → W p l e (headSpec wsX7_stirLine ({ frames := 2, cells := 0, slots := 0, locals := 48 })).room s m args below meth c H locs 0 0 Q (F0 m 20 ls []) := by
      intro n20
      induction n20 with
      | zero => intro k16 f17 _ h9; exact absurd h9 (Nat.not_lt_zero _)
      | succ n20 ih21 =>
        intro k16 f17 j18 hm22 H locs ls hP hD hS hl
        refine lv_iload hx hb dX7_stirLine_20 (lv_at hl 0 rfl) ?_
        refine lv_aload_n hx hb dX7_stirLine_22 rfl (lv_at hl 1 rfl) ?_
        refine va_get (D := (dC, dI)) (ci := 7) (v := .int (nI lumps)) (C := RX7) (T := TX7) (N := 19) hx hb hts hin7 hown hK hP 3 rfl rfl 8 (by decide) (hts (.fieldLink RX7 68 "PorridgeSea$Sea" "lumps" "I") (List.mem_of_getElem? (i := 1) rfl)) (fun _ h9 => h9) rfl dX7_stirLine_23 ?_
        refine n_icmp_ge (x := k16) (y := lumps) (tgt := 56) hx hb (by omega) (by omega) dX7_stirLine_26 (by decide) (fun c23 => ?_) (fun c23 => ?_)
        · refine lv_iconst (v := nI 0) hx hb dX7_stirLine_56 (by decide) ?_
          refine lv_istore (lv' := [(4, .int (nI 0)), (0, .ref a), (1, .int column), (2, .int n), (3, .int back)]) hx hb dX7_stirLine_57 hl (by decide) rfl (fun ls hl => ?_)
          have hL33 : ∀ (n34 : Nat) (k30 : Nat) (f31 : Nat → Int32), (k30 ≤ 6) → 6 - k30 < n34 → ∀ (H : Heap) (locs : List Loc) (ls : Array Slot), va_P (dC, dI) vwCl [(lumpCells, .inl (ky 0, 6, .inl f17)), (boatCells, .inl (ky 0, 6, .inl f31)), (depths, .inl (ky 0, 6, .inl depthsF)), (a, .inr (7, [.int (nI wide), .int (nI high), .int heat, .int cools, .int skinHeat, .int today, .int stirs, .int steps, .int (nI lumps), .int (nI boats), .ref thickness, .ref lumpNames, .ref lumpCells, .ref boatNames, .ref boatCells, .ref loads, .ref spoons, .ref spoonsLeft, .ref depths])), (thickness, .inl (ky 0, 36, .inl thicknessG_9))] H → va_D A [(lumpCells, .inl (ky 0, 6, .inl f17)), (boatCells, .inl (ky 0, 6, .inl f31)), (depths, .inl (ky 0, 6, .inl depthsF)), (a, .inr (7, [.int (nI wide), .int (nI high), .int heat, .int cools, .int skinHeat, .int today, .int stirs, .int steps, .int (nI lumps), .int (nI boats), .ref thickness, .ref lumpNames, .ref lumpCells, .ref boatNames, .ref boatCells, .ref loads, .ref spoons, .ref spoonsLeft, .ref depths])), (thickness, .inl (ky 0, 36, .inl thicknessG_9))] → va_S A s.heap H locs → lv_has ls 5 [(4, .int (nI k30)), (0, .ref a), (1, .int column), (2, .int n), (3, .int back)] → W p l e (headSpec wsX7_stirLine ({ frames := 2, cells := 0, slots := 0, locals := 48 })).room s m args below meth c H locs 0 0 Q (F0 m 59 ls []) := by
            intro n34
            induction n34 with
            | zero => intro k30 f31 _ h9; exact absurd h9 (Nat.not_lt_zero _)
            | succ n34 ih35 =>
              intro k30 f31 j32 hm36 H locs ls hP hD hS hl
              refine lv_iload hx hb dX7_stirLine_59 (lv_at hl 0 rfl) ?_
              refine lv_aload_n hx hb dX7_stirLine_61 rfl (lv_at hl 1 rfl) ?_
              refine va_get (D := (dC, dI)) (ci := 7) (v := .int (nI boats)) (C := RX7) (T := TX7) (N := 19) hx hb hts hin7 hown hK hP 3 rfl rfl 9 (by decide) (hts (.fieldLink RX7 71 "PorridgeSea$Sea" "boats" "I") (List.mem_of_getElem? (i := 3) rfl)) (fun _ h9 => h9) rfl dX7_stirLine_62 ?_
              refine n_icmp_ge (x := k30) (y := boats) (tgt := 104) hx hb (by omega) (by omega) dX7_stirLine_65 (by decide) (fun c37 => ?_) (fun c37 => ?_)
              · refine lv_aload_n hx hb dX7_stirLine_104 rfl (lv_at hl 1 rfl) ?_
                refine lv_dup hx hb dX7_stirLine_105 rfl ?_
                refine va_get (D := (dC, dI)) (ci := 7) (v := .int stirs) (C := RX7) (T := TX7) (N := 19) hx hb hts hin7 hown hK hP 3 rfl rfl 6 (by decide) (hts (.fieldLink RX7 62 "PorridgeSea$Sea" "stirs" "I") (List.mem_of_getElem? (i := 5) rfl)) (fun _ h9 => h9) rfl dX7_stirLine_106 ?_
                refine lv_iconst (v := nI 1) hx hb dX7_stirLine_109 (by decide) ?_
                refine lv_iadd hx hb dX7_stirLine_110 ?_
                refine lv_topi (fun y38 e39 => ?_)
                refine va_put (D := (dC, dI)) (ci := 7) (v := .int y38) (ty := .int) (C := RX7) (T := TX7) (N := 19) hx hb hts hin7 tyX7 tyX7_ok nmX7 hown hK hP hD hS 3 rfl rfl 6 (by decide) (hts (.fieldLink RX7 62 "PorridgeSea$Sea" "stirs" "I") (List.mem_of_getElem? (i := 5) rfl)) (fun _ h9 => h9) rfl (by decide +kernel) rfl rfl (Nat.le_of_ble_eq_true rfl) dX7_stirLine_111 (fun H locs hP hD hS => ?_)
                have hP : va_P (dC, dI) vwCl [(lumpCells, .inl (ky 0, 6, .inl f17)), (boatCells, .inl (ky 0, 6, .inl f31)), (depths, .inl (ky 0, 6, .inl depthsF)), (a, .inr (7, [.int (nI wide), .int (nI high), .int heat, .int cools, .int skinHeat, .int today, .int y38, .int steps, .int (nI lumps), .int (nI boats), .ref thickness, .ref lumpNames, .ref lumpCells, .ref boatNames, .ref boatCells, .ref loads, .ref spoons, .ref spoonsLeft, .ref depths])), (thickness, .inl (ky 0, 36, .inl thicknessG_9))] H := hP
                have hD : va_D A [(lumpCells, .inl (ky 0, 6, .inl f17)), (boatCells, .inl (ky 0, 6, .inl f31)), (depths, .inl (ky 0, 6, .inl depthsF)), (a, .inr (7, [.int (nI wide), .int (nI high), .int heat, .int cools, .int skinHeat, .int today, .int y38, .int steps, .int (nI lumps), .int (nI boats), .ref thickness, .ref lumpNames, .ref lumpCells, .ref boatNames, .ref boatCells, .ref loads, .ref spoons, .ref spoonsLeft, .ref depths])), (thickness, .inl (ky 0, 36, .inl thicknessG_9))] := hD
                rw [hQ]
                have hP9 := hP.sub (ws' := [(a, .inr (7, [.int (nI wide), .int (nI high), .int heat, .int cools, .int skinHeat, .int today, .int y38, .int steps, .int (nI lumps), .int (nI boats), .ref thickness, .ref lumpNames, .ref lumpCells, .ref boatNames, .ref boatCells, .ref loads, .ref spoons, .ref spoonsLeft, .ref depths])), (thickness, .inl (ky 0, 36, .inl thicknessG_9)), (lumpCells, .inl (ky 0, 6, .inl f17)), (boatCells, .inl (ky 0, 6, .inl f31)), (depths, .inl (ky 0, 6, .inl depthsF))]) [3, 4, 0, 1, 2] rfl
                have hD9 := hD.sub (ws' := [(a, .inr (7, [.int (nI wide), .int (nI high), .int heat, .int cools, .int skinHeat, .int today, .int y38, .int steps, .int (nI lumps), .int (nI boats), .ref thickness, .ref lumpNames, .ref lumpCells, .ref boatNames, .ref boatCells, .ref loads, .ref spoons, .ref spoonsLeft, .ref depths])), (thickness, .inl (ky 0, 36, .inl thicknessG_9)), (lumpCells, .inl (ky 0, 6, .inl f17)), (boatCells, .inl (ky 0, 6, .inl f31)), (depths, .inl (ky 0, 6, .inl depthsF))]) [3, 4, 0, 1, 2] (by decide) rfl
                exact W.vret hx hb hr (fun t9 ht9 hW9 => ⟨⟨(y38, thicknessG_9, f17, f31), rfl, trivial, by rw [ht9]; exact hP9, va_K.moved hW9.alike hK, hD9⟩, hS.F ht9⟩) hS.2.2 dX7_stirLine_114
              · refine lv_aload_n hx hb dX7_stirLine_68 rfl (lv_at hl 1 rfl) ?_
                refine lv_iload hx hb dX7_stirLine_69 (lv_at hl 0 rfl) ?_
                refine vp_callSi (W.runV (As := [.int (nI k30)]) (rest := []) ⟨hx, hb, hml, hown, hts⟩ (c_s_isEaten l dC dI ky a wide high heat cools skinHeat today stirs steps lumps boats thickness lumpNames lumpCells boatNames boatCells loads spoons spoonsLeft depths depthsF (nI k30) iv_a_0 iv_a_1 iv_a_2 iv_a_3 iv_a_4 iv_a_5) (cwV 1 hts gX7_stirLine_X7_isEaten rfl rfl rfl (by decide +kernel) ⟨(Nat.le_of_ble_eq_true rfl), (Nat.le_of_ble_eq_true rfl)⟩) (pre_PV hK hP [3, 2] rfl (ci := 7) (q0 := 3) rfl rfl) rfl rfl hl.1 rfl (lv_room (Nat.le_of_ble_eq_true rfl)) dX7_stirLine_71 ⟨(Nat.le_of_ble_eq_true rfl), (Nat.le_of_ble_eq_true rfl)⟩) (fun r40 p41 => ?_)
                rcases p41 with ⟨rfl, t42, t43⟩ | ⟨rfl, t44⟩
                · refine lv_if_ne (tgt := 98) hx hb dX7_stirLine_74 (by decide) (fun c45 => ?_) (fun c45 => absurd c45 (by decide))
                  refine lv_iinc (v := nI (k30 + 1)) (lv' := [(4, .int (nI (k30 + 1))), (0, .ref a), (1, .int column), (2, .int n), (3, .int back)]) hx hb dX7_stirLine_98 hl (k := 0) rfl (show nI k30 + nI 1 = nI (k30 + 1) from nI_add _ _) (by decide) rfl (fun ls hl => ?_)
                  refine lv_goto (tgt := 59) hx hb dX7_stirLine_101 (by decide) ?_
                  exact ih35 (k30 + 1) f31 (lf_s_stirLine_1 boats k30 n34 iv_a_5 j32 hm36 c37 t42 t43) (lf_s_stirLine_2 boats k30 n34 iv_a_5 j32 hm36 c37 t42 t43) _ _ _ hP hD hS (lv_sub hl [0, 1, 2, 3, 4] rfl)
                · refine lv_if_ne (tgt := 98) hx hb dX7_stirLine_74 (by decide) (fun c46 => absurd c46 (by decide)) (fun c46 => ?_)
                  refine lv_aload_n hx hb dX7_stirLine_77 rfl (lv_at hl 1 rfl) ?_
                  refine va_get (D := (dC, dI)) (ci := 7) (v := .ref boatCells) (C := RX7) (T := TX7) (N := 19) hx hb hts hin7 hown hK hP 3 rfl rfl 14 (by decide) (hts (.fieldLink RX7 25 "PorridgeSea$Sea" "boatCells" "[I") (List.mem_of_getElem? (i := 4) rfl)) (fun _ h9 => h9) rfl dX7_stirLine_78 ?_
                  refine lv_iload hx hb dX7_stirLine_81 (lv_at hl 0 rfl) ?_
                  refine lv_aload_n hx hb dX7_stirLine_83 rfl (lv_at hl 1 rfl) ?_
                  refine lv_aload_n hx hb dX7_stirLine_84 rfl (lv_at hl 1 rfl) ?_
                  refine va_get (D := (dC, dI)) (ci := 7) (v := .ref boatCells) (C := RX7) (T := TX7) (N := 19) hx hb hts hin7 hown hK hP 3 rfl rfl 14 (by decide) (hts (.fieldLink RX7 25 "PorridgeSea$Sea" "boatCells" "[I") (List.mem_of_getElem? (i := 4) rfl)) (fun _ h9 => h9) rfl dX7_stirLine_85 ?_
                  refine lv_iload hx hb dX7_stirLine_88 (lv_at hl 0 rfl) ?_
                  obtain ⟨y47, e48⟩ : ∃ z9, z9 = f31 k30 := ⟨_, rfl⟩
                  refine r_iald hx hb hK hP 1 rfl k30 (by omega) (by decide) y47 e48.symm dX7_stirLine_90 ?_
                  refine lv_iload_n hx hb dX7_stirLine_91 rfl (lv_at hl 2 rfl) ?_
                  refine lv_iload_n hx hb dX7_stirLine_92 rfl (lv_at hl 3 rfl) ?_
                  refine lv_iload_n hx hb dX7_stirLine_93 rfl (lv_at hl 4 rfl) ?_
                  refine vp_callSi (W.runV (As := [.int y47, .int column, .int n, .int back]) (rest := [.int (nI k30), .ref boatCells]) ⟨hx, hb, hml, hown, hts⟩ (c_s_stirredTo l dC dI ky a wide high heat cools skinHeat today stirs steps lumps boats thickness lumpNames lumpCells boatNames boatCells loads spoons spoonsLeft depths y47 column n back iv_a_0 iv_a_1 iv_a_2 iv_a_3 iv_a_4 iv_a_5) (cwV 4 hts gX7_stirLine_X7_stirredTo rfl rfl rfl (by decide +kernel) ⟨(Nat.le_of_ble_eq_true rfl), (Nat.le_of_ble_eq_true rfl)⟩) (pre_PV hK hP [3] rfl (ci := 7) (q0 := 3) rfl rfl) rfl rfl hl.1 rfl (lv_room (Nat.le_of_ble_eq_true rfl)) dX7_stirLine_94 ⟨(Nat.le_of_ble_eq_true rfl), (Nat.le_of_ble_eq_true rfl)⟩) (fun r49 p50 => ?_)
                  refine r_iast (x := r49) hx hb hK hP hD hS 1 rfl k30 (by omega) (by decide) dX7_stirLine_97 (fun H locs hP hD hS => ?_)
                  obtain ⟨g51, e52⟩ : ∃ z9, z9 = upd f31 k30 r49 := ⟨_, rfl⟩
                  rw [← e52] at hP hD
                  have hP : va_P (dC, dI) vwCl [(lumpCells, .inl (ky 0, 6, .inl f17)), (boatCells, .inl (ky 0, 6, .inl g51)), (depths, .inl (ky 0, 6, .inl depthsF)), (a, .inr (7, [.int (nI wide), .int (nI high), .int heat, .int cools, .int skinHeat, .int today, .int stirs, .int steps, .int (nI lumps), .int (nI boats), .ref thickness, .ref lumpNames, .ref lumpCells, .ref boatNames, .ref boatCells, .ref loads, .ref spoons, .ref spoonsLeft, .ref depths])), (thickness, .inl (ky 0, 36, .inl thicknessG_9))] H := hP
                  have hD : va_D A [(lumpCells, .inl (ky 0, 6, .inl f17)), (boatCells, .inl (ky 0, 6, .inl g51)), (depths, .inl (ky 0, 6, .inl depthsF)), (a, .inr (7, [.int (nI wide), .int (nI high), .int heat, .int cools, .int skinHeat, .int today, .int stirs, .int steps, .int (nI lumps), .int (nI boats), .ref thickness, .ref lumpNames, .ref lumpCells, .ref boatNames, .ref boatCells, .ref loads, .ref spoons, .ref spoonsLeft, .ref depths])), (thickness, .inl (ky 0, 36, .inl thicknessG_9))] := hD
                  refine lv_iinc (v := nI (k30 + 1)) (lv' := [(4, .int (nI (k30 + 1))), (0, .ref a), (1, .int column), (2, .int n), (3, .int back)]) hx hb dX7_stirLine_98 hl (k := 0) rfl (show nI k30 + nI 1 = nI (k30 + 1) from nI_add _ _) (by decide) rfl (fun ls hl => ?_)
                  refine lv_goto (tgt := 59) hx hb dX7_stirLine_101 (by decide) ?_
                  exact ih35 (k30 + 1) g51 (lf_s_stirLine_3 boats k30 f31 n34 y47 iv_a_5 j32 hm36 c37 t44 e48 p50) (lf_s_stirLine_4 boats k30 f31 n34 y47 iv_a_5 j32 hm36 c37 t44 e48 p50) _ _ _ hP hD hS (lv_sub hl [0, 1, 2, 3, 4] rfl)
          exact hL33 ((6 - 0) + 1) 0 boatCellsF (lf_s_stirLine_5) (Nat.lt_succ_self _) _ _ _ hP hD hS (lv_sub hl [0, 1, 2, 3, 4] rfl)
        · refine lv_aload_n hx hb dX7_stirLine_29 rfl (lv_at hl 1 rfl) ?_
          refine va_get (D := (dC, dI)) (ci := 7) (v := .ref lumpCells) (C := RX7) (T := TX7) (N := 19) hx hb hts hin7 hown hK hP 3 rfl rfl 12 (by decide) (hts (.fieldLink RX7 19 "PorridgeSea$Sea" "lumpCells" "[I") (List.mem_of_getElem? (i := 2) rfl)) (fun _ h9 => h9) rfl dX7_stirLine_30 ?_
          refine lv_iload hx hb dX7_stirLine_33 (lv_at hl 0 rfl) ?_
          refine lv_aload_n hx hb dX7_stirLine_35 rfl (lv_at hl 1 rfl) ?_
          refine lv_aload_n hx hb dX7_stirLine_36 rfl (lv_at hl 1 rfl) ?_
          refine va_get (D := (dC, dI)) (ci := 7) (v := .ref lumpCells) (C := RX7) (T := TX7) (N := 19) hx hb hts hin7 hown hK hP 3 rfl rfl 12 (by decide) (hts (.fieldLink RX7 19 "PorridgeSea$Sea" "lumpCells" "[I") (List.mem_of_getElem? (i := 2) rfl)) (fun _ h9 => h9) rfl dX7_stirLine_37 ?_
          refine lv_iload hx hb dX7_stirLine_40 (lv_at hl 0 rfl) ?_
          obtain ⟨y53, e54⟩ : ∃ z9, z9 = f17 k16 := ⟨_, rfl⟩
          refine r_iald hx hb hK hP 0 rfl k16 (by omega) (by decide) y53 e54.symm dX7_stirLine_42 ?_
          refine lv_iload_n hx hb dX7_stirLine_43 rfl (lv_at hl 2 rfl) ?_
          refine lv_iload_n hx hb dX7_stirLine_44 rfl (lv_at hl 3 rfl) ?_
          refine lv_iload_n hx hb dX7_stirLine_45 rfl (lv_at hl 4 rfl) ?_
          refine vp_callSi (W.runV (As := [.int y53, .int column, .int n, .int back]) (rest := [.int (nI k16), .ref lumpCells]) ⟨hx, hb, hml, hown, hts⟩ (c_s_stirredTo l dC dI ky a wide high heat cools skinHeat today stirs steps lumps boats thickness lumpNames lumpCells boatNames boatCells loads spoons spoonsLeft depths y53 column n back iv_a_0 iv_a_1 iv_a_2 iv_a_3 iv_a_4 iv_a_5) (cwV 4 hts gX7_stirLine_X7_stirredTo rfl rfl rfl (by decide +kernel) ⟨(Nat.le_of_ble_eq_true rfl), (Nat.le_of_ble_eq_true rfl)⟩) (pre_PV hK hP [3] rfl (ci := 7) (q0 := 3) rfl rfl) rfl rfl hl.1 rfl (lv_room (Nat.le_of_ble_eq_true rfl)) dX7_stirLine_46 ⟨(Nat.le_of_ble_eq_true rfl), (Nat.le_of_ble_eq_true rfl)⟩) (fun r55 p56 => ?_)
          refine r_iast (x := r55) hx hb hK hP hD hS 0 rfl k16 (by omega) (by decide) dX7_stirLine_49 (fun H locs hP hD hS => ?_)
          obtain ⟨g57, e58⟩ : ∃ z9, z9 = upd f17 k16 r55 := ⟨_, rfl⟩
          rw [← e58] at hP hD
          have hP : va_P (dC, dI) vwCl [(lumpCells, .inl (ky 0, 6, .inl g57)), (boatCells, .inl (ky 0, 6, .inl boatCellsF)), (depths, .inl (ky 0, 6, .inl depthsF)), (a, .inr (7, [.int (nI wide), .int (nI high), .int heat, .int cools, .int skinHeat, .int today, .int stirs, .int steps, .int (nI lumps), .int (nI boats), .ref thickness, .ref lumpNames, .ref lumpCells, .ref boatNames, .ref boatCells, .ref loads, .ref spoons, .ref spoonsLeft, .ref depths])), (thickness, .inl (ky 0, 36, .inl thicknessG_9))] H := hP
          have hD : va_D A [(lumpCells, .inl (ky 0, 6, .inl g57)), (boatCells, .inl (ky 0, 6, .inl boatCellsF)), (depths, .inl (ky 0, 6, .inl depthsF)), (a, .inr (7, [.int (nI wide), .int (nI high), .int heat, .int cools, .int skinHeat, .int today, .int stirs, .int steps, .int (nI lumps), .int (nI boats), .ref thickness, .ref lumpNames, .ref lumpCells, .ref boatNames, .ref boatCells, .ref loads, .ref spoons, .ref spoonsLeft, .ref depths])), (thickness, .inl (ky 0, 36, .inl thicknessG_9))] := hD
          refine lv_iinc (v := nI (k16 + 1)) (lv' := [(4, .int (nI (k16 + 1))), (0, .ref a), (1, .int column), (2, .int n), (3, .int back)]) hx hb dX7_stirLine_50 hl (k := 0) rfl (show nI k16 + nI 1 = nI (k16 + 1) from nI_add _ _) (by decide) rfl (fun ls hl => ?_)
          refine lv_goto (tgt := 20) hx hb dX7_stirLine_53 (by decide) ?_
          exact ih21 (k16 + 1) g57 (lf_s_stirLine_6 lumps k16 f17 n20 y53 iv_a_4 j18 hm22 c23 e54 p56) (lf_s_stirLine_7 lumps k16 f17 n20 y53 iv_a_4 j18 hm22 c23 e54 p56) _ _ _ hP hD hS (lv_sub hl [0, 1, 2, 3, 4] rfl)
    exact hL19 ((6 - 0) + 1) 0 lumpCellsF (lf_s_stirLine_8) (Nat.lt_succ_self _) _ _ _ hP hD hS (lv_sub hl [0, 1, 2, 3, 4] rfl)
  · refine lv_if_ne (tgt := 10) hx hb dX7_stirLine_6 (by decide) (fun c59 => absurd c59 (by decide)) (fun c59 => ?_)
    rw [hQ]
    exact W.vret hx hb hr (fun t9 ht9 hW9 => ⟨⟨(stirs, thicknessF, lumpCellsF, boatCellsF), rfl, trivial, by rw [ht9]; exact hP, va_K.moved hW9.alike hK, hD⟩, hS.F ht9⟩) hS.2.2 dX7_stirLine_9
set_option maxRecDepth 20000 in
theorem lf_s_whyNotRowed_1 (boats : Nat) (x : Int32) (iv_a_5 : boats ≤ 6) (t3 : 0 ≤ x.toInt) (t4 : x.toInt < boats) (t13 : True) : 0 ≤ x.toInt ∧ x.toInt < ((6 : Nat) : Int) := by
  have b_x := ia_b x
  try simp only [ia_lt, ia_le, ia_eq, ia_m1, ia_0, ia_1, ne_eq, true_and, and_true, false_and, and_false, or_false, false_or, or_true, true_or, not_true_eq_false, not_false_eq_true] at *
  all_goals omega
set_option maxHeartbeats 4000000 in
set_option maxRecDepth 100000 in
theorem c_s_whyNotRowed (l : Launch) (dC : Nat → ClassId) (dI : Nat → Nat → Nat) (ky : Nat → ClassId) (a : Nat) (wide : Nat) (high : Nat) (heat : Int32) (cools : Int32) (skinHeat : Int32) (today : Int32) (stirs : Int32) (steps : Int32) (lumps : Nat) (boats : Nat) (thickness : Nat) (lumpNames : Nat) (lumpCells : Nat) (boatNames : Nat) (boatCells : Nat) (loads : Nat) (spoons : Nat) (spoonsLeft : Nat) (depths : Nat) (thicknessF : Nat → Int32) (boatCellsF : Nat → Int32) (spoonsLeftF : Nat → Int32) (depthsF : Nat → Int32) (x : Int32) (y : Int32) (iv_a_0 : 2 ≤ wide) (iv_a_1 : wide ≤ 6) (iv_a_2 : 2 ≤ high) (iv_a_3 : high ≤ 6) (iv_a_4 : lumps ≤ 6) (iv_a_5 : boats ≤ 6) : Met l yX7_whyNotRowed wsX7_whyNotRowed ({ frames := 2, cells := 0, slots := 0, locals := 46 }) (PcP dC dI ky [.ref a, .int x, .int y] [(a, .inr (7, [.int (nI wide), .int (nI high), .int heat, .int cools, .int skinHeat, .int today, .int stirs, .int steps, .int (nI lumps), .int (nI boats), .ref thickness, .ref lumpNames, .ref lumpCells, .ref boatNames, .ref boatCells, .ref loads, .ref spoons, .ref spoonsLeft, .ref depths])), (thickness, .inl (ky 0, 36, .inl thicknessF)), (boatCells, .inl (ky 0, 6, .inl boatCellsF)), (spoonsLeft, .inl (ky 0, 6, .inl spoonsLeftF)), (depths, .inl (ky 0, 6, .inl depthsF))]) (vp_Si (fun r : Int32 => True)) 0 0 (fun _ => False) := by
  refine Met.ofW (cc := cX7_whyNotRowed) (maxL := 4) (ret := (some .int)) (by decide) rfl ?_
  intro p e s m args below meth c s₁ B hml hv
  obtain ⟨rfl, hP, hK⟩ := hv
  have hx := B.exec
  have hb := B.bytes
  have hr := B.returns
  have hts := atoms_spec (ws := wsX7_whyNotRowed) B.pre
  have hown : s.vm.findClass RX7 = some m.cls := findClass_of_methodNamed B.named
  have hlocks := B.notSynchronized
  have hin7 : ∀ w ∈ u_ws RX7 TX7 19, w ∈ wsX7_whyNotRowed := by decide +kernel
  have hl := lv_entry ([.ref a, .int x, .int y]) (n := 4) (Nat.le_of_ble_eq_true rfl)
  rw [lg_entry_eq]
  generalize (lg_sl ([.ref a, .int x, .int y]) ++ List.replicate (4 - (lg_sl ([.ref a, .int x, .int y])).length) Slot.unset).toArray = ls at hl ⊢
  have hl : lv_has ls 4 [(0, .ref a), (1, .int x), (2, .int y)] := hl
  refine q_name (fun Q hQ => ?_)
  generalize ([.ref a, .int x, .int y] : List Value).toArray = args at hts hQ ⊢
  refine lv_aload_n hx hb dX7_whyNotRowed_0 rfl (lv_at hl 0 rfl) ?_
  refine lv_iload_n hx hb dX7_whyNotRowed_1 rfl (lv_at hl 1 rfl) ?_
  refine vp_callSi (W.runV (As := [.int x]) (rest := []) ⟨hx, hb, hml, hown, hts⟩ (c_s_isBoat l dC dI ky a wide high heat cools skinHeat today stirs steps lumps boats thickness lumpNames lumpCells boatNames boatCells loads spoons spoonsLeft depths x iv_a_0 iv_a_1 iv_a_2 iv_a_3 iv_a_4 iv_a_5) (cwV 1 hts gX7_whyNotRowed_X7_isBoat rfl rfl rfl (by decide +kernel) ⟨(Nat.le_of_ble_eq_true rfl), (Nat.le_of_ble_eq_true rfl)⟩) (pre_PV hK hP [0] rfl (ci := 7) (q0 := 0) rfl rfl) rfl rfl hl.1 rfl (lv_room (Nat.le_of_ble_eq_true rfl)) dX7_whyNotRowed_2 ⟨(Nat.le_of_ble_eq_true rfl), (Nat.le_of_ble_eq_true rfl)⟩) (fun r1 p2 => ?_)
  rcases p2 with ⟨rfl, t3, t4⟩ | ⟨rfl, t5⟩
  · refine lv_if_eq (tgt := 17) hx hb dX7_whyNotRowed_5 (by decide) (fun c6 => absurd c6 (by decide)) (fun c6 => ?_)
    refine lv_iload_n hx hb dX7_whyNotRowed_8 rfl (lv_at hl 2 rfl) ?_
    refine lv_if_lt (tgt := 17) hx hb dX7_whyNotRowed_9 (by decide) (fun c7 => ?_) (fun c7 => ?_)
    · refine lv_iconst (v := (-1 : Int32)) hx hb dX7_whyNotRowed_17 (by decide) ?_
      rw [hQ]
      exact W.iret (v := (-1 : Int32)) hx hb hr (fun t9 ht9 hW9 => ⟨(-1 : Int32), rfl, trivial, ht9⟩) (fun _ h => absurd h List.not_mem_nil) dX7_whyNotRowed_18
    · refine lv_iload_n hx hb dX7_whyNotRowed_12 rfl (lv_at hl 2 rfl) ?_
      refine lv_iconst (v := nI 4) hx hb dX7_whyNotRowed_13 (by decide) ?_
      refine lv_icmp_lt (tgt := 19) hx hb dX7_whyNotRowed_14 (by decide) (fun c8 => ?_) (fun c8 => ?_)
      · refine lv_aload_n hx hb dX7_whyNotRowed_19 rfl (lv_at hl 0 rfl) ?_
        refine lv_iload_n hx hb dX7_whyNotRowed_20 rfl (lv_at hl 1 rfl) ?_
        refine vp_callSi (W.runV (As := [.int x]) (rest := []) ⟨hx, hb, hml, hown, hts⟩ (c_s_isEaten l dC dI ky a wide high heat cools skinHeat today stirs steps lumps boats thickness lumpNames lumpCells boatNames boatCells loads spoons spoonsLeft depths depthsF x iv_a_0 iv_a_1 iv_a_2 iv_a_3 iv_a_4 iv_a_5) (cwV 1 hts gX7_whyNotRowed_X7_isEaten rfl rfl rfl (by decide +kernel) ⟨(Nat.le_of_ble_eq_true rfl), (Nat.le_of_ble_eq_true rfl)⟩) (pre_PV hK hP [0, 4] rfl (ci := 7) (q0 := 0) rfl rfl) rfl rfl hl.1 rfl (lv_room (Nat.le_of_ble_eq_true rfl)) dX7_whyNotRowed_21 ⟨(Nat.le_of_ble_eq_true rfl), (Nat.le_of_ble_eq_true rfl)⟩) (fun r9 p10 => ?_)
        rcases p10 with ⟨rfl, t11, t12⟩ | ⟨rfl, t13⟩
        · refine lv_if_eq (tgt := 29) hx hb dX7_whyNotRowed_24 (by decide) (fun c14 => absurd c14 (by decide)) (fun c14 => ?_)
          refine lv_iconst (v := nI 1) hx hb dX7_whyNotRowed_27 (by decide) ?_
          rw [hQ]
          exact W.iret (v := nI 1) hx hb hr (fun t9 ht9 hW9 => ⟨nI 1, rfl, trivial, ht9⟩) (fun _ h => absurd h List.not_mem_nil) dX7_whyNotRowed_28
        · refine lv_if_eq (tgt := 29) hx hb dX7_whyNotRowed_24 (by decide) (fun c15 => ?_) (fun c15 => absurd (by decide) c15)
          refine lv_aload_n hx hb dX7_whyNotRowed_29 rfl (lv_at hl 0 rfl) ?_
          refine lv_aload_n hx hb dX7_whyNotRowed_30 rfl (lv_at hl 0 rfl) ?_
          refine va_get (D := (dC, dI)) (ci := 7) (v := .ref boatCells) (C := RX7) (T := TX7) (N := 19) hx hb hts hin7 hown hK hP 0 rfl rfl 14 (by decide) (hts (.fieldLink RX7 25 "PorridgeSea$Sea" "boatCells" "[I") (List.mem_of_getElem? (i := 1) rfl)) (fun _ h9 => h9) rfl dX7_whyNotRowed_31 ?_
          refine lv_iload_n hx hb dX7_whyNotRowed_34 rfl (lv_at hl 1 rfl) ?_
          obtain ⟨n16, h17, e18⟩ := nat_of x 6 (by decide) (lf_s_whyNotRowed_1 boats x iv_a_5 t3 t4 t13)
          rw [e18]
          obtain ⟨y19, e20⟩ : ∃ z9, z9 = boatCellsF n16 := ⟨_, rfl⟩
          refine r_iald hx hb hK hP 2 rfl n16 (by omega) (by decide) y19 e20.symm dX7_whyNotRowed_35 ?_
          refine lv_iload_n hx hb dX7_whyNotRowed_36 rfl (lv_at hl 2 rfl) ?_
          refine vp_callSi (W.runV (As := [.int y19, .int y]) (rest := []) ⟨hx, hb, hml, hown, hts⟩ (c_s_nextCell l dC dI ky a wide high heat cools skinHeat today stirs steps lumps boats thickness lumpNames lumpCells boatNames boatCells loads spoons spoonsLeft depths y19 y iv_a_0 iv_a_1 iv_a_2 iv_a_3 iv_a_4 iv_a_5) (cwV 2 hts gX7_whyNotRowed_X7_nextCell rfl rfl rfl (by decide +kernel) ⟨(Nat.le_of_ble_eq_true rfl), (Nat.le_of_ble_eq_true rfl)⟩) (pre_PV hK hP [0] rfl (ci := 7) (q0 := 0) rfl rfl) rfl rfl hl.1 rfl (lv_room (Nat.le_of_ble_eq_true rfl)) dX7_whyNotRowed_37 ⟨(Nat.le_of_ble_eq_true rfl), (Nat.le_of_ble_eq_true rfl)⟩) (fun r21 p22 => ?_)
          rcases p22 with rfl | ⟨k23, h25, rfl⟩
          · refine lv_istore_n (lv' := [(3, .int (-1 : Int32)), (0, .ref a), (1, .int x), (2, .int y)]) hx hb dX7_whyNotRowed_40 rfl hl (by decide) rfl (fun ls hl => ?_)
            refine lv_iload_n hx hb dX7_whyNotRowed_41 rfl (lv_at hl 0 rfl) ?_
            refine lv_iconst (v := (-1 : Int32)) hx hb dX7_whyNotRowed_42 (by decide) ?_
            refine lv_icmp_ne (tgt := 48) hx hb dX7_whyNotRowed_43 (by decide) (fun c26 => absurd c26 (by decide)) (fun c26 => ?_)
            refine lv_iconst (v := nI 2) hx hb dX7_whyNotRowed_46 (by decide) ?_
            rw [hQ]
            exact W.iret (v := nI 2) hx hb hr (fun t9 ht9 hW9 => ⟨nI 2, rfl, trivial, ht9⟩) (fun _ h => absurd h List.not_mem_nil) dX7_whyNotRowed_47
          · refine lv_istore_n (lv' := [(3, .int (nI k23)), (0, .ref a), (1, .int x), (2, .int y)]) hx hb dX7_whyNotRowed_40 rfl hl (by decide) rfl (fun ls hl => ?_)
            refine lv_iload_n hx hb dX7_whyNotRowed_41 rfl (lv_at hl 0 rfl) ?_
            refine lv_iconst (v := (-1 : Int32)) hx hb dX7_whyNotRowed_42 (by decide) ?_
            refine lv_icmp_ne (tgt := 48) hx hb dX7_whyNotRowed_43 (by decide) (fun c27 => ?_) (fun c27 => ?_)
            · refine lv_aload_n hx hb dX7_whyNotRowed_48 rfl (lv_at hl 1 rfl) ?_
              refine lv_iload_n hx hb dX7_whyNotRowed_49 rfl (lv_at hl 0 rfl) ?_
              refine vp_callSi (W.runV (As := [.int (nI k23)]) (rest := []) ⟨hx, hb, hml, hown, hts⟩ (c_s_stepCost l dC dI ky a wide high heat cools skinHeat today stirs steps lumps boats thickness lumpNames lumpCells boatNames boatCells loads spoons spoonsLeft depths thicknessF (nI k23) iv_a_0 iv_a_1 iv_a_2 iv_a_3 iv_a_4 iv_a_5) (cwV 1 hts gX7_whyNotRowed_X7_stepCost rfl rfl rfl (by decide +kernel) ⟨(Nat.le_of_ble_eq_true rfl), (Nat.le_of_ble_eq_true rfl)⟩) (pre_PV hK hP [0, 1] rfl (ci := 7) (q0 := 0) rfl rfl) rfl rfl hl.1 rfl (lv_room (Nat.le_of_ble_eq_true rfl)) dX7_whyNotRowed_50 ⟨(Nat.le_of_ble_eq_true rfl), (Nat.le_of_ble_eq_true rfl)⟩) (fun r28 p29 => ?_)
              refine lv_aload_n hx hb dX7_whyNotRowed_53 rfl (lv_at hl 1 rfl) ?_
              refine va_get (D := (dC, dI)) (ci := 7) (v := .ref spoonsLeft) (C := RX7) (T := TX7) (N := 19) hx hb hts hin7 hown hK hP 0 rfl rfl 17 (by decide) (hts (.fieldLink RX7 34 "PorridgeSea$Sea" "spoonsLeft" "[I") (List.mem_of_getElem? (i := 2) rfl)) (fun _ h9 => h9) rfl dX7_whyNotRowed_54 ?_
              refine lv_iload_n hx hb dX7_whyNotRowed_57 rfl (lv_at hl 2 rfl) ?_
              rw [e18]
              obtain ⟨y30, e31⟩ : ∃ z9, z9 = spoonsLeftF n16 := ⟨_, rfl⟩
              refine r_iald hx hb hK hP 3 rfl n16 (by omega) (by decide) y30 e31.symm dX7_whyNotRowed_58 ?_
              refine lv_icmp_le (tgt := 66) hx hb dX7_whyNotRowed_59 (by decide) (fun c32 => ?_) (fun c32 => ?_)
              · refine lv_iconst (v := nI 0) hx hb dX7_whyNotRowed_66 (by decide) ?_
                rw [hQ]
                exact W.iret (v := nI 0) hx hb hr (fun t9 ht9 hW9 => ⟨nI 0, rfl, trivial, ht9⟩) (fun _ h => absurd h List.not_mem_nil) dX7_whyNotRowed_67
              · refine lv_iconst (v := nI 3) hx hb dX7_whyNotRowed_62 (by decide) ?_
                refine lv_goto (tgt := 67) hx hb dX7_whyNotRowed_63 (by decide) ?_
                rw [hQ]
                exact W.iret (v := nI 3) hx hb hr (fun t9 ht9 hW9 => ⟨nI 3, rfl, trivial, ht9⟩) (fun _ h => absurd h List.not_mem_nil) dX7_whyNotRowed_67
            · refine lv_iconst (v := nI 2) hx hb dX7_whyNotRowed_46 (by decide) ?_
              rw [hQ]
              exact W.iret (v := nI 2) hx hb hr (fun t9 ht9 hW9 => ⟨nI 2, rfl, trivial, ht9⟩) (fun _ h => absurd h List.not_mem_nil) dX7_whyNotRowed_47
      · refine lv_iconst (v := (-1 : Int32)) hx hb dX7_whyNotRowed_17 (by decide) ?_
        rw [hQ]
        exact W.iret (v := (-1 : Int32)) hx hb hr (fun t9 ht9 hW9 => ⟨(-1 : Int32), rfl, trivial, ht9⟩) (fun _ h => absurd h List.not_mem_nil) dX7_whyNotRowed_18
  · refine lv_if_eq (tgt := 17) hx hb dX7_whyNotRowed_5 (by decide) (fun c33 => ?_) (fun c33 => absurd (by decide) c33)
    refine lv_iconst (v := (-1 : Int32)) hx hb dX7_whyNotRowed_17 (by decide) ?_
    rw [hQ]
    exact W.iret (v := (-1 : Int32)) hx hb hr (fun t9 ht9 hW9 => ⟨(-1 : Int32), rfl, trivial, ht9⟩) (fun _ h => absurd h List.not_mem_nil) dX7_whyNotRowed_18
set_option maxRecDepth 20000 in
theorem lf_s_rowBoat_1 (boats : Nat) (x : Int32) (iv_a_5 : boats ≤ 6) (t3 : 0 ≤ x.toInt) (t4 : x.toInt < boats) : 0 ≤ x.toInt ∧ x.toInt < ((6 : Nat) : Int) := by
  have b_x := ia_b x
  try simp only [ia_lt, ia_le, ia_eq, ia_m1, ia_0, ia_1, ne_eq, true_and, and_true, false_and, and_false, or_false, false_or, or_true, true_or, not_true_eq_false, not_false_eq_true] at *
  all_goals omega
set_option maxHeartbeats 4000000 in
set_option maxRecDepth 100000 in
theorem c_s_rowBoat (l : Launch) (dC : Nat → ClassId) (dI : Nat → Nat → Nat) (ky : Nat → ClassId) (sz : Nat) (a : Nat) (wide : Nat) (high : Nat) (heat : Int32) (cools : Int32) (skinHeat : Int32) (today : Int32) (stirs : Int32) (steps : Int32) (lumps : Nat) (boats : Nat) (thickness : Nat) (lumpNames : Nat) (lumpCells : Nat) (boatNames : Nat) (boatCells : Nat) (loads : Nat) (spoons : Nat) (spoonsLeft : Nat) (depths : Nat) (thicknessF : Nat → Int32) (boatCellsF : Nat → Int32) (spoonsLeftF : Nat → Int32) (x : Int32) (y : Int32) (iv_a_0 : 2 ≤ wide) (iv_a_1 : wide ≤ 6) (iv_a_2 : 2 ≤ high) (iv_a_3 : high ≤ 6) (iv_a_4 : lumps ≤ 6) (iv_a_5 : boats ≤ 6) : Met l yX7_rowBoat wsX7_rowBoat ({ frames := 2, cells := 0, slots := 0, locals := 46 }) (PcU dC dI ky [.ref a, .int x, .int y] [(a, .inr (7, [.int (nI wide), .int (nI high), .int heat, .int cools, .int skinHeat, .int today, .int stirs, .int steps, .int (nI lumps), .int (nI boats), .ref thickness, .ref lumpNames, .ref lumpCells, .ref boatNames, .ref boatCells, .ref loads, .ref spoons, .ref spoonsLeft, .ref depths])), (thickness, .inl (ky 0, 36, .inl thicknessF)), (boatCells, .inl (ky 0, 6, .inl boatCellsF)), (spoonsLeft, .inl (ky 0, 6, .inl spoonsLeftF))] sz) (va_Qv (fun (u : Int32 × (Nat → Int32) × (Nat → Int32)) => match u with | (stepsG, boatCellsG, spoonsLeftG) => True) (BU dC dI ky (fun (u : Int32 × (Nat → Int32) × (Nat → Int32)) => match u with | (stepsG, boatCellsG, spoonsLeftG) => [(a, .inr (7, [.int (nI wide), .int (nI high), .int heat, .int cools, .int skinHeat, .int today, .int stirs, .int stepsG, .int (nI lumps), .int (nI boats), .ref thickness, .ref lumpNames, .ref lumpCells, .ref boatNames, .ref boatCells, .ref loads, .ref spoons, .ref spoonsLeft, .ref depths])), (thickness, .inl (ky 0, 36, .inl thicknessF)), (boatCells, .inl (ky 0, 6, .inl boatCellsG)), (spoonsLeft, .inl (ky 0, 6, .inl spoonsLeftG))]) (va_A [(a, .inr (7, [.int (nI wide), .int (nI high), .int heat, .int cools, .int skinHeat, .int today, .int stirs, .int steps, .int (nI lumps), .int (nI boats), .ref thickness, .ref lumpNames, .ref lumpCells, .ref boatNames, .ref boatCells, .ref loads, .ref spoons, .ref spoonsLeft, .ref depths])), (thickness, .inl (ky 0, 36, .inl thicknessF)), (boatCells, .inl (ky 0, 6, .inl boatCellsF)), (spoonsLeft, .inl (ky 0, 6, .inl spoonsLeftF))] sz)) (va_A [(a, .inr (7, [.int (nI wide), .int (nI high), .int heat, .int cools, .int skinHeat, .int today, .int stirs, .int steps, .int (nI lumps), .int (nI boats), .ref thickness, .ref lumpNames, .ref lumpCells, .ref boatNames, .ref boatCells, .ref loads, .ref spoons, .ref spoonsLeft, .ref depths])), (thickness, .inl (ky 0, 36, .inl thicknessF)), (boatCells, .inl (ky 0, 6, .inl boatCellsF)), (spoonsLeft, .inl (ky 0, 6, .inl spoonsLeftF))] sz)) 0 0 (va_A [(a, .inr (7, [.int (nI wide), .int (nI high), .int heat, .int cools, .int skinHeat, .int today, .int stirs, .int steps, .int (nI lumps), .int (nI boats), .ref thickness, .ref lumpNames, .ref lumpCells, .ref boatNames, .ref boatCells, .ref loads, .ref spoons, .ref spoonsLeft, .ref depths])), (thickness, .inl (ky 0, 36, .inl thicknessF)), (boatCells, .inl (ky 0, 6, .inl boatCellsF)), (spoonsLeft, .inl (ky 0, 6, .inl spoonsLeftF))] sz) := by
  refine Met.ofW (cc := cX7_rowBoat) (maxL := 4) (ret := none) (by decide) rfl ?_
  intro p e s m args below meth c s₁ B hml hv
  obtain ⟨rfl, hsz, hP, hK, hD0⟩ := hv
  have hx := B.exec
  have hb := B.bytes
  have hr := B.returns
  have hts := atoms_spec (ws := wsX7_rowBoat) B.pre
  have hown : s.vm.findClass RX7 = some m.cls := findClass_of_methodNamed B.named
  have hlocks := B.notSynchronized
  have hin7 : ∀ w ∈ u_ws RX7 TX7 19, w ∈ wsX7_rowBoat := by decide +kernel
  subst hsz
  have hD := hD0.self (sz := s.heap.size)
  generalize hAe : va_A [(a, .inr (7, [.int (nI wide), .int (nI high), .int heat, .int cools, .int skinHeat, .int today, .int stirs, .int steps, .int (nI lumps), .int (nI boats), .ref thickness, .ref lumpNames, .ref lumpCells, .ref boatNames, .ref boatCells, .ref loads, .ref spoons, .ref spoonsLeft, .ref depths])), (thickness, .inl (ky 0, 36, .inl thicknessF)), (boatCells, .inl (ky 0, 6, .inl boatCellsF)), (spoonsLeft, .inl (ky 0, 6, .inl spoonsLeftF))] s.heap.size = A at hD ⊢
  have hA : ∀ q : Nat, s.heap.size ≤ q → A q := fun q h => by rw [← hAe]; exact Or.inr h
  have hS : va_S A s.heap s.heap [] := va_S.rf
  have hl := lv_entry ([.ref a, .int x, .int y]) (n := 4) (Nat.le_of_ble_eq_true rfl)
  rw [lg_entry_eq]
  generalize (lg_sl ([.ref a, .int x, .int y]) ++ List.replicate (4 - (lg_sl ([.ref a, .int x, .int y])).length) Slot.unset).toArray = ls at hl ⊢
  have hl : lv_has ls 4 [(0, .ref a), (1, .int x), (2, .int y)] := hl
  refine q_name (fun Q hQ => ?_)
  generalize ([.ref a, .int x, .int y] : List Value).toArray = args at hts hQ ⊢
  refine lv_aload_n hx hb dX7_rowBoat_0 rfl (lv_at hl 0 rfl) ?_
  refine lv_iload_n hx hb dX7_rowBoat_1 rfl (lv_at hl 1 rfl) ?_
  refine vp_callSi (W.runV (As := [.int x]) (rest := []) ⟨hx, hb, hml, hown, hts⟩ (c_s_isBoat l dC dI ky a wide high heat cools skinHeat today stirs steps lumps boats thickness lumpNames lumpCells boatNames boatCells loads spoons spoonsLeft depths x iv_a_0 iv_a_1 iv_a_2 iv_a_3 iv_a_4 iv_a_5) (cwV 1 hts gX7_rowBoat_X7_isBoat rfl rfl rfl (by decide +kernel) ⟨(Nat.le_of_ble_eq_true rfl), (Nat.le_of_ble_eq_true rfl)⟩) (pre_PV hK hP [0] rfl (ci := 7) (q0 := 0) rfl rfl) rfl rfl hl.1 rfl (lv_room (Nat.le_of_ble_eq_true rfl)) dX7_rowBoat_2 ⟨(Nat.le_of_ble_eq_true rfl), (Nat.le_of_ble_eq_true rfl)⟩) (fun r1 p2 => ?_)
  rcases p2 with ⟨rfl, t3, t4⟩ | ⟨rfl, t5⟩
  · refine lv_if_ne (tgt := 9) hx hb dX7_rowBoat_5 (by decide) (fun c6 => ?_) (fun c6 => absurd c6 (by decide))
    refine lv_aload_n hx hb dX7_rowBoat_9 rfl (lv_at hl 0 rfl) ?_
    refine lv_aload_n hx hb dX7_rowBoat_10 rfl (lv_at hl 0 rfl) ?_
    refine va_get (D := (dC, dI)) (ci := 7) (v := .ref boatCells) (C := RX7) (T := TX7) (N := 19) hx hb hts hin7 hown hK hP 0 rfl rfl 14 (by decide) (hts (.fieldLink RX7 25 "PorridgeSea$Sea" "boatCells" "[I") (List.mem_of_getElem? (i := 1) rfl)) (fun _ h9 => h9) rfl dX7_rowBoat_11 ?_
    refine lv_iload_n hx hb dX7_rowBoat_14 rfl (lv_at hl 1 rfl) ?_
    obtain ⟨n7, h8, e9⟩ := nat_of x 6 (by decide) (lf_s_rowBoat_1 boats x iv_a_5 t3 t4)
    rw [e9]
    obtain ⟨y10, e11⟩ : ∃ z9, z9 = boatCellsF n7 := ⟨_, rfl⟩
    refine r_iald hx hb hK hP 2 rfl n7 (by omega) (by decide) y10 e11.symm dX7_rowBoat_15 ?_
    refine lv_iload_n hx hb dX7_rowBoat_16 rfl (lv_at hl 2 rfl) ?_
    refine vp_callSi (W.runV (As := [.int y10, .int y]) (rest := []) ⟨hx, hb, hml, hown, hts⟩ (c_s_nextCell l dC dI ky a wide high heat cools skinHeat today stirs steps lumps boats thickness lumpNames lumpCells boatNames boatCells loads spoons spoonsLeft depths y10 y iv_a_0 iv_a_1 iv_a_2 iv_a_3 iv_a_4 iv_a_5) (cwV 2 hts gX7_rowBoat_X7_nextCell rfl rfl rfl (by decide +kernel) ⟨(Nat.le_of_ble_eq_true rfl), (Nat.le_of_ble_eq_true rfl)⟩) (pre_PV hK hP [0] rfl (ci := 7) (q0 := 0) rfl rfl) rfl rfl hl.1 rfl (lv_room (Nat.le_of_ble_eq_true rfl)) dX7_rowBoat_17 ⟨(Nat.le_of_ble_eq_true rfl), (Nat.le_of_ble_eq_true rfl)⟩) (fun r12 p13 => ?_)
    rcases p13 with rfl | ⟨k14, h16, rfl⟩
    · refine lv_istore_n (lv' := [(3, .int (-1 : Int32)), (0, .ref a), (1, .int x), (2, .int y)]) hx hb dX7_rowBoat_20 rfl hl (by decide) rfl (fun ls hl => ?_)
      refine lv_iload_n hx hb dX7_rowBoat_21 rfl (lv_at hl 0 rfl) ?_
      refine lv_iconst (v := (-1 : Int32)) hx hb dX7_rowBoat_22 (by decide) ?_
      refine lv_icmp_ne (tgt := 27) hx hb dX7_rowBoat_23 (by decide) (fun c17 => absurd c17 (by decide)) (fun c17 => ?_)
      rw [hQ]
      exact W.vret hx hb hr (fun t9 ht9 hW9 => ⟨⟨(steps, boatCellsF, spoonsLeftF), rfl, trivial, by rw [ht9]; exact hP, va_K.moved hW9.alike hK, hD⟩, hS.F ht9⟩) hS.2.2 dX7_rowBoat_26
    · refine lv_istore_n (lv' := [(3, .int (nI k14)), (0, .ref a), (1, .int x), (2, .int y)]) hx hb dX7_rowBoat_20 rfl hl (by decide) rfl (fun ls hl => ?_)
      refine lv_iload_n hx hb dX7_rowBoat_21 rfl (lv_at hl 0 rfl) ?_
      refine lv_iconst (v := (-1 : Int32)) hx hb dX7_rowBoat_22 (by decide) ?_
      refine lv_icmp_ne (tgt := 27) hx hb dX7_rowBoat_23 (by decide) (fun c18 => ?_) (fun c18 => ?_)
      · refine lv_aload_n hx hb dX7_rowBoat_27 rfl (lv_at hl 1 rfl) ?_
        refine va_get (D := (dC, dI)) (ci := 7) (v := .ref spoonsLeft) (C := RX7) (T := TX7) (N := 19) hx hb hts hin7 hown hK hP 0 rfl rfl 17 (by decide) (hts (.fieldLink RX7 34 "PorridgeSea$Sea" "spoonsLeft" "[I") (List.mem_of_getElem? (i := 2) rfl)) (fun _ h9 => h9) rfl dX7_rowBoat_28 ?_
        refine lv_iload_n hx hb dX7_rowBoat_31 rfl (lv_at hl 2 rfl) ?_
        refine lv_dup2_11 hx hb dX7_rowBoat_32 rfl rfl ?_
        rw [e9]
        obtain ⟨y19, e20⟩ : ∃ z9, z9 = spoonsLeftF n7 := ⟨_, rfl⟩
        refine r_iald hx hb hK hP 3 rfl n7 (by omega) (by decide) y19 e20.symm dX7_rowBoat_33 ?_
        refine lv_aload_n hx hb dX7_rowBoat_34 rfl (lv_at hl 1 rfl) ?_
        refine lv_iload_n hx hb dX7_rowBoat_35 rfl (lv_at hl 0 rfl) ?_
        refine vp_callSi (W.runV (As := [.int (nI k14)]) (rest := [.int y19, .int (nI n7), .ref spoonsLeft]) ⟨hx, hb, hml, hown, hts⟩ (c_s_stepCost l dC dI ky a wide high heat cools skinHeat today stirs steps lumps boats thickness lumpNames lumpCells boatNames boatCells loads spoons spoonsLeft depths thicknessF (nI k14) iv_a_0 iv_a_1 iv_a_2 iv_a_3 iv_a_4 iv_a_5) (cwV 1 hts gX7_rowBoat_X7_stepCost rfl rfl rfl (by decide +kernel) ⟨(Nat.le_of_ble_eq_true rfl), (Nat.le_of_ble_eq_true rfl)⟩) (pre_PV hK hP [0, 1] rfl (ci := 7) (q0 := 0) rfl rfl) rfl rfl hl.1 rfl (lv_room (Nat.le_of_ble_eq_true rfl)) dX7_rowBoat_36 ⟨(Nat.le_of_ble_eq_true rfl), (Nat.le_of_ble_eq_true rfl)⟩) (fun r21 p22 => ?_)
        refine lv_isub hx hb dX7_rowBoat_39 ?_
        refine lv_topi (fun y23 e24 => ?_)
        refine r_iast (x := y23) hx hb hK hP hD hS 3 rfl n7 (by omega) (by decide) dX7_rowBoat_40 (fun H locs hP hD hS => ?_)
        obtain ⟨g25, e26⟩ : ∃ z9, z9 = upd spoonsLeftF n7 y23 := ⟨_, rfl⟩
        rw [← e26] at hP hD
        have hP : va_P (dC, dI) vwCl [(a, .inr (7, [.int (nI wide), .int (nI high), .int heat, .int cools, .int skinHeat, .int today, .int stirs, .int steps, .int (nI lumps), .int (nI boats), .ref thickness, .ref lumpNames, .ref lumpCells, .ref boatNames, .ref boatCells, .ref loads, .ref spoons, .ref spoonsLeft, .ref depths])), (thickness, .inl (ky 0, 36, .inl thicknessF)), (boatCells, .inl (ky 0, 6, .inl boatCellsF)), (spoonsLeft, .inl (ky 0, 6, .inl g25))] H := hP
        have hD : va_D A [(a, .inr (7, [.int (nI wide), .int (nI high), .int heat, .int cools, .int skinHeat, .int today, .int stirs, .int steps, .int (nI lumps), .int (nI boats), .ref thickness, .ref lumpNames, .ref lumpCells, .ref boatNames, .ref boatCells, .ref loads, .ref spoons, .ref spoonsLeft, .ref depths])), (thickness, .inl (ky 0, 36, .inl thicknessF)), (boatCells, .inl (ky 0, 6, .inl boatCellsF)), (spoonsLeft, .inl (ky 0, 6, .inl g25))] := hD
        refine lv_aload_n hx hb dX7_rowBoat_41 rfl (lv_at hl 1 rfl) ?_
        refine va_get (D := (dC, dI)) (ci := 7) (v := .ref boatCells) (C := RX7) (T := TX7) (N := 19) hx hb hts hin7 hown hK hP 0 rfl rfl 14 (by decide) (hts (.fieldLink RX7 25 "PorridgeSea$Sea" "boatCells" "[I") (List.mem_of_getElem? (i := 1) rfl)) (fun _ h9 => h9) rfl dX7_rowBoat_42 ?_
        refine lv_iload_n hx hb dX7_rowBoat_45 rfl (lv_at hl 2 rfl) ?_
        refine lv_iload_n hx hb dX7_rowBoat_46 rfl (lv_at hl 0 rfl) ?_
        rw [e9]
        refine r_iast (x := (nI k14)) hx hb hK hP hD hS 2 rfl n7 (by omega) (by decide) dX7_rowBoat_47 (fun H locs hP hD hS => ?_)
        obtain ⟨g27, e28⟩ : ∃ z9, z9 = upd boatCellsF n7 (nI k14) := ⟨_, rfl⟩
        rw [← e28] at hP hD
        have hP : va_P (dC, dI) vwCl [(a, .inr (7, [.int (nI wide), .int (nI high), .int heat, .int cools, .int skinHeat, .int today, .int stirs, .int steps, .int (nI lumps), .int (nI boats), .ref thickness, .ref lumpNames, .ref lumpCells, .ref boatNames, .ref boatCells, .ref loads, .ref spoons, .ref spoonsLeft, .ref depths])), (thickness, .inl (ky 0, 36, .inl thicknessF)), (boatCells, .inl (ky 0, 6, .inl g27)), (spoonsLeft, .inl (ky 0, 6, .inl g25))] H := hP
        have hD : va_D A [(a, .inr (7, [.int (nI wide), .int (nI high), .int heat, .int cools, .int skinHeat, .int today, .int stirs, .int steps, .int (nI lumps), .int (nI boats), .ref thickness, .ref lumpNames, .ref lumpCells, .ref boatNames, .ref boatCells, .ref loads, .ref spoons, .ref spoonsLeft, .ref depths])), (thickness, .inl (ky 0, 36, .inl thicknessF)), (boatCells, .inl (ky 0, 6, .inl g27)), (spoonsLeft, .inl (ky 0, 6, .inl g25))] := hD
        refine lv_aload_n hx hb dX7_rowBoat_48 rfl (lv_at hl 1 rfl) ?_
        refine lv_dup hx hb dX7_rowBoat_49 rfl ?_
        refine va_get (D := (dC, dI)) (ci := 7) (v := .int steps) (C := RX7) (T := TX7) (N := 19) hx hb hts hin7 hown hK hP 0 rfl rfl 7 (by decide) (hts (.fieldLink RX7 65 "PorridgeSea$Sea" "steps" "I") (List.mem_of_getElem? (i := 3) rfl)) (fun _ h9 => h9) rfl dX7_rowBoat_50 ?_
        refine lv_iconst (v := nI 1) hx hb dX7_rowBoat_53 (by decide) ?_
        refine lv_iadd hx hb dX7_rowBoat_54 ?_
        refine lv_topi (fun y29 e30 => ?_)
        refine va_put (D := (dC, dI)) (ci := 7) (v := .int y29) (ty := .int) (C := RX7) (T := TX7) (N := 19) hx hb hts hin7 tyX7 tyX7_ok nmX7 hown hK hP hD hS 0 rfl rfl 7 (by decide) (hts (.fieldLink RX7 65 "PorridgeSea$Sea" "steps" "I") (List.mem_of_getElem? (i := 3) rfl)) (fun _ h9 => h9) rfl (by decide +kernel) rfl rfl (Nat.le_of_ble_eq_true rfl) dX7_rowBoat_55 (fun H locs hP hD hS => ?_)
        have hP : va_P (dC, dI) vwCl [(a, .inr (7, [.int (nI wide), .int (nI high), .int heat, .int cools, .int skinHeat, .int today, .int stirs, .int y29, .int (nI lumps), .int (nI boats), .ref thickness, .ref lumpNames, .ref lumpCells, .ref boatNames, .ref boatCells, .ref loads, .ref spoons, .ref spoonsLeft, .ref depths])), (thickness, .inl (ky 0, 36, .inl thicknessF)), (boatCells, .inl (ky 0, 6, .inl g27)), (spoonsLeft, .inl (ky 0, 6, .inl g25))] H := hP
        have hD : va_D A [(a, .inr (7, [.int (nI wide), .int (nI high), .int heat, .int cools, .int skinHeat, .int today, .int stirs, .int y29, .int (nI lumps), .int (nI boats), .ref thickness, .ref lumpNames, .ref lumpCells, .ref boatNames, .ref boatCells, .ref loads, .ref spoons, .ref spoonsLeft, .ref depths])), (thickness, .inl (ky 0, 36, .inl thicknessF)), (boatCells, .inl (ky 0, 6, .inl g27)), (spoonsLeft, .inl (ky 0, 6, .inl g25))] := hD
        rw [hQ]
        exact W.vret hx hb hr (fun t9 ht9 hW9 => ⟨⟨(y29, g27, g25), rfl, trivial, by rw [ht9]; exact hP, va_K.moved hW9.alike hK, hD⟩, hS.F ht9⟩) hS.2.2 dX7_rowBoat_58
      · rw [hQ]
        exact W.vret hx hb hr (fun t9 ht9 hW9 => ⟨⟨(steps, boatCellsF, spoonsLeftF), rfl, trivial, by rw [ht9]; exact hP, va_K.moved hW9.alike hK, hD⟩, hS.F ht9⟩) hS.2.2 dX7_rowBoat_26
  · refine lv_if_ne (tgt := 9) hx hb dX7_rowBoat_5 (by decide) (fun c31 => absurd c31 (by decide)) (fun c31 => ?_)
    rw [hQ]
    exact W.vret hx hb hr (fun t9 ht9 hW9 => ⟨⟨(steps, boatCellsF, spoonsLeftF), rfl, trivial, by rw [ht9]; exact hP, va_K.moved hW9.alike hK, hD⟩, hS.F ht9⟩) hS.2.2 dX7_rowBoat_8
set_option maxRecDepth 20000 in
theorem lf_s_whyNotFloured_1 (high : Nat) (y : Int32) (iv_a_2 : 2 ≤ high) (iv_a_3 : high ≤ 6) (t5 : 0 ≤ y.toInt) (t6 : y.toInt < high) : 0 ≤ y.toInt ∧ y.toInt < ((6 : Nat) : Int) := by
  have b_y := ia_b y
  try simp only [ia_lt, ia_le, ia_eq, ia_m1, ia_0, ia_1, ne_eq, true_and, and_true, false_and, and_false, or_false, false_or, or_true, true_or, not_true_eq_false, not_false_eq_true] at *
  all_goals omega
set_option maxRecDepth 20000 in
theorem lf_s_whyNotFloured_2 (wide : Nat) (x : Int32) (iv_a_0 : 2 ≤ wide) (iv_a_1 : wide ≤ 6) (t3 : 0 ≤ x.toInt) (t4 : x.toInt < wide) : 0 ≤ x.toInt ∧ x.toInt < ((6 : Nat) : Int) := by
  have b_x := ia_b x
  try simp only [ia_lt, ia_le, ia_eq, ia_m1, ia_0, ia_1, ne_eq, true_and, and_true, false_and, and_false, or_false, false_or, or_true, true_or, not_true_eq_false, not_false_eq_true] at *
  all_goals omega
set_option maxHeartbeats 4000000 in
set_option maxRecDepth 100000 in
theorem c_s_whyNotFloured (l : Launch) (dC : Nat → ClassId) (dI : Nat → Nat → Nat) (ky : Nat → ClassId) (a : Nat) (wide : Nat) (high : Nat) (heat : Int32) (cools : Int32) (skinHeat : Int32) (today : Int32) (stirs : Int32) (steps : Int32) (lumps : Nat) (boats : Nat) (thickness : Nat) (lumpNames : Nat) (lumpCells : Nat) (boatNames : Nat) (boatCells : Nat) (loads : Nat) (spoons : Nat) (spoonsLeft : Nat) (depths : Nat) (thicknessF : Nat → Int32) (x : Int32) (y : Int32) (z : Int32) (iv_a_0 : 2 ≤ wide) (iv_a_1 : wide ≤ 6) (iv_a_2 : 2 ≤ high) (iv_a_3 : high ≤ 6) (iv_a_4 : lumps ≤ 6) (iv_a_5 : boats ≤ 6) : Met l yX7_whyNotFloured wsX7_whyNotFloured ({ frames := 1, cells := 0, slots := 0, locals := 22 }) (PcP dC dI ky [.ref a, .int x, .int y, .int z] [(a, .inr (7, [.int (nI wide), .int (nI high), .int heat, .int cools, .int skinHeat, .int today, .int stirs, .int steps, .int (nI lumps), .int (nI boats), .ref thickness, .ref lumpNames, .ref lumpCells, .ref boatNames, .ref boatCells, .ref loads, .ref spoons, .ref spoonsLeft, .ref depths])), (thickness, .inl (ky 0, 36, .inl thicknessF))]) (vp_Si (fun r : Int32 => True)) 0 0 (fun _ => False) := by
  refine Met.ofW (cc := cX7_whyNotFloured) (maxL := 4) (ret := (some .int)) (by decide) rfl ?_
  intro p e s m args below meth c s₁ B hml hv
  obtain ⟨rfl, hP, hK⟩ := hv
  have hx := B.exec
  have hb := B.bytes
  have hr := B.returns
  have hts := atoms_spec (ws := wsX7_whyNotFloured) B.pre
  have hown : s.vm.findClass RX7 = some m.cls := findClass_of_methodNamed B.named
  have hlocks := B.notSynchronized
  have hl := lv_entry ([.ref a, .int x, .int y, .int z]) (n := 4) (Nat.le_of_ble_eq_true rfl)
  rw [lg_entry_eq]
  generalize (lg_sl ([.ref a, .int x, .int y, .int z]) ++ List.replicate (4 - (lg_sl ([.ref a, .int x, .int y, .int z])).length) Slot.unset).toArray = ls at hl ⊢
  have hl : lv_has ls 4 [(0, .ref a), (1, .int x), (2, .int y), (3, .int z)] := hl
  refine q_name (fun Q hQ => ?_)
  generalize ([.ref a, .int x, .int y, .int z] : List Value).toArray = args at hts hQ ⊢
  refine lv_aload_n hx hb dX7_whyNotFloured_0 rfl (lv_at hl 0 rfl) ?_
  refine lv_iload_n hx hb dX7_whyNotFloured_1 rfl (lv_at hl 1 rfl) ?_
  refine lv_iload_n hx hb dX7_whyNotFloured_2 rfl (lv_at hl 2 rfl) ?_
  refine vp_callSi (W.runV (As := [.int x, .int y]) (rest := []) ⟨hx, hb, hml, hown, hts⟩ (c_s_isCell l dC dI ky a wide high heat cools skinHeat today stirs steps lumps boats thickness lumpNames lumpCells boatNames boatCells loads spoons spoonsLeft depths x y iv_a_0 iv_a_1 iv_a_2 iv_a_3 iv_a_4 iv_a_5) (cwV 2 hts gX7_whyNotFloured_X7_isCell rfl rfl rfl (by decide +kernel) ⟨(Nat.le_of_ble_eq_true rfl), (Nat.le_of_ble_eq_true rfl)⟩) (pre_PV hK hP [0] rfl (ci := 7) (q0 := 0) rfl rfl) rfl rfl hl.1 rfl (lv_room (Nat.le_of_ble_eq_true rfl)) dX7_whyNotFloured_3 ⟨(Nat.le_of_ble_eq_true rfl), (Nat.le_of_ble_eq_true rfl)⟩) (fun r1 p2 => ?_)
  rcases p2 with ⟨rfl, t3, t4, t5, t6⟩ | ⟨rfl, t7⟩
  · refine lv_if_eq (tgt := 20) hx hb dX7_whyNotFloured_6 (by decide) (fun c8 => absurd c8 (by decide)) (fun c8 => ?_)
    refine lv_iload_n hx hb dX7_whyNotFloured_9 rfl (lv_at hl 3 rfl) ?_
    refine lv_iconst (v := nI 1) hx hb dX7_whyNotFloured_10 (by decide) ?_
    refine lv_icmp_lt (tgt := 20) hx hb dX7_whyNotFloured_11 (by decide) (fun c9 => ?_) (fun c9 => ?_)
    · refine lv_iconst (v := (-1 : Int32)) hx hb dX7_whyNotFloured_20 (by decide) ?_
      rw [hQ]
      exact W.iret (v := (-1 : Int32)) hx hb hr (fun t9 ht9 hW9 => ⟨(-1 : Int32), rfl, trivial, ht9⟩) (fun _ h => absurd h List.not_mem_nil) dX7_whyNotFloured_21
    · refine lv_iload_n hx hb dX7_whyNotFloured_14 rfl (lv_at hl 3 rfl) ?_
      refine lv_bipush (v := nI 9) hx hb dX7_whyNotFloured_15 (by decide) ?_
      refine lv_icmp_le (tgt := 22) hx hb dX7_whyNotFloured_17 (by decide) (fun c10 => ?_) (fun c10 => ?_)
      · refine lv_aload_n hx hb dX7_whyNotFloured_22 rfl (lv_at hl 0 rfl) ?_
        refine lv_bipush (v := nI 6) hx hb dX7_whyNotFloured_23 (by decide) ?_
        refine lv_iload_n hx hb dX7_whyNotFloured_25 rfl (lv_at hl 2 rfl) ?_
        obtain ⟨n11, h12, e13⟩ := nat_of y 6 (by decide) (lf_s_whyNotFloured_1 high y iv_a_2 iv_a_3 t5 t6)
        rw [e13]
        refine lv_imul hx hb dX7_whyNotFloured_26 ?_
        refine r_ti (nI (6 * n11)) (pk_mul _ _) ?_
        refine lv_iload_n hx hb dX7_whyNotFloured_27 rfl (lv_at hl 1 rfl) ?_
        obtain ⟨n14, h15, e16⟩ := nat_of x 6 (by decide) (lf_s_whyNotFloured_2 wide x iv_a_0 iv_a_1 t3 t4)
        rw [e16]
        refine lv_iadd hx hb dX7_whyNotFloured_28 ?_
        refine r_ti (nI ((6 * n11) + n14)) (nI_add _ _) ?_
        refine vp_callSi (W.runV (As := [.int (nI ((6 * n11) + n14))]) (rest := []) ⟨hx, hb, hml, hown, hts⟩ (c_s_thicknessIn l dC dI ky a wide high heat cools skinHeat today stirs steps lumps boats thickness lumpNames lumpCells boatNames boatCells loads spoons spoonsLeft depths thicknessF (nI ((6 * n11) + n14)) iv_a_0 iv_a_1 iv_a_2 iv_a_3 iv_a_4 iv_a_5) (cwV 1 hts gX7_whyNotFloured_X7_thicknessIn rfl rfl rfl (by decide +kernel) ⟨(Nat.le_of_ble_eq_true rfl), (Nat.le_of_ble_eq_true rfl)⟩) (pre_PV hK hP [0, 1] rfl (ci := 7) (q0 := 0) rfl rfl) rfl rfl hl.1 rfl (lv_room (Nat.le_of_ble_eq_true rfl)) dX7_whyNotFloured_29 ⟨(Nat.le_of_ble_eq_true rfl), (Nat.le_of_ble_eq_true rfl)⟩) (fun r17 p18 => ?_)
        refine lv_bipush (v := nI 9) hx hb dX7_whyNotFloured_32 (by decide) ?_
        refine lv_icmp_ne (tgt := 41) hx hb dX7_whyNotFloured_34 (by decide) (fun c19 => ?_) (fun c19 => ?_)
        · refine lv_iconst (v := nI 0) hx hb dX7_whyNotFloured_41 (by decide) ?_
          rw [hQ]
          exact W.iret (v := nI 0) hx hb hr (fun t9 ht9 hW9 => ⟨nI 0, rfl, trivial, ht9⟩) (fun _ h => absurd h List.not_mem_nil) dX7_whyNotFloured_42
        · refine lv_iconst (v := nI 1) hx hb dX7_whyNotFloured_37 (by decide) ?_
          refine lv_goto (tgt := 42) hx hb dX7_whyNotFloured_38 (by decide) ?_
          rw [hQ]
          exact W.iret (v := nI 1) hx hb hr (fun t9 ht9 hW9 => ⟨nI 1, rfl, trivial, ht9⟩) (fun _ h => absurd h List.not_mem_nil) dX7_whyNotFloured_42
      · refine lv_iconst (v := (-1 : Int32)) hx hb dX7_whyNotFloured_20 (by decide) ?_
        rw [hQ]
        exact W.iret (v := (-1 : Int32)) hx hb hr (fun t9 ht9 hW9 => ⟨(-1 : Int32), rfl, trivial, ht9⟩) (fun _ h => absurd h List.not_mem_nil) dX7_whyNotFloured_21
  · refine lv_if_eq (tgt := 20) hx hb dX7_whyNotFloured_6 (by decide) (fun c20 => ?_) (fun c20 => absurd (by decide) c20)
    refine lv_iconst (v := (-1 : Int32)) hx hb dX7_whyNotFloured_20 (by decide) ?_
    rw [hQ]
    exact W.iret (v := (-1 : Int32)) hx hb hr (fun t9 ht9 hW9 => ⟨(-1 : Int32), rfl, trivial, ht9⟩) (fun _ h => absurd h List.not_mem_nil) dX7_whyNotFloured_21
set_option maxRecDepth 20000 in
theorem lf_s_whyNotMilked_1 (high : Nat) (y : Int32) (iv_a_2 : 2 ≤ high) (iv_a_3 : high ≤ 6) (t5 : 0 ≤ y.toInt) (t6 : y.toInt < high) : 0 ≤ y.toInt ∧ y.toInt < ((6 : Nat) : Int) := by
  have b_y := ia_b y
  try simp only [ia_lt, ia_le, ia_eq, ia_m1, ia_0, ia_1, ne_eq, true_and, and_true, false_and, and_false, or_false, false_or, or_true, true_or, not_true_eq_false, not_false_eq_true] at *
  all_goals omega
set_option maxRecDepth 20000 in
theorem lf_s_whyNotMilked_2 (wide : Nat) (x : Int32) (iv_a_0 : 2 ≤ wide) (iv_a_1 : wide ≤ 6) (t3 : 0 ≤ x.toInt) (t4 : x.toInt < wide) : 0 ≤ x.toInt ∧ x.toInt < ((6 : Nat) : Int) := by
  have b_x := ia_b x
  try simp only [ia_lt, ia_le, ia_eq, ia_m1, ia_0, ia_1, ne_eq, true_and, and_true, false_and, and_false, or_false, false_or, or_true, true_or, not_true_eq_false, not_false_eq_true] at *
  all_goals omega
set_option maxHeartbeats 4000000 in
set_option maxRecDepth 100000 in
theorem c_s_whyNotMilked (l : Launch) (dC : Nat → ClassId) (dI : Nat → Nat → Nat) (ky : Nat → ClassId) (a : Nat) (wide : Nat) (high : Nat) (heat : Int32) (cools : Int32) (skinHeat : Int32) (today : Int32) (stirs : Int32) (steps : Int32) (lumps : Nat) (boats : Nat) (thickness : Nat) (lumpNames : Nat) (lumpCells : Nat) (boatNames : Nat) (boatCells : Nat) (loads : Nat) (spoons : Nat) (spoonsLeft : Nat) (depths : Nat) (thicknessF : Nat → Int32) (x : Int32) (y : Int32) (z : Int32) (iv_a_0 : 2 ≤ wide) (iv_a_1 : wide ≤ 6) (iv_a_2 : 2 ≤ high) (iv_a_3 : high ≤ 6) (iv_a_4 : lumps ≤ 6) (iv_a_5 : boats ≤ 6) : Met l yX7_whyNotMilked wsX7_whyNotMilked ({ frames := 1, cells := 0, slots := 0, locals := 22 }) (PcP dC dI ky [.ref a, .int x, .int y, .int z] [(a, .inr (7, [.int (nI wide), .int (nI high), .int heat, .int cools, .int skinHeat, .int today, .int stirs, .int steps, .int (nI lumps), .int (nI boats), .ref thickness, .ref lumpNames, .ref lumpCells, .ref boatNames, .ref boatCells, .ref loads, .ref spoons, .ref spoonsLeft, .ref depths])), (thickness, .inl (ky 0, 36, .inl thicknessF))]) (vp_Si (fun r : Int32 => True)) 0 0 (fun _ => False) := by
  refine Met.ofW (cc := cX7_whyNotMilked) (maxL := 4) (ret := (some .int)) (by decide) rfl ?_
  intro p e s m args below meth c s₁ B hml hv
  obtain ⟨rfl, hP, hK⟩ := hv
  have hx := B.exec
  have hb := B.bytes
  have hr := B.returns
  have hts := atoms_spec (ws := wsX7_whyNotMilked) B.pre
  have hown : s.vm.findClass RX7 = some m.cls := findClass_of_methodNamed B.named
  have hlocks := B.notSynchronized
  have hl := lv_entry ([.ref a, .int x, .int y, .int z]) (n := 4) (Nat.le_of_ble_eq_true rfl)
  rw [lg_entry_eq]
  generalize (lg_sl ([.ref a, .int x, .int y, .int z]) ++ List.replicate (4 - (lg_sl ([.ref a, .int x, .int y, .int z])).length) Slot.unset).toArray = ls at hl ⊢
  have hl : lv_has ls 4 [(0, .ref a), (1, .int x), (2, .int y), (3, .int z)] := hl
  refine q_name (fun Q hQ => ?_)
  generalize ([.ref a, .int x, .int y, .int z] : List Value).toArray = args at hts hQ ⊢
  refine lv_aload_n hx hb dX7_whyNotMilked_0 rfl (lv_at hl 0 rfl) ?_
  refine lv_iload_n hx hb dX7_whyNotMilked_1 rfl (lv_at hl 1 rfl) ?_
  refine lv_iload_n hx hb dX7_whyNotMilked_2 rfl (lv_at hl 2 rfl) ?_
  refine vp_callSi (W.runV (As := [.int x, .int y]) (rest := []) ⟨hx, hb, hml, hown, hts⟩ (c_s_isCell l dC dI ky a wide high heat cools skinHeat today stirs steps lumps boats thickness lumpNames lumpCells boatNames boatCells loads spoons spoonsLeft depths x y iv_a_0 iv_a_1 iv_a_2 iv_a_3 iv_a_4 iv_a_5) (cwV 2 hts gX7_whyNotMilked_X7_isCell rfl rfl rfl (by decide +kernel) ⟨(Nat.le_of_ble_eq_true rfl), (Nat.le_of_ble_eq_true rfl)⟩) (pre_PV hK hP [0] rfl (ci := 7) (q0 := 0) rfl rfl) rfl rfl hl.1 rfl (lv_room (Nat.le_of_ble_eq_true rfl)) dX7_whyNotMilked_3 ⟨(Nat.le_of_ble_eq_true rfl), (Nat.le_of_ble_eq_true rfl)⟩) (fun r1 p2 => ?_)
  rcases p2 with ⟨rfl, t3, t4, t5, t6⟩ | ⟨rfl, t7⟩
  · refine lv_if_eq (tgt := 20) hx hb dX7_whyNotMilked_6 (by decide) (fun c8 => absurd c8 (by decide)) (fun c8 => ?_)
    refine lv_iload_n hx hb dX7_whyNotMilked_9 rfl (lv_at hl 3 rfl) ?_
    refine lv_iconst (v := nI 1) hx hb dX7_whyNotMilked_10 (by decide) ?_
    refine lv_icmp_lt (tgt := 20) hx hb dX7_whyNotMilked_11 (by decide) (fun c9 => ?_) (fun c9 => ?_)
    · refine lv_iconst (v := (-1 : Int32)) hx hb dX7_whyNotMilked_20 (by decide) ?_
      rw [hQ]
      exact W.iret (v := (-1 : Int32)) hx hb hr (fun t9 ht9 hW9 => ⟨(-1 : Int32), rfl, trivial, ht9⟩) (fun _ h => absurd h List.not_mem_nil) dX7_whyNotMilked_21
    · refine lv_iload_n hx hb dX7_whyNotMilked_14 rfl (lv_at hl 3 rfl) ?_
      refine lv_bipush (v := nI 9) hx hb dX7_whyNotMilked_15 (by decide) ?_
      refine lv_icmp_le (tgt := 22) hx hb dX7_whyNotMilked_17 (by decide) (fun c10 => ?_) (fun c10 => ?_)
      · refine lv_aload_n hx hb dX7_whyNotMilked_22 rfl (lv_at hl 0 rfl) ?_
        refine lv_bipush (v := nI 6) hx hb dX7_whyNotMilked_23 (by decide) ?_
        refine lv_iload_n hx hb dX7_whyNotMilked_25 rfl (lv_at hl 2 rfl) ?_
        obtain ⟨n11, h12, e13⟩ := nat_of y 6 (by decide) (lf_s_whyNotMilked_1 high y iv_a_2 iv_a_3 t5 t6)
        rw [e13]
        refine lv_imul hx hb dX7_whyNotMilked_26 ?_
        refine r_ti (nI (6 * n11)) (pk_mul _ _) ?_
        refine lv_iload_n hx hb dX7_whyNotMilked_27 rfl (lv_at hl 1 rfl) ?_
        obtain ⟨n14, h15, e16⟩ := nat_of x 6 (by decide) (lf_s_whyNotMilked_2 wide x iv_a_0 iv_a_1 t3 t4)
        rw [e16]
        refine lv_iadd hx hb dX7_whyNotMilked_28 ?_
        refine r_ti (nI ((6 * n11) + n14)) (nI_add _ _) ?_
        refine vp_callSi (W.runV (As := [.int (nI ((6 * n11) + n14))]) (rest := []) ⟨hx, hb, hml, hown, hts⟩ (c_s_thicknessIn l dC dI ky a wide high heat cools skinHeat today stirs steps lumps boats thickness lumpNames lumpCells boatNames boatCells loads spoons spoonsLeft depths thicknessF (nI ((6 * n11) + n14)) iv_a_0 iv_a_1 iv_a_2 iv_a_3 iv_a_4 iv_a_5) (cwV 1 hts gX7_whyNotMilked_X7_thicknessIn rfl rfl rfl (by decide +kernel) ⟨(Nat.le_of_ble_eq_true rfl), (Nat.le_of_ble_eq_true rfl)⟩) (pre_PV hK hP [0, 1] rfl (ci := 7) (q0 := 0) rfl rfl) rfl rfl hl.1 rfl (lv_room (Nat.le_of_ble_eq_true rfl)) dX7_whyNotMilked_29 ⟨(Nat.le_of_ble_eq_true rfl), (Nat.le_of_ble_eq_true rfl)⟩) (fun r17 p18 => ?_)
        refine lv_if_ne (tgt := 39) hx hb dX7_whyNotMilked_32 (by decide) (fun c19 => ?_) (fun c19 => ?_)
        · refine lv_iconst (v := nI 0) hx hb dX7_whyNotMilked_39 (by decide) ?_
          rw [hQ]
          exact W.iret (v := nI 0) hx hb hr (fun t9 ht9 hW9 => ⟨nI 0, rfl, trivial, ht9⟩) (fun _ h => absurd h List.not_mem_nil) dX7_whyNotMilked_40
        · refine lv_iconst (v := nI 1) hx hb dX7_whyNotMilked_35 (by decide) ?_
          refine lv_goto (tgt := 40) hx hb dX7_whyNotMilked_36 (by decide) ?_
          rw [hQ]
          exact W.iret (v := nI 1) hx hb hr (fun t9 ht9 hW9 => ⟨nI 1, rfl, trivial, ht9⟩) (fun _ h => absurd h List.not_mem_nil) dX7_whyNotMilked_40
      · refine lv_iconst (v := (-1 : Int32)) hx hb dX7_whyNotMilked_20 (by decide) ?_
        rw [hQ]
        exact W.iret (v := (-1 : Int32)) hx hb hr (fun t9 ht9 hW9 => ⟨(-1 : Int32), rfl, trivial, ht9⟩) (fun _ h => absurd h List.not_mem_nil) dX7_whyNotMilked_21
  · refine lv_if_eq (tgt := 20) hx hb dX7_whyNotMilked_6 (by decide) (fun c20 => ?_) (fun c20 => absurd (by decide) c20)
    refine lv_iconst (v := (-1 : Int32)) hx hb dX7_whyNotMilked_20 (by decide) ?_
    rw [hQ]
    exact W.iret (v := (-1 : Int32)) hx hb hr (fun t9 ht9 hW9 => ⟨(-1 : Int32), rfl, trivial, ht9⟩) (fun _ h => absurd h List.not_mem_nil) dX7_whyNotMilked_21
set_option maxRecDepth 20000 in
theorem lf_s_thicken_1 (high : Nat) (y : Int32) (iv_a_2 : 2 ≤ high) (iv_a_3 : high ≤ 6) (t5 : 0 ≤ y.toInt) (t6 : y.toInt < high) : 0 ≤ y.toInt ∧ y.toInt < ((6 : Nat) : Int) := by
  have b_y := ia_b y
  try simp only [ia_lt, ia_le, ia_eq, ia_m1, ia_0, ia_1, ne_eq, true_and, and_true, false_and, and_false, or_false, false_or, or_true, true_or, not_true_eq_false, not_false_eq_true] at *
  all_goals omega
set_option maxRecDepth 20000 in
theorem lf_s_thicken_2 (wide : Nat) (x : Int32) (iv_a_0 : 2 ≤ wide) (iv_a_1 : wide ≤ 6) (t3 : 0 ≤ x.toInt) (t4 : x.toInt < wide) : 0 ≤ x.toInt ∧ x.toInt < ((6 : Nat) : Int) := by
  have b_x := ia_b x
  try simp only [ia_lt, ia_le, ia_eq, ia_m1, ia_0, ia_1, ne_eq, true_and, and_true, false_and, and_false, or_false, false_or, or_true, true_or, not_true_eq_false, not_false_eq_true] at *
  all_goals omega
set_option maxHeartbeats 4000000 in
set_option maxRecDepth 100000 in
theorem c_s_thicken (l : Launch) (dC : Nat → ClassId) (dI : Nat → Nat → Nat) (ky : Nat → ClassId) (sz : Nat) (a : Nat) (wide : Nat) (high : Nat) (heat : Int32) (cools : Int32) (skinHeat : Int32) (today : Int32) (stirs : Int32) (steps : Int32) (lumps : Nat) (boats : Nat) (thickness : Nat) (lumpNames : Nat) (lumpCells : Nat) (boatNames : Nat) (boatCells : Nat) (loads : Nat) (spoons : Nat) (spoonsLeft : Nat) (depths : Nat) (thicknessF : Nat → Int32) (x : Int32) (y : Int32) (z : Int32) (iv_a_0 : 2 ≤ wide) (iv_a_1 : wide ≤ 6) (iv_a_2 : 2 ≤ high) (iv_a_3 : high ≤ 6) (iv_a_4 : lumps ≤ 6) (iv_a_5 : boats ≤ 6) : Met l yX7_thicken wsX7_thicken ({ frames := 1, cells := 0, slots := 0, locals := 22 }) (PcU dC dI ky [.ref a, .int x, .int y, .int z] [(a, .inr (7, [.int (nI wide), .int (nI high), .int heat, .int cools, .int skinHeat, .int today, .int stirs, .int steps, .int (nI lumps), .int (nI boats), .ref thickness, .ref lumpNames, .ref lumpCells, .ref boatNames, .ref boatCells, .ref loads, .ref spoons, .ref spoonsLeft, .ref depths])), (thickness, .inl (ky 0, 36, .inl thicknessF))] sz) (va_Qv (fun (thicknessG : (Nat → Int32)) => True) (BU dC dI ky (fun (thicknessG : (Nat → Int32)) => [(a, .inr (7, [.int (nI wide), .int (nI high), .int heat, .int cools, .int skinHeat, .int today, .int stirs, .int steps, .int (nI lumps), .int (nI boats), .ref thickness, .ref lumpNames, .ref lumpCells, .ref boatNames, .ref boatCells, .ref loads, .ref spoons, .ref spoonsLeft, .ref depths])), (thickness, .inl (ky 0, 36, .inl thicknessG))]) (va_A [(a, .inr (7, [.int (nI wide), .int (nI high), .int heat, .int cools, .int skinHeat, .int today, .int stirs, .int steps, .int (nI lumps), .int (nI boats), .ref thickness, .ref lumpNames, .ref lumpCells, .ref boatNames, .ref boatCells, .ref loads, .ref spoons, .ref spoonsLeft, .ref depths])), (thickness, .inl (ky 0, 36, .inl thicknessF))] sz)) (va_A [(a, .inr (7, [.int (nI wide), .int (nI high), .int heat, .int cools, .int skinHeat, .int today, .int stirs, .int steps, .int (nI lumps), .int (nI boats), .ref thickness, .ref lumpNames, .ref lumpCells, .ref boatNames, .ref boatCells, .ref loads, .ref spoons, .ref spoonsLeft, .ref depths])), (thickness, .inl (ky 0, 36, .inl thicknessF))] sz)) 0 0 (va_A [(a, .inr (7, [.int (nI wide), .int (nI high), .int heat, .int cools, .int skinHeat, .int today, .int stirs, .int steps, .int (nI lumps), .int (nI boats), .ref thickness, .ref lumpNames, .ref lumpCells, .ref boatNames, .ref boatCells, .ref loads, .ref spoons, .ref spoonsLeft, .ref depths])), (thickness, .inl (ky 0, 36, .inl thicknessF))] sz) := by
  refine Met.ofW (cc := cX7_thicken) (maxL := 5) (ret := none) (by decide) rfl ?_
  intro p e s m args below meth c s₁ B hml hv
  obtain ⟨rfl, hsz, hP, hK, hD0⟩ := hv
  have hx := B.exec
  have hb := B.bytes
  have hr := B.returns
  have hts := atoms_spec (ws := wsX7_thicken) B.pre
  have hown : s.vm.findClass RX7 = some m.cls := findClass_of_methodNamed B.named
  have hlocks := B.notSynchronized
  have hin7 : ∀ w ∈ u_ws RX7 TX7 19, w ∈ wsX7_thicken := by decide +kernel
  subst hsz
  have hD := hD0.self (sz := s.heap.size)
  generalize hAe : va_A [(a, .inr (7, [.int (nI wide), .int (nI high), .int heat, .int cools, .int skinHeat, .int today, .int stirs, .int steps, .int (nI lumps), .int (nI boats), .ref thickness, .ref lumpNames, .ref lumpCells, .ref boatNames, .ref boatCells, .ref loads, .ref spoons, .ref spoonsLeft, .ref depths])), (thickness, .inl (ky 0, 36, .inl thicknessF))] s.heap.size = A at hD ⊢
  have hA : ∀ q : Nat, s.heap.size ≤ q → A q := fun q h => by rw [← hAe]; exact Or.inr h
  have hS : va_S A s.heap s.heap [] := va_S.rf
  have hl := lv_entry ([.ref a, .int x, .int y, .int z]) (n := 5) (Nat.le_of_ble_eq_true rfl)
  rw [lg_entry_eq]
  generalize (lg_sl ([.ref a, .int x, .int y, .int z]) ++ List.replicate (5 - (lg_sl ([.ref a, .int x, .int y, .int z])).length) Slot.unset).toArray = ls at hl ⊢
  have hl : lv_has ls 5 [(0, .ref a), (1, .int x), (2, .int y), (3, .int z)] := hl
  refine q_name (fun Q hQ => ?_)
  generalize ([.ref a, .int x, .int y, .int z] : List Value).toArray = args at hts hQ ⊢
  refine lv_aload_n hx hb dX7_thicken_0 rfl (lv_at hl 0 rfl) ?_
  refine lv_iload_n hx hb dX7_thicken_1 rfl (lv_at hl 1 rfl) ?_
  refine lv_iload_n hx hb dX7_thicken_2 rfl (lv_at hl 2 rfl) ?_
  refine vp_callSi (W.runV (As := [.int x, .int y]) (rest := []) ⟨hx, hb, hml, hown, hts⟩ (c_s_isCell l dC dI ky a wide high heat cools skinHeat today stirs steps lumps boats thickness lumpNames lumpCells boatNames boatCells loads spoons spoonsLeft depths x y iv_a_0 iv_a_1 iv_a_2 iv_a_3 iv_a_4 iv_a_5) (cwV 2 hts gX7_thicken_X7_isCell rfl rfl rfl (by decide +kernel) ⟨(Nat.le_of_ble_eq_true rfl), (Nat.le_of_ble_eq_true rfl)⟩) (pre_PV hK hP [0] rfl (ci := 7) (q0 := 0) rfl rfl) rfl rfl hl.1 rfl (lv_room (Nat.le_of_ble_eq_true rfl)) dX7_thicken_3 ⟨(Nat.le_of_ble_eq_true rfl), (Nat.le_of_ble_eq_true rfl)⟩) (fun r1 p2 => ?_)
  rcases p2 with ⟨rfl, t3, t4, t5, t6⟩ | ⟨rfl, t7⟩
  · refine lv_if_eq (tgt := 42) hx hb dX7_thicken_6 (by decide) (fun c8 => absurd c8 (by decide)) (fun c8 => ?_)
    refine lv_bipush (v := nI 6) hx hb dX7_thicken_9 (by decide) ?_
    refine lv_iload_n hx hb dX7_thicken_11 rfl (lv_at hl 2 rfl) ?_
    obtain ⟨n9, h10, e11⟩ := nat_of y 6 (by decide) (lf_s_thicken_1 high y iv_a_2 iv_a_3 t5 t6)
    rw [e11]
    refine lv_imul hx hb dX7_thicken_12 ?_
    refine r_ti (nI (6 * n9)) (pk_mul _ _) ?_
    refine lv_iload_n hx hb dX7_thicken_13 rfl (lv_at hl 1 rfl) ?_
    obtain ⟨n12, h13, e14⟩ := nat_of x 6 (by decide) (lf_s_thicken_2 wide x iv_a_0 iv_a_1 t3 t4)
    rw [e14]
    refine lv_iadd hx hb dX7_thicken_14 ?_
    refine r_ti (nI ((6 * n9) + n12)) (nI_add _ _) ?_
    refine lv_istore (lv' := [(4, .int (nI ((6 * n9) + n12))), (0, .ref a), (1, .int x), (2, .int y), (3, .int z)]) hx hb dX7_thicken_15 hl (by decide) rfl (fun ls hl => ?_)
    refine lv_aload_n hx hb dX7_thicken_17 rfl (lv_at hl 1 rfl) ?_
    refine va_get (D := (dC, dI)) (ci := 7) (v := .ref thickness) (C := RX7) (T := TX7) (N := 19) hx hb hts hin7 hown hK hP 0 rfl rfl 10 (by decide) (hts (.fieldLink RX7 9 "PorridgeSea$Sea" "thickness" "[I") (List.mem_of_getElem? (i := 1) rfl)) (fun _ h9 => h9) rfl dX7_thicken_18 ?_
    refine lv_iload hx hb dX7_thicken_21 (lv_at hl 0 rfl) ?_
    refine lv_iconst (v := nI 0) hx hb dX7_thicken_23 (by decide) ?_
    refine lv_bipush (v := nI 9) hx hb dX7_thicken_24 (by decide) ?_
    refine lv_aload_n hx hb dX7_thicken_26 rfl (lv_at hl 1 rfl) ?_
    refine va_get (D := (dC, dI)) (ci := 7) (v := .ref thickness) (C := RX7) (T := TX7) (N := 19) hx hb hts hin7 hown hK hP 0 rfl rfl 10 (by decide) (hts (.fieldLink RX7 9 "PorridgeSea$Sea" "thickness" "[I") (List.mem_of_getElem? (i := 1) rfl)) (fun _ h9 => h9) rfl dX7_thicken_27 ?_
    refine lv_iload hx hb dX7_thicken_30 (lv_at hl 0 rfl) ?_
    obtain ⟨y15, e16⟩ : ∃ z9, z9 = thicknessF ((6 * n9) + n12) := ⟨_, rfl⟩
    refine r_iald hx hb hK hP 1 rfl ((6 * n9) + n12) (by omega) (by decide) y15 e16.symm dX7_thicken_32 ?_
    refine lv_iload_n hx hb dX7_thicken_33 rfl (lv_at hl 4 rfl) ?_
    refine lv_iadd hx hb dX7_thicken_34 ?_
    refine lv_topi (fun y17 e18 => ?_)
    refine va_mmin hx hb (by rw [hml]; exact hl.1.symm) hown (hts _ (List.mem_of_getElem? (i := 2) rfl)) (hts _ (List.mem_of_getElem? (i := 3) rfl)) (hts _ (List.mem_of_getElem? (i := 4) rfl)) (hts _ (List.mem_of_getElem? (i := 5) rfl)) (Nat.le_of_ble_eq_true rfl) (Nat.le_of_ble_eq_true rfl) (Nat.le_of_ble_eq_true rfl) (Nat.le_of_ble_eq_true rfl) dX7_thicken_35 ?_
    refine lv_topi (fun y19 e20 => ?_)
    refine va_mmax hx hb (by rw [hml]; exact hl.1.symm) hown (hts _ (List.mem_of_getElem? (i := 6) rfl)) (hts _ (List.mem_of_getElem? (i := 7) rfl)) (hts _ (List.mem_of_getElem? (i := 4) rfl)) (hts _ (List.mem_of_getElem? (i := 8) rfl)) (Nat.le_of_ble_eq_true rfl) (Nat.le_of_ble_eq_true rfl) (Nat.le_of_ble_eq_true rfl) (Nat.le_of_ble_eq_true rfl) dX7_thicken_38 ?_
    refine lv_topi (fun y21 e22 => ?_)
    refine r_iast (x := y21) hx hb hK hP hD hS 1 rfl ((6 * n9) + n12) (by omega) (by decide) dX7_thicken_41 (fun H locs hP hD hS => ?_)
    obtain ⟨g23, e24⟩ : ∃ z9, z9 = upd thicknessF ((6 * n9) + n12) y21 := ⟨_, rfl⟩
    rw [← e24] at hP hD
    have hP : va_P (dC, dI) vwCl [(a, .inr (7, [.int (nI wide), .int (nI high), .int heat, .int cools, .int skinHeat, .int today, .int stirs, .int steps, .int (nI lumps), .int (nI boats), .ref thickness, .ref lumpNames, .ref lumpCells, .ref boatNames, .ref boatCells, .ref loads, .ref spoons, .ref spoonsLeft, .ref depths])), (thickness, .inl (ky 0, 36, .inl g23))] H := hP
    have hD : va_D A [(a, .inr (7, [.int (nI wide), .int (nI high), .int heat, .int cools, .int skinHeat, .int today, .int stirs, .int steps, .int (nI lumps), .int (nI boats), .ref thickness, .ref lumpNames, .ref lumpCells, .ref boatNames, .ref boatCells, .ref loads, .ref spoons, .ref spoonsLeft, .ref depths])), (thickness, .inl (ky 0, 36, .inl g23))] := hD
    rw [hQ]
    exact W.vret hx hb hr (fun t9 ht9 hW9 => ⟨⟨g23, rfl, trivial, by rw [ht9]; exact hP, va_K.moved hW9.alike hK, hD⟩, hS.F ht9⟩) hS.2.2 dX7_thicken_42
  · refine lv_if_eq (tgt := 42) hx hb dX7_thicken_6 (by decide) (fun c25 => ?_) (fun c25 => absurd (by decide) c25)
    rw [hQ]
    exact W.vret hx hb hr (fun t9 ht9 hW9 => ⟨⟨thicknessF, rfl, trivial, by rw [ht9]; exact hP, va_K.moved hW9.alike hK, hD⟩, hS.F ht9⟩) hS.2.2 dX7_thicken_42
set_option maxHeartbeats 4000000 in
set_option maxRecDepth 100000 in
theorem c_s_whyNotWarmed (l : Launch) (dC : Nat → ClassId) (dI : Nat → Nat → Nat) (ky : Nat → ClassId) (a : Nat) (wide : Nat) (high : Nat) (heat : Int32) (cools : Int32) (skinHeat : Int32) (today : Int32) (stirs : Int32) (steps : Int32) (lumps : Nat) (boats : Nat) (thickness : Nat) (lumpNames : Nat) (lumpCells : Nat) (boatNames : Nat) (boatCells : Nat) (loads : Nat) (spoons : Nat) (spoonsLeft : Nat) (depths : Nat) (x : Int32) (iv_a_0 : 2 ≤ wide) (iv_a_1 : wide ≤ 6) (iv_a_2 : 2 ≤ high) (iv_a_3 : high ≤ 6) (iv_a_4 : lumps ≤ 6) (iv_a_5 : boats ≤ 6) : Met l yX7_whyNotWarmed wsX7_whyNotWarmed ({ frames := 0, cells := 0, slots := 0, locals := 0 }) (PcP dC dI ky [.ref a, .int x] [(a, .inr (7, [.int (nI wide), .int (nI high), .int heat, .int cools, .int skinHeat, .int today, .int stirs, .int steps, .int (nI lumps), .int (nI boats), .ref thickness, .ref lumpNames, .ref lumpCells, .ref boatNames, .ref boatCells, .ref loads, .ref spoons, .ref spoonsLeft, .ref depths]))]) (vp_Si (fun r : Int32 => True)) 0 0 (fun _ => False) := by
  refine Met.ofW (cc := cX7_whyNotWarmed) (maxL := 2) (ret := (some .int)) (by decide) rfl ?_
  intro p e s m args below meth c s₁ B hml hv
  obtain ⟨rfl, hP, hK⟩ := hv
  have hx := B.exec
  have hb := B.bytes
  have hr := B.returns
  have hts := atoms_spec (ws := wsX7_whyNotWarmed) B.pre
  have hown : s.vm.findClass RX7 = some m.cls := findClass_of_methodNamed B.named
  have hlocks := B.notSynchronized
  have hin7 : ∀ w ∈ u_ws RX7 TX7 19, w ∈ wsX7_whyNotWarmed := by decide +kernel
  have hl := lv_entry ([.ref a, .int x]) (n := 2) (Nat.le_of_ble_eq_true rfl)
  rw [lg_entry_eq]
  generalize (lg_sl ([.ref a, .int x]) ++ List.replicate (2 - (lg_sl ([.ref a, .int x])).length) Slot.unset).toArray = ls at hl ⊢
  have hl : lv_has ls 2 [(0, .ref a), (1, .int x)] := hl
  refine q_name (fun Q hQ => ?_)
  generalize ([.ref a, .int x] : List Value).toArray = args at hts hQ ⊢
  refine lv_iload_n hx hb dX7_whyNotWarmed_0 rfl (lv_at hl 1 rfl) ?_
  refine lv_iconst (v := nI 1) hx hb dX7_whyNotWarmed_1 (by decide) ?_
  refine lv_icmp_lt (tgt := 11) hx hb dX7_whyNotWarmed_2 (by decide) (fun c1 => ?_) (fun c1 => ?_)
  · refine lv_iconst (v := (-1 : Int32)) hx hb dX7_whyNotWarmed_11 (by decide) ?_
    rw [hQ]
    exact W.iret (v := (-1 : Int32)) hx hb hr (fun t9 ht9 hW9 => ⟨(-1 : Int32), rfl, trivial, ht9⟩) (fun _ h => absurd h List.not_mem_nil) dX7_whyNotWarmed_12
  · refine lv_iload_n hx hb dX7_whyNotWarmed_5 rfl (lv_at hl 1 rfl) ?_
    refine lv_bipush (v := nI 20) hx hb dX7_whyNotWarmed_6 (by decide) ?_
    refine lv_icmp_le (tgt := 13) hx hb dX7_whyNotWarmed_8 (by decide) (fun c2 => ?_) (fun c2 => ?_)
    · refine lv_aload_n hx hb dX7_whyNotWarmed_13 rfl (lv_at hl 0 rfl) ?_
      refine va_get (D := (dC, dI)) (ci := 7) (v := .int heat) (C := RX7) (T := TX7) (N := 19) hx hb hts hin7 hown hK hP 0 rfl rfl 2 (by decide) (hts (.fieldLink RX7 50 "PorridgeSea$Sea" "heat" "I") (List.mem_of_getElem? (i := 1) rfl)) (fun _ h9 => h9) rfl dX7_whyNotWarmed_14 ?_
      refine lv_bipush (v := nI 30) hx hb dX7_whyNotWarmed_17 (by decide) ?_
      refine lv_icmp_ne (tgt := 26) hx hb dX7_whyNotWarmed_19 (by decide) (fun c3 => ?_) (fun c3 => ?_)
      · refine lv_iconst (v := nI 0) hx hb dX7_whyNotWarmed_26 (by decide) ?_
        rw [hQ]
        exact W.iret (v := nI 0) hx hb hr (fun t9 ht9 hW9 => ⟨nI 0, rfl, trivial, ht9⟩) (fun _ h => absurd h List.not_mem_nil) dX7_whyNotWarmed_27
      · refine lv_iconst (v := nI 1) hx hb dX7_whyNotWarmed_22 (by decide) ?_
        refine lv_goto (tgt := 27) hx hb dX7_whyNotWarmed_23 (by decide) ?_
        rw [hQ]
        exact W.iret (v := nI 1) hx hb hr (fun t9 ht9 hW9 => ⟨nI 1, rfl, trivial, ht9⟩) (fun _ h => absurd h List.not_mem_nil) dX7_whyNotWarmed_27
    · refine lv_iconst (v := (-1 : Int32)) hx hb dX7_whyNotWarmed_11 (by decide) ?_
      rw [hQ]
      exact W.iret (v := (-1 : Int32)) hx hb hr (fun t9 ht9 hW9 => ⟨(-1 : Int32), rfl, trivial, ht9⟩) (fun _ h => absurd h List.not_mem_nil) dX7_whyNotWarmed_12
set_option maxHeartbeats 4000000 in
set_option maxRecDepth 100000 in
theorem c_s_warm (l : Launch) (dC : Nat → ClassId) (dI : Nat → Nat → Nat) (ky : Nat → ClassId) (sz : Nat) (a : Nat) (wide : Nat) (high : Nat) (heat : Int32) (cools : Int32) (skinHeat : Int32) (today : Int32) (stirs : Int32) (steps : Int32) (lumps : Nat) (boats : Nat) (thickness : Nat) (lumpNames : Nat) (lumpCells : Nat) (boatNames : Nat) (boatCells : Nat) (loads : Nat) (spoons : Nat) (spoonsLeft : Nat) (depths : Nat) (x : Int32) (iv_a_0 : 2 ≤ wide) (iv_a_1 : wide ≤ 6) (iv_a_2 : 2 ≤ high) (iv_a_3 : high ≤ 6) (iv_a_4 : lumps ≤ 6) (iv_a_5 : boats ≤ 6) : Met l yX7_warm wsX7_warm ({ frames := 1, cells := 0, slots := 0, locals := 15 }) (PcU dC dI ky [.ref a, .int x] [(a, .inr (7, [.int (nI wide), .int (nI high), .int heat, .int cools, .int skinHeat, .int today, .int stirs, .int steps, .int (nI lumps), .int (nI boats), .ref thickness, .ref lumpNames, .ref lumpCells, .ref boatNames, .ref boatCells, .ref loads, .ref spoons, .ref spoonsLeft, .ref depths]))] sz) (va_Qv (fun (heatG : Int32) => True) (BU dC dI ky (fun (heatG : Int32) => [(a, .inr (7, [.int (nI wide), .int (nI high), .int heatG, .int cools, .int skinHeat, .int today, .int stirs, .int steps, .int (nI lumps), .int (nI boats), .ref thickness, .ref lumpNames, .ref lumpCells, .ref boatNames, .ref boatCells, .ref loads, .ref spoons, .ref spoonsLeft, .ref depths]))]) (va_A [(a, .inr (7, [.int (nI wide), .int (nI high), .int heat, .int cools, .int skinHeat, .int today, .int stirs, .int steps, .int (nI lumps), .int (nI boats), .ref thickness, .ref lumpNames, .ref lumpCells, .ref boatNames, .ref boatCells, .ref loads, .ref spoons, .ref spoonsLeft, .ref depths]))] sz)) (va_A [(a, .inr (7, [.int (nI wide), .int (nI high), .int heat, .int cools, .int skinHeat, .int today, .int stirs, .int steps, .int (nI lumps), .int (nI boats), .ref thickness, .ref lumpNames, .ref lumpCells, .ref boatNames, .ref boatCells, .ref loads, .ref spoons, .ref spoonsLeft, .ref depths]))] sz)) 0 0 (va_A [(a, .inr (7, [.int (nI wide), .int (nI high), .int heat, .int cools, .int skinHeat, .int today, .int stirs, .int steps, .int (nI lumps), .int (nI boats), .ref thickness, .ref lumpNames, .ref lumpCells, .ref boatNames, .ref boatCells, .ref loads, .ref spoons, .ref spoonsLeft, .ref depths]))] sz) := by
  refine Met.ofW (cc := cX7_warm) (maxL := 2) (ret := none) (by decide) rfl ?_
  intro p e s m args below meth c s₁ B hml hv
  obtain ⟨rfl, hsz, hP, hK, hD0⟩ := hv
  have hx := B.exec
  have hb := B.bytes
  have hr := B.returns
  have hts := atoms_spec (ws := wsX7_warm) B.pre
  have hown : s.vm.findClass RX7 = some m.cls := findClass_of_methodNamed B.named
  have hlocks := B.notSynchronized
  have hin7 : ∀ w ∈ u_ws RX7 TX7 19, w ∈ wsX7_warm := by decide +kernel
  subst hsz
  have hD := hD0.self (sz := s.heap.size)
  generalize hAe : va_A [(a, .inr (7, [.int (nI wide), .int (nI high), .int heat, .int cools, .int skinHeat, .int today, .int stirs, .int steps, .int (nI lumps), .int (nI boats), .ref thickness, .ref lumpNames, .ref lumpCells, .ref boatNames, .ref boatCells, .ref loads, .ref spoons, .ref spoonsLeft, .ref depths]))] s.heap.size = A at hD ⊢
  have hA : ∀ q : Nat, s.heap.size ≤ q → A q := fun q h => by rw [← hAe]; exact Or.inr h
  have hS : va_S A s.heap s.heap [] := va_S.rf
  have hl := lv_entry ([.ref a, .int x]) (n := 2) (Nat.le_of_ble_eq_true rfl)
  rw [lg_entry_eq]
  generalize (lg_sl ([.ref a, .int x]) ++ List.replicate (2 - (lg_sl ([.ref a, .int x])).length) Slot.unset).toArray = ls at hl ⊢
  have hl : lv_has ls 2 [(0, .ref a), (1, .int x)] := hl
  refine q_name (fun Q hQ => ?_)
  generalize ([.ref a, .int x] : List Value).toArray = args at hts hQ ⊢
  refine lv_aload_n hx hb dX7_warm_0 rfl (lv_at hl 0 rfl) ?_
  refine lv_bipush (v := nI 30) hx hb dX7_warm_1 (by decide) ?_
  refine lv_aload_n hx hb dX7_warm_3 rfl (lv_at hl 0 rfl) ?_
  refine va_get (D := (dC, dI)) (ci := 7) (v := .int heat) (C := RX7) (T := TX7) (N := 19) hx hb hts hin7 hown hK hP 0 rfl rfl 2 (by decide) (hts (.fieldLink RX7 50 "PorridgeSea$Sea" "heat" "I") (List.mem_of_getElem? (i := 1) rfl)) (fun _ h9 => h9) rfl dX7_warm_4 ?_
  refine lv_iload_n hx hb dX7_warm_7 rfl (lv_at hl 1 rfl) ?_
  refine lv_iadd hx hb dX7_warm_8 ?_
  refine lv_topi (fun y1 e2 => ?_)
  refine va_mmin hx hb (by rw [hml]; exact hl.1.symm) hown (hts _ (List.mem_of_getElem? (i := 2) rfl)) (hts _ (List.mem_of_getElem? (i := 3) rfl)) (hts _ (List.mem_of_getElem? (i := 4) rfl)) (hts _ (List.mem_of_getElem? (i := 5) rfl)) (Nat.le_of_ble_eq_true rfl) (Nat.le_of_ble_eq_true rfl) (Nat.le_of_ble_eq_true rfl) (Nat.le_of_ble_eq_true rfl) dX7_warm_9 ?_
  refine lv_topi (fun y3 e4 => ?_)
  refine va_put (D := (dC, dI)) (ci := 7) (v := .int y3) (ty := .int) (C := RX7) (T := TX7) (N := 19) hx hb hts hin7 tyX7 tyX7_ok nmX7 hown hK hP hD hS 0 rfl rfl 2 (by decide) (hts (.fieldLink RX7 50 "PorridgeSea$Sea" "heat" "I") (List.mem_of_getElem? (i := 1) rfl)) (fun _ h9 => h9) rfl (by decide +kernel) rfl rfl (Nat.le_of_ble_eq_true rfl) dX7_warm_12 (fun H locs hP hD hS => ?_)
  have hP : va_P (dC, dI) vwCl [(a, .inr (7, [.int (nI wide), .int (nI high), .int y3, .int cools, .int skinHeat, .int today, .int stirs, .int steps, .int (nI lumps), .int (nI boats), .ref thickness, .ref lumpNames, .ref lumpCells, .ref boatNames, .ref boatCells, .ref loads, .ref spoons, .ref spoonsLeft, .ref depths]))] H := hP
  have hD : va_D A [(a, .inr (7, [.int (nI wide), .int (nI high), .int y3, .int cools, .int skinHeat, .int today, .int stirs, .int steps, .int (nI lumps), .int (nI boats), .ref thickness, .ref lumpNames, .ref lumpCells, .ref boatNames, .ref boatCells, .ref loads, .ref spoons, .ref spoonsLeft, .ref depths]))] := hD
  rw [hQ]
  exact W.vret hx hb hr (fun t9 ht9 hW9 => ⟨⟨y3, rfl, trivial, by rw [ht9]; exact hP, va_K.moved hW9.alike hK, hD⟩, hS.F ht9⟩) hS.2.2 dX7_warm_15
set_option maxRecDepth 20000 in
theorem lf_s_passDay_1 (boats : Nat) (spoonsF : Nat → Int32) (k9 : Nat) (n14 : Nat) (y30 : Int32) (iv_a_5 : boats ≤ 6) (j12 : k9 ≤ 6) (hm16 : 6 - k9 < n14 + 1) (c17 : k9 < boats) (t26 : 0 ≤ (nI k9).toInt) (t27 : (nI k9).toInt < boats) (e31 : y30 = spoonsF k9) : (k9 + 1) ≤ 6 := by
  have b_y30 := ia_b y30
  try have k_0 := ia_n k9 (by first | decide | omega)
  try simp only [ia_lt, ia_le, ia_eq, ia_m1, ia_0, ia_1, ne_eq, true_and, and_true, false_and, and_false, or_false, false_or, or_true, true_or, not_true_eq_false, not_false_eq_true] at *
  all_goals omega
set_option maxRecDepth 20000 in
theorem lf_s_passDay_2 (boats : Nat) (spoonsF : Nat → Int32) (k9 : Nat) (n14 : Nat) (y30 : Int32) (iv_a_5 : boats ≤ 6) (j12 : k9 ≤ 6) (hm16 : 6 - k9 < n14 + 1) (c17 : k9 < boats) (t26 : 0 ≤ (nI k9).toInt) (t27 : (nI k9).toInt < boats) (e31 : y30 = spoonsF k9) : 6 - (k9 + 1) < n14 := by
  have b_y30 := ia_b y30
  try have k_0 := ia_n k9 (by first | decide | omega)
  try simp only [ia_lt, ia_le, ia_eq, ia_m1, ia_0, ia_1, ne_eq, true_and, and_true, false_and, and_false, or_false, false_or, or_true, true_or, not_true_eq_false, not_false_eq_true] at *
  all_goals omega
set_option maxRecDepth 20000 in
theorem lf_s_passDay_3 (boats : Nat) (spoonsF : Nat → Int32) (k9 : Nat) (n14 : Nat) (y42 : Int32) (iv_a_5 : boats ≤ 6) (j12 : k9 ≤ 6) (hm16 : 6 - k9 < n14 + 1) (c17 : k9 < boats) (t28 : True) (e43 : y42 = spoonsF k9) : (k9 + 1) ≤ 6 := by
  have b_y42 := ia_b y42
  try simp only [ia_lt, ia_le, ia_eq, ia_m1, ia_0, ia_1, ne_eq, true_and, and_true, false_and, and_false, or_false, false_or, or_true, true_or, not_true_eq_false, not_false_eq_true] at *
  all_goals omega
set_option maxRecDepth 20000 in
theorem lf_s_passDay_4 (boats : Nat) (spoonsF : Nat → Int32) (k9 : Nat) (n14 : Nat) (y42 : Int32) (iv_a_5 : boats ≤ 6) (j12 : k9 ≤ 6) (hm16 : 6 - k9 < n14 + 1) (c17 : k9 < boats) (t28 : True) (e43 : y42 = spoonsF k9) : 6 - (k9 + 1) < n14 := by
  have b_y42 := ia_b y42
  try simp only [ia_lt, ia_le, ia_eq, ia_m1, ia_0, ia_1, ne_eq, true_and, and_true, false_and, and_false, or_false, false_or, or_true, true_or, not_true_eq_false, not_false_eq_true] at *
  all_goals omega
set_option maxRecDepth 20000 in
theorem lf_s_passDay_5   : 0 ≤ 6 := by
  try simp only [ia_lt, ia_le, ia_eq, ia_m1, ia_0, ia_1, ne_eq, true_and, and_true, false_and, and_false, or_false, false_or, or_true, true_or, not_true_eq_false, not_false_eq_true] at *
  all_goals omega
set_option maxHeartbeats 4000000 in
set_option maxRecDepth 100000 in
theorem c_s_passDay (l : Launch) (dC : Nat → ClassId) (dI : Nat → Nat → Nat) (ky : Nat → ClassId) (sz : Nat) (a : Nat) (wide : Nat) (high : Nat) (heat : Int32) (cools : Int32) (skinHeat : Int32) (today : Int32) (stirs : Int32) (steps : Int32) (lumps : Nat) (boats : Nat) (thickness : Nat) (lumpNames : Nat) (lumpCells : Nat) (boatNames : Nat) (boatCells : Nat) (loads : Nat) (spoons : Nat) (spoonsLeft : Nat) (depths : Nat) (thicknessF : Nat → Int32) (lumpCellsF : Nat → Int32) (boatCellsF : Nat → Int32) (loadsF : Nat → Int32) (spoonsF : Nat → Int32) (spoonsLeftF : Nat → Int32) (depthsF : Nat → Int32) (iv_a_0 : 2 ≤ wide) (iv_a_1 : wide ≤ 6) (iv_a_2 : 2 ≤ high) (iv_a_3 : high ≤ 6) (iv_a_4 : lumps ≤ 6) (iv_a_5 : boats ≤ 6) : Met l yX7_passDay wsX7_passDay ({ frames := 3, cells := 0, slots := 0, locals := 65 }) (PcU dC dI ky [.ref a] [(a, .inr (7, [.int (nI wide), .int (nI high), .int heat, .int cools, .int skinHeat, .int today, .int stirs, .int steps, .int (nI lumps), .int (nI boats), .ref thickness, .ref lumpNames, .ref lumpCells, .ref boatNames, .ref boatCells, .ref loads, .ref spoons, .ref spoonsLeft, .ref depths])), (thickness, .inl (ky 0, 36, .inl thicknessF)), (lumpCells, .inl (ky 0, 6, .inl lumpCellsF)), (boatCells, .inl (ky 0, 6, .inl boatCellsF)), (loads, .inl (ky 0, 6, .inl loadsF)), (spoons, .inl (ky 0, 6, .inl spoonsF)), (spoonsLeft, .inl (ky 0, 6, .inl spoonsLeftF)), (depths, .inl (ky 0, 6, .inl depthsF))] sz) (va_Qv (fun (u : Int32 × Int32 × (Nat → Int32) × (Nat → Int32)) => match u with | (heatG, todayG, spoonsLeftG, depthsG) => True) (BU dC dI ky (fun (u : Int32 × Int32 × (Nat → Int32) × (Nat → Int32)) => match u with | (heatG, todayG, spoonsLeftG, depthsG) => [(a, .inr (7, [.int (nI wide), .int (nI high), .int heatG, .int cools, .int skinHeat, .int todayG, .int stirs, .int steps, .int (nI lumps), .int (nI boats), .ref thickness, .ref lumpNames, .ref lumpCells, .ref boatNames, .ref boatCells, .ref loads, .ref spoons, .ref spoonsLeft, .ref depths])), (thickness, .inl (ky 0, 36, .inl thicknessF)), (lumpCells, .inl (ky 0, 6, .inl lumpCellsF)), (boatCells, .inl (ky 0, 6, .inl boatCellsF)), (loads, .inl (ky 0, 6, .inl loadsF)), (spoons, .inl (ky 0, 6, .inl spoonsF)), (spoonsLeft, .inl (ky 0, 6, .inl spoonsLeftG)), (depths, .inl (ky 0, 6, .inl depthsG))]) (va_A [(a, .inr (7, [.int (nI wide), .int (nI high), .int heat, .int cools, .int skinHeat, .int today, .int stirs, .int steps, .int (nI lumps), .int (nI boats), .ref thickness, .ref lumpNames, .ref lumpCells, .ref boatNames, .ref boatCells, .ref loads, .ref spoons, .ref spoonsLeft, .ref depths])), (thickness, .inl (ky 0, 36, .inl thicknessF)), (lumpCells, .inl (ky 0, 6, .inl lumpCellsF)), (boatCells, .inl (ky 0, 6, .inl boatCellsF)), (loads, .inl (ky 0, 6, .inl loadsF)), (spoons, .inl (ky 0, 6, .inl spoonsF)), (spoonsLeft, .inl (ky 0, 6, .inl spoonsLeftF)), (depths, .inl (ky 0, 6, .inl depthsF))] sz)) (va_A [(a, .inr (7, [.int (nI wide), .int (nI high), .int heat, .int cools, .int skinHeat, .int today, .int stirs, .int steps, .int (nI lumps), .int (nI boats), .ref thickness, .ref lumpNames, .ref lumpCells, .ref boatNames, .ref boatCells, .ref loads, .ref spoons, .ref spoonsLeft, .ref depths])), (thickness, .inl (ky 0, 36, .inl thicknessF)), (lumpCells, .inl (ky 0, 6, .inl lumpCellsF)), (boatCells, .inl (ky 0, 6, .inl boatCellsF)), (loads, .inl (ky 0, 6, .inl loadsF)), (spoons, .inl (ky 0, 6, .inl spoonsF)), (spoonsLeft, .inl (ky 0, 6, .inl spoonsLeftF)), (depths, .inl (ky 0, 6, .inl depthsF))] sz)) 0 0 (va_A [(a, .inr (7, [.int (nI wide), .int (nI high), .int heat, .int cools, .int skinHeat, .int today, .int stirs, .int steps, .int (nI lumps), .int (nI boats), .ref thickness, .ref lumpNames, .ref lumpCells, .ref boatNames, .ref boatCells, .ref loads, .ref spoons, .ref spoonsLeft, .ref depths])), (thickness, .inl (ky 0, 36, .inl thicknessF)), (lumpCells, .inl (ky 0, 6, .inl lumpCellsF)), (boatCells, .inl (ky 0, 6, .inl boatCellsF)), (loads, .inl (ky 0, 6, .inl loadsF)), (spoons, .inl (ky 0, 6, .inl spoonsF)), (spoonsLeft, .inl (ky 0, 6, .inl spoonsLeftF)), (depths, .inl (ky 0, 6, .inl depthsF))] sz) := by
  refine Met.ofW (cc := cX7_passDay) (maxL := 2) (ret := none) (by decide) rfl ?_
  intro p e s m args below meth c s₁ B hml hv
  obtain ⟨rfl, hsz, hP, hK, hD0⟩ := hv
  have hx := B.exec
  have hb := B.bytes
  have hr := B.returns
  have hts := atoms_spec (ws := wsX7_passDay) B.pre
  have hown : s.vm.findClass RX7 = some m.cls := findClass_of_methodNamed B.named
  have hlocks := B.notSynchronized
  have hin7 : ∀ w ∈ u_ws RX7 TX7 19, w ∈ wsX7_passDay := by decide +kernel
  subst hsz
  have hD := hD0.self (sz := s.heap.size)
  generalize hAe : va_A [(a, .inr (7, [.int (nI wide), .int (nI high), .int heat, .int cools, .int skinHeat, .int today, .int stirs, .int steps, .int (nI lumps), .int (nI boats), .ref thickness, .ref lumpNames, .ref lumpCells, .ref boatNames, .ref boatCells, .ref loads, .ref spoons, .ref spoonsLeft, .ref depths])), (thickness, .inl (ky 0, 36, .inl thicknessF)), (lumpCells, .inl (ky 0, 6, .inl lumpCellsF)), (boatCells, .inl (ky 0, 6, .inl boatCellsF)), (loads, .inl (ky 0, 6, .inl loadsF)), (spoons, .inl (ky 0, 6, .inl spoonsF)), (spoonsLeft, .inl (ky 0, 6, .inl spoonsLeftF)), (depths, .inl (ky 0, 6, .inl depthsF))] s.heap.size = A at hD ⊢
  have hA : ∀ q : Nat, s.heap.size ≤ q → A q := fun q h => by rw [← hAe]; exact Or.inr h
  have hS : va_S A s.heap s.heap [] := va_S.rf
  have hl := lv_entry ([.ref a]) (n := 2) (Nat.le_of_ble_eq_true rfl)
  rw [lg_entry_eq]
  generalize (lg_sl ([.ref a]) ++ List.replicate (2 - (lg_sl ([.ref a])).length) Slot.unset).toArray = ls at hl ⊢
  have hl : lv_has ls 2 [(0, .ref a)] := hl
  refine q_name (fun Q hQ => ?_)
  generalize ([.ref a] : List Value).toArray = args at hts hQ ⊢
  refine lv_iconst (v := nI 0) hx hb dX7_passDay_0 (by decide) ?_
  refine lv_istore_n (lv' := [(1, .int (nI 0)), (0, .ref a)]) hx hb dX7_passDay_1 rfl hl (by decide) rfl (fun ls hl => ?_)
  have hL13 : ∀ (n14 : Nat) (k9 : Nat) (f10 : Nat → Int32) (f11 : Nat → Int32), (k9 ≤ 6) → 6 - k9 < n14 → ∀ (H : Heap) (locs : List Loc) (ls : Array Slot), va_P (dC, dI) vwCl [(a, .inr (7, [.int (nI wide), .int (nI high), .int heat, .int cools, .int skinHeat, .int today, .int stirs, .int steps, .int (nI lumps), .int (nI boats), .ref thickness, .ref lumpNames, .ref lumpCells, .ref boatNames, .ref boatCells, .ref loads, .ref spoons, .ref spoonsLeft, .ref depths])), (thickness, .inl (ky 0, 36, .inl thicknessF)), (lumpCells, .inl (ky 0, 6, .inl lumpCellsF)), (boatCells, .inl (ky 0, 6, .inl boatCellsF)), (loads, .inl (ky 0, 6, .inl loadsF)), (spoons, .inl (ky 0, 6, .inl spoonsF)), (spoonsLeft, .inl (ky 0, 6, .inl f10)), (depths, .inl (ky 0, 6, .inl f11))] H → va_D A [(a, .inr (7, [.int (nI wide), .int (nI high), .int heat, .int cools, .int skinHeat, .int today, .int stirs, .int steps, .int (nI lumps), .int (nI boats), .ref thickness, .ref lumpNames, .ref lumpCells, .ref boatNames, .ref boatCells, .ref loads, .ref spoons, .ref spoonsLeft, .ref depths])), (thickness, .inl (ky 0, 36, .inl thicknessF)), (lumpCells, .inl (ky 0, 6, .inl lumpCellsF)), (boatCells, .inl (ky 0, 6, .inl boatCellsF)), (loads, .inl (ky 0, 6, .inl loadsF)), (spoons, .inl (ky 0, 6, .inl spoonsF)), (spoonsLeft, .inl (ky 0, 6, .inl f10)), (depths, .inl (ky 0, 6, .inl f11))] → va_S A s.heap H locs → lv_has ls 2 [(1, .int (nI k9)), (0, .ref a)] → W p l e (headSpec wsX7_passDay ({ frames := 3, cells := 0, slots := 0, locals := 65 })).room s m args below meth c H locs 0 0 Q (F0 m 2 ls []) := by
    intro n14
    induction n14 with
    | zero => intro k9 f10 f11 _ h9; exact absurd h9 (Nat.not_lt_zero _)
    | succ n14 ih15 =>
      intro k9 f10 f11 j12 hm16 H locs ls hP hD hS hl
      refine lv_iload_n hx hb dX7_passDay_2 rfl (lv_at hl 0 rfl) ?_
      refine lv_aload_n hx hb dX7_passDay_3 rfl (lv_at hl 1 rfl) ?_
      refine va_get (D := (dC, dI)) (ci := 7) (v := .int (nI boats)) (C := RX7) (T := TX7) (N := 19) hx hb hts hin7 hown hK hP 0 rfl rfl 9 (by decide) (hts (.fieldLink RX7 71 "PorridgeSea$Sea" "boats" "I") (List.mem_of_getElem? (i := 1) rfl)) (fun _ h9 => h9) rfl dX7_passDay_4 ?_
      refine n_icmp_ge (x := k9) (y := boats) (tgt := 62) hx hb (by omega) (by omega) dX7_passDay_7 (by decide) (fun c17 => ?_) (fun c17 => ?_)
      · refine lv_aload_n hx hb dX7_passDay_62 rfl (lv_at hl 1 rfl) ?_
        refine lv_iconst (v := nI 0) hx hb dX7_passDay_63 (by decide) ?_
        refine lv_aload_n hx hb dX7_passDay_64 rfl (lv_at hl 1 rfl) ?_
        refine va_get (D := (dC, dI)) (ci := 7) (v := .int heat) (C := RX7) (T := TX7) (N := 19) hx hb hts hin7 hown hK hP 0 rfl rfl 2 (by decide) (hts (.fieldLink RX7 50 "PorridgeSea$Sea" "heat" "I") (List.mem_of_getElem? (i := 5) rfl)) (fun _ h9 => h9) rfl dX7_passDay_65 ?_
        refine lv_aload_n hx hb dX7_passDay_68 rfl (lv_at hl 1 rfl) ?_
        refine va_get (D := (dC, dI)) (ci := 7) (v := .int cools) (C := RX7) (T := TX7) (N := 19) hx hb hts hin7 hown hK hP 0 rfl rfl 3 (by decide) (hts (.fieldLink RX7 53 "PorridgeSea$Sea" "cools" "I") (List.mem_of_getElem? (i := 6) rfl)) (fun _ h9 => h9) rfl dX7_passDay_69 ?_
        refine lv_isub hx hb dX7_passDay_72 ?_
        refine lv_topi (fun y18 e19 => ?_)
        refine va_mmax hx hb (by rw [hml]; exact hl.1.symm) hown (hts _ (List.mem_of_getElem? (i := 7) rfl)) (hts _ (List.mem_of_getElem? (i := 8) rfl)) (hts _ (List.mem_of_getElem? (i := 9) rfl)) (hts _ (List.mem_of_getElem? (i := 10) rfl)) (Nat.le_of_ble_eq_true rfl) (Nat.le_of_ble_eq_true rfl) (Nat.le_of_ble_eq_true rfl) (Nat.le_of_ble_eq_true rfl) dX7_passDay_73 ?_
        refine lv_topi (fun y20 e21 => ?_)
        refine va_put (D := (dC, dI)) (ci := 7) (v := .int y20) (ty := .int) (C := RX7) (T := TX7) (N := 19) hx hb hts hin7 tyX7 tyX7_ok nmX7 hown hK hP hD hS 0 rfl rfl 2 (by decide) (hts (.fieldLink RX7 50 "PorridgeSea$Sea" "heat" "I") (List.mem_of_getElem? (i := 5) rfl)) (fun _ h9 => h9) rfl (by decide +kernel) rfl rfl (Nat.le_of_ble_eq_true rfl) dX7_passDay_76 (fun H locs hP hD hS => ?_)
        have hP : va_P (dC, dI) vwCl [(a, .inr (7, [.int (nI wide), .int (nI high), .int y20, .int cools, .int skinHeat, .int today, .int stirs, .int steps, .int (nI lumps), .int (nI boats), .ref thickness, .ref lumpNames, .ref lumpCells, .ref boatNames, .ref boatCells, .ref loads, .ref spoons, .ref spoonsLeft, .ref depths])), (thickness, .inl (ky 0, 36, .inl thicknessF)), (lumpCells, .inl (ky 0, 6, .inl lumpCellsF)), (boatCells, .inl (ky 0, 6, .inl boatCellsF)), (loads, .inl (ky 0, 6, .inl loadsF)), (spoons, .inl (ky 0, 6, .inl spoonsF)), (spoonsLeft, .inl (ky 0, 6, .inl f10)), (depths, .inl (ky 0, 6, .inl f11))] H := hP
        have hD : va_D A [(a, .inr (7, [.int (nI wide), .int (nI high), .int y20, .int cools, .int skinHeat, .int today, .int stirs, .int steps, .int (nI lumps), .int (nI boats), .ref thickness, .ref lumpNames, .ref lumpCells, .ref boatNames, .ref boatCells, .ref loads, .ref spoons, .ref spoonsLeft, .ref depths])), (thickness, .inl (ky 0, 36, .inl thicknessF)), (lumpCells, .inl (ky 0, 6, .inl lumpCellsF)), (boatCells, .inl (ky 0, 6, .inl boatCellsF)), (loads, .inl (ky 0, 6, .inl loadsF)), (spoons, .inl (ky 0, 6, .inl spoonsF)), (spoonsLeft, .inl (ky 0, 6, .inl f10)), (depths, .inl (ky 0, 6, .inl f11))] := hD
        refine lv_aload_n hx hb dX7_passDay_79 rfl (lv_at hl 1 rfl) ?_
        refine lv_dup hx hb dX7_passDay_80 rfl ?_
        refine va_get (D := (dC, dI)) (ci := 7) (v := .int today) (C := RX7) (T := TX7) (N := 19) hx hb hts hin7 hown hK hP 0 rfl rfl 5 (by decide) (hts (.fieldLink RX7 59 "PorridgeSea$Sea" "today" "I") (List.mem_of_getElem? (i := 11) rfl)) (fun _ h9 => h9) rfl dX7_passDay_81 ?_
        refine lv_iconst (v := nI 1) hx hb dX7_passDay_84 (by decide) ?_
        refine lv_iadd hx hb dX7_passDay_85 ?_
        refine lv_topi (fun y22 e23 => ?_)
        refine va_put (D := (dC, dI)) (ci := 7) (v := .int y22) (ty := .int) (C := RX7) (T := TX7) (N := 19) hx hb hts hin7 tyX7 tyX7_ok nmX7 hown hK hP hD hS 0 rfl rfl 5 (by decide) (hts (.fieldLink RX7 59 "PorridgeSea$Sea" "today" "I") (List.mem_of_getElem? (i := 11) rfl)) (fun _ h9 => h9) rfl (by decide +kernel) rfl rfl (Nat.le_of_ble_eq_true rfl) dX7_passDay_86 (fun H locs hP hD hS => ?_)
        have hP : va_P (dC, dI) vwCl [(a, .inr (7, [.int (nI wide), .int (nI high), .int y20, .int cools, .int skinHeat, .int y22, .int stirs, .int steps, .int (nI lumps), .int (nI boats), .ref thickness, .ref lumpNames, .ref lumpCells, .ref boatNames, .ref boatCells, .ref loads, .ref spoons, .ref spoonsLeft, .ref depths])), (thickness, .inl (ky 0, 36, .inl thicknessF)), (lumpCells, .inl (ky 0, 6, .inl lumpCellsF)), (boatCells, .inl (ky 0, 6, .inl boatCellsF)), (loads, .inl (ky 0, 6, .inl loadsF)), (spoons, .inl (ky 0, 6, .inl spoonsF)), (spoonsLeft, .inl (ky 0, 6, .inl f10)), (depths, .inl (ky 0, 6, .inl f11))] H := hP
        have hD : va_D A [(a, .inr (7, [.int (nI wide), .int (nI high), .int y20, .int cools, .int skinHeat, .int y22, .int stirs, .int steps, .int (nI lumps), .int (nI boats), .ref thickness, .ref lumpNames, .ref lumpCells, .ref boatNames, .ref boatCells, .ref loads, .ref spoons, .ref spoonsLeft, .ref depths])), (thickness, .inl (ky 0, 36, .inl thicknessF)), (lumpCells, .inl (ky 0, 6, .inl lumpCellsF)), (boatCells, .inl (ky 0, 6, .inl boatCellsF)), (loads, .inl (ky 0, 6, .inl loadsF)), (spoons, .inl (ky 0, 6, .inl spoonsF)), (spoonsLeft, .inl (ky 0, 6, .inl f10)), (depths, .inl (ky 0, 6, .inl f11))] := hD
        rw [hQ]
        exact W.vret hx hb hr (fun t9 ht9 hW9 => ⟨⟨(y20, y22, f10, f11), rfl, trivial, by rw [ht9]; exact hP, va_K.moved hW9.alike hK, hD⟩, hS.F ht9⟩) hS.2.2 dX7_passDay_89
      · refine lv_aload_n hx hb dX7_passDay_10 rfl (lv_at hl 1 rfl) ?_
        refine lv_iload_n hx hb dX7_passDay_11 rfl (lv_at hl 0 rfl) ?_
        refine vp_callSi (W.runV (As := [.int (nI k9)]) (rest := []) ⟨hx, hb, hml, hown, hts⟩ (c_s_isEaten l dC dI ky a wide high heat cools skinHeat today stirs steps lumps boats thickness lumpNames lumpCells boatNames boatCells loads spoons spoonsLeft depths f11 (nI k9) iv_a_0 iv_a_1 iv_a_2 iv_a_3 iv_a_4 iv_a_5) (cwV 1 hts gX7_passDay_X7_isEaten rfl rfl rfl (by decide +kernel) ⟨(Nat.le_of_ble_eq_true rfl), (Nat.le_of_ble_eq_true rfl)⟩) (pre_PV hK hP [0, 7] rfl (ci := 7) (q0 := 0) rfl rfl) rfl rfl hl.1 rfl (lv_room (Nat.le_of_ble_eq_true rfl)) dX7_passDay_12 ⟨(Nat.le_of_ble_eq_true rfl), (Nat.le_of_ble_eq_true rfl)⟩) (fun r24 p25 => ?_)
        rcases p25 with ⟨rfl, t26, t27⟩ | ⟨rfl, t28⟩
        · refine lv_if_ne (tgt := 44) hx hb dX7_passDay_15 (by decide) (fun c29 => ?_) (fun c29 => absurd c29 (by decide))
          refine lv_aload_n hx hb dX7_passDay_44 rfl (lv_at hl 1 rfl) ?_
          refine va_get (D := (dC, dI)) (ci := 7) (v := .ref spoonsLeft) (C := RX7) (T := TX7) (N := 19) hx hb hts hin7 hown hK hP 0 rfl rfl 17 (by decide) (hts (.fieldLink RX7 34 "PorridgeSea$Sea" "spoonsLeft" "[I") (List.mem_of_getElem? (i := 3) rfl)) (fun _ h9 => h9) rfl dX7_passDay_45 ?_
          refine lv_iload_n hx hb dX7_passDay_48 rfl (lv_at hl 0 rfl) ?_
          refine lv_aload_n hx hb dX7_passDay_49 rfl (lv_at hl 1 rfl) ?_
          refine va_get (D := (dC, dI)) (ci := 7) (v := .ref spoons) (C := RX7) (T := TX7) (N := 19) hx hb hts hin7 hown hK hP 0 rfl rfl 16 (by decide) (hts (.fieldLink RX7 31 "PorridgeSea$Sea" "spoons" "[I") (List.mem_of_getElem? (i := 4) rfl)) (fun _ h9 => h9) rfl dX7_passDay_50 ?_
          refine lv_iload_n hx hb dX7_passDay_53 rfl (lv_at hl 0 rfl) ?_
          obtain ⟨y30, e31⟩ : ∃ z9, z9 = spoonsF k9 := ⟨_, rfl⟩
          refine r_iald hx hb hK hP 5 rfl k9 (by omega) (by decide) y30 e31.symm dX7_passDay_54 ?_
          refine r_iast (x := y30) hx hb hK hP hD hS 6 rfl k9 (by omega) (by decide) dX7_passDay_55 (fun H locs hP hD hS => ?_)
          obtain ⟨g32, e33⟩ : ∃ z9, z9 = upd f10 k9 y30 := ⟨_, rfl⟩
          rw [← e33] at hP hD
          have hP : va_P (dC, dI) vwCl [(a, .inr (7, [.int (nI wide), .int (nI high), .int heat, .int cools, .int skinHeat, .int today, .int stirs, .int steps, .int (nI lumps), .int (nI boats), .ref thickness, .ref lumpNames, .ref lumpCells, .ref boatNames, .ref boatCells, .ref loads, .ref spoons, .ref spoonsLeft, .ref depths])), (thickness, .inl (ky 0, 36, .inl thicknessF)), (lumpCells, .inl (ky 0, 6, .inl lumpCellsF)), (boatCells, .inl (ky 0, 6, .inl boatCellsF)), (loads, .inl (ky 0, 6, .inl loadsF)), (spoons, .inl (ky 0, 6, .inl spoonsF)), (spoonsLeft, .inl (ky 0, 6, .inl g32)), (depths, .inl (ky 0, 6, .inl f11))] H := hP
          have hD : va_D A [(a, .inr (7, [.int (nI wide), .int (nI high), .int heat, .int cools, .int skinHeat, .int today, .int stirs, .int steps, .int (nI lumps), .int (nI boats), .ref thickness, .ref lumpNames, .ref lumpCells, .ref boatNames, .ref boatCells, .ref loads, .ref spoons, .ref spoonsLeft, .ref depths])), (thickness, .inl (ky 0, 36, .inl thicknessF)), (lumpCells, .inl (ky 0, 6, .inl lumpCellsF)), (boatCells, .inl (ky 0, 6, .inl boatCellsF)), (loads, .inl (ky 0, 6, .inl loadsF)), (spoons, .inl (ky 0, 6, .inl spoonsF)), (spoonsLeft, .inl (ky 0, 6, .inl g32)), (depths, .inl (ky 0, 6, .inl f11))] := hD
          refine lv_iinc (v := nI (k9 + 1)) (lv' := [(1, .int (nI (k9 + 1))), (0, .ref a)]) hx hb dX7_passDay_56 hl (k := 0) rfl (show nI k9 + nI 1 = nI (k9 + 1) from nI_add _ _) (by decide) rfl (fun ls hl => ?_)
          refine lv_goto (tgt := 2) hx hb dX7_passDay_59 (by decide) ?_
          exact ih15 (k9 + 1) g32 f11 (lf_s_passDay_1 boats spoonsF k9 n14 y30 iv_a_5 j12 hm16 c17 t26 t27 e31) (lf_s_passDay_2 boats spoonsF k9 n14 y30 iv_a_5 j12 hm16 c17 t26 t27 e31) _ _ _ hP hD hS (lv_sub hl [0, 1] rfl)
        · refine lv_if_ne (tgt := 44) hx hb dX7_passDay_15 (by decide) (fun c34 => absurd c34 (by decide)) (fun c34 => ?_)
          refine lv_aload_n hx hb dX7_passDay_18 rfl (lv_at hl 1 rfl) ?_
          refine va_get (D := (dC, dI)) (ci := 7) (v := .ref depths) (C := RX7) (T := TX7) (N := 19) hx hb hts hin7 hown hK hP 0 rfl rfl 18 (by decide) (hts (.fieldLink RX7 37 "PorridgeSea$Sea" "depths" "[I") (List.mem_of_getElem? (i := 2) rfl)) (fun _ h9 => h9) rfl dX7_passDay_19 ?_
          refine lv_iload_n hx hb dX7_passDay_22 rfl (lv_at hl 0 rfl) ?_
          refine lv_aload_n hx hb dX7_passDay_23 rfl (lv_at hl 1 rfl) ?_
          refine lv_iload_n hx hb dX7_passDay_24 rfl (lv_at hl 0 rfl) ?_
          refine vp_callSi (W.runV (As := [.int (nI k9)]) (rest := [.int (nI k9), .ref depths]) ⟨hx, hb, hml, hown, hts⟩ (c_s_isAfloat l dC dI ky a wide high heat cools skinHeat today stirs steps lumps boats thickness lumpNames lumpCells boatNames boatCells loads spoons spoonsLeft depths thicknessF lumpCellsF boatCellsF loadsF f11 (nI k9) iv_a_0 iv_a_1 iv_a_2 iv_a_3 iv_a_4 iv_a_5) (cwV 1 hts gX7_passDay_X7_isAfloat rfl rfl rfl (by decide +kernel) ⟨(Nat.le_of_ble_eq_true rfl), (Nat.le_of_ble_eq_true rfl)⟩) (pre_PV hK hP [0, 1, 2, 3, 4, 7] rfl (ci := 7) (q0 := 0) rfl rfl) rfl rfl hl.1 rfl (lv_room (Nat.le_of_ble_eq_true rfl)) dX7_passDay_25 ⟨(Nat.le_of_ble_eq_true rfl), (Nat.le_of_ble_eq_true rfl)⟩) (fun r35 p36 => ?_)
          have hJ39 : ∀ (x38 : Int32), ∀ (H : Heap) (locs : List Loc) (ls : Array Slot), va_P (dC, dI) vwCl [(a, .inr (7, [.int (nI wide), .int (nI high), .int heat, .int cools, .int skinHeat, .int today, .int stirs, .int steps, .int (nI lumps), .int (nI boats), .ref thickness, .ref lumpNames, .ref lumpCells, .ref boatNames, .ref boatCells, .ref loads, .ref spoons, .ref spoonsLeft, .ref depths])), (thickness, .inl (ky 0, 36, .inl thicknessF)), (lumpCells, .inl (ky 0, 6, .inl lumpCellsF)), (boatCells, .inl (ky 0, 6, .inl boatCellsF)), (loads, .inl (ky 0, 6, .inl loadsF)), (spoons, .inl (ky 0, 6, .inl spoonsF)), (spoonsLeft, .inl (ky 0, 6, .inl f10)), (depths, .inl (ky 0, 6, .inl f11))] H → va_D A [(a, .inr (7, [.int (nI wide), .int (nI high), .int heat, .int cools, .int skinHeat, .int today, .int stirs, .int steps, .int (nI lumps), .int (nI boats), .ref thickness, .ref lumpNames, .ref lumpCells, .ref boatNames, .ref boatCells, .ref loads, .ref spoons, .ref spoonsLeft, .ref depths])), (thickness, .inl (ky 0, 36, .inl thicknessF)), (lumpCells, .inl (ky 0, 6, .inl lumpCellsF)), (boatCells, .inl (ky 0, 6, .inl boatCellsF)), (loads, .inl (ky 0, 6, .inl loadsF)), (spoons, .inl (ky 0, 6, .inl spoonsF)), (spoonsLeft, .inl (ky 0, 6, .inl f10)), (depths, .inl (ky 0, 6, .inl f11))] → va_S A s.heap H locs → lv_has ls 2 [(1, .int (nI k9)), (0, .ref a)] → W p l e (headSpec wsX7_passDay ({ frames := 3, cells := 0, slots := 0, locals := 65 })).room s m args below meth c H locs 0 0 Q (F0 m 43 ls [.int x38, .int (nI k9), .ref depths]) := by
            intro x38 H locs ls hP hD hS hl
            refine r_iast (x := x38) hx hb hK hP hD hS 7 rfl k9 (by omega) (by decide) dX7_passDay_43 (fun H locs hP hD hS => ?_)
            obtain ⟨g40, e41⟩ : ∃ z9, z9 = upd f11 k9 x38 := ⟨_, rfl⟩
            rw [← e41] at hP hD
            have hP : va_P (dC, dI) vwCl [(a, .inr (7, [.int (nI wide), .int (nI high), .int heat, .int cools, .int skinHeat, .int today, .int stirs, .int steps, .int (nI lumps), .int (nI boats), .ref thickness, .ref lumpNames, .ref lumpCells, .ref boatNames, .ref boatCells, .ref loads, .ref spoons, .ref spoonsLeft, .ref depths])), (thickness, .inl (ky 0, 36, .inl thicknessF)), (lumpCells, .inl (ky 0, 6, .inl lumpCellsF)), (boatCells, .inl (ky 0, 6, .inl boatCellsF)), (loads, .inl (ky 0, 6, .inl loadsF)), (spoons, .inl (ky 0, 6, .inl spoonsF)), (spoonsLeft, .inl (ky 0, 6, .inl f10)), (depths, .inl (ky 0, 6, .inl g40))] H := hP
            have hD : va_D A [(a, .inr (7, [.int (nI wide), .int (nI high), .int heat, .int cools, .int skinHeat, .int today, .int stirs, .int steps, .int (nI lumps), .int (nI boats), .ref thickness, .ref lumpNames, .ref lumpCells, .ref boatNames, .ref boatCells, .ref loads, .ref spoons, .ref spoonsLeft, .ref depths])), (thickness, .inl (ky 0, 36, .inl thicknessF)), (lumpCells, .inl (ky 0, 6, .inl lumpCellsF)), (boatCells, .inl (ky 0, 6, .inl boatCellsF)), (loads, .inl (ky 0, 6, .inl loadsF)), (spoons, .inl (ky 0, 6, .inl spoonsF)), (spoonsLeft, .inl (ky 0, 6, .inl f10)), (depths, .inl (ky 0, 6, .inl g40))] := hD
            refine lv_aload_n hx hb dX7_passDay_44 rfl (lv_at hl 1 rfl) ?_
            refine va_get (D := (dC, dI)) (ci := 7) (v := .ref spoonsLeft) (C := RX7) (T := TX7) (N := 19) hx hb hts hin7 hown hK hP 0 rfl rfl 17 (by decide) (hts (.fieldLink RX7 34 "PorridgeSea$Sea" "spoonsLeft" "[I") (List.mem_of_getElem? (i := 3) rfl)) (fun _ h9 => h9) rfl dX7_passDay_45 ?_
            refine lv_iload_n hx hb dX7_passDay_48 rfl (lv_at hl 0 rfl) ?_
            refine lv_aload_n hx hb dX7_passDay_49 rfl (lv_at hl 1 rfl) ?_
            refine va_get (D := (dC, dI)) (ci := 7) (v := .ref spoons) (C := RX7) (T := TX7) (N := 19) hx hb hts hin7 hown hK hP 0 rfl rfl 16 (by decide) (hts (.fieldLink RX7 31 "PorridgeSea$Sea" "spoons" "[I") (List.mem_of_getElem? (i := 4) rfl)) (fun _ h9 => h9) rfl dX7_passDay_50 ?_
            refine lv_iload_n hx hb dX7_passDay_53 rfl (lv_at hl 0 rfl) ?_
            obtain ⟨y42, e43⟩ : ∃ z9, z9 = spoonsF k9 := ⟨_, rfl⟩
            refine r_iald hx hb hK hP 5 rfl k9 (by omega) (by decide) y42 e43.symm dX7_passDay_54 ?_
            refine r_iast (x := y42) hx hb hK hP hD hS 6 rfl k9 (by omega) (by decide) dX7_passDay_55 (fun H locs hP hD hS => ?_)
            obtain ⟨g44, e45⟩ : ∃ z9, z9 = upd f10 k9 y42 := ⟨_, rfl⟩
            rw [← e45] at hP hD
            have hP : va_P (dC, dI) vwCl [(a, .inr (7, [.int (nI wide), .int (nI high), .int heat, .int cools, .int skinHeat, .int today, .int stirs, .int steps, .int (nI lumps), .int (nI boats), .ref thickness, .ref lumpNames, .ref lumpCells, .ref boatNames, .ref boatCells, .ref loads, .ref spoons, .ref spoonsLeft, .ref depths])), (thickness, .inl (ky 0, 36, .inl thicknessF)), (lumpCells, .inl (ky 0, 6, .inl lumpCellsF)), (boatCells, .inl (ky 0, 6, .inl boatCellsF)), (loads, .inl (ky 0, 6, .inl loadsF)), (spoons, .inl (ky 0, 6, .inl spoonsF)), (spoonsLeft, .inl (ky 0, 6, .inl g44)), (depths, .inl (ky 0, 6, .inl g40))] H := hP
            have hD : va_D A [(a, .inr (7, [.int (nI wide), .int (nI high), .int heat, .int cools, .int skinHeat, .int today, .int stirs, .int steps, .int (nI lumps), .int (nI boats), .ref thickness, .ref lumpNames, .ref lumpCells, .ref boatNames, .ref boatCells, .ref loads, .ref spoons, .ref spoonsLeft, .ref depths])), (thickness, .inl (ky 0, 36, .inl thicknessF)), (lumpCells, .inl (ky 0, 6, .inl lumpCellsF)), (boatCells, .inl (ky 0, 6, .inl boatCellsF)), (loads, .inl (ky 0, 6, .inl loadsF)), (spoons, .inl (ky 0, 6, .inl spoonsF)), (spoonsLeft, .inl (ky 0, 6, .inl g44)), (depths, .inl (ky 0, 6, .inl g40))] := hD
            refine lv_iinc (v := nI (k9 + 1)) (lv' := [(1, .int (nI (k9 + 1))), (0, .ref a)]) hx hb dX7_passDay_56 hl (k := 0) rfl (show nI k9 + nI 1 = nI (k9 + 1) from nI_add _ _) (by decide) rfl (fun ls hl => ?_)
            refine lv_goto (tgt := 2) hx hb dX7_passDay_59 (by decide) ?_
            exact ih15 (k9 + 1) g44 g40 (lf_s_passDay_3 boats spoonsF k9 n14 y42 iv_a_5 j12 hm16 c17 t28 e43) (lf_s_passDay_4 boats spoonsF k9 n14 y42 iv_a_5 j12 hm16 c17 t28 e43) _ _ _ hP hD hS (lv_sub hl [0, 1] rfl)
          refine lv_if_eq (tgt := 35) hx hb dX7_passDay_28 (by decide) (fun c37 => ?_) (fun c37 => ?_)
          · refine lv_aload_n hx hb dX7_passDay_35 rfl (lv_at hl 1 rfl) ?_
            refine va_get (D := (dC, dI)) (ci := 7) (v := .ref depths) (C := RX7) (T := TX7) (N := 19) hx hb hts hin7 hown hK hP 0 rfl rfl 18 (by decide) (hts (.fieldLink RX7 37 "PorridgeSea$Sea" "depths" "[I") (List.mem_of_getElem? (i := 2) rfl)) (fun _ h9 => h9) rfl dX7_passDay_36 ?_
            refine lv_iload_n hx hb dX7_passDay_39 rfl (lv_at hl 0 rfl) ?_
            obtain ⟨y46, e47⟩ : ∃ z9, z9 = f11 k9 := ⟨_, rfl⟩
            refine r_iald hx hb hK hP 7 rfl k9 (by omega) (by decide) y46 e47.symm dX7_passDay_40 ?_
            refine lv_iconst (v := nI 1) hx hb dX7_passDay_41 (by decide) ?_
            refine lv_iadd hx hb dX7_passDay_42 ?_
            refine lv_topi (fun y48 e49 => ?_)
            exact hJ39 y48  _ _ _ hP hD hS (lv_sub hl [0, 1] rfl)
          · refine lv_iconst (v := nI 0) hx hb dX7_passDay_31 (by decide) ?_
            refine lv_goto (tgt := 43) hx hb dX7_passDay_32 (by decide) ?_
            exact hJ39 (nI 0)  _ _ _ hP hD hS (lv_sub hl [0, 1] rfl)
  exact hL13 ((6 - 0) + 1) 0 spoonsLeftF depthsF (lf_s_passDay_5) (Nat.lt_succ_self _) _ _ _ hP hD hS (lv_sub hl [0, 1] rfl)
set_option maxRecDepth 20000 in
theorem lf_s_passDays_1 (x : Int32) (r1 : Int32) (y3 : Int32) (k17 : Nat) (n24 : Nat) (p2 : True) (e4 : y3 = (if r1 < x then r1 else x)) (j22 : k17 ≤ 2147483647) (hm26 : 2147483647 - k17 < n24 + 1) (c27 : ¬ y3 ≤ nI k17) : (k17 + 1) ≤ 2147483647 := by
  have b_x := ia_b x
  have b_r1 := ia_b r1
  have b_y3 := ia_b y3
  try have k_0 := ia_n k17 (by first | decide | omega)
  try simp only [ia_lt, ia_le, ia_eq, ia_m1, ia_0, ia_1, ne_eq, true_and, and_true, false_and, and_false, or_false, false_or, or_true, true_or, not_true_eq_false, not_false_eq_true] at *
  all_goals omega
set_option maxRecDepth 20000 in
theorem lf_s_passDays_2 (x : Int32) (r1 : Int32) (y3 : Int32) (k17 : Nat) (n24 : Nat) (p2 : True) (e4 : y3 = (if r1 < x then r1 else x)) (j22 : k17 ≤ 2147483647) (hm26 : 2147483647 - k17 < n24 + 1) (c27 : ¬ y3 ≤ nI k17) : 2147483647 - (k17 + 1) < n24 := by
  have b_x := ia_b x
  have b_r1 := ia_b r1
  have b_y3 := ia_b y3
  try have k_0 := ia_n k17 (by first | decide | omega)
  try simp only [ia_lt, ia_le, ia_eq, ia_m1, ia_0, ia_1, ne_eq, true_and, and_true, false_and, and_false, or_false, false_or, or_true, true_or, not_true_eq_false, not_false_eq_true] at *
  all_goals omega
set_option maxRecDepth 20000 in
theorem lf_s_passDays_3  (p2 : True) : 0 ≤ 2147483647 := by
  try simp only [ia_lt, ia_le, ia_eq, ia_m1, ia_0, ia_1, ne_eq, true_and, and_true, false_and, and_false, or_false, false_or, or_true, true_or, not_true_eq_false, not_false_eq_true] at *
  all_goals omega
set_option maxHeartbeats 4000000 in
set_option maxRecDepth 100000 in
theorem c_s_passDays (l : Launch) (dC : Nat → ClassId) (dI : Nat → Nat → Nat) (ky : Nat → ClassId) (sz : Nat) (a : Nat) (wide : Nat) (high : Nat) (heat : Int32) (cools : Int32) (skinHeat : Int32) (today : Int32) (stirs : Int32) (steps : Int32) (lumps : Nat) (boats : Nat) (thickness : Nat) (lumpNames : Nat) (lumpCells : Nat) (boatNames : Nat) (boatCells : Nat) (loads : Nat) (spoons : Nat) (spoonsLeft : Nat) (depths : Nat) (thicknessF : Nat → Int32) (lumpCellsF : Nat → Int32) (boatCellsF : Nat → Int32) (loadsF : Nat → Int32) (spoonsF : Nat → Int32) (spoonsLeftF : Nat → Int32) (depthsF : Nat → Int32) (x : Int32) (iv_a_0 : 2 ≤ wide) (iv_a_1 : wide ≤ 6) (iv_a_2 : 2 ≤ high) (iv_a_3 : high ≤ 6) (iv_a_4 : lumps ≤ 6) (iv_a_5 : boats ≤ 6) : Met l yX7_passDays wsX7_passDays ({ frames := 4, cells := 0, slots := 0, locals := 86 }) (PcU dC dI ky [.ref a, .int x] [(a, .inr (7, [.int (nI wide), .int (nI high), .int heat, .int cools, .int skinHeat, .int today, .int stirs, .int steps, .int (nI lumps), .int (nI boats), .ref thickness, .ref lumpNames, .ref lumpCells, .ref boatNames, .ref boatCells, .ref loads, .ref spoons, .ref spoonsLeft, .ref depths])), (thickness, .inl (ky 0, 36, .inl thicknessF)), (lumpCells, .inl (ky 0, 6, .inl lumpCellsF)), (boatCells, .inl (ky 0, 6, .inl boatCellsF)), (loads, .inl (ky 0, 6, .inl loadsF)), (spoons, .inl (ky 0, 6, .inl spoonsF)), (spoonsLeft, .inl (ky 0, 6, .inl spoonsLeftF)), (depths, .inl (ky 0, 6, .inl depthsF))] sz) (va_Qi (fun (r : Int32) (u : Int32 × Int32 × (Nat → Int32) × (Nat → Int32)) => match u with | (heatG, todayG, spoonsLeftG, depthsG) => True) (BU dC dI ky (fun (u : Int32 × Int32 × (Nat → Int32) × (Nat → Int32)) => match u with | (heatG, todayG, spoonsLeftG, depthsG) => [(a, .inr (7, [.int (nI wide), .int (nI high), .int heatG, .int cools, .int skinHeat, .int todayG, .int stirs, .int steps, .int (nI lumps), .int (nI boats), .ref thickness, .ref lumpNames, .ref lumpCells, .ref boatNames, .ref boatCells, .ref loads, .ref spoons, .ref spoonsLeft, .ref depths])), (thickness, .inl (ky 0, 36, .inl thicknessF)), (lumpCells, .inl (ky 0, 6, .inl lumpCellsF)), (boatCells, .inl (ky 0, 6, .inl boatCellsF)), (loads, .inl (ky 0, 6, .inl loadsF)), (spoons, .inl (ky 0, 6, .inl spoonsF)), (spoonsLeft, .inl (ky 0, 6, .inl spoonsLeftG)), (depths, .inl (ky 0, 6, .inl depthsG))]) (va_A [(a, .inr (7, [.int (nI wide), .int (nI high), .int heat, .int cools, .int skinHeat, .int today, .int stirs, .int steps, .int (nI lumps), .int (nI boats), .ref thickness, .ref lumpNames, .ref lumpCells, .ref boatNames, .ref boatCells, .ref loads, .ref spoons, .ref spoonsLeft, .ref depths])), (thickness, .inl (ky 0, 36, .inl thicknessF)), (lumpCells, .inl (ky 0, 6, .inl lumpCellsF)), (boatCells, .inl (ky 0, 6, .inl boatCellsF)), (loads, .inl (ky 0, 6, .inl loadsF)), (spoons, .inl (ky 0, 6, .inl spoonsF)), (spoonsLeft, .inl (ky 0, 6, .inl spoonsLeftF)), (depths, .inl (ky 0, 6, .inl depthsF))] sz)) (va_A [(a, .inr (7, [.int (nI wide), .int (nI high), .int heat, .int cools, .int skinHeat, .int today, .int stirs, .int steps, .int (nI lumps), .int (nI boats), .ref thickness, .ref lumpNames, .ref lumpCells, .ref boatNames, .ref boatCells, .ref loads, .ref spoons, .ref spoonsLeft, .ref depths])), (thickness, .inl (ky 0, 36, .inl thicknessF)), (lumpCells, .inl (ky 0, 6, .inl lumpCellsF)), (boatCells, .inl (ky 0, 6, .inl boatCellsF)), (loads, .inl (ky 0, 6, .inl loadsF)), (spoons, .inl (ky 0, 6, .inl spoonsF)), (spoonsLeft, .inl (ky 0, 6, .inl spoonsLeftF)), (depths, .inl (ky 0, 6, .inl depthsF))] sz)) 0 0 (va_A [(a, .inr (7, [.int (nI wide), .int (nI high), .int heat, .int cools, .int skinHeat, .int today, .int stirs, .int steps, .int (nI lumps), .int (nI boats), .ref thickness, .ref lumpNames, .ref lumpCells, .ref boatNames, .ref boatCells, .ref loads, .ref spoons, .ref spoonsLeft, .ref depths])), (thickness, .inl (ky 0, 36, .inl thicknessF)), (lumpCells, .inl (ky 0, 6, .inl lumpCellsF)), (boatCells, .inl (ky 0, 6, .inl boatCellsF)), (loads, .inl (ky 0, 6, .inl loadsF)), (spoons, .inl (ky 0, 6, .inl spoonsF)), (spoonsLeft, .inl (ky 0, 6, .inl spoonsLeftF)), (depths, .inl (ky 0, 6, .inl depthsF))] sz) := by
  refine Met.ofW (cc := cX7_passDays) (maxL := 4) (ret := (some .int)) (by decide) rfl ?_
  intro p e s m args below meth c s₁ B hml hv
  obtain ⟨rfl, hsz, hP, hK, hD0⟩ := hv
  have hx := B.exec
  have hb := B.bytes
  have hr := B.returns
  have hts := atoms_spec (ws := wsX7_passDays) B.pre
  have hown : s.vm.findClass RX7 = some m.cls := findClass_of_methodNamed B.named
  have hlocks := B.notSynchronized
  subst hsz
  have hD := hD0.self (sz := s.heap.size)
  generalize hAe : va_A [(a, .inr (7, [.int (nI wide), .int (nI high), .int heat, .int cools, .int skinHeat, .int today, .int stirs, .int steps, .int (nI lumps), .int (nI boats), .ref thickness, .ref lumpNames, .ref lumpCells, .ref boatNames, .ref boatCells, .ref loads, .ref spoons, .ref spoonsLeft, .ref depths])), (thickness, .inl (ky 0, 36, .inl thicknessF)), (lumpCells, .inl (ky 0, 6, .inl lumpCellsF)), (boatCells, .inl (ky 0, 6, .inl boatCellsF)), (loads, .inl (ky 0, 6, .inl loadsF)), (spoons, .inl (ky 0, 6, .inl spoonsF)), (spoonsLeft, .inl (ky 0, 6, .inl spoonsLeftF)), (depths, .inl (ky 0, 6, .inl depthsF))] s.heap.size = A at hD ⊢
  have hA : ∀ q : Nat, s.heap.size ≤ q → A q := fun q h => by rw [← hAe]; exact Or.inr h
  have hS : va_S A s.heap s.heap [] := va_S.rf
  have hl := lv_entry ([.ref a, .int x]) (n := 4) (Nat.le_of_ble_eq_true rfl)
  rw [lg_entry_eq]
  generalize (lg_sl ([.ref a, .int x]) ++ List.replicate (4 - (lg_sl ([.ref a, .int x])).length) Slot.unset).toArray = ls at hl ⊢
  have hl : lv_has ls 4 [(0, .ref a), (1, .int x)] := hl
  refine q_name (fun Q hQ => ?_)
  generalize ([.ref a, .int x] : List Value).toArray = args at hts hQ ⊢
  refine lv_iload_n hx hb dX7_passDays_0 rfl (lv_at hl 1 rfl) ?_
  refine lv_aload_n hx hb dX7_passDays_1 rfl (lv_at hl 0 rfl) ?_
  refine vp_callSi (W.runV (As := []) (rest := [.int x]) ⟨hx, hb, hml, hown, hts⟩ (c_s_daysLeft l dC dI ky a wide high heat cools skinHeat today stirs steps lumps boats thickness lumpNames lumpCells boatNames boatCells loads spoons spoonsLeft depths iv_a_0 iv_a_1 iv_a_2 iv_a_3 iv_a_4 iv_a_5) (cwV 0 hts gX7_passDays_X7_daysLeft rfl rfl rfl (by decide +kernel) ⟨(Nat.le_of_ble_eq_true rfl), (Nat.le_of_ble_eq_true rfl)⟩) (pre_PV hK hP [0] rfl (ci := 7) (q0 := 0) rfl rfl) rfl rfl hl.1 rfl (lv_room (Nat.le_of_ble_eq_true rfl)) dX7_passDays_2 ⟨(Nat.le_of_ble_eq_true rfl), (Nat.le_of_ble_eq_true rfl)⟩) (fun r1 p2 => ?_)
  refine va_mmin hx hb (by rw [hml]; exact hl.1.symm) hown (hts _ (List.mem_of_getElem? (i := 1) rfl)) (hts _ (List.mem_of_getElem? (i := 2) rfl)) (hts _ (List.mem_of_getElem? (i := 3) rfl)) (hts _ (List.mem_of_getElem? (i := 4) rfl)) (Nat.le_of_ble_eq_true rfl) (Nat.le_of_ble_eq_true rfl) (Nat.le_of_ble_eq_true rfl) (Nat.le_of_ble_eq_true rfl) dX7_passDays_5 ?_
  refine lv_topi (fun y3 e4 => ?_)
  refine lv_istore_n (lv' := [(2, .int y3), (0, .ref a), (1, .int x)]) hx hb dX7_passDays_8 rfl hl (by decide) rfl (fun ls hl => ?_)
  refine lv_iconst (v := nI 0) hx hb dX7_passDays_9 (by decide) ?_
  refine lv_istore_n (lv' := [(3, .int (nI 0)), (2, .int y3), (0, .ref a), (1, .int x)]) hx hb dX7_passDays_10 rfl hl (by decide) rfl (fun ls hl => ?_)
  have hL23 : ∀ (n24 : Nat) (k17 : Nat) (x18 : Int32) (x19 : Int32) (f20 : Nat → Int32) (f21 : Nat → Int32), (k17 ≤ 2147483647) → 2147483647 - k17 < n24 → ∀ (H : Heap) (locs : List Loc) (ls : Array Slot), va_P (dC, dI) vwCl [(a, .inr (7, [.int (nI wide), .int (nI high), .int x18, .int cools, .int skinHeat, .int x19, .int stirs, .int steps, .int (nI lumps), .int (nI boats), .ref thickness, .ref lumpNames, .ref lumpCells, .ref boatNames, .ref boatCells, .ref loads, .ref spoons, .ref spoonsLeft, .ref depths])), (thickness, .inl (ky 0, 36, .inl thicknessF)), (lumpCells, .inl (ky 0, 6, .inl lumpCellsF)), (boatCells, .inl (ky 0, 6, .inl boatCellsF)), (loads, .inl (ky 0, 6, .inl loadsF)), (spoons, .inl (ky 0, 6, .inl spoonsF)), (spoonsLeft, .inl (ky 0, 6, .inl f20)), (depths, .inl (ky 0, 6, .inl f21))] H → va_D A [(a, .inr (7, [.int (nI wide), .int (nI high), .int x18, .int cools, .int skinHeat, .int x19, .int stirs, .int steps, .int (nI lumps), .int (nI boats), .ref thickness, .ref lumpNames, .ref lumpCells, .ref boatNames, .ref boatCells, .ref loads, .ref spoons, .ref spoonsLeft, .ref depths])), (thickness, .inl (ky 0, 36, .inl thicknessF)), (lumpCells, .inl (ky 0, 6, .inl lumpCellsF)), (boatCells, .inl (ky 0, 6, .inl boatCellsF)), (loads, .inl (ky 0, 6, .inl loadsF)), (spoons, .inl (ky 0, 6, .inl spoonsF)), (spoonsLeft, .inl (ky 0, 6, .inl f20)), (depths, .inl (ky 0, 6, .inl f21))] → va_S A s.heap H locs → lv_has ls 4 [(3, .int (nI k17)), (2, .int y3), (0, .ref a)] → W p l e (headSpec wsX7_passDays ({ frames := 4, cells := 0, slots := 0, locals := 86 })).room s m args below meth c H locs 0 0 Q (F0 m 11 ls []) := by
    intro n24
    induction n24 with
    | zero => intro k17 x18 x19 f20 f21 _ h9; exact absurd h9 (Nat.not_lt_zero _)
    | succ n24 ih25 =>
      intro k17 x18 x19 f20 f21 j22 hm26 H locs ls hP hD hS hl
      refine lv_iload_n hx hb dX7_passDays_11 rfl (lv_at hl 0 rfl) ?_
      refine lv_iload_n hx hb dX7_passDays_12 rfl (lv_at hl 1 rfl) ?_
      refine lv_icmp_ge (tgt := 26) hx hb dX7_passDays_13 (by decide) (fun c27 => ?_) (fun c27 => ?_)
      · refine lv_iload_n hx hb dX7_passDays_26 rfl (lv_at hl 1 rfl) ?_
        rw [hQ]
        exact W.iret (v := y3) hx hb hr (fun t9 ht9 hW9 => ⟨⟨y3, (x18, x19, f20, f21), rfl, trivial, by rw [ht9]; exact hP, va_K.moved hW9.alike hK, hD⟩, hS.F ht9⟩) hS.2.2 dX7_passDays_27
      · refine lv_aload_n hx hb dX7_passDays_16 rfl (lv_at hl 2 rfl) ?_
        refine r_call_v (wr := []) (va_runV (As := []) (rest := []) ⟨hx, hb, hml, hown, hts⟩ (c_s_passDay l dC dI ky H.size a wide high x18 cools skinHeat x19 stirs steps lumps boats thickness lumpNames lumpCells boatNames boatCells loads spoons spoonsLeft depths thicknessF lumpCellsF boatCellsF loadsF spoonsF f20 f21 iv_a_0 iv_a_1 iv_a_2 iv_a_3 iv_a_4 iv_a_5) (cwV 0 hts gX7_passDays_X7_passDay rfl rfl rfl (by decide +kernel) ⟨(Nat.le_of_ble_eq_true rfl), (Nat.le_of_ble_eq_true rfl)⟩) (pre_UV hK hP hD [0, 1, 2, 3, 4, 5, 6, 7] (by decide) rfl (ci := 7) (q0 := 0) rfl rfl) rfl rfl hl.1 rfl (lv_room (Nat.le_of_ble_eq_true rfl)) dX7_passDays_17 ⟨(Nat.le_of_ble_eq_true rfl), (Nat.le_of_ble_eq_true rfl)⟩) hP hD hS hA [0, 1, 2, 3, 4, 5, 6, 7] [] rfl rfl (by decide) (by decide) (fun  u28 H locs p29 hP hD hS => ?_)
        obtain ⟨heatG_30, todayG_31, spoonsLeftG_32, depthsG_33⟩ := u28
        refine W.widen (k := 0) (n := 0) (Nat.le_of_ble_eq_true rfl) (Nat.le_of_ble_eq_true rfl) ?_
        have hP : va_P (dC, dI) vwCl [(a, .inr (7, [.int (nI wide), .int (nI high), .int heatG_30, .int cools, .int skinHeat, .int todayG_31, .int stirs, .int steps, .int (nI lumps), .int (nI boats), .ref thickness, .ref lumpNames, .ref lumpCells, .ref boatNames, .ref boatCells, .ref loads, .ref spoons, .ref spoonsLeft, .ref depths])), (thickness, .inl (ky 0, 36, .inl thicknessF)), (lumpCells, .inl (ky 0, 6, .inl lumpCellsF)), (boatCells, .inl (ky 0, 6, .inl boatCellsF)), (loads, .inl (ky 0, 6, .inl loadsF)), (spoons, .inl (ky 0, 6, .inl spoonsF)), (spoonsLeft, .inl (ky 0, 6, .inl spoonsLeftG_32)), (depths, .inl (ky 0, 6, .inl depthsG_33))] H := hP
        have hD : va_D A [(a, .inr (7, [.int (nI wide), .int (nI high), .int heatG_30, .int cools, .int skinHeat, .int todayG_31, .int stirs, .int steps, .int (nI lumps), .int (nI boats), .ref thickness, .ref lumpNames, .ref lumpCells, .ref boatNames, .ref boatCells, .ref loads, .ref spoons, .ref spoonsLeft, .ref depths])), (thickness, .inl (ky 0, 36, .inl thicknessF)), (lumpCells, .inl (ky 0, 6, .inl lumpCellsF)), (boatCells, .inl (ky 0, 6, .inl boatCellsF)), (loads, .inl (ky 0, 6, .inl loadsF)), (spoons, .inl (ky 0, 6, .inl spoonsF)), (spoonsLeft, .inl (ky 0, 6, .inl spoonsLeftG_32)), (depths, .inl (ky 0, 6, .inl depthsG_33))] := hD
        refine lv_iinc (v := nI (k17 + 1)) (lv' := [(3, .int (nI (k17 + 1))), (2, .int y3), (0, .ref a)]) hx hb dX7_passDays_20 hl (k := 0) rfl (show nI k17 + nI 1 = nI (k17 + 1) from nI_add _ _) (by decide) rfl (fun ls hl => ?_)
        refine lv_goto (tgt := 11) hx hb dX7_passDays_23 (by decide) ?_
        exact ih25 (k17 + 1) heatG_30 todayG_31 spoonsLeftG_32 depthsG_33 (lf_s_passDays_1 x r1 y3 k17 n24 p2 e4 j22 hm26 c27) (lf_s_passDays_2 x r1 y3 k17 n24 p2 e4 j22 hm26 c27) _ _ _ hP hD hS (lv_sub hl [0, 1, 2] rfl)
  exact hL23 ((2147483647 - 0) + 1) 0 heat today spoonsLeftF depthsF (lf_s_passDays_3 p2) (Nat.lt_succ_self _) _ _ _ hP hD hS (lv_sub hl [0, 1, 2] rfl)
set_option maxRecDepth 20000 in
theorem lf_s_factOfBoat_1 (boats : Nat) (x : Int32) (iv_a_5 : boats ≤ 6) (t3 : 0 ≤ x.toInt) (t4 : x.toInt < boats) : 0 ≤ x.toInt ∧ x.toInt < ((6 : Nat) : Int) := by
  have b_x := ia_b x
  try simp only [ia_lt, ia_le, ia_eq, ia_m1, ia_0, ia_1, ne_eq, true_and, and_true, false_and, and_false, or_false, false_or, or_true, true_or, not_true_eq_false, not_false_eq_true] at *
  all_goals omega
set_option maxRecDepth 20000 in
theorem lf_s_factOfBoat_2 (boats : Nat) (x : Int32) (iv_a_5 : boats ≤ 6) (t3 : 0 ≤ x.toInt) (t4 : x.toInt < boats) : 0 ≤ x.toInt ∧ x.toInt < ((6 : Nat) : Int) := by
  have b_x := ia_b x
  try simp only [ia_lt, ia_le, ia_eq, ia_m1, ia_0, ia_1, ne_eq, true_and, and_true, false_and, and_false, or_false, false_or, or_true, true_or, not_true_eq_false, not_false_eq_true] at *
  all_goals omega
set_option maxRecDepth 20000 in
theorem lf_s_factOfBoat_3 (boats : Nat) (x : Int32) (iv_a_5 : boats ≤ 6) (t3 : 0 ≤ x.toInt) (t4 : x.toInt < boats) : 0 ≤ x.toInt ∧ x.toInt < ((6 : Nat) : Int) := by
  have b_x := ia_b x
  try simp only [ia_lt, ia_le, ia_eq, ia_m1, ia_0, ia_1, ne_eq, true_and, and_true, false_and, and_false, or_false, false_or, or_true, true_or, not_true_eq_false, not_false_eq_true] at *
  all_goals omega
set_option maxRecDepth 20000 in
theorem lf_s_factOfBoat_4 (boats : Nat) (x : Int32) (iv_a_5 : boats ≤ 6) (t3 : 0 ≤ x.toInt) (t4 : x.toInt < boats) : 0 ≤ x.toInt ∧ x.toInt < ((6 : Nat) : Int) := by
  have b_x := ia_b x
  try simp only [ia_lt, ia_le, ia_eq, ia_m1, ia_0, ia_1, ne_eq, true_and, and_true, false_and, and_false, or_false, false_or, or_true, true_or, not_true_eq_false, not_false_eq_true] at *
  all_goals omega
set_option maxRecDepth 20000 in
theorem lf_s_factOfBoat_5 (boats : Nat) (x : Int32) (iv_a_5 : boats ≤ 6) (t3 : 0 ≤ x.toInt) (t4 : x.toInt < boats) : 0 ≤ x.toInt ∧ x.toInt < ((6 : Nat) : Int) := by
  have b_x := ia_b x
  try simp only [ia_lt, ia_le, ia_eq, ia_m1, ia_0, ia_1, ne_eq, true_and, and_true, false_and, and_false, or_false, false_or, or_true, true_or, not_true_eq_false, not_false_eq_true] at *
  all_goals omega
set_option maxRecDepth 20000 in
theorem lf_s_factOfBoat_6 (boats : Nat) (x : Int32) (iv_a_5 : boats ≤ 6) (t3 : 0 ≤ x.toInt) (t4 : x.toInt < boats) : 0 ≤ x.toInt ∧ x.toInt < ((6 : Nat) : Int) := by
  have b_x := ia_b x
  try simp only [ia_lt, ia_le, ia_eq, ia_m1, ia_0, ia_1, ne_eq, true_and, and_true, false_and, and_false, or_false, false_or, or_true, true_or, not_true_eq_false, not_false_eq_true] at *
  all_goals omega
set_option maxHeartbeats 4000000 in
set_option maxRecDepth 100000 in
theorem c_s_factOfBoat (l : Launch) (dC : Nat → ClassId) (dI : Nat → Nat → Nat) (ky : Nat → ClassId) (a : Nat) (wide : Nat) (high : Nat) (heat : Int32) (cools : Int32) (skinHeat : Int32) (today : Int32) (stirs : Int32) (steps : Int32) (lumps : Nat) (boats : Nat) (thickness : Nat) (lumpNames : Nat) (lumpCells : Nat) (boatNames : Nat) (boatCells : Nat) (loads : Nat) (spoons : Nat) (spoonsLeft : Nat) (depths : Nat) (thicknessF : Nat → Int32) (lumpCellsF : Nat → Int32) (boatCellsF : Nat → Int32) (loadsF : Nat → Int32) (spoonsF : Nat → Int32) (spoonsLeftF : Nat → Int32) (depthsF : Nat → Int32) (x : Int32) (y : Int32) (iv_a_0 : 2 ≤ wide) (iv_a_1 : wide ≤ 6) (iv_a_2 : 2 ≤ high) (iv_a_3 : high ≤ 6) (iv_a_4 : lumps ≤ 6) (iv_a_5 : boats ≤ 6) : Met l yX7_factOfBoat wsX7_factOfBoat ({ frames := 3, cells := 0, slots := 0, locals := 65 }) (PcP dC dI ky [.ref a, .int x, .int y] [(a, .inr (7, [.int (nI wide), .int (nI high), .int heat, .int cools, .int skinHeat, .int today, .int stirs, .int steps, .int (nI lumps), .int (nI boats), .ref thickness, .ref lumpNames, .ref lumpCells, .ref boatNames, .ref boatCells, .ref loads, .ref spoons, .ref spoonsLeft, .ref depths])), (thickness, .inl (ky 0, 36, .inl thicknessF)), (lumpCells, .inl (ky 0, 6, .inl lumpCellsF)), (boatCells, .inl (ky 0, 6, .inl boatCellsF)), (loads, .inl (ky 0, 6, .inl loadsF)), (spoons, .inl (ky 0, 6, .inl spoonsF)), (spoonsLeft, .inl (ky 0, 6, .inl spoonsLeftF)), (depths, .inl (ky 0, 6, .inl depthsF))]) (vp_Si (fun r : Int32 => True)) 0 0 (fun _ => False) := by
  refine Met.ofW (cc := cX7_factOfBoat) (maxL := 3) (ret := (some .int)) (by decide) rfl ?_
  intro p e s m args below meth c s₁ B hml hv
  obtain ⟨rfl, hP, hK⟩ := hv
  have hx := B.exec
  have hb := B.bytes
  have hr := B.returns
  have hts := atoms_spec (ws := wsX7_factOfBoat) B.pre
  have hown : s.vm.findClass RX7 = some m.cls := findClass_of_methodNamed B.named
  have hlocks := B.notSynchronized
  have hin7 : ∀ w ∈ u_ws RX7 TX7 19, w ∈ wsX7_factOfBoat := by decide +kernel
  have hl := lv_entry ([.ref a, .int x, .int y]) (n := 3) (Nat.le_of_ble_eq_true rfl)
  rw [lg_entry_eq]
  generalize (lg_sl ([.ref a, .int x, .int y]) ++ List.replicate (3 - (lg_sl ([.ref a, .int x, .int y])).length) Slot.unset).toArray = ls at hl ⊢
  have hl : lv_has ls 3 [(0, .ref a), (1, .int x), (2, .int y)] := hl
  refine q_name (fun Q hQ => ?_)
  generalize ([.ref a, .int x, .int y] : List Value).toArray = args at hts hQ ⊢
  refine lv_aload_n hx hb dX7_factOfBoat_0 rfl (lv_at hl 0 rfl) ?_
  refine lv_iload_n hx hb dX7_factOfBoat_1 rfl (lv_at hl 1 rfl) ?_
  refine vp_callSi (W.runV (As := [.int x]) (rest := []) ⟨hx, hb, hml, hown, hts⟩ (c_s_isBoat l dC dI ky a wide high heat cools skinHeat today stirs steps lumps boats thickness lumpNames lumpCells boatNames boatCells loads spoons spoonsLeft depths x iv_a_0 iv_a_1 iv_a_2 iv_a_3 iv_a_4 iv_a_5) (cwV 1 hts gX7_factOfBoat_X7_isBoat rfl rfl rfl (by decide +kernel) ⟨(Nat.le_of_ble_eq_true rfl), (Nat.le_of_ble_eq_true rfl)⟩) (pre_PV hK hP [0] rfl (ci := 7) (q0 := 0) rfl rfl) rfl rfl hl.1 rfl (lv_room (Nat.le_of_ble_eq_true rfl)) dX7_factOfBoat_2 ⟨(Nat.le_of_ble_eq_true rfl), (Nat.le_of_ble_eq_true rfl)⟩) (fun r1 p2 => ?_)
  rcases p2 with ⟨rfl, t3, t4⟩ | ⟨rfl, t5⟩
  · refine lv_if_ne (tgt := 10) hx hb dX7_factOfBoat_5 (by decide) (fun c6 => ?_) (fun c6 => absurd c6 (by decide))
    refine lv_iload_n hx hb dX7_factOfBoat_10 rfl (lv_at hl 2 rfl) ?_
    rcases sw_0_6 y with c8 | c9 | c10 | c11 | c12 | c13 | c14 | c15
    · refine lv_tableOut (tgt := 114) hx hb dX7_factOfBoat_11 c8 (by decide) ?_
      refine lv_aload_n hx hb dX7_factOfBoat_114 rfl (lv_at hl 0 rfl) ?_
      refine lv_iload_n hx hb dX7_factOfBoat_115 rfl (lv_at hl 1 rfl) ?_
      refine vp_callSi (W.runV (As := [.int x]) (rest := []) ⟨hx, hb, hml, hown, hts⟩ (c_s_isAfloat l dC dI ky a wide high heat cools skinHeat today stirs steps lumps boats thickness lumpNames lumpCells boatNames boatCells loads spoons spoonsLeft depths thicknessF lumpCellsF boatCellsF loadsF depthsF x iv_a_0 iv_a_1 iv_a_2 iv_a_3 iv_a_4 iv_a_5) (cwV 1 hts gX7_factOfBoat_X7_isAfloat rfl rfl rfl (by decide +kernel) ⟨(Nat.le_of_ble_eq_true rfl), (Nat.le_of_ble_eq_true rfl)⟩) (pre_PV hK hP [0, 1, 2, 3, 4, 7] rfl (ci := 7) (q0 := 0) rfl rfl) rfl rfl hl.1 rfl (lv_room (Nat.le_of_ble_eq_true rfl)) dX7_factOfBoat_116 ⟨(Nat.le_of_ble_eq_true rfl), (Nat.le_of_ble_eq_true rfl)⟩) (fun r16 p17 => ?_)
      refine lv_if_eq (tgt := 126) hx hb dX7_factOfBoat_119 (by decide) (fun c18 => ?_) (fun c18 => ?_)
      · refine lv_iconst (v := nI 0) hx hb dX7_factOfBoat_126 (by decide) ?_
        rw [hQ]
        exact W.iret (v := nI 0) hx hb hr (fun t9 ht9 hW9 => ⟨nI 0, rfl, trivial, ht9⟩) (fun _ h => absurd h List.not_mem_nil) dX7_factOfBoat_127
      · refine lv_iconst (v := nI 1) hx hb dX7_factOfBoat_122 (by decide) ?_
        refine lv_goto (tgt := 127) hx hb dX7_factOfBoat_123 (by decide) ?_
        rw [hQ]
        exact W.iret (v := nI 1) hx hb hr (fun t9 ht9 hW9 => ⟨nI 1, rfl, trivial, ht9⟩) (fun _ h => absurd h List.not_mem_nil) dX7_factOfBoat_127
    · refine r_ti (nI 0) c9 ?_
      rw [c9] at hl
      refine lv_tableIn (off := 41) (tgt := 52) hx hb dX7_factOfBoat_11 (by decide) (by decide) rfl (by decide) ?_
      refine lv_aload_n hx hb dX7_factOfBoat_52 rfl (lv_at hl 0 rfl) ?_
      refine va_get (D := (dC, dI)) (ci := 7) (v := .ref boatCells) (C := RX7) (T := TX7) (N := 19) hx hb hts hin7 hown hK hP 0 rfl rfl 14 (by decide) (hts (.fieldLink RX7 25 "PorridgeSea$Sea" "boatCells" "[I") (List.mem_of_getElem? (i := 1) rfl)) (fun _ h9 => h9) rfl dX7_factOfBoat_53 ?_
      refine lv_iload_n hx hb dX7_factOfBoat_56 rfl (lv_at hl 1 rfl) ?_
      obtain ⟨n19, h20, e21⟩ := nat_of x 6 (by decide) (lf_s_factOfBoat_1 boats x iv_a_5 t3 t4)
      rw [e21]
      obtain ⟨y22, e23⟩ : ∃ z9, z9 = boatCellsF n19 := ⟨_, rfl⟩
      refine r_iald hx hb hK hP 3 rfl n19 (by omega) (by decide) y22 e23.symm dX7_factOfBoat_57 ?_
      refine lv_bipush (v := nI 6) hx hb dX7_factOfBoat_58 (by decide) ?_
      refine lv_irem hx hb dX7_factOfBoat_60 (by decide) ?_
      refine lv_topi (fun y24 e25 => ?_)
      rw [hQ]
      exact W.iret (v := y24) hx hb hr (fun t9 ht9 hW9 => ⟨y24, rfl, trivial, ht9⟩) (fun _ h => absurd h List.not_mem_nil) dX7_factOfBoat_61
    · refine r_ti (nI 1) c10 ?_
      rw [c10] at hl
      refine lv_tableIn (off := 51) (tgt := 62) hx hb dX7_factOfBoat_11 (by decide) (by decide) rfl (by decide) ?_
      refine lv_aload_n hx hb dX7_factOfBoat_62 rfl (lv_at hl 0 rfl) ?_
      refine va_get (D := (dC, dI)) (ci := 7) (v := .ref boatCells) (C := RX7) (T := TX7) (N := 19) hx hb hts hin7 hown hK hP 0 rfl rfl 14 (by decide) (hts (.fieldLink RX7 25 "PorridgeSea$Sea" "boatCells" "[I") (List.mem_of_getElem? (i := 1) rfl)) (fun _ h9 => h9) rfl dX7_factOfBoat_63 ?_
      refine lv_iload_n hx hb dX7_factOfBoat_66 rfl (lv_at hl 1 rfl) ?_
      obtain ⟨n26, h27, e28⟩ := nat_of x 6 (by decide) (lf_s_factOfBoat_2 boats x iv_a_5 t3 t4)
      rw [e28]
      obtain ⟨y29, e30⟩ : ∃ z9, z9 = boatCellsF n26 := ⟨_, rfl⟩
      refine r_iald hx hb hK hP 3 rfl n26 (by omega) (by decide) y29 e30.symm dX7_factOfBoat_67 ?_
      refine lv_bipush (v := nI 6) hx hb dX7_factOfBoat_68 (by decide) ?_
      refine lv_idiv hx hb dX7_factOfBoat_70 (by decide) ?_
      refine lv_topi (fun y31 e32 => ?_)
      rw [hQ]
      exact W.iret (v := y31) hx hb hr (fun t9 ht9 hW9 => ⟨y31, rfl, trivial, ht9⟩) (fun _ h => absurd h List.not_mem_nil) dX7_factOfBoat_71
    · refine r_ti (nI 2) c11 ?_
      rw [c11] at hl
      refine lv_tableIn (off := 61) (tgt := 72) hx hb dX7_factOfBoat_11 (by decide) (by decide) rfl (by decide) ?_
      refine lv_aload_n hx hb dX7_factOfBoat_72 rfl (lv_at hl 0 rfl) ?_
      refine va_get (D := (dC, dI)) (ci := 7) (v := .ref loads) (C := RX7) (T := TX7) (N := 19) hx hb hts hin7 hown hK hP 0 rfl rfl 15 (by decide) (hts (.fieldLink RX7 28 "PorridgeSea$Sea" "loads" "[I") (List.mem_of_getElem? (i := 2) rfl)) (fun _ h9 => h9) rfl dX7_factOfBoat_73 ?_
      refine lv_iload_n hx hb dX7_factOfBoat_76 rfl (lv_at hl 1 rfl) ?_
      obtain ⟨n33, h34, e35⟩ := nat_of x 6 (by decide) (lf_s_factOfBoat_3 boats x iv_a_5 t3 t4)
      rw [e35]
      obtain ⟨y36, e37⟩ : ∃ z9, z9 = loadsF n33 := ⟨_, rfl⟩
      refine r_iald hx hb hK hP 4 rfl n33 (by omega) (by decide) y36 e37.symm dX7_factOfBoat_77 ?_
      rw [hQ]
      exact W.iret (v := y36) hx hb hr (fun t9 ht9 hW9 => ⟨y36, rfl, trivial, ht9⟩) (fun _ h => absurd h List.not_mem_nil) dX7_factOfBoat_78
    · refine r_ti (nI 3) c12 ?_
      rw [c12] at hl
      refine lv_tableIn (off := 68) (tgt := 79) hx hb dX7_factOfBoat_11 (by decide) (by decide) rfl (by decide) ?_
      refine lv_aload_n hx hb dX7_factOfBoat_79 rfl (lv_at hl 0 rfl) ?_
      refine va_get (D := (dC, dI)) (ci := 7) (v := .ref spoons) (C := RX7) (T := TX7) (N := 19) hx hb hts hin7 hown hK hP 0 rfl rfl 16 (by decide) (hts (.fieldLink RX7 31 "PorridgeSea$Sea" "spoons" "[I") (List.mem_of_getElem? (i := 3) rfl)) (fun _ h9 => h9) rfl dX7_factOfBoat_80 ?_
      refine lv_iload_n hx hb dX7_factOfBoat_83 rfl (lv_at hl 1 rfl) ?_
      obtain ⟨n38, h39, e40⟩ := nat_of x 6 (by decide) (lf_s_factOfBoat_4 boats x iv_a_5 t3 t4)
      rw [e40]
      obtain ⟨y41, e42⟩ : ∃ z9, z9 = spoonsF n38 := ⟨_, rfl⟩
      refine r_iald hx hb hK hP 5 rfl n38 (by omega) (by decide) y41 e42.symm dX7_factOfBoat_84 ?_
      rw [hQ]
      exact W.iret (v := y41) hx hb hr (fun t9 ht9 hW9 => ⟨y41, rfl, trivial, ht9⟩) (fun _ h => absurd h List.not_mem_nil) dX7_factOfBoat_85
    · refine r_ti (nI 4) c13 ?_
      rw [c13] at hl
      refine lv_tableIn (off := 75) (tgt := 86) hx hb dX7_factOfBoat_11 (by decide) (by decide) rfl (by decide) ?_
      refine lv_aload_n hx hb dX7_factOfBoat_86 rfl (lv_at hl 0 rfl) ?_
      refine va_get (D := (dC, dI)) (ci := 7) (v := .ref spoonsLeft) (C := RX7) (T := TX7) (N := 19) hx hb hts hin7 hown hK hP 0 rfl rfl 17 (by decide) (hts (.fieldLink RX7 34 "PorridgeSea$Sea" "spoonsLeft" "[I") (List.mem_of_getElem? (i := 4) rfl)) (fun _ h9 => h9) rfl dX7_factOfBoat_87 ?_
      refine lv_iload_n hx hb dX7_factOfBoat_90 rfl (lv_at hl 1 rfl) ?_
      obtain ⟨n43, h44, e45⟩ := nat_of x 6 (by decide) (lf_s_factOfBoat_5 boats x iv_a_5 t3 t4)
      rw [e45]
      obtain ⟨y46, e47⟩ : ∃ z9, z9 = spoonsLeftF n43 := ⟨_, rfl⟩
      refine r_iald hx hb hK hP 6 rfl n43 (by omega) (by decide) y46 e47.symm dX7_factOfBoat_91 ?_
      rw [hQ]
      exact W.iret (v := y46) hx hb hr (fun t9 ht9 hW9 => ⟨y46, rfl, trivial, ht9⟩) (fun _ h => absurd h List.not_mem_nil) dX7_factOfBoat_92
    · refine r_ti (nI 5) c14 ?_
      rw [c14] at hl
      refine lv_tableIn (off := 82) (tgt := 93) hx hb dX7_factOfBoat_11 (by decide) (by decide) rfl (by decide) ?_
      refine lv_aload_n hx hb dX7_factOfBoat_93 rfl (lv_at hl 0 rfl) ?_
      refine va_get (D := (dC, dI)) (ci := 7) (v := .ref depths) (C := RX7) (T := TX7) (N := 19) hx hb hts hin7 hown hK hP 0 rfl rfl 18 (by decide) (hts (.fieldLink RX7 37 "PorridgeSea$Sea" "depths" "[I") (List.mem_of_getElem? (i := 5) rfl)) (fun _ h9 => h9) rfl dX7_factOfBoat_94 ?_
      refine lv_iload_n hx hb dX7_factOfBoat_97 rfl (lv_at hl 1 rfl) ?_
      obtain ⟨n48, h49, e50⟩ := nat_of x 6 (by decide) (lf_s_factOfBoat_6 boats x iv_a_5 t3 t4)
      rw [e50]
      obtain ⟨y51, e52⟩ : ∃ z9, z9 = depthsF n48 := ⟨_, rfl⟩
      refine r_iald hx hb hK hP 7 rfl n48 (by omega) (by decide) y51 e52.symm dX7_factOfBoat_98 ?_
      rw [hQ]
      exact W.iret (v := y51) hx hb hr (fun t9 ht9 hW9 => ⟨y51, rfl, trivial, ht9⟩) (fun _ h => absurd h List.not_mem_nil) dX7_factOfBoat_99
    · refine r_ti (nI 6) c15 ?_
      rw [c15] at hl
      refine lv_tableIn (off := 89) (tgt := 100) hx hb dX7_factOfBoat_11 (by decide) (by decide) rfl (by decide) ?_
      refine lv_aload_n hx hb dX7_factOfBoat_100 rfl (lv_at hl 0 rfl) ?_
      refine lv_iload_n hx hb dX7_factOfBoat_101 rfl (lv_at hl 1 rfl) ?_
      refine vp_callSi (W.runV (As := [.int x]) (rest := []) ⟨hx, hb, hml, hown, hts⟩ (c_s_isEaten l dC dI ky a wide high heat cools skinHeat today stirs steps lumps boats thickness lumpNames lumpCells boatNames boatCells loads spoons spoonsLeft depths depthsF x iv_a_0 iv_a_1 iv_a_2 iv_a_3 iv_a_4 iv_a_5) (cwV 1 hts gX7_factOfBoat_X7_isEaten rfl rfl rfl (by decide +kernel) ⟨(Nat.le_of_ble_eq_true rfl), (Nat.le_of_ble_eq_true rfl)⟩) (pre_PV hK hP [0, 7] rfl (ci := 7) (q0 := 0) rfl rfl) rfl rfl hl.1 rfl (lv_room (Nat.le_of_ble_eq_true rfl)) dX7_factOfBoat_102 ⟨(Nat.le_of_ble_eq_true rfl), (Nat.le_of_ble_eq_true rfl)⟩) (fun r53 p54 => ?_)
      rcases p54 with ⟨rfl, t55, t56⟩ | ⟨rfl, t57⟩
      · refine lv_if_eq (tgt := 112) hx hb dX7_factOfBoat_105 (by decide) (fun c58 => absurd c58 (by decide)) (fun c58 => ?_)
        refine lv_iconst (v := nI 1) hx hb dX7_factOfBoat_108 (by decide) ?_
        refine lv_goto (tgt := 113) hx hb dX7_factOfBoat_109 (by decide) ?_
        rw [hQ]
        exact W.iret (v := nI 1) hx hb hr (fun t9 ht9 hW9 => ⟨nI 1, rfl, trivial, ht9⟩) (fun _ h => absurd h List.not_mem_nil) dX7_factOfBoat_113
      · refine lv_if_eq (tgt := 112) hx hb dX7_factOfBoat_105 (by decide) (fun c59 => ?_) (fun c59 => absurd (by decide) c59)
        refine lv_iconst (v := nI 0) hx hb dX7_factOfBoat_112 (by decide) ?_
        rw [hQ]
        exact W.iret (v := nI 0) hx hb hr (fun t9 ht9 hW9 => ⟨nI 0, rfl, trivial, ht9⟩) (fun _ h => absurd h List.not_mem_nil) dX7_factOfBoat_113
  · refine lv_if_ne (tgt := 10) hx hb dX7_factOfBoat_5 (by decide) (fun c60 => absurd c60 (by decide)) (fun c60 => ?_)
    refine lv_iconst (v := (-1 : Int32)) hx hb dX7_factOfBoat_8 (by decide) ?_
    rw [hQ]
    exact W.iret (v := (-1 : Int32)) hx hb hr (fun t9 ht9 hW9 => ⟨(-1 : Int32), rfl, trivial, ht9⟩) (fun _ h => absurd h List.not_mem_nil) dX7_factOfBoat_9
set_option maxRecDepth 20000 in
theorem lf_s_eatenBits_1 (boats : Nat) (k8 : Nat) (x9 : Int32) (n12 : Nat) (y22 : Int32) (y24 : Int32) (iv_a_5 : boats ≤ 6) (j10 : k8 ≤ 6) (hm14 : 6 - k8 < n12 + 1) (c15 : k8 < boats) (t18 : 0 ≤ (nI k8).toInt) (t19 : (nI k8).toInt < boats) (e23 : y22 = (nI 1) <<< ((nI k8) &&& 31)) (e25 : y24 = x9 ||| y22) : (k8 + 1) ≤ 6 := by
  have b_x9 := ia_b x9
  have b_y22 := ia_b y22
  have b_y24 := ia_b y24
  try have k_0 := ia_n k8 (by first | decide | omega)
  try have k_1 := ia_n 1 (by first | decide | omega)
  try simp only [ia_lt, ia_le, ia_eq, ia_m1, ia_0, ia_1, ne_eq, true_and, and_true, false_and, and_false, or_false, false_or, or_true, true_or, not_true_eq_false, not_false_eq_true] at *
  all_goals omega
set_option maxRecDepth 20000 in
theorem lf_s_eatenBits_2 (boats : Nat) (k8 : Nat) (x9 : Int32) (n12 : Nat) (y22 : Int32) (y24 : Int32) (iv_a_5 : boats ≤ 6) (j10 : k8 ≤ 6) (hm14 : 6 - k8 < n12 + 1) (c15 : k8 < boats) (t18 : 0 ≤ (nI k8).toInt) (t19 : (nI k8).toInt < boats) (e23 : y22 = (nI 1) <<< ((nI k8) &&& 31)) (e25 : y24 = x9 ||| y22) : 6 - (k8 + 1) < n12 := by
  have b_x9 := ia_b x9
  have b_y22 := ia_b y22
  have b_y24 := ia_b y24
  try have k_0 := ia_n k8 (by first | decide | omega)
  try have k_1 := ia_n 1 (by first | decide | omega)
  try simp only [ia_lt, ia_le, ia_eq, ia_m1, ia_0, ia_1, ne_eq, true_and, and_true, false_and, and_false, or_false, false_or, or_true, true_or, not_true_eq_false, not_false_eq_true] at *
  all_goals omega
set_option maxRecDepth 20000 in
theorem lf_s_eatenBits_3 (boats : Nat) (k8 : Nat) (n12 : Nat) (iv_a_5 : boats ≤ 6) (j10 : k8 ≤ 6) (hm14 : 6 - k8 < n12 + 1) (c15 : k8 < boats) (t20 : True) : (k8 + 1) ≤ 6 := by
  try simp only [ia_lt, ia_le, ia_eq, ia_m1, ia_0, ia_1, ne_eq, true_and, and_true, false_and, and_false, or_false, false_or, or_true, true_or, not_true_eq_false, not_false_eq_true] at *
  all_goals omega
set_option maxRecDepth 20000 in
theorem lf_s_eatenBits_4 (boats : Nat) (k8 : Nat) (n12 : Nat) (iv_a_5 : boats ≤ 6) (j10 : k8 ≤ 6) (hm14 : 6 - k8 < n12 + 1) (c15 : k8 < boats) (t20 : True) : 6 - (k8 + 1) < n12 := by
  try simp only [ia_lt, ia_le, ia_eq, ia_m1, ia_0, ia_1, ne_eq, true_and, and_true, false_and, and_false, or_false, false_or, or_true, true_or, not_true_eq_false, not_false_eq_true] at *
  all_goals omega
set_option maxRecDepth 20000 in
theorem lf_s_eatenBits_5   : 0 ≤ 6 := by
  try simp only [ia_lt, ia_le, ia_eq, ia_m1, ia_0, ia_1, ne_eq, true_and, and_true, false_and, and_false, or_false, false_or, or_true, true_or, not_true_eq_false, not_false_eq_true] at *
  all_goals omega
set_option maxHeartbeats 4000000 in
set_option maxRecDepth 100000 in
theorem c_s_eatenBits (l : Launch) (dC : Nat → ClassId) (dI : Nat → Nat → Nat) (ky : Nat → ClassId) (a : Nat) (wide : Nat) (high : Nat) (heat : Int32) (cools : Int32) (skinHeat : Int32) (today : Int32) (stirs : Int32) (steps : Int32) (lumps : Nat) (boats : Nat) (thickness : Nat) (lumpNames : Nat) (lumpCells : Nat) (boatNames : Nat) (boatCells : Nat) (loads : Nat) (spoons : Nat) (spoonsLeft : Nat) (depths : Nat) (depthsF : Nat → Int32) (iv_a_0 : 2 ≤ wide) (iv_a_1 : wide ≤ 6) (iv_a_2 : 2 ≤ high) (iv_a_3 : high ≤ 6) (iv_a_4 : lumps ≤ 6) (iv_a_5 : boats ≤ 6) : Met l yX7_eatenBits wsX7_eatenBits ({ frames := 2, cells := 0, slots := 0, locals := 42 }) (PcP dC dI ky [.ref a] [(a, .inr (7, [.int (nI wide), .int (nI high), .int heat, .int cools, .int skinHeat, .int today, .int stirs, .int steps, .int (nI lumps), .int (nI boats), .ref thickness, .ref lumpNames, .ref lumpCells, .ref boatNames, .ref boatCells, .ref loads, .ref spoons, .ref spoonsLeft, .ref depths])), (depths, .inl (ky 0, 6, .inl depthsF))]) (vp_Si (fun r : Int32 => True)) 0 0 (fun _ => False) := by
  refine Met.ofW (cc := cX7_eatenBits) (maxL := 3) (ret := (some .int)) (by decide) rfl ?_
  intro p e s m args below meth c s₁ B hml hv
  obtain ⟨rfl, hP, hK⟩ := hv
  have hx := B.exec
  have hb := B.bytes
  have hr := B.returns
  have hts := atoms_spec (ws := wsX7_eatenBits) B.pre
  have hown : s.vm.findClass RX7 = some m.cls := findClass_of_methodNamed B.named
  have hlocks := B.notSynchronized
  have hin7 : ∀ w ∈ u_ws RX7 TX7 19, w ∈ wsX7_eatenBits := by decide +kernel
  have hl := lv_entry ([.ref a]) (n := 3) (Nat.le_of_ble_eq_true rfl)
  rw [lg_entry_eq]
  generalize (lg_sl ([.ref a]) ++ List.replicate (3 - (lg_sl ([.ref a])).length) Slot.unset).toArray = ls at hl ⊢
  have hl : lv_has ls 3 [(0, .ref a)] := hl
  refine q_name (fun Q hQ => ?_)
  generalize ([.ref a] : List Value).toArray = args at hts hQ ⊢
  refine lv_iconst (v := nI 0) hx hb dX7_eatenBits_0 (by decide) ?_
  refine lv_istore_n (lv' := [(1, .int (nI 0)), (0, .ref a)]) hx hb dX7_eatenBits_1 rfl hl (by decide) rfl (fun ls hl => ?_)
  refine lv_iconst (v := nI 0) hx hb dX7_eatenBits_2 (by decide) ?_
  refine lv_istore_n (lv' := [(2, .int (nI 0)), (1, .int (nI 0)), (0, .ref a)]) hx hb dX7_eatenBits_3 rfl hl (by decide) rfl (fun ls hl => ?_)
  have hL11 : ∀ (n12 : Nat) (k8 : Nat) (x9 : Int32), (k8 ≤ 6) → 6 - k8 < n12 → ∀ (ls : Array Slot), lv_has ls 3 [(2, .int (nI k8)), (1, .int x9), (0, .ref a)] → W p l e (headSpec wsX7_eatenBits ({ frames := 2, cells := 0, slots := 0, locals := 42 })).room s m args below meth c s.heap [] 0 0 Q (F0 m 4 ls []) := by
    intro n12
    induction n12 with
    | zero => intro k8 x9 _ h9; exact absurd h9 (Nat.not_lt_zero _)
    | succ n12 ih13 =>
      intro k8 x9 j10 hm14 ls hl
      refine lv_iload_n hx hb dX7_eatenBits_4 rfl (lv_at hl 0 rfl) ?_
      refine lv_aload_n hx hb dX7_eatenBits_5 rfl (lv_at hl 2 rfl) ?_
      refine va_get (D := (dC, dI)) (ci := 7) (v := .int (nI boats)) (C := RX7) (T := TX7) (N := 19) hx hb hts hin7 hown hK hP 0 rfl rfl 9 (by decide) (hts (.fieldLink RX7 71 "PorridgeSea$Sea" "boats" "I") (List.mem_of_getElem? (i := 1) rfl)) (fun _ h9 => h9) rfl dX7_eatenBits_6 ?_
      refine n_icmp_ge (x := k8) (y := boats) (tgt := 36) hx hb (by omega) (by omega) dX7_eatenBits_9 (by decide) (fun c15 => ?_) (fun c15 => ?_)
      · refine lv_iload_n hx hb dX7_eatenBits_36 rfl (lv_at hl 1 rfl) ?_
        rw [hQ]
        exact W.iret (v := x9) hx hb hr (fun t9 ht9 hW9 => ⟨x9, rfl, trivial, ht9⟩) (fun _ h => absurd h List.not_mem_nil) dX7_eatenBits_37
      · refine lv_iload_n hx hb dX7_eatenBits_12 rfl (lv_at hl 1 rfl) ?_
        refine lv_aload_n hx hb dX7_eatenBits_13 rfl (lv_at hl 2 rfl) ?_
        refine lv_iload_n hx hb dX7_eatenBits_14 rfl (lv_at hl 0 rfl) ?_
        refine vp_callSi (W.runV (As := [.int (nI k8)]) (rest := [.int x9]) ⟨hx, hb, hml, hown, hts⟩ (c_s_isEaten l dC dI ky a wide high heat cools skinHeat today stirs steps lumps boats thickness lumpNames lumpCells boatNames boatCells loads spoons spoonsLeft depths depthsF (nI k8) iv_a_0 iv_a_1 iv_a_2 iv_a_3 iv_a_4 iv_a_5) (cwV 1 hts gX7_eatenBits_X7_isEaten rfl rfl rfl (by decide +kernel) ⟨(Nat.le_of_ble_eq_true rfl), (Nat.le_of_ble_eq_true rfl)⟩) (pre_PV hK hP [0, 1] rfl (ci := 7) (q0 := 0) rfl rfl) rfl rfl hl.1 rfl (lv_room (Nat.le_of_ble_eq_true rfl)) dX7_eatenBits_15 ⟨(Nat.le_of_ble_eq_true rfl), (Nat.le_of_ble_eq_true rfl)⟩) (fun r16 p17 => ?_)
        rcases p17 with ⟨rfl, t18, t19⟩ | ⟨rfl, t20⟩
        · refine lv_if_eq (tgt := 27) hx hb dX7_eatenBits_18 (by decide) (fun c21 => absurd c21 (by decide)) (fun c21 => ?_)
          refine lv_iconst (v := nI 1) hx hb dX7_eatenBits_21 (by decide) ?_
          refine lv_iload_n hx hb dX7_eatenBits_22 rfl (lv_at hl 0 rfl) ?_
          refine lv_ishl hx hb dX7_eatenBits_23 ?_
          refine lv_topi (fun y22 e23 => ?_)
          refine lv_goto (tgt := 28) hx hb dX7_eatenBits_24 (by decide) ?_
          refine lv_ior hx hb dX7_eatenBits_28 ?_
          refine lv_topi (fun y24 e25 => ?_)
          refine lv_istore_n (lv' := [(1, .int y24), (2, .int (nI k8)), (0, .ref a)]) hx hb dX7_eatenBits_29 rfl hl (by decide) rfl (fun ls hl => ?_)
          refine lv_iinc (v := nI (k8 + 1)) (lv' := [(2, .int (nI (k8 + 1))), (1, .int y24), (0, .ref a)]) hx hb dX7_eatenBits_30 hl (k := 1) rfl (show nI k8 + nI 1 = nI (k8 + 1) from nI_add _ _) (by decide) rfl (fun ls hl => ?_)
          refine lv_goto (tgt := 4) hx hb dX7_eatenBits_33 (by decide) ?_
          exact ih13 (k8 + 1) y24 (lf_s_eatenBits_1 boats k8 x9 n12 y22 y24 iv_a_5 j10 hm14 c15 t18 t19 e23 e25) (lf_s_eatenBits_2 boats k8 x9 n12 y22 y24 iv_a_5 j10 hm14 c15 t18 t19 e23 e25) _ (lv_sub hl [0, 1, 2] rfl)
        · refine lv_if_eq (tgt := 27) hx hb dX7_eatenBits_18 (by decide) (fun c26 => ?_) (fun c26 => absurd (by decide) c26)
          refine lv_iconst (v := nI 0) hx hb dX7_eatenBits_27 (by decide) ?_
          refine lv_ior hx hb dX7_eatenBits_28 ?_
          refine lv_topi (fun y27 e28 => ?_)
          refine lv_istore_n (lv' := [(1, .int y27), (2, .int (nI k8)), (0, .ref a)]) hx hb dX7_eatenBits_29 rfl hl (by decide) rfl (fun ls hl => ?_)
          refine lv_iinc (v := nI (k8 + 1)) (lv' := [(2, .int (nI (k8 + 1))), (1, .int y27), (0, .ref a)]) hx hb dX7_eatenBits_30 hl (k := 1) rfl (show nI k8 + nI 1 = nI (k8 + 1) from nI_add _ _) (by decide) rfl (fun ls hl => ?_)
          refine lv_goto (tgt := 4) hx hb dX7_eatenBits_33 (by decide) ?_
          exact ih13 (k8 + 1) y27 (lf_s_eatenBits_3 boats k8 n12 iv_a_5 j10 hm14 c15 t20) (lf_s_eatenBits_4 boats k8 n12 iv_a_5 j10 hm14 c15 t20) _ (lv_sub hl [0, 1, 2] rfl)
  exact hL11 ((6 - 0) + 1) 0 (nI 0) (lf_s_eatenBits_5) (Nat.lt_succ_self _) _ (lv_sub hl [0, 1, 2] rfl)
set_option maxRecDepth 20000 in
theorem lf_s_afloatBits_1 (boats : Nat) (k8 : Nat) (n12 : Nat) (iv_a_5 : boats ≤ 6) (j10 : k8 ≤ 6) (hm14 : 6 - k8 < n12 + 1) (c15 : k8 < boats) : (k8 + 1) ≤ 6 := by
  try simp only [ia_lt, ia_le, ia_eq, ia_m1, ia_0, ia_1, ne_eq, true_and, and_true, false_and, and_false, or_false, false_or, or_true, true_or, not_true_eq_false, not_false_eq_true] at *
  all_goals omega
set_option maxRecDepth 20000 in
theorem lf_s_afloatBits_2 (boats : Nat) (k8 : Nat) (n12 : Nat) (iv_a_5 : boats ≤ 6) (j10 : k8 ≤ 6) (hm14 : 6 - k8 < n12 + 1) (c15 : k8 < boats) : 6 - (k8 + 1) < n12 := by
  try simp only [ia_lt, ia_le, ia_eq, ia_m1, ia_0, ia_1, ne_eq, true_and, and_true, false_and, and_false, or_false, false_or, or_true, true_or, not_true_eq_false, not_false_eq_true] at *
  all_goals omega
set_option maxRecDepth 20000 in
theorem lf_s_afloatBits_3 (boats : Nat) (k8 : Nat) (x9 : Int32) (n12 : Nat) (y21 : Int32) (y23 : Int32) (iv_a_5 : boats ≤ 6) (j10 : k8 ≤ 6) (hm14 : 6 - k8 < n12 + 1) (c15 : k8 < boats) (e22 : y21 = (nI 1) <<< ((nI k8) &&& 31)) (e24 : y23 = x9 ||| y21) : (k8 + 1) ≤ 6 := by
  have b_x9 := ia_b x9
  have b_y21 := ia_b y21
  have b_y23 := ia_b y23
  try have k_0 := ia_n 1 (by first | decide | omega)
  try have k_1 := ia_n k8 (by first | decide | omega)
  try simp only [ia_lt, ia_le, ia_eq, ia_m1, ia_0, ia_1, ne_eq, true_and, and_true, false_and, and_false, or_false, false_or, or_true, true_or, not_true_eq_false, not_false_eq_true] at *
  all_goals omega
set_option maxRecDepth 20000 in
theorem lf_s_afloatBits_4 (boats : Nat) (k8 : Nat) (x9 : Int32) (n12 : Nat) (y21 : Int32) (y23 : Int32) (iv_a_5 : boats ≤ 6) (j10 : k8 ≤ 6) (hm14 : 6 - k8 < n12 + 1) (c15 : k8 < boats) (e22 : y21 = (nI 1) <<< ((nI k8) &&& 31)) (e24 : y23 = x9 ||| y21) : 6 - (k8 + 1) < n12 := by
  have b_x9 := ia_b x9
  have b_y21 := ia_b y21
  have b_y23 := ia_b y23
  try have k_0 := ia_n 1 (by first | decide | omega)
  try have k_1 := ia_n k8 (by first | decide | omega)
  try simp only [ia_lt, ia_le, ia_eq, ia_m1, ia_0, ia_1, ne_eq, true_and, and_true, false_and, and_false, or_false, false_or, or_true, true_or, not_true_eq_false, not_false_eq_true] at *
  all_goals omega
set_option maxRecDepth 20000 in
theorem lf_s_afloatBits_5   : 0 ≤ 6 := by
  try simp only [ia_lt, ia_le, ia_eq, ia_m1, ia_0, ia_1, ne_eq, true_and, and_true, false_and, and_false, or_false, false_or, or_true, true_or, not_true_eq_false, not_false_eq_true] at *
  all_goals omega
set_option maxHeartbeats 4000000 in
set_option maxRecDepth 100000 in
theorem c_s_afloatBits (l : Launch) (dC : Nat → ClassId) (dI : Nat → Nat → Nat) (ky : Nat → ClassId) (a : Nat) (wide : Nat) (high : Nat) (heat : Int32) (cools : Int32) (skinHeat : Int32) (today : Int32) (stirs : Int32) (steps : Int32) (lumps : Nat) (boats : Nat) (thickness : Nat) (lumpNames : Nat) (lumpCells : Nat) (boatNames : Nat) (boatCells : Nat) (loads : Nat) (spoons : Nat) (spoonsLeft : Nat) (depths : Nat) (thicknessF : Nat → Int32) (lumpCellsF : Nat → Int32) (boatCellsF : Nat → Int32) (loadsF : Nat → Int32) (depthsF : Nat → Int32) (iv_a_0 : 2 ≤ wide) (iv_a_1 : wide ≤ 6) (iv_a_2 : 2 ≤ high) (iv_a_3 : high ≤ 6) (iv_a_4 : lumps ≤ 6) (iv_a_5 : boats ≤ 6) : Met l yX7_afloatBits wsX7_afloatBits ({ frames := 3, cells := 0, slots := 0, locals := 65 }) (PcP dC dI ky [.ref a] [(a, .inr (7, [.int (nI wide), .int (nI high), .int heat, .int cools, .int skinHeat, .int today, .int stirs, .int steps, .int (nI lumps), .int (nI boats), .ref thickness, .ref lumpNames, .ref lumpCells, .ref boatNames, .ref boatCells, .ref loads, .ref spoons, .ref spoonsLeft, .ref depths])), (thickness, .inl (ky 0, 36, .inl thicknessF)), (lumpCells, .inl (ky 0, 6, .inl lumpCellsF)), (boatCells, .inl (ky 0, 6, .inl boatCellsF)), (loads, .inl (ky 0, 6, .inl loadsF)), (depths, .inl (ky 0, 6, .inl depthsF))]) (vp_Si (fun r : Int32 => True)) 0 0 (fun _ => False) := by
  refine Met.ofW (cc := cX7_afloatBits) (maxL := 3) (ret := (some .int)) (by decide) rfl ?_
  intro p e s m args below meth c s₁ B hml hv
  obtain ⟨rfl, hP, hK⟩ := hv
  have hx := B.exec
  have hb := B.bytes
  have hr := B.returns
  have hts := atoms_spec (ws := wsX7_afloatBits) B.pre
  have hown : s.vm.findClass RX7 = some m.cls := findClass_of_methodNamed B.named
  have hlocks := B.notSynchronized
  have hin7 : ∀ w ∈ u_ws RX7 TX7 19, w ∈ wsX7_afloatBits := by decide +kernel
  have hl := lv_entry ([.ref a]) (n := 3) (Nat.le_of_ble_eq_true rfl)
  rw [lg_entry_eq]
  generalize (lg_sl ([.ref a]) ++ List.replicate (3 - (lg_sl ([.ref a])).length) Slot.unset).toArray = ls at hl ⊢
  have hl : lv_has ls 3 [(0, .ref a)] := hl
  refine q_name (fun Q hQ => ?_)
  generalize ([.ref a] : List Value).toArray = args at hts hQ ⊢
  refine lv_iconst (v := nI 0) hx hb dX7_afloatBits_0 (by decide) ?_
  refine lv_istore_n (lv' := [(1, .int (nI 0)), (0, .ref a)]) hx hb dX7_afloatBits_1 rfl hl (by decide) rfl (fun ls hl => ?_)
  refine lv_iconst (v := nI 0) hx hb dX7_afloatBits_2 (by decide) ?_
  refine lv_istore_n (lv' := [(2, .int (nI 0)), (1, .int (nI 0)), (0, .ref a)]) hx hb dX7_afloatBits_3 rfl hl (by decide) rfl (fun ls hl => ?_)
  have hL11 : ∀ (n12 : Nat) (k8 : Nat) (x9 : Int32), (k8 ≤ 6) → 6 - k8 < n12 → ∀ (ls : Array Slot), lv_has ls 3 [(2, .int (nI k8)), (1, .int x9), (0, .ref a)] → W p l e (headSpec wsX7_afloatBits ({ frames := 3, cells := 0, slots := 0, locals := 65 })).room s m args below meth c s.heap [] 0 0 Q (F0 m 4 ls []) := by
    intro n12
    induction n12 with
    | zero => intro k8 x9 _ h9; exact absurd h9 (Nat.not_lt_zero _)
    | succ n12 ih13 =>
      intro k8 x9 j10 hm14 ls hl
      refine lv_iload_n hx hb dX7_afloatBits_4 rfl (lv_at hl 0 rfl) ?_
      refine lv_aload_n hx hb dX7_afloatBits_5 rfl (lv_at hl 2 rfl) ?_
      refine va_get (D := (dC, dI)) (ci := 7) (v := .int (nI boats)) (C := RX7) (T := TX7) (N := 19) hx hb hts hin7 hown hK hP 0 rfl rfl 9 (by decide) (hts (.fieldLink RX7 71 "PorridgeSea$Sea" "boats" "I") (List.mem_of_getElem? (i := 1) rfl)) (fun _ h9 => h9) rfl dX7_afloatBits_6 ?_
      refine n_icmp_ge (x := k8) (y := boats) (tgt := 36) hx hb (by omega) (by omega) dX7_afloatBits_9 (by decide) (fun c15 => ?_) (fun c15 => ?_)
      · refine lv_iload_n hx hb dX7_afloatBits_36 rfl (lv_at hl 1 rfl) ?_
        rw [hQ]
        exact W.iret (v := x9) hx hb hr (fun t9 ht9 hW9 => ⟨x9, rfl, trivial, ht9⟩) (fun _ h => absurd h List.not_mem_nil) dX7_afloatBits_37
      · refine lv_iload_n hx hb dX7_afloatBits_12 rfl (lv_at hl 1 rfl) ?_
        refine lv_aload_n hx hb dX7_afloatBits_13 rfl (lv_at hl 2 rfl) ?_
        refine lv_iload_n hx hb dX7_afloatBits_14 rfl (lv_at hl 0 rfl) ?_
        refine vp_callSi (W.runV (As := [.int (nI k8)]) (rest := [.int x9]) ⟨hx, hb, hml, hown, hts⟩ (c_s_isAfloat l dC dI ky a wide high heat cools skinHeat today stirs steps lumps boats thickness lumpNames lumpCells boatNames boatCells loads spoons spoonsLeft depths thicknessF lumpCellsF boatCellsF loadsF depthsF (nI k8) iv_a_0 iv_a_1 iv_a_2 iv_a_3 iv_a_4 iv_a_5) (cwV 1 hts gX7_afloatBits_X7_isAfloat rfl rfl rfl (by decide +kernel) ⟨(Nat.le_of_ble_eq_true rfl), (Nat.le_of_ble_eq_true rfl)⟩) (pre_PV hK hP [0, 1, 2, 3, 4, 5] rfl (ci := 7) (q0 := 0) rfl rfl) rfl rfl hl.1 rfl (lv_room (Nat.le_of_ble_eq_true rfl)) dX7_afloatBits_15 ⟨(Nat.le_of_ble_eq_true rfl), (Nat.le_of_ble_eq_true rfl)⟩) (fun r16 p17 => ?_)
        refine lv_if_eq (tgt := 27) hx hb dX7_afloatBits_18 (by decide) (fun c18 => ?_) (fun c18 => ?_)
        · refine lv_iconst (v := nI 0) hx hb dX7_afloatBits_27 (by decide) ?_
          refine lv_ior hx hb dX7_afloatBits_28 ?_
          refine lv_topi (fun y19 e20 => ?_)
          refine lv_istore_n (lv' := [(1, .int y19), (2, .int (nI k8)), (0, .ref a)]) hx hb dX7_afloatBits_29 rfl hl (by decide) rfl (fun ls hl => ?_)
          refine lv_iinc (v := nI (k8 + 1)) (lv' := [(2, .int (nI (k8 + 1))), (1, .int y19), (0, .ref a)]) hx hb dX7_afloatBits_30 hl (k := 1) rfl (show nI k8 + nI 1 = nI (k8 + 1) from nI_add _ _) (by decide) rfl (fun ls hl => ?_)
          refine lv_goto (tgt := 4) hx hb dX7_afloatBits_33 (by decide) ?_
          exact ih13 (k8 + 1) y19 (lf_s_afloatBits_1 boats k8 n12 iv_a_5 j10 hm14 c15) (lf_s_afloatBits_2 boats k8 n12 iv_a_5 j10 hm14 c15) _ (lv_sub hl [0, 1, 2] rfl)
        · refine lv_iconst (v := nI 1) hx hb dX7_afloatBits_21 (by decide) ?_
          refine lv_iload_n hx hb dX7_afloatBits_22 rfl (lv_at hl 0 rfl) ?_
          refine lv_ishl hx hb dX7_afloatBits_23 ?_
          refine lv_topi (fun y21 e22 => ?_)
          refine lv_goto (tgt := 28) hx hb dX7_afloatBits_24 (by decide) ?_
          refine lv_ior hx hb dX7_afloatBits_28 ?_
          refine lv_topi (fun y23 e24 => ?_)
          refine lv_istore_n (lv' := [(1, .int y23), (2, .int (nI k8)), (0, .ref a)]) hx hb dX7_afloatBits_29 rfl hl (by decide) rfl (fun ls hl => ?_)
          refine lv_iinc (v := nI (k8 + 1)) (lv' := [(2, .int (nI (k8 + 1))), (1, .int y23), (0, .ref a)]) hx hb dX7_afloatBits_30 hl (k := 1) rfl (show nI k8 + nI 1 = nI (k8 + 1) from nI_add _ _) (by decide) rfl (fun ls hl => ?_)
          refine lv_goto (tgt := 4) hx hb dX7_afloatBits_33 (by decide) ?_
          exact ih13 (k8 + 1) y23 (lf_s_afloatBits_3 boats k8 x9 n12 y21 y23 iv_a_5 j10 hm14 c15 e22 e24) (lf_s_afloatBits_4 boats k8 x9 n12 y21 y23 iv_a_5 j10 hm14 c15 e22 e24) _ (lv_sub hl [0, 1, 2] rfl)
  exact hL11 ((6 - 0) + 1) 0 (nI 0) (lf_s_afloatBits_5) (Nat.lt_succ_self _) _ (lv_sub hl [0, 1, 2] rfl)
set_option maxRecDepth 20000 in
theorem lf_s_allThickness_1 (thicknessF : Nat → Int32) (k7 : Nat) (x8 : Int32) (n11 : Nat) (y15 : Int32) (y17 : Int32) (j9 : k7 ≤ 36) (hm13 : 36 - k7 < n11 + 1) (c14 : k7 < 36) (e16 : y15 = thicknessF k7) (e18 : y17 = x8 + y15) : (k7 + 1) ≤ 36 := by
  have b_x8 := ia_b x8
  have b_y15 := ia_b y15
  have b_y17 := ia_b y17
  try simp only [ia_lt, ia_le, ia_eq, ia_m1, ia_0, ia_1, ne_eq, true_and, and_true, false_and, and_false, or_false, false_or, or_true, true_or, not_true_eq_false, not_false_eq_true] at *
  all_goals omega
set_option maxRecDepth 20000 in
theorem lf_s_allThickness_2 (thicknessF : Nat → Int32) (k7 : Nat) (x8 : Int32) (n11 : Nat) (y15 : Int32) (y17 : Int32) (j9 : k7 ≤ 36) (hm13 : 36 - k7 < n11 + 1) (c14 : k7 < 36) (e16 : y15 = thicknessF k7) (e18 : y17 = x8 + y15) : 36 - (k7 + 1) < n11 := by
  have b_x8 := ia_b x8
  have b_y15 := ia_b y15
  have b_y17 := ia_b y17
  try simp only [ia_lt, ia_le, ia_eq, ia_m1, ia_0, ia_1, ne_eq, true_and, and_true, false_and, and_false, or_false, false_or, or_true, true_or, not_true_eq_false, not_false_eq_true] at *
  all_goals omega
set_option maxRecDepth 20000 in
theorem lf_s_allThickness_3   : 0 ≤ 36 := by
  try simp only [ia_lt, ia_le, ia_eq, ia_m1, ia_0, ia_1, ne_eq, true_and, and_true, false_and, and_false, or_false, false_or, or_true, true_or, not_true_eq_false, not_false_eq_true] at *
  all_goals omega
set_option maxHeartbeats 4000000 in
set_option maxRecDepth 100000 in
theorem c_s_allThickness (l : Launch) (dC : Nat → ClassId) (dI : Nat → Nat → Nat) (ky : Nat → ClassId) (a : Nat) (wide : Nat) (high : Nat) (heat : Int32) (cools : Int32) (skinHeat : Int32) (today : Int32) (stirs : Int32) (steps : Int32) (lumps : Nat) (boats : Nat) (thickness : Nat) (lumpNames : Nat) (lumpCells : Nat) (boatNames : Nat) (boatCells : Nat) (loads : Nat) (spoons : Nat) (spoonsLeft : Nat) (depths : Nat) (thicknessF : Nat → Int32) (iv_a_0 : 2 ≤ wide) (iv_a_1 : wide ≤ 6) (iv_a_2 : 2 ≤ high) (iv_a_3 : high ≤ 6) (iv_a_4 : lumps ≤ 6) (iv_a_5 : boats ≤ 6) : Met l yX7_allThickness wsX7_allThickness ({ frames := 0, cells := 0, slots := 0, locals := 0 }) (PcP dC dI ky [.ref a] [(a, .inr (7, [.int (nI wide), .int (nI high), .int heat, .int cools, .int skinHeat, .int today, .int stirs, .int steps, .int (nI lumps), .int (nI boats), .ref thickness, .ref lumpNames, .ref lumpCells, .ref boatNames, .ref boatCells, .ref loads, .ref spoons, .ref spoonsLeft, .ref depths])), (thickness, .inl (ky 0, 36, .inl thicknessF))]) (vp_Si (fun r : Int32 => True)) 0 0 (fun _ => False) := by
  refine Met.ofW (cc := cX7_allThickness) (maxL := 3) (ret := (some .int)) (by decide) rfl ?_
  intro p e s m args below meth c s₁ B hml hv
  obtain ⟨rfl, hP, hK⟩ := hv
  have hx := B.exec
  have hb := B.bytes
  have hr := B.returns
  have hts := atoms_spec (ws := wsX7_allThickness) B.pre
  have hown : s.vm.findClass RX7 = some m.cls := findClass_of_methodNamed B.named
  have hlocks := B.notSynchronized
  have hin7 : ∀ w ∈ u_ws RX7 TX7 19, w ∈ wsX7_allThickness := by decide +kernel
  have hl := lv_entry ([.ref a]) (n := 3) (Nat.le_of_ble_eq_true rfl)
  rw [lg_entry_eq]
  generalize (lg_sl ([.ref a]) ++ List.replicate (3 - (lg_sl ([.ref a])).length) Slot.unset).toArray = ls at hl ⊢
  have hl : lv_has ls 3 [(0, .ref a)] := hl
  refine q_name (fun Q hQ => ?_)
  generalize ([.ref a] : List Value).toArray = args at hts hQ ⊢
  refine lv_iconst (v := nI 0) hx hb dX7_allThickness_0 (by decide) ?_
  refine lv_istore_n (lv' := [(1, .int (nI 0)), (0, .ref a)]) hx hb dX7_allThickness_1 rfl hl (by decide) rfl (fun ls hl => ?_)
  refine lv_iconst (v := nI 0) hx hb dX7_allThickness_2 (by decide) ?_
  refine lv_istore_n (lv' := [(2, .int (nI 0)), (1, .int (nI 0)), (0, .ref a)]) hx hb dX7_allThickness_3 rfl hl (by decide) rfl (fun ls hl => ?_)
  have hL10 : ∀ (n11 : Nat) (k7 : Nat) (x8 : Int32), (k7 ≤ 36) → 36 - k7 < n11 → ∀ (ls : Array Slot), lv_has ls 3 [(2, .int (nI k7)), (1, .int x8), (0, .ref a)] → W p l e (headSpec wsX7_allThickness ({ frames := 0, cells := 0, slots := 0, locals := 0 })).room s m args below meth c s.heap [] 0 0 Q (F0 m 4 ls []) := by
    intro n11
    induction n11 with
    | zero => intro k7 x8 _ h9; exact absurd h9 (Nat.not_lt_zero _)
    | succ n11 ih12 =>
      intro k7 x8 j9 hm13 ls hl
      refine lv_iload_n hx hb dX7_allThickness_4 rfl (lv_at hl 0 rfl) ?_
      refine lv_bipush (v := nI 36) hx hb dX7_allThickness_5 (by decide) ?_
      refine n_icmp_ge (x := k7) (y := 36) (tgt := 25) hx hb (by omega) (by omega) dX7_allThickness_7 (by decide) (fun c14 => ?_) (fun c14 => ?_)
      · refine lv_iload_n hx hb dX7_allThickness_25 rfl (lv_at hl 1 rfl) ?_
        rw [hQ]
        exact W.iret (v := x8) hx hb hr (fun t9 ht9 hW9 => ⟨x8, rfl, trivial, ht9⟩) (fun _ h => absurd h List.not_mem_nil) dX7_allThickness_26
      · refine lv_iload_n hx hb dX7_allThickness_10 rfl (lv_at hl 1 rfl) ?_
        refine lv_aload_n hx hb dX7_allThickness_11 rfl (lv_at hl 2 rfl) ?_
        refine va_get (D := (dC, dI)) (ci := 7) (v := .ref thickness) (C := RX7) (T := TX7) (N := 19) hx hb hts hin7 hown hK hP 0 rfl rfl 10 (by decide) (hts (.fieldLink RX7 9 "PorridgeSea$Sea" "thickness" "[I") (List.mem_of_getElem? (i := 1) rfl)) (fun _ h9 => h9) rfl dX7_allThickness_12 ?_
        refine lv_iload_n hx hb dX7_allThickness_15 rfl (lv_at hl 0 rfl) ?_
        obtain ⟨y15, e16⟩ : ∃ z9, z9 = thicknessF k7 := ⟨_, rfl⟩
        refine r_iald hx hb hK hP 1 rfl k7 (by omega) (by decide) y15 e16.symm dX7_allThickness_16 ?_
        refine lv_iadd hx hb dX7_allThickness_17 ?_
        refine lv_topi (fun y17 e18 => ?_)
        refine lv_istore_n (lv' := [(1, .int y17), (2, .int (nI k7)), (0, .ref a)]) hx hb dX7_allThickness_18 rfl hl (by decide) rfl (fun ls hl => ?_)
        refine lv_iinc (v := nI (k7 + 1)) (lv' := [(2, .int (nI (k7 + 1))), (1, .int y17), (0, .ref a)]) hx hb dX7_allThickness_19 hl (k := 1) rfl (show nI k7 + nI 1 = nI (k7 + 1) from nI_add _ _) (by decide) rfl (fun ls hl => ?_)
        refine lv_goto (tgt := 4) hx hb dX7_allThickness_22 (by decide) ?_
        exact ih12 (k7 + 1) y17 (lf_s_allThickness_1 thicknessF k7 x8 n11 y15 y17 j9 hm13 c14 e16 e18) (lf_s_allThickness_2 thicknessF k7 x8 n11 y15 y17 j9 hm13 c14 e16 e18) _ (lv_sub hl [0, 1, 2] rfl)
  exact hL10 ((36 - 0) + 1) 0 (nI 0) (lf_s_allThickness_3) (Nat.lt_succ_self _) _ (lv_sub hl [0, 1, 2] rfl)
set_option maxRecDepth 20000 in
theorem lf_s_loadOf_1 (boats : Nat) (x : Int32) (k7 : Nat) (n11 : Nat) (y15 : Int32) (y17 : Int32) (iv_a_5 : boats ≤ 6) (j9 : k7 ≤ 6) (hm13 : 6 - k7 < n11 + 1) (c14 : k7 < boats) (e16 : y15 = x >>> ((nI k7) &&& 31)) (e18 : y17 = y15 &&& (nI 1)) (c19 : y17 ≠ nI 1) : (k7 + 1) ≤ 6 := by
  have b_x := ia_b x
  have b_y15 := ia_b y15
  have b_y17 := ia_b y17
  try have k_0 := ia_n k7 (by first | decide | omega)
  try have k_1 := ia_n 1 (by first | decide | omega)
  try simp only [ia_lt, ia_le, ia_eq, ia_m1, ia_0, ia_1, ne_eq, true_and, and_true, false_and, and_false, or_false, false_or, or_true, true_or, not_true_eq_false, not_false_eq_true] at *
  all_goals omega
set_option maxRecDepth 20000 in
theorem lf_s_loadOf_2 (boats : Nat) (x : Int32) (k7 : Nat) (n11 : Nat) (y15 : Int32) (y17 : Int32) (iv_a_5 : boats ≤ 6) (j9 : k7 ≤ 6) (hm13 : 6 - k7 < n11 + 1) (c14 : k7 < boats) (e16 : y15 = x >>> ((nI k7) &&& 31)) (e18 : y17 = y15 &&& (nI 1)) (c19 : y17 ≠ nI 1) : 6 - (k7 + 1) < n11 := by
  have b_x := ia_b x
  have b_y15 := ia_b y15
  have b_y17 := ia_b y17
  try have k_0 := ia_n k7 (by first | decide | omega)
  try have k_1 := ia_n 1 (by first | decide | omega)
  try simp only [ia_lt, ia_le, ia_eq, ia_m1, ia_0, ia_1, ne_eq, true_and, and_true, false_and, and_false, or_false, false_or, or_true, true_or, not_true_eq_false, not_false_eq_true] at *
  all_goals omega
set_option maxRecDepth 20000 in
theorem lf_s_loadOf_3 (boats : Nat) (loadsF : Nat → Int32) (x : Int32) (k7 : Nat) (x8 : Int32) (n11 : Nat) (y15 : Int32) (y17 : Int32) (y22 : Int32) (y24 : Int32) (iv_a_5 : boats ≤ 6) (j9 : k7 ≤ 6) (hm13 : 6 - k7 < n11 + 1) (c14 : k7 < boats) (e16 : y15 = x >>> ((nI k7) &&& 31)) (e18 : y17 = y15 &&& (nI 1)) (c19 : y17 = nI 1) (e23 : y22 = loadsF k7) (e25 : y24 = x8 + y22) : (k7 + 1) ≤ 6 := by
  have b_x := ia_b x
  have b_x8 := ia_b x8
  have b_y15 := ia_b y15
  have b_y17 := ia_b y17
  have b_y22 := ia_b y22
  have b_y24 := ia_b y24
  try have k_0 := ia_n k7 (by first | decide | omega)
  try have k_1 := ia_n 1 (by first | decide | omega)
  try simp only [ia_lt, ia_le, ia_eq, ia_m1, ia_0, ia_1, ne_eq, true_and, and_true, false_and, and_false, or_false, false_or, or_true, true_or, not_true_eq_false, not_false_eq_true] at *
  all_goals omega
set_option maxRecDepth 20000 in
theorem lf_s_loadOf_4 (boats : Nat) (loadsF : Nat → Int32) (x : Int32) (k7 : Nat) (x8 : Int32) (n11 : Nat) (y15 : Int32) (y17 : Int32) (y22 : Int32) (y24 : Int32) (iv_a_5 : boats ≤ 6) (j9 : k7 ≤ 6) (hm13 : 6 - k7 < n11 + 1) (c14 : k7 < boats) (e16 : y15 = x >>> ((nI k7) &&& 31)) (e18 : y17 = y15 &&& (nI 1)) (c19 : y17 = nI 1) (e23 : y22 = loadsF k7) (e25 : y24 = x8 + y22) : 6 - (k7 + 1) < n11 := by
  have b_x := ia_b x
  have b_x8 := ia_b x8
  have b_y15 := ia_b y15
  have b_y17 := ia_b y17
  have b_y22 := ia_b y22
  have b_y24 := ia_b y24
  try have k_0 := ia_n k7 (by first | decide | omega)
  try have k_1 := ia_n 1 (by first | decide | omega)
  try simp only [ia_lt, ia_le, ia_eq, ia_m1, ia_0, ia_1, ne_eq, true_and, and_true, false_and, and_false, or_false, false_or, or_true, true_or, not_true_eq_false, not_false_eq_true] at *
  all_goals omega
set_option maxRecDepth 20000 in
theorem lf_s_loadOf_5   : 0 ≤ 6 := by
  try simp only [ia_lt, ia_le, ia_eq, ia_m1, ia_0, ia_1, ne_eq, true_and, and_true, false_and, and_false, or_false, false_or, or_true, true_or, not_true_eq_false, not_false_eq_true] at *
  all_goals omega
set_option maxHeartbeats 4000000 in
set_option maxRecDepth 100000 in
theorem c_s_loadOf (l : Launch) (dC : Nat → ClassId) (dI : Nat → Nat → Nat) (ky : Nat → ClassId) (a : Nat) (wide : Nat) (high : Nat) (heat : Int32) (cools : Int32) (skinHeat : Int32) (today : Int32) (stirs : Int32) (steps : Int32) (lumps : Nat) (boats : Nat) (thickness : Nat) (lumpNames : Nat) (lumpCells : Nat) (boatNames : Nat) (boatCells : Nat) (loads : Nat) (spoons : Nat) (spoonsLeft : Nat) (depths : Nat) (loadsF : Nat → Int32) (x : Int32) (iv_a_0 : 2 ≤ wide) (iv_a_1 : wide ≤ 6) (iv_a_2 : 2 ≤ high) (iv_a_3 : high ≤ 6) (iv_a_4 : lumps ≤ 6) (iv_a_5 : boats ≤ 6) : Met l yX7_loadOf wsX7_loadOf ({ frames := 0, cells := 0, slots := 0, locals := 0 }) (PcP dC dI ky [.ref a, .int x] [(a, .inr (7, [.int (nI wide), .int (nI high), .int heat, .int cools, .int skinHeat, .int today, .int stirs, .int steps, .int (nI lumps), .int (nI boats), .ref thickness, .ref lumpNames, .ref lumpCells, .ref boatNames, .ref boatCells, .ref loads, .ref spoons, .ref spoonsLeft, .ref depths])), (loads, .inl (ky 0, 6, .inl loadsF))]) (vp_Si (fun r : Int32 => True)) 0 0 (fun _ => False) := by
  refine Met.ofW (cc := cX7_loadOf) (maxL := 4) (ret := (some .int)) (by decide) rfl ?_
  intro p e s m args below meth c s₁ B hml hv
  obtain ⟨rfl, hP, hK⟩ := hv
  have hx := B.exec
  have hb := B.bytes
  have hr := B.returns
  have hts := atoms_spec (ws := wsX7_loadOf) B.pre
  have hown : s.vm.findClass RX7 = some m.cls := findClass_of_methodNamed B.named
  have hlocks := B.notSynchronized
  have hin7 : ∀ w ∈ u_ws RX7 TX7 19, w ∈ wsX7_loadOf := by decide +kernel
  have hl := lv_entry ([.ref a, .int x]) (n := 4) (Nat.le_of_ble_eq_true rfl)
  rw [lg_entry_eq]
  generalize (lg_sl ([.ref a, .int x]) ++ List.replicate (4 - (lg_sl ([.ref a, .int x])).length) Slot.unset).toArray = ls at hl ⊢
  have hl : lv_has ls 4 [(0, .ref a), (1, .int x)] := hl
  refine q_name (fun Q hQ => ?_)
  generalize ([.ref a, .int x] : List Value).toArray = args at hts hQ ⊢
  refine lv_iconst (v := nI 0) hx hb dX7_loadOf_0 (by decide) ?_
  refine lv_istore_n (lv' := [(2, .int (nI 0)), (0, .ref a), (1, .int x)]) hx hb dX7_loadOf_1 rfl hl (by decide) rfl (fun ls hl => ?_)
  refine lv_iconst (v := nI 0) hx hb dX7_loadOf_2 (by decide) ?_
  refine lv_istore_n (lv' := [(3, .int (nI 0)), (2, .int (nI 0)), (0, .ref a), (1, .int x)]) hx hb dX7_loadOf_3 rfl hl (by decide) rfl (fun ls hl => ?_)
  have hL10 : ∀ (n11 : Nat) (k7 : Nat) (x8 : Int32), (k7 ≤ 6) → 6 - k7 < n11 → ∀ (ls : Array Slot), lv_has ls 4 [(3, .int (nI k7)), (2, .int x8), (0, .ref a), (1, .int x)] → W p l e (headSpec wsX7_loadOf ({ frames := 0, cells := 0, slots := 0, locals := 0 })).room s m args below meth c s.heap [] 0 0 Q (F0 m 4 ls []) := by
    intro n11
    induction n11 with
    | zero => intro k7 x8 _ h9; exact absurd h9 (Nat.not_lt_zero _)
    | succ n11 ih12 =>
      intro k7 x8 j9 hm13 ls hl
      refine lv_iload_n hx hb dX7_loadOf_4 rfl (lv_at hl 0 rfl) ?_
      refine lv_aload_n hx hb dX7_loadOf_5 rfl (lv_at hl 2 rfl) ?_
      refine va_get (D := (dC, dI)) (ci := 7) (v := .int (nI boats)) (C := RX7) (T := TX7) (N := 19) hx hb hts hin7 hown hK hP 0 rfl rfl 9 (by decide) (hts (.fieldLink RX7 71 "PorridgeSea$Sea" "boats" "I") (List.mem_of_getElem? (i := 1) rfl)) (fun _ h9 => h9) rfl dX7_loadOf_6 ?_
      refine n_icmp_ge (x := k7) (y := boats) (tgt := 40) hx hb (by omega) (by omega) dX7_loadOf_9 (by decide) (fun c14 => ?_) (fun c14 => ?_)
      · refine lv_iload_n hx hb dX7_loadOf_40 rfl (lv_at hl 1 rfl) ?_
        rw [hQ]
        exact W.iret (v := x8) hx hb hr (fun t9 ht9 hW9 => ⟨x8, rfl, trivial, ht9⟩) (fun _ h => absurd h List.not_mem_nil) dX7_loadOf_41
      · refine lv_iload_n hx hb dX7_loadOf_12 rfl (lv_at hl 1 rfl) ?_
        refine lv_iload_n hx hb dX7_loadOf_13 rfl (lv_at hl 3 rfl) ?_
        refine lv_iload_n hx hb dX7_loadOf_14 rfl (lv_at hl 0 rfl) ?_
        refine lv_ishr hx hb dX7_loadOf_15 ?_
        refine lv_topi (fun y15 e16 => ?_)
        refine lv_iconst (v := nI 1) hx hb dX7_loadOf_16 (by decide) ?_
        refine lv_iand hx hb dX7_loadOf_17 ?_
        refine lv_topi (fun y17 e18 => ?_)
        refine lv_iconst (v := nI 1) hx hb dX7_loadOf_18 (by decide) ?_
        refine lv_icmp_ne (tgt := 31) hx hb dX7_loadOf_19 (by decide) (fun c19 => ?_) (fun c19 => ?_)
        · refine lv_iconst (v := nI 0) hx hb dX7_loadOf_31 (by decide) ?_
          refine lv_iadd hx hb dX7_loadOf_32 ?_
          refine lv_topi (fun y20 e21 => ?_)
          refine lv_istore_n (lv' := [(2, .int y20), (3, .int (nI k7)), (0, .ref a), (1, .int x)]) hx hb dX7_loadOf_33 rfl hl (by decide) rfl (fun ls hl => ?_)
          refine lv_iinc (v := nI (k7 + 1)) (lv' := [(3, .int (nI (k7 + 1))), (2, .int y20), (0, .ref a), (1, .int x)]) hx hb dX7_loadOf_34 hl (k := 1) rfl (show nI k7 + nI 1 = nI (k7 + 1) from nI_add _ _) (by decide) rfl (fun ls hl => ?_)
          refine lv_goto (tgt := 4) hx hb dX7_loadOf_37 (by decide) ?_
          exact ih12 (k7 + 1) y20 (lf_s_loadOf_1 boats x k7 n11 y15 y17 iv_a_5 j9 hm13 c14 e16 e18 c19) (lf_s_loadOf_2 boats x k7 n11 y15 y17 iv_a_5 j9 hm13 c14 e16 e18 c19) _ (lv_sub hl [0, 1, 2, 3] rfl)
        · refine lv_aload_n hx hb dX7_loadOf_22 rfl (lv_at hl 2 rfl) ?_
          refine va_get (D := (dC, dI)) (ci := 7) (v := .ref loads) (C := RX7) (T := TX7) (N := 19) hx hb hts hin7 hown hK hP 0 rfl rfl 15 (by decide) (hts (.fieldLink RX7 28 "PorridgeSea$Sea" "loads" "[I") (List.mem_of_getElem? (i := 2) rfl)) (fun _ h9 => h9) rfl dX7_loadOf_23 ?_
          refine lv_iload_n hx hb dX7_loadOf_26 rfl (lv_at hl 0 rfl) ?_
          obtain ⟨y22, e23⟩ : ∃ z9, z9 = loadsF k7 := ⟨_, rfl⟩
          refine r_iald hx hb hK hP 1 rfl k7 (by omega) (by decide) y22 e23.symm dX7_loadOf_27 ?_
          refine lv_goto (tgt := 32) hx hb dX7_loadOf_28 (by decide) ?_
          refine lv_iadd hx hb dX7_loadOf_32 ?_
          refine lv_topi (fun y24 e25 => ?_)
          refine lv_istore_n (lv' := [(2, .int y24), (3, .int (nI k7)), (0, .ref a), (1, .int x)]) hx hb dX7_loadOf_33 rfl hl (by decide) rfl (fun ls hl => ?_)
          refine lv_iinc (v := nI (k7 + 1)) (lv' := [(3, .int (nI (k7 + 1))), (2, .int y24), (0, .ref a), (1, .int x)]) hx hb dX7_loadOf_34 hl (k := 1) rfl (show nI k7 + nI 1 = nI (k7 + 1) from nI_add _ _) (by decide) rfl (fun ls hl => ?_)
          refine lv_goto (tgt := 4) hx hb dX7_loadOf_37 (by decide) ?_
          exact ih12 (k7 + 1) y24 (lf_s_loadOf_3 boats loadsF x k7 x8 n11 y15 y17 y22 y24 iv_a_5 j9 hm13 c14 e16 e18 c19 e23 e25) (lf_s_loadOf_4 boats loadsF x k7 x8 n11 y15 y17 y22 y24 iv_a_5 j9 hm13 c14 e16 e18 c19 e23 e25) _ (lv_sub hl [0, 1, 2, 3] rfl)
  exact hL10 ((6 - 0) + 1) 0 (nI 0) (lf_s_loadOf_5) (Nat.lt_succ_self _) _ (lv_sub hl [0, 1, 2, 3] rfl)
set_option maxRecDepth 20000 in
theorem lf_s_shoreBits_1 (lumps : Nat) (k7 : Nat) (n11 : Nat) (k21 : Nat) (n25 : Nat) (iv_a_4 : lumps ≤ 6) (j9 : k7 ≤ 6) (hm13 : 6 - k7 < n11 + 1) (c14 : k7 < lumps) (j23 : k21 ≤ 6) (hm27 : 6 - k21 < n25 + 1) (c28 : lumps ≤ k21) : (k7 + 1) ≤ 6 := by
  try simp only [ia_lt, ia_le, ia_eq, ia_m1, ia_0, ia_1, ne_eq, true_and, and_true, false_and, and_false, or_false, false_or, or_true, true_or, not_true_eq_false, not_false_eq_true] at *
  all_goals omega
set_option maxRecDepth 20000 in
theorem lf_s_shoreBits_2 (lumps : Nat) (k7 : Nat) (n11 : Nat) (k21 : Nat) (n25 : Nat) (iv_a_4 : lumps ≤ 6) (j9 : k7 ≤ 6) (hm13 : 6 - k7 < n11 + 1) (c14 : k7 < lumps) (j23 : k21 ≤ 6) (hm27 : 6 - k21 < n25 + 1) (c28 : lumps ≤ k21) : 6 - (k7 + 1) < n11 := by
  try simp only [ia_lt, ia_le, ia_eq, ia_m1, ia_0, ia_1, ne_eq, true_and, and_true, false_and, and_false, or_false, false_or, or_true, true_or, not_true_eq_false, not_false_eq_true] at *
  all_goals omega
set_option maxRecDepth 20000 in
theorem lf_s_shoreBits_3 (lumps : Nat) (x : Int32) (k7 : Nat) (n11 : Nat) (k21 : Nat) (n25 : Nat) (y29 : Int32) (y31 : Int32) (iv_a_4 : lumps ≤ 6) (j9 : k7 ≤ 6) (hm13 : 6 - k7 < n11 + 1) (c14 : k7 < lumps) (j23 : k21 ≤ 6) (hm27 : 6 - k21 < n25 + 1) (c28 : k21 < lumps) (e30 : y29 = x >>> ((nI k7) &&& 31)) (e32 : y31 = y29 &&& (nI 1)) (c33 : y31 ≠ nI 1) : (k7 + 1) ≤ 6 := by
  have b_x := ia_b x
  have b_y29 := ia_b y29
  have b_y31 := ia_b y31
  try have k_0 := ia_n k7 (by first | decide | omega)
  try have k_1 := ia_n 1 (by first | decide | omega)
  try simp only [ia_lt, ia_le, ia_eq, ia_m1, ia_0, ia_1, ne_eq, true_and, and_true, false_and, and_false, or_false, false_or, or_true, true_or, not_true_eq_false, not_false_eq_true] at *
  all_goals omega
set_option maxRecDepth 20000 in
theorem lf_s_shoreBits_4 (lumps : Nat) (x : Int32) (k7 : Nat) (n11 : Nat) (k21 : Nat) (n25 : Nat) (y29 : Int32) (y31 : Int32) (iv_a_4 : lumps ≤ 6) (j9 : k7 ≤ 6) (hm13 : 6 - k7 < n11 + 1) (c14 : k7 < lumps) (j23 : k21 ≤ 6) (hm27 : 6 - k21 < n25 + 1) (c28 : k21 < lumps) (e30 : y29 = x >>> ((nI k7) &&& 31)) (e32 : y31 = y29 &&& (nI 1)) (c33 : y31 ≠ nI 1) : 6 - (k7 + 1) < n11 := by
  have b_x := ia_b x
  have b_y29 := ia_b y29
  have b_y31 := ia_b y31
  try have k_0 := ia_n k7 (by first | decide | omega)
  try have k_1 := ia_n 1 (by first | decide | omega)
  try simp only [ia_lt, ia_le, ia_eq, ia_m1, ia_0, ia_1, ne_eq, true_and, and_true, false_and, and_false, or_false, false_or, or_true, true_or, not_true_eq_false, not_false_eq_true] at *
  all_goals omega
set_option maxRecDepth 20000 in
theorem lf_s_shoreBits_5 (lumps : Nat) (lumpCellsF : Nat → Int32) (x : Int32) (k7 : Nat) (n11 : Nat) (k21 : Nat) (n25 : Nat) (y29 : Int32) (y31 : Int32) (y34 : Int32) (y36 : Int32) (iv_a_4 : lumps ≤ 6) (j9 : k7 ≤ 6) (hm13 : 6 - k7 < n11 + 1) (c14 : k7 < lumps) (j23 : k21 ≤ 6) (hm27 : 6 - k21 < n25 + 1) (c28 : k21 < lumps) (e30 : y29 = x >>> ((nI k7) &&& 31)) (e32 : y31 = y29 &&& (nI 1)) (c33 : y31 = nI 1) (e35 : y34 = lumpCellsF k7) (e37 : y36 = lumpCellsF k21) : (k21 + 1) ≤ 6 := by
  have b_x := ia_b x
  have b_y29 := ia_b y29
  have b_y31 := ia_b y31
  have b_y34 := ia_b y34
  have b_y36 := ia_b y36
  try have k_0 := ia_n k7 (by first | decide | omega)
  try have k_1 := ia_n 1 (by first | decide | omega)
  try simp only [ia_lt, ia_le, ia_eq, ia_m1, ia_0, ia_1, ne_eq, true_and, and_true, false_and, and_false, or_false, false_or, or_true, true_or, not_true_eq_false, not_false_eq_true] at *
  all_goals omega
set_option maxRecDepth 20000 in
theorem lf_s_shoreBits_6 (lumps : Nat) (lumpCellsF : Nat → Int32) (x : Int32) (k7 : Nat) (n11 : Nat) (k21 : Nat) (n25 : Nat) (y29 : Int32) (y31 : Int32) (y34 : Int32) (y36 : Int32) (iv_a_4 : lumps ≤ 6) (j9 : k7 ≤ 6) (hm13 : 6 - k7 < n11 + 1) (c14 : k7 < lumps) (j23 : k21 ≤ 6) (hm27 : 6 - k21 < n25 + 1) (c28 : k21 < lumps) (e30 : y29 = x >>> ((nI k7) &&& 31)) (e32 : y31 = y29 &&& (nI 1)) (c33 : y31 = nI 1) (e35 : y34 = lumpCellsF k7) (e37 : y36 = lumpCellsF k21) : 6 - (k21 + 1) < n25 := by
  have b_x := ia_b x
  have b_y29 := ia_b y29
  have b_y31 := ia_b y31
  have b_y34 := ia_b y34
  have b_y36 := ia_b y36
  try have k_0 := ia_n k7 (by first | decide | omega)
  try have k_1 := ia_n 1 (by first | decide | omega)
  try simp only [ia_lt, ia_le, ia_eq, ia_m1, ia_0, ia_1, ne_eq, true_and, and_true, false_and, and_false, or_false, false_or, or_true, true_or, not_true_eq_false, not_false_eq_true] at *
  all_goals omega
set_option maxRecDepth 20000 in
theorem lf_s_shoreBits_7 (lumps : Nat) (lumpCellsF : Nat → Int32) (x : Int32) (k7 : Nat) (n11 : Nat) (k21 : Nat) (x22 : Int32) (n25 : Nat) (y29 : Int32) (y31 : Int32) (y34 : Int32) (y36 : Int32) (y43 : Int32) (y45 : Int32) (iv_a_4 : lumps ≤ 6) (j9 : k7 ≤ 6) (hm13 : 6 - k7 < n11 + 1) (c14 : k7 < lumps) (j23 : k21 ≤ 6) (hm27 : 6 - k21 < n25 + 1) (c28 : k21 < lumps) (e30 : y29 = x >>> ((nI k7) &&& 31)) (e32 : y31 = y29 &&& (nI 1)) (c33 : y31 = nI 1) (e35 : y34 = lumpCellsF k7) (e37 : y36 = lumpCellsF k21) (e44 : y43 = (nI 1) <<< ((nI k21) &&& 31)) (e46 : y45 = x22 ||| y43) : (k21 + 1) ≤ 6 := by
  have b_x := ia_b x
  have b_x22 := ia_b x22
  have b_y29 := ia_b y29
  have b_y31 := ia_b y31
  have b_y34 := ia_b y34
  have b_y36 := ia_b y36
  have b_y43 := ia_b y43
  have b_y45 := ia_b y45
  try have k_0 := ia_n k7 (by first | decide | omega)
  try have k_1 := ia_n 1 (by first | decide | omega)
  try have k_2 := ia_n k21 (by first | decide | omega)
  try simp only [ia_lt, ia_le, ia_eq, ia_m1, ia_0, ia_1, ne_eq, true_and, and_true, false_and, and_false, or_false, false_or, or_true, true_or, not_true_eq_false, not_false_eq_true] at *
  all_goals omega
set_option maxRecDepth 20000 in
theorem lf_s_shoreBits_8 (lumps : Nat) (lumpCellsF : Nat → Int32) (x : Int32) (k7 : Nat) (n11 : Nat) (k21 : Nat) (x22 : Int32) (n25 : Nat) (y29 : Int32) (y31 : Int32) (y34 : Int32) (y36 : Int32) (y43 : Int32) (y45 : Int32) (iv_a_4 : lumps ≤ 6) (j9 : k7 ≤ 6) (hm13 : 6 - k7 < n11 + 1) (c14 : k7 < lumps) (j23 : k21 ≤ 6) (hm27 : 6 - k21 < n25 + 1) (c28 : k21 < lumps) (e30 : y29 = x >>> ((nI k7) &&& 31)) (e32 : y31 = y29 &&& (nI 1)) (c33 : y31 = nI 1) (e35 : y34 = lumpCellsF k7) (e37 : y36 = lumpCellsF k21) (e44 : y43 = (nI 1) <<< ((nI k21) &&& 31)) (e46 : y45 = x22 ||| y43) : 6 - (k21 + 1) < n25 := by
  have b_x := ia_b x
  have b_x22 := ia_b x22
  have b_y29 := ia_b y29
  have b_y31 := ia_b y31
  have b_y34 := ia_b y34
  have b_y36 := ia_b y36
  have b_y43 := ia_b y43
  have b_y45 := ia_b y45
  try have k_0 := ia_n k7 (by first | decide | omega)
  try have k_1 := ia_n 1 (by first | decide | omega)
  try have k_2 := ia_n k21 (by first | decide | omega)
  try simp only [ia_lt, ia_le, ia_eq, ia_m1, ia_0, ia_1, ne_eq, true_and, and_true, false_and, and_false, or_false, false_or, or_true, true_or, not_true_eq_false, not_false_eq_true] at *
  all_goals omega
set_option maxRecDepth 20000 in
theorem lf_s_shoreBits_9   : 0 ≤ 6 := by
  try simp only [ia_lt, ia_le, ia_eq, ia_m1, ia_0, ia_1, ne_eq, true_and, and_true, false_and, and_false, or_false, false_or, or_true, true_or, not_true_eq_false, not_false_eq_true] at *
  all_goals omega
set_option maxRecDepth 20000 in
theorem lf_s_shoreBits_10   : 0 ≤ 6 := by
  try simp only [ia_lt, ia_le, ia_eq, ia_m1, ia_0, ia_1, ne_eq, true_and, and_true, false_and, and_false, or_false, false_or, or_true, true_or, not_true_eq_false, not_false_eq_true] at *
  all_goals omega
set_option maxHeartbeats 4000000 in
set_option maxRecDepth 100000 in
theorem c_s_shoreBits (l : Launch) (dC : Nat → ClassId) (dI : Nat → Nat → Nat) (ky : Nat → ClassId) (a : Nat) (wide : Nat) (high : Nat) (heat : Int32) (cools : Int32) (skinHeat : Int32) (today : Int32) (stirs : Int32) (steps : Int32) (lumps : Nat) (boats : Nat) (thickness : Nat) (lumpNames : Nat) (lumpCells : Nat) (boatNames : Nat) (boatCells : Nat) (loads : Nat) (spoons : Nat) (spoonsLeft : Nat) (depths : Nat) (lumpCellsF : Nat → Int32) (x : Int32) (iv_a_0 : 2 ≤ wide) (iv_a_1 : wide ≤ 6) (iv_a_2 : 2 ≤ high) (iv_a_3 : high ≤ 6) (iv_a_4 : lumps ≤ 6) (iv_a_5 : boats ≤ 6) : Met l yX7_shoreBits wsX7_shoreBits ({ frames := 2, cells := 0, slots := 0, locals := 36 }) (PcP dC dI ky [.ref a, .int x] [(a, .inr (7, [.int (nI wide), .int (nI high), .int heat, .int cools, .int skinHeat, .int today, .int stirs, .int steps, .int (nI lumps), .int (nI boats), .ref thickness, .ref lumpNames, .ref lumpCells, .ref boatNames, .ref boatCells, .ref loads, .ref spoons, .ref spoonsLeft, .ref depths])), (lumpCells, .inl (ky 0, 6, .inl lumpCellsF))]) (vp_Si (fun r : Int32 => True)) 0 0 (fun _ => False) := by
  refine Met.ofW (cc := cX7_shoreBits) (maxL := 5) (ret := (some .int)) (by decide) rfl ?_
  intro p e s m args below meth c s₁ B hml hv
  obtain ⟨rfl, hP, hK⟩ := hv
  have hx := B.exec
  have hb := B.bytes
  have hr := B.returns
  have hts := atoms_spec (ws := wsX7_shoreBits) B.pre
  have hown : s.vm.findClass RX7 = some m.cls := findClass_of_methodNamed B.named
  have hlocks := B.notSynchronized
  have hin7 : ∀ w ∈ u_ws RX7 TX7 19, w ∈ wsX7_shoreBits := by decide +kernel
  have hl := lv_entry ([.ref a, .int x]) (n := 5) (Nat.le_of_ble_eq_true rfl)
  rw [lg_entry_eq]
  generalize (lg_sl ([.ref a, .int x]) ++ List.replicate (5 - (lg_sl ([.ref a, .int x])).length) Slot.unset).toArray = ls at hl ⊢
  have hl : lv_has ls 5 [(0, .ref a), (1, .int x)] := hl
  refine q_name (fun Q hQ => ?_)
  generalize ([.ref a, .int x] : List Value).toArray = args at hts hQ ⊢
  refine lv_iconst (v := nI 0) hx hb dX7_shoreBits_0 (by decide) ?_
  refine lv_istore_n (lv' := [(2, .int (nI 0)), (0, .ref a), (1, .int x)]) hx hb dX7_shoreBits_1 rfl hl (by decide) rfl (fun ls hl => ?_)
  refine lv_iconst (v := nI 0) hx hb dX7_shoreBits_2 (by decide) ?_
  refine lv_istore_n (lv' := [(3, .int (nI 0)), (2, .int (nI 0)), (0, .ref a), (1, .int x)]) hx hb dX7_shoreBits_3 rfl hl (by decide) rfl (fun ls hl => ?_)
  have hL10 : ∀ (n11 : Nat) (k7 : Nat) (x8 : Int32), (k7 ≤ 6) → 6 - k7 < n11 → ∀ (ls : Array Slot), lv_has ls 5 [(3, .int (nI k7)), (2, .int x8), (0, .ref a), (1, .int x)] → W p l e (headSpec wsX7_shoreBits ({ frames := 2, cells := 0, slots := 0, locals := 36 })).room s m args below meth c s.heap [] 0 0 Q (F0 m 4 ls []) := by
    intro n11
    induction n11 with
    | zero => intro k7 x8 _ h9; exact absurd h9 (Nat.not_lt_zero _)
    | succ n11 ih12 =>
      intro k7 x8 j9 hm13 ls hl
      refine lv_iload_n hx hb dX7_shoreBits_4 rfl (lv_at hl 0 rfl) ?_
      refine lv_aload_n hx hb dX7_shoreBits_5 rfl (lv_at hl 2 rfl) ?_
      refine va_get (D := (dC, dI)) (ci := 7) (v := .int (nI lumps)) (C := RX7) (T := TX7) (N := 19) hx hb hts hin7 hown hK hP 0 rfl rfl 8 (by decide) (hts (.fieldLink RX7 68 "PorridgeSea$Sea" "lumps" "I") (List.mem_of_getElem? (i := 1) rfl)) (fun _ h9 => h9) rfl dX7_shoreBits_6 ?_
      refine n_icmp_ge (x := k7) (y := lumps) (tgt := 75) hx hb (by omega) (by omega) dX7_shoreBits_9 (by decide) (fun c14 => ?_) (fun c14 => ?_)
      · refine lv_iload_n hx hb dX7_shoreBits_75 rfl (lv_at hl 1 rfl) ?_
        rw [hQ]
        exact W.iret (v := x8) hx hb hr (fun t9 ht9 hW9 => ⟨x8, rfl, trivial, ht9⟩) (fun _ h => absurd h List.not_mem_nil) dX7_shoreBits_76
      · refine lv_iconst (v := nI 0) hx hb dX7_shoreBits_12 (by decide) ?_
        refine lv_istore (lv' := [(4, .int (nI 0)), (3, .int (nI k7)), (2, .int x8), (0, .ref a), (1, .int x)]) hx hb dX7_shoreBits_13 hl (by decide) rfl (fun ls hl => ?_)
        have hL24 : ∀ (n25 : Nat) (k21 : Nat) (x22 : Int32), (k21 ≤ 6) → 6 - k21 < n25 → ∀ (ls : Array Slot), lv_has ls 5 [(4, .int (nI k21)), (3, .int (nI k7)), (2, .int x22), (0, .ref a), (1, .int x)] → W p l e (headSpec wsX7_shoreBits ({ frames := 2, cells := 0, slots := 0, locals := 36 })).room s m args below meth c s.heap [] 0 0 Q (F0 m 15 ls []) := by
          intro n25
          induction n25 with
          | zero => intro k21 x22 _ h9; exact absurd h9 (Nat.not_lt_zero _)
          | succ n25 ih26 =>
            intro k21 x22 j23 hm27 ls hl
            refine lv_iload hx hb dX7_shoreBits_15 (lv_at hl 0 rfl) ?_
            refine lv_aload_n hx hb dX7_shoreBits_17 rfl (lv_at hl 3 rfl) ?_
            refine va_get (D := (dC, dI)) (ci := 7) (v := .int (nI lumps)) (C := RX7) (T := TX7) (N := 19) hx hb hts hin7 hown hK hP 0 rfl rfl 8 (by decide) (hts (.fieldLink RX7 68 "PorridgeSea$Sea" "lumps" "I") (List.mem_of_getElem? (i := 1) rfl)) (fun _ h9 => h9) rfl dX7_shoreBits_18 ?_
            refine n_icmp_ge (x := k21) (y := lumps) (tgt := 69) hx hb (by omega) (by omega) dX7_shoreBits_21 (by decide) (fun c28 => ?_) (fun c28 => ?_)
            · refine lv_iinc (v := nI (k7 + 1)) (lv' := [(3, .int (nI (k7 + 1))), (4, .int (nI k21)), (2, .int x22), (0, .ref a), (1, .int x)]) hx hb dX7_shoreBits_69 hl (k := 1) rfl (show nI k7 + nI 1 = nI (k7 + 1) from nI_add _ _) (by decide) rfl (fun ls hl => ?_)
              refine lv_goto (tgt := 4) hx hb dX7_shoreBits_72 (by decide) ?_
              exact ih12 (k7 + 1) x22 (lf_s_shoreBits_1 lumps k7 n11 k21 n25 iv_a_4 j9 hm13 c14 j23 hm27 c28) (lf_s_shoreBits_2 lumps k7 n11 k21 n25 iv_a_4 j9 hm13 c14 j23 hm27 c28) _ (lv_sub hl [0, 2, 3, 4] rfl)
            · refine lv_iload_n hx hb dX7_shoreBits_24 rfl (lv_at hl 4 rfl) ?_
              refine lv_iload_n hx hb dX7_shoreBits_25 rfl (lv_at hl 1 rfl) ?_
              refine lv_ishr hx hb dX7_shoreBits_26 ?_
              refine lv_topi (fun y29 e30 => ?_)
              refine lv_iconst (v := nI 1) hx hb dX7_shoreBits_27 (by decide) ?_
              refine lv_iand hx hb dX7_shoreBits_28 ?_
              refine lv_topi (fun y31 e32 => ?_)
              refine lv_iconst (v := nI 1) hx hb dX7_shoreBits_29 (by decide) ?_
              refine lv_icmp_ne (tgt := 69) hx hb dX7_shoreBits_30 (by decide) (fun c33 => ?_) (fun c33 => ?_)
              · refine lv_iinc (v := nI (k7 + 1)) (lv' := [(3, .int (nI (k7 + 1))), (4, .int (nI k21)), (2, .int x22), (0, .ref a), (1, .int x)]) hx hb dX7_shoreBits_69 hl (k := 1) rfl (show nI k7 + nI 1 = nI (k7 + 1) from nI_add _ _) (by decide) rfl (fun ls hl => ?_)
                refine lv_goto (tgt := 4) hx hb dX7_shoreBits_72 (by decide) ?_
                exact ih12 (k7 + 1) x22 (lf_s_shoreBits_3 lumps x k7 n11 k21 n25 y29 y31 iv_a_4 j9 hm13 c14 j23 hm27 c28 e30 e32 c33) (lf_s_shoreBits_4 lumps x k7 n11 k21 n25 y29 y31 iv_a_4 j9 hm13 c14 j23 hm27 c28 e30 e32 c33) _ (lv_sub hl [0, 2, 3, 4] rfl)
              · refine lv_iload_n hx hb dX7_shoreBits_33 rfl (lv_at hl 2 rfl) ?_
                refine lv_aload_n hx hb dX7_shoreBits_34 rfl (lv_at hl 3 rfl) ?_
                refine va_get (D := (dC, dI)) (ci := 7) (v := .ref lumpCells) (C := RX7) (T := TX7) (N := 19) hx hb hts hin7 hown hK hP 0 rfl rfl 12 (by decide) (hts (.fieldLink RX7 19 "PorridgeSea$Sea" "lumpCells" "[I") (List.mem_of_getElem? (i := 2) rfl)) (fun _ h9 => h9) rfl dX7_shoreBits_35 ?_
                refine lv_iload_n hx hb dX7_shoreBits_38 rfl (lv_at hl 1 rfl) ?_
                obtain ⟨y34, e35⟩ : ∃ z9, z9 = lumpCellsF k7 := ⟨_, rfl⟩
                refine r_iald hx hb hK hP 1 rfl k7 (by omega) (by decide) y34 e35.symm dX7_shoreBits_39 ?_
                refine lv_aload_n hx hb dX7_shoreBits_40 rfl (lv_at hl 3 rfl) ?_
                refine va_get (D := (dC, dI)) (ci := 7) (v := .ref lumpCells) (C := RX7) (T := TX7) (N := 19) hx hb hts hin7 hown hK hP 0 rfl rfl 12 (by decide) (hts (.fieldLink RX7 19 "PorridgeSea$Sea" "lumpCells" "[I") (List.mem_of_getElem? (i := 2) rfl)) (fun _ h9 => h9) rfl dX7_shoreBits_41 ?_
                refine lv_iload hx hb dX7_shoreBits_44 (lv_at hl 0 rfl) ?_
                obtain ⟨y36, e37⟩ : ∃ z9, z9 = lumpCellsF k21 := ⟨_, rfl⟩
                refine r_iald hx hb hK hP 1 rfl k21 (by omega) (by decide) y36 e37.symm dX7_shoreBits_46 ?_
                refine vp_callSi (W.runS (As := [.int y34, .int y36]) (rest := [.int x22]) ⟨hx, hb, hml, hown, hts⟩ (c_s_areNear l dC dI ky y34 y36) (va_cwS 2 hts gX7_shoreBits_X7_areNear rfl rfl rfl (by decide +kernel) ⟨(Nat.le_of_ble_eq_true rfl), (Nat.le_of_ble_eq_true rfl)⟩) (pre_PS hK hP [] rfl) rfl rfl hl.1 rfl (lv_room (Nat.le_of_ble_eq_true rfl)) dX7_shoreBits_47 ⟨(Nat.le_of_ble_eq_true rfl), (Nat.le_of_ble_eq_true rfl)⟩) (fun r38 p39 => ?_)
                refine lv_if_eq (tgt := 60) hx hb dX7_shoreBits_50 (by decide) (fun c40 => ?_) (fun c40 => ?_)
                · refine lv_iconst (v := nI 0) hx hb dX7_shoreBits_60 (by decide) ?_
                  refine lv_ior hx hb dX7_shoreBits_61 ?_
                  refine lv_topi (fun y41 e42 => ?_)
                  refine lv_istore_n (lv' := [(2, .int y41), (4, .int (nI k21)), (3, .int (nI k7)), (0, .ref a), (1, .int x)]) hx hb dX7_shoreBits_62 rfl hl (by decide) rfl (fun ls hl => ?_)
                  refine lv_iinc (v := nI (k21 + 1)) (lv' := [(4, .int (nI (k21 + 1))), (2, .int y41), (3, .int (nI k7)), (0, .ref a), (1, .int x)]) hx hb dX7_shoreBits_63 hl (k := 1) rfl (show nI k21 + nI 1 = nI (k21 + 1) from nI_add _ _) (by decide) rfl (fun ls hl => ?_)
                  refine lv_goto (tgt := 15) hx hb dX7_shoreBits_66 (by decide) ?_
                  exact ih26 (k21 + 1) y41 (lf_s_shoreBits_5 lumps lumpCellsF x k7 n11 k21 n25 y29 y31 y34 y36 iv_a_4 j9 hm13 c14 j23 hm27 c28 e30 e32 c33 e35 e37) (lf_s_shoreBits_6 lumps lumpCellsF x k7 n11 k21 n25 y29 y31 y34 y36 iv_a_4 j9 hm13 c14 j23 hm27 c28 e30 e32 c33 e35 e37) _ (lv_sub hl [0, 2, 1, 3, 4] rfl)
                · refine lv_iconst (v := nI 1) hx hb dX7_shoreBits_53 (by decide) ?_
                  refine lv_iload hx hb dX7_shoreBits_54 (lv_at hl 0 rfl) ?_
                  refine lv_ishl hx hb dX7_shoreBits_56 ?_
                  refine lv_topi (fun y43 e44 => ?_)
                  refine lv_goto (tgt := 61) hx hb dX7_shoreBits_57 (by decide) ?_
                  refine lv_ior hx hb dX7_shoreBits_61 ?_
                  refine lv_topi (fun y45 e46 => ?_)
                  refine lv_istore_n (lv' := [(2, .int y45), (4, .int (nI k21)), (3, .int (nI k7)), (0, .ref a), (1, .int x)]) hx hb dX7_shoreBits_62 rfl hl (by decide) rfl (fun ls hl => ?_)
                  refine lv_iinc (v := nI (k21 + 1)) (lv' := [(4, .int (nI (k21 + 1))), (2, .int y45), (3, .int (nI k7)), (0, .ref a), (1, .int x)]) hx hb dX7_shoreBits_63 hl (k := 1) rfl (show nI k21 + nI 1 = nI (k21 + 1) from nI_add _ _) (by decide) rfl (fun ls hl => ?_)
                  refine lv_goto (tgt := 15) hx hb dX7_shoreBits_66 (by decide) ?_
                  exact ih26 (k21 + 1) y45 (lf_s_shoreBits_7 lumps lumpCellsF x k7 n11 k21 x22 n25 y29 y31 y34 y36 y43 y45 iv_a_4 j9 hm13 c14 j23 hm27 c28 e30 e32 c33 e35 e37 e44 e46) (lf_s_shoreBits_8 lumps lumpCellsF x k7 n11 k21 x22 n25 y29 y31 y34 y36 y43 y45 iv_a_4 j9 hm13 c14 j23 hm27 c28 e30 e32 c33 e35 e37 e44 e46) _ (lv_sub hl [0, 2, 1, 3, 4] rfl)
        exact hL24 ((6 - 0) + 1) 0 x8 (lf_s_shoreBits_9) (Nat.lt_succ_self _) _ (lv_sub hl [0, 1, 2, 3, 4] rfl)
  exact hL10 ((6 - 0) + 1) 0 (nI 0) (lf_s_shoreBits_10) (Nat.lt_succ_self _) _ (lv_sub hl [0, 1, 2, 3] rfl)
set_option maxRecDepth 20000 in
theorem lf_s_landBits_1 (lumps : Nat) (k9 : Nat) (n13 : Nat) (iv_a_4 : lumps ≤ 6) (j11 : k9 ≤ 6) (hm15 : 6 - k9 < n13 + 1) (c16 : k9 < lumps) (p18 : True) : (k9 + 1) ≤ 6 := by
  try simp only [ia_lt, ia_le, ia_eq, ia_m1, ia_0, ia_1, ne_eq, true_and, and_true, false_and, and_false, or_false, false_or, or_true, true_or, not_true_eq_false, not_false_eq_true] at *
  all_goals omega
set_option maxRecDepth 20000 in
theorem lf_s_landBits_2 (lumps : Nat) (k9 : Nat) (n13 : Nat) (iv_a_4 : lumps ≤ 6) (j11 : k9 ≤ 6) (hm15 : 6 - k9 < n13 + 1) (c16 : k9 < lumps) (p18 : True) : 6 - (k9 + 1) < n13 := by
  try simp only [ia_lt, ia_le, ia_eq, ia_m1, ia_0, ia_1, ne_eq, true_and, and_true, false_and, and_false, or_false, false_or, or_true, true_or, not_true_eq_false, not_false_eq_true] at *
  all_goals omega
set_option maxRecDepth 20000 in
theorem lf_s_landBits_3   : 1 ≤ 6 := by
  try simp only [ia_lt, ia_le, ia_eq, ia_m1, ia_0, ia_1, ne_eq, true_and, and_true, false_and, and_false, or_false, false_or, or_true, true_or, not_true_eq_false, not_false_eq_true] at *
  all_goals omega
set_option maxHeartbeats 4000000 in
set_option maxRecDepth 100000 in
theorem c_s_landBits (l : Launch) (dC : Nat → ClassId) (dI : Nat → Nat → Nat) (ky : Nat → ClassId) (a : Nat) (wide : Nat) (high : Nat) (heat : Int32) (cools : Int32) (skinHeat : Int32) (today : Int32) (stirs : Int32) (steps : Int32) (lumps : Nat) (boats : Nat) (thickness : Nat) (lumpNames : Nat) (lumpCells : Nat) (boatNames : Nat) (boatCells : Nat) (loads : Nat) (spoons : Nat) (spoonsLeft : Nat) (depths : Nat) (lumpCellsF : Nat → Int32) (x : Int32) (iv_a_0 : 2 ≤ wide) (iv_a_1 : wide ≤ 6) (iv_a_2 : 2 ≤ high) (iv_a_3 : high ≤ 6) (iv_a_4 : lumps ≤ 6) (iv_a_5 : boats ≤ 6) : Met l yX7_landBits wsX7_landBits ({ frames := 3, cells := 0, slots := 0, locals := 60 }) (PcP dC dI ky [.ref a, .int x] [(a, .inr (7, [.int (nI wide), .int (nI high), .int heat, .int cools, .int skinHeat, .int today, .int stirs, .int steps, .int (nI lumps), .int (nI boats), .ref thickness, .ref lumpNames, .ref lumpCells, .ref boatNames, .ref boatCells, .ref loads, .ref spoons, .ref spoonsLeft, .ref depths])), (lumpCells, .inl (ky 0, 6, .inl lumpCellsF))]) (vp_Si (fun r : Int32 => True)) 0 0 (fun _ => False) := by
  refine Met.ofW (cc := cX7_landBits) (maxL := 4) (ret := (some .int)) (by decide) rfl ?_
  intro p e s m args below meth c s₁ B hml hv
  obtain ⟨rfl, hP, hK⟩ := hv
  have hx := B.exec
  have hb := B.bytes
  have hr := B.returns
  have hts := atoms_spec (ws := wsX7_landBits) B.pre
  have hown : s.vm.findClass RX7 = some m.cls := findClass_of_methodNamed B.named
  have hlocks := B.notSynchronized
  have hin7 : ∀ w ∈ u_ws RX7 TX7 19, w ∈ wsX7_landBits := by decide +kernel
  have hl := lv_entry ([.ref a, .int x]) (n := 4) (Nat.le_of_ble_eq_true rfl)
  rw [lg_entry_eq]
  generalize (lg_sl ([.ref a, .int x]) ++ List.replicate (4 - (lg_sl ([.ref a, .int x])).length) Slot.unset).toArray = ls at hl ⊢
  have hl : lv_has ls 4 [(0, .ref a), (1, .int x)] := hl
  refine q_name (fun Q hQ => ?_)
  generalize ([.ref a, .int x] : List Value).toArray = args at hts hQ ⊢
  refine lv_iconst (v := nI 1) hx hb dX7_landBits_0 (by decide) ?_
  refine lv_iload_n hx hb dX7_landBits_1 rfl (lv_at hl 1 rfl) ?_
  refine lv_ishl hx hb dX7_landBits_2 ?_
  refine lv_topi (fun y1 e2 => ?_)
  refine lv_istore_n (lv' := [(2, .int y1), (0, .ref a), (1, .int x)]) hx hb dX7_landBits_3 rfl hl (by decide) rfl (fun ls hl => ?_)
  refine lv_iconst (v := nI 1) hx hb dX7_landBits_4 (by decide) ?_
  refine lv_istore_n (lv' := [(3, .int (nI 1)), (2, .int y1), (0, .ref a), (1, .int x)]) hx hb dX7_landBits_5 rfl hl (by decide) rfl (fun ls hl => ?_)
  have hL12 : ∀ (n13 : Nat) (k9 : Nat) (x10 : Int32), (k9 ≤ 6) → 6 - k9 < n13 → ∀ (ls : Array Slot), lv_has ls 4 [(3, .int (nI k9)), (2, .int x10), (0, .ref a)] → W p l e (headSpec wsX7_landBits ({ frames := 3, cells := 0, slots := 0, locals := 60 })).room s m args below meth c s.heap [] 0 0 Q (F0 m 6 ls []) := by
    intro n13
    induction n13 with
    | zero => intro k9 x10 _ h9; exact absurd h9 (Nat.not_lt_zero _)
    | succ n13 ih14 =>
      intro k9 x10 j11 hm15 ls hl
      refine lv_iload_n hx hb dX7_landBits_6 rfl (lv_at hl 0 rfl) ?_
      refine lv_aload_n hx hb dX7_landBits_7 rfl (lv_at hl 2 rfl) ?_
      refine va_get (D := (dC, dI)) (ci := 7) (v := .int (nI lumps)) (C := RX7) (T := TX7) (N := 19) hx hb hts hin7 hown hK hP 0 rfl rfl 8 (by decide) (hts (.fieldLink RX7 68 "PorridgeSea$Sea" "lumps" "I") (List.mem_of_getElem? (i := 1) rfl)) (fun _ h9 => h9) rfl dX7_landBits_8 ?_
      refine n_icmp_ge (x := k9) (y := lumps) (tgt := 28) hx hb (by omega) (by omega) dX7_landBits_11 (by decide) (fun c16 => ?_) (fun c16 => ?_)
      · refine lv_iload_n hx hb dX7_landBits_28 rfl (lv_at hl 1 rfl) ?_
        rw [hQ]
        exact W.iret (v := x10) hx hb hr (fun t9 ht9 hW9 => ⟨x10, rfl, trivial, ht9⟩) (fun _ h => absurd h List.not_mem_nil) dX7_landBits_29
      · refine lv_iload_n hx hb dX7_landBits_14 rfl (lv_at hl 1 rfl) ?_
        refine lv_aload_n hx hb dX7_landBits_15 rfl (lv_at hl 2 rfl) ?_
        refine lv_iload_n hx hb dX7_landBits_16 rfl (lv_at hl 1 rfl) ?_
        refine vp_callSi (W.runV (As := [.int x10]) (rest := [.int x10]) ⟨hx, hb, hml, hown, hts⟩ (c_s_shoreBits l dC dI ky a wide high heat cools skinHeat today stirs steps lumps boats thickness lumpNames lumpCells boatNames boatCells loads spoons spoonsLeft depths lumpCellsF x10 iv_a_0 iv_a_1 iv_a_2 iv_a_3 iv_a_4 iv_a_5) (cwV 1 hts gX7_landBits_X7_shoreBits rfl rfl rfl (by decide +kernel) ⟨(Nat.le_of_ble_eq_true rfl), (Nat.le_of_ble_eq_true rfl)⟩) (pre_PV hK hP [0, 1] rfl (ci := 7) (q0 := 0) rfl rfl) rfl rfl hl.1 rfl (lv_room (Nat.le_of_ble_eq_true rfl)) dX7_landBits_17 ⟨(Nat.le_of_ble_eq_true rfl), (Nat.le_of_ble_eq_true rfl)⟩) (fun r17 p18 => ?_)
        refine lv_ior hx hb dX7_landBits_20 ?_
        refine lv_topi (fun y19 e20 => ?_)
        refine lv_istore_n (lv' := [(2, .int y19), (3, .int (nI k9)), (0, .ref a)]) hx hb dX7_landBits_21 rfl hl (by decide) rfl (fun ls hl => ?_)
        refine lv_iinc (v := nI (k9 + 1)) (lv' := [(3, .int (nI (k9 + 1))), (2, .int y19), (0, .ref a)]) hx hb dX7_landBits_22 hl (k := 1) rfl (show nI k9 + nI 1 = nI (k9 + 1) from nI_add _ _) (by decide) rfl (fun ls hl => ?_)
        refine lv_goto (tgt := 6) hx hb dX7_landBits_25 (by decide) ?_
        exact ih14 (k9 + 1) y19 (lf_s_landBits_1 lumps k9 n13 iv_a_4 j11 hm15 c16 p18) (lf_s_landBits_2 lumps k9 n13 iv_a_4 j11 hm15 c16 p18) _ (lv_sub hl [0, 1, 2] rfl)
  exact hL12 ((6 - 1) + 1) 1 y1 (lf_s_landBits_3) (Nat.lt_succ_self _) _ (lv_sub hl [0, 1, 2] rfl)
