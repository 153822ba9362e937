theorem dX8_readCell_0 : decode cX8_readCell 0 = .ok (.aload_n 1, 1) := by decide +kernel
theorem dX8_readCell_1 : decode cX8_readCell 1 = .ok (.iconst 0, 1) := by decide +kernel
theorem dX8_readCell_2 : decode cX8_readCell 2 = .ok (.aload_n 2, 1) := by decide +kernel
theorem dX8_readCell_3 : decode cX8_readCell 3 = .ok (.getfield 60, 3) := by decide +kernel
theorem dX8_readCell_6 : decode cX8_readCell 6 = .ok (.iconst 1, 1) := by decide +kernel
theorem dX8_readCell_7 : decode cX8_readCell 7 = .ok (.isub, 1) := by decide +kernel
theorem dX8_readCell_8 : decode cX8_readCell 8 = .ok (.invokevirtual 56, 3) := by decide +kernel
theorem dX8_readCell_11 : decode cX8_readCell 11 = .ok (.istore 4, 2) := by decide +kernel
theorem dX8_readCell_13 : decode cX8_readCell 13 = .ok (.aload_n 1, 1) := by decide +kernel
theorem dX8_readCell_14 : decode cX8_readCell 14 = .ok (.getfield 111, 3) := by decide +kernel
theorem dX8_readCell_17 : decode cX8_readCell 17 = .ok (.istore 5, 2) := by decide +kernel
theorem dX8_readCell_19 : decode cX8_readCell 19 = .ok (.iload 4, 2) := by decide +kernel
theorem dX8_readCell_21 : decode cX8_readCell 21 = .ok (.iconst (-1), 1) := by decide +kernel
theorem dX8_readCell_22 : decode cX8_readCell 22 = .ok (.if_icmp .ne 7, 3) := by decide +kernel
theorem dX8_readCell_25 : decode cX8_readCell 25 = .ok (.iconst (-1), 1) := by decide +kernel
theorem dX8_readCell_26 : decode cX8_readCell 26 = .ok (.goto 14, 3) := by decide +kernel
theorem dX8_readCell_40 : decode cX8_readCell 40 = .ok (.istore 6, 2) := by decide +kernel
theorem dX8_readCell_42 : decode cX8_readCell 42 = .ok (.iload 6, 2) := by decide +kernel
theorem dX8_readCell_44 : decode cX8_readCell 44 = .ok (.iconst (-1), 1) := by decide +kernel
theorem dX8_readCell_45 : decode cX8_readCell 45 = .ok (.if_icmp .ne 5, 3) := by decide +kernel
theorem dX8_readCell_48 : decode cX8_readCell 48 = .ok (.iconst (-1), 1) := by decide +kernel
theorem dX8_readCell_49 : decode cX8_readCell 49 = .ok (.ireturn, 1) := by decide +kernel
theorem dX8_readCell_29 : decode cX8_readCell 29 = .ok (.aload_n 1, 1) := by decide +kernel
theorem dX8_readCell_30 : decode cX8_readCell 30 = .ok (.iconst 0, 1) := by decide +kernel
theorem dX8_readCell_31 : decode cX8_readCell 31 = .ok (.aload_n 2, 1) := by decide +kernel
theorem dX8_readCell_32 : decode cX8_readCell 32 = .ok (.getfield 63, 3) := by decide +kernel
theorem dX8_readCell_35 : decode cX8_readCell 35 = .ok (.iconst 1, 1) := by decide +kernel
theorem dX8_readCell_36 : decode cX8_readCell 36 = .ok (.isub, 1) := by decide +kernel
theorem dX8_readCell_37 : decode cX8_readCell 37 = .ok (.invokevirtual 56, 3) := by decide +kernel
theorem dX8_readCell_50 : decode cX8_readCell 50 = .ok (.bipush 6, 2) := by decide +kernel
theorem dX8_readCell_52 : decode cX8_readCell 52 = .ok (.iload 6, 2) := by decide +kernel
theorem dX8_readCell_54 : decode cX8_readCell 54 = .ok (.imul, 1) := by decide +kernel
theorem dX8_readCell_55 : decode cX8_readCell 55 = .ok (.iload 4, 2) := by decide +kernel
theorem dX8_readCell_57 : decode cX8_readCell 57 = .ok (.iadd, 1) := by decide +kernel
theorem dX8_readCell_58 : decode cX8_readCell 58 = .ok (.istore 7, 2) := by decide +kernel
theorem dX8_readCell_60 : decode cX8_readCell 60 = .ok (.iload_n 3, 1) := by decide +kernel
theorem dX8_readCell_61 : decode cX8_readCell 61 = .ok (.iconst 1, 1) := by decide +kernel
theorem dX8_readCell_62 : decode cX8_readCell 62 = .ok (.if_icmp .ne 16, 3) := by decide +kernel
theorem dX8_readCell_78 : decode cX8_readCell 78 = .ok (.iconst 0, 1) := by decide +kernel
theorem dX8_readCell_79 : decode cX8_readCell 79 = .ok (.istore 8, 2) := by decide +kernel
theorem dX8_readCell_81 : decode cX8_readCell 81 = .ok (.iload_n 3, 1) := by decide +kernel
theorem dX8_readCell_82 : decode cX8_readCell 82 = .ok (.iconst 2, 1) := by decide +kernel
theorem dX8_readCell_83 : decode cX8_readCell 83 = .ok (.if_icmp .ne 16, 3) := by decide +kernel
theorem dX8_readCell_99 : decode cX8_readCell 99 = .ok (.iconst 0, 1) := by decide +kernel
theorem dX8_readCell_100 : decode cX8_readCell 100 = .ok (.istore 9, 2) := by decide +kernel
theorem dX8_readCell_102 : decode cX8_readCell 102 = .ok (.iload 8, 2) := by decide +kernel
theorem dX8_readCell_104 : decode cX8_readCell 104 = .ok (.ifCond .ne 8, 3) := by decide +kernel
theorem dX8_readCell_107 : decode cX8_readCell 107 = .ok (.iload 9, 2) := by decide +kernel
theorem dX8_readCell_109 : decode cX8_readCell 109 = .ok (.ifCond .eq 13, 3) := by decide +kernel
theorem dX8_readCell_122 : decode cX8_readCell 122 = .ok (.iload 7, 2) := by decide +kernel
theorem dX8_readCell_124 : decode cX8_readCell 124 = .ok (.ireturn, 1) := by decide +kernel
theorem dX8_readCell_86 : decode cX8_readCell 86 = .ok (.aload_n 2, 1) := by decide +kernel
theorem dX8_readCell_87 : decode cX8_readCell 87 = .ok (.iload 7, 2) := by decide +kernel
theorem dX8_readCell_89 : decode cX8_readCell 89 = .ok (.invokevirtual 118, 3) := by decide +kernel
theorem dX8_readCell_92 : decode cX8_readCell 92 = .ok (.ifCond .eq 7, 3) := by decide +kernel
theorem dX8_readCell_95 : decode cX8_readCell 95 = .ok (.iconst 1, 1) := by decide +kernel
theorem dX8_readCell_96 : decode cX8_readCell 96 = .ok (.goto 4, 3) := by decide +kernel
theorem dX8_readCell_112 : decode cX8_readCell 112 = .ok (.aload_n 1, 1) := by decide +kernel
theorem dX8_readCell_113 : decode cX8_readCell 113 = .ok (.iconst 3, 1) := by decide +kernel
theorem dX8_readCell_114 : decode cX8_readCell 114 = .ok (.iload 5, 2) := by decide +kernel
theorem dX8_readCell_116 : decode cX8_readCell 116 = .ok (.invokevirtual 121, 3) := by decide +kernel
theorem dX8_readCell_119 : decode cX8_readCell 119 = .ok (.pop, 1) := by decide +kernel
theorem dX8_readCell_120 : decode cX8_readCell 120 = .ok (.iconst (-1), 1) := by decide +kernel
theorem dX8_readCell_121 : decode cX8_readCell 121 = .ok (.ireturn, 1) := by decide +kernel
theorem dX8_readCell_65 : decode cX8_readCell 65 = .ok (.aload_n 2, 1) := by decide +kernel
theorem dX8_readCell_66 : decode cX8_readCell 66 = .ok (.iload 7, 2) := by decide +kernel
theorem dX8_readCell_68 : decode cX8_readCell 68 = .ok (.invokevirtual 114, 3) := by decide +kernel
theorem dX8_readCell_71 : decode cX8_readCell 71 = .ok (.ifCond .le 7, 3) := by decide +kernel
theorem dX8_readCell_74 : decode cX8_readCell 74 = .ok (.iconst 1, 1) := by decide +kernel
theorem dX8_readCell_75 : decode cX8_readCell 75 = .ok (.goto 4, 3) := by decide +kernel
theorem dX8_takeNewName_0 : decode cX8_takeNewName 0 = .ok (.aload_n 1, 1) := by decide +kernel
theorem dX8_takeNewName_1 : decode cX8_takeNewName 1 = .ok (.invokevirtual 25, 3) := by decide +kernel
theorem dX8_takeNewName_4 : decode cX8_takeNewName 4 = .ok (.bipush 31, 2) := by decide +kernel
theorem dX8_takeNewName_6 : decode cX8_takeNewName 6 = .ok (.if_icmp .eq 9, 3) := by decide +kernel
theorem dX8_takeNewName_15 : decode cX8_takeNewName 15 = .ok (.aload_n 2, 1) := by decide +kernel
theorem dX8_takeNewName_16 : decode cX8_takeNewName 16 = .ok (.aload_n 1, 1) := by decide +kernel
theorem dX8_takeNewName_17 : decode cX8_takeNewName 17 = .ok (.getfield 86, 3) := by decide +kernel
theorem dX8_takeNewName_20 : decode cX8_takeNewName 20 = .ok (.invokevirtual 104, 3) := by decide +kernel
theorem dX8_takeNewName_23 : decode cX8_takeNewName 23 = .ok (.iconst (-1), 1) := by decide +kernel
theorem dX8_takeNewName_24 : decode cX8_takeNewName 24 = .ok (.if_icmp .ne 15, 3) := by decide +kernel
theorem dX8_takeNewName_27 : decode cX8_takeNewName 27 = .ok (.aload_n 2, 1) := by decide +kernel
theorem dX8_takeNewName_28 : decode cX8_takeNewName 28 = .ok (.aload_n 1, 1) := by decide +kernel
theorem dX8_takeNewName_29 : decode cX8_takeNewName 29 = .ok (.getfield 86, 3) := by decide +kernel
theorem dX8_takeNewName_32 : decode cX8_takeNewName 32 = .ok (.invokevirtual 108, 3) := by decide +kernel
theorem dX8_takeNewName_35 : decode cX8_takeNewName 35 = .ok (.iconst (-1), 1) := by decide +kernel
theorem dX8_takeNewName_36 : decode cX8_takeNewName 36 = .ok (.if_icmp .eq 9, 3) := by decide +kernel
theorem dX8_takeNewName_45 : decode cX8_takeNewName 45 = .ok (.aload_n 1, 1) := by decide +kernel
theorem dX8_takeNewName_46 : decode cX8_takeNewName 46 = .ok (.invokevirtual 53, 3) := by decide +kernel
theorem dX8_takeNewName_49 : decode cX8_takeNewName 49 = .ok (.iconst 1, 1) := by decide +kernel
theorem dX8_takeNewName_50 : decode cX8_takeNewName 50 = .ok (.ireturn, 1) := by decide +kernel
theorem dX8_takeNewName_39 : decode cX8_takeNewName 39 = .ok (.aload_n 1, 1) := by decide +kernel
theorem dX8_takeNewName_40 : decode cX8_takeNewName 40 = .ok (.iconst 3, 1) := by decide +kernel
theorem dX8_takeNewName_41 : decode cX8_takeNewName 41 = .ok (.invokevirtual 46, 3) := by decide +kernel
theorem dX8_takeNewName_44 : decode cX8_takeNewName 44 = .ok (.ireturn, 1) := by decide +kernel
theorem dX8_takeNewName_9 : decode cX8_takeNewName 9 = .ok (.aload_n 1, 1) := by decide +kernel
theorem dX8_takeNewName_10 : decode cX8_takeNewName 10 = .ok (.iconst 1, 1) := by decide +kernel
theorem dX8_takeNewName_11 : decode cX8_takeNewName 11 = .ok (.invokevirtual 46, 3) := by decide +kernel
theorem dX8_takeNewName_14 : decode cX8_takeNewName 14 = .ok (.ireturn, 1) := by decide +kernel
theorem dX8_readSize_0 : decode cX8_readSize 0 = .ok (.aload_n 0, 1) := by decide +kernel
theorem dX8_readSize_1 : decode cX8_readSize 1 = .ok (.getfield 16, 3) := by decide +kernel
theorem dX8_readSize_4 : decode cX8_readSize 4 = .ok (.bipush 15, 2) := by decide +kernel
theorem dX8_readSize_6 : decode cX8_readSize 6 = .ok (.iand, 1) := by decide +kernel
theorem dX8_readSize_7 : decode cX8_readSize 7 = .ok (.ifCond .eq 9, 3) := by decide +kernel
theorem dX8_readSize_16 : decode cX8_readSize 16 = .ok (.aload_n 1, 1) := by decide +kernel
theorem dX8_readSize_17 : decode cX8_readSize 17 = .ok (.invokevirtual 53, 3) := by decide +kernel
theorem dX8_readSize_20 : decode cX8_readSize 20 = .ok (.aload_n 1, 1) := by decide +kernel
theorem dX8_readSize_21 : decode cX8_readSize 21 = .ok (.iconst 2, 1) := by decide +kernel
theorem dX8_readSize_22 : decode cX8_readSize 22 = .ok (.bipush 6, 2) := by decide +kernel
theorem dX8_readSize_24 : decode cX8_readSize 24 = .ok (.invokevirtual 56, 3) := by decide +kernel
theorem dX8_readSize_27 : decode cX8_readSize 27 = .ok (.istore_n 3, 1) := by decide +kernel
theorem dX8_readSize_28 : decode cX8_readSize 28 = .ok (.iload_n 3, 1) := by decide +kernel
theorem dX8_readSize_29 : decode cX8_readSize 29 = .ok (.iconst (-1), 1) := by decide +kernel
theorem dX8_readSize_30 : decode cX8_readSize 30 = .ok (.if_icmp .ne 7, 3) := by decide +kernel
theorem dX8_readSize_33 : decode cX8_readSize 33 = .ok (.iconst (-1), 1) := by decide +kernel
theorem dX8_readSize_34 : decode cX8_readSize 34 = .ok (.goto 10, 3) := by decide +kernel
theorem dX8_readSize_44 : decode cX8_readSize 44 = .ok (.istore 4, 2) := by decide +kernel
theorem dX8_readSize_46 : decode cX8_readSize 46 = .ok (.iload 4, 2) := by decide +kernel
theorem dX8_readSize_48 : decode cX8_readSize 48 = .ok (.iconst (-1), 1) := by decide +kernel
theorem dX8_readSize_49 : decode cX8_readSize 49 = .ok (.if_icmp .ne 5, 3) := by decide +kernel
theorem dX8_readSize_52 : decode cX8_readSize 52 = .ok (.iconst 0, 1) := by decide +kernel
theorem dX8_readSize_53 : decode cX8_readSize 53 = .ok (.ireturn, 1) := by decide +kernel
theorem dX8_readSize_37 : decode cX8_readSize 37 = .ok (.aload_n 1, 1) := by decide +kernel
theorem dX8_readSize_38 : decode cX8_readSize 38 = .ok (.iconst 2, 1) := by decide +kernel
theorem dX8_readSize_39 : decode cX8_readSize 39 = .ok (.bipush 6, 2) := by decide +kernel
theorem dX8_readSize_41 : decode cX8_readSize 41 = .ok (.invokevirtual 56, 3) := by decide +kernel
theorem dX8_readSize_54 : decode cX8_readSize 54 = .ok (.aload_n 2, 1) := by decide +kernel
theorem dX8_readSize_55 : decode cX8_readSize 55 = .ok (.iload_n 3, 1) := by decide +kernel
theorem dX8_readSize_56 : decode cX8_readSize 56 = .ok (.putfield 60, 3) := by decide +kernel
theorem dX8_readSize_59 : decode cX8_readSize 59 = .ok (.aload_n 2, 1) := by decide +kernel
theorem dX8_readSize_60 : decode cX8_readSize 60 = .ok (.iload 4, 2) := by decide +kernel
theorem dX8_readSize_62 : decode cX8_readSize 62 = .ok (.putfield 63, 3) := by decide +kernel
theorem dX8_readSize_65 : decode cX8_readSize 65 = .ok (.iconst 1, 1) := by decide +kernel
theorem dX8_readSize_66 : decode cX8_readSize 66 = .ok (.ireturn, 1) := by decide +kernel
theorem dX8_readSize_10 : decode cX8_readSize 10 = .ok (.aload_n 1, 1) := by decide +kernel
theorem dX8_readSize_11 : decode cX8_readSize 11 = .ok (.iconst 3, 1) := by decide +kernel
theorem dX8_readSize_12 : decode cX8_readSize 12 = .ok (.invokevirtual 46, 3) := by decide +kernel
theorem dX8_readSize_15 : decode cX8_readSize 15 = .ok (.ireturn, 1) := by decide +kernel
theorem dX8_readSetting_0 : decode cX8_readSetting 0 = .ok (.aload_n 0, 1) := by decide +kernel
theorem dX8_readSetting_1 : decode cX8_readSetting 1 = .ok (.getfield 16, 3) := by decide +kernel
theorem dX8_readSetting_4 : decode cX8_readSetting 4 = .ok (.iconst 1, 1) := by decide +kernel
theorem dX8_readSetting_5 : decode cX8_readSetting 5 = .ok (.iload_n 3, 1) := by decide +kernel
theorem dX8_readSetting_6 : decode cX8_readSetting 6 = .ok (.ishl, 1) := by decide +kernel
theorem dX8_readSetting_7 : decode cX8_readSetting 7 = .ok (.iand, 1) := by decide +kernel
theorem dX8_readSetting_8 : decode cX8_readSetting 8 = .ok (.ifCond .eq 9, 3) := by decide +kernel
theorem dX8_readSetting_17 : decode cX8_readSetting 17 = .ok (.aload_n 1, 1) := by decide +kernel
theorem dX8_readSetting_18 : decode cX8_readSetting 18 = .ok (.invokevirtual 53, 3) := by decide +kernel
theorem dX8_readSetting_21 : decode cX8_readSetting 21 = .ok (.aload_n 1, 1) := by decide +kernel
theorem dX8_readSetting_22 : decode cX8_readSetting 22 = .ok (.iconst 0, 1) := by decide +kernel
theorem dX8_readSetting_23 : decode cX8_readSetting 23 = .ok (.iload_n 3, 1) := by decide +kernel
theorem dX8_readSetting_24 : decode cX8_readSetting 24 = .ok (.iconst 5, 1) := by decide +kernel
theorem dX8_readSetting_25 : decode cX8_readSetting 25 = .ok (.if_icmp .ne 7, 3) := by decide +kernel
theorem dX8_readSetting_32 : decode cX8_readSetting 32 = .ok (.bipush 30, 2) := by decide +kernel
theorem dX8_readSetting_34 : decode cX8_readSetting 34 = .ok (.invokevirtual 56, 3) := by decide +kernel
theorem dX8_readSetting_37 : decode cX8_readSetting 37 = .ok (.istore 4, 2) := by decide +kernel
theorem dX8_readSetting_39 : decode cX8_readSetting 39 = .ok (.iload 4, 2) := by decide +kernel
theorem dX8_readSetting_41 : decode cX8_readSetting 41 = .ok (.iconst (-1), 1) := by decide +kernel
theorem dX8_readSetting_42 : decode cX8_readSetting 42 = .ok (.if_icmp .ne 5, 3) := by decide +kernel
theorem dX8_readSetting_45 : decode cX8_readSetting 45 = .ok (.iconst 0, 1) := by decide +kernel
theorem dX8_readSetting_46 : decode cX8_readSetting 46 = .ok (.ireturn, 1) := by decide +kernel
theorem dX8_readSetting_47 : decode cX8_readSetting 47 = .ok (.iload_n 3, 1) := by decide +kernel
theorem dX8_readSetting_48 : decode cX8_readSetting 48 = .ok (.iconst 4, 1) := by decide +kernel
theorem dX8_readSetting_49 : decode cX8_readSetting 49 = .ok (.if_icmp .ne 12, 3) := by decide +kernel
theorem dX8_readSetting_61 : decode cX8_readSetting 61 = .ok (.iload_n 3, 1) := by decide +kernel
theorem dX8_readSetting_62 : decode cX8_readSetting 62 = .ok (.iconst 5, 1) := by decide +kernel
theorem dX8_readSetting_63 : decode cX8_readSetting 63 = .ok (.if_icmp .ne 12, 3) := by decide +kernel
theorem dX8_readSetting_75 : decode cX8_readSetting 75 = .ok (.aload_n 2, 1) := by decide +kernel
theorem dX8_readSetting_76 : decode cX8_readSetting 76 = .ok (.iload 4, 2) := by decide +kernel
theorem dX8_readSetting_78 : decode cX8_readSetting 78 = .ok (.putfield 72, 3) := by decide +kernel
theorem dX8_readSetting_81 : decode cX8_readSetting 81 = .ok (.iconst 1, 1) := by decide +kernel
theorem dX8_readSetting_82 : decode cX8_readSetting 82 = .ok (.ireturn, 1) := by decide +kernel
theorem dX8_readSetting_66 : decode cX8_readSetting 66 = .ok (.aload_n 2, 1) := by decide +kernel
theorem dX8_readSetting_67 : decode cX8_readSetting 67 = .ok (.iload 4, 2) := by decide +kernel
theorem dX8_readSetting_69 : decode cX8_readSetting 69 = .ok (.putfield 69, 3) := by decide +kernel
theorem dX8_readSetting_72 : decode cX8_readSetting 72 = .ok (.goto 9, 3) := by decide +kernel
theorem dX8_readSetting_52 : decode cX8_readSetting 52 = .ok (.aload_n 2, 1) := by decide +kernel
theorem dX8_readSetting_53 : decode cX8_readSetting 53 = .ok (.iload 4, 2) := by decide +kernel
theorem dX8_readSetting_55 : decode cX8_readSetting 55 = .ok (.putfield 66, 3) := by decide +kernel
theorem dX8_readSetting_58 : decode cX8_readSetting 58 = .ok (.goto 23, 3) := by decide +kernel
theorem dX8_readSetting_28 : decode cX8_readSetting 28 = .ok (.iconst 5, 1) := by decide +kernel
theorem dX8_readSetting_29 : decode cX8_readSetting 29 = .ok (.goto 5, 3) := by decide +kernel
theorem dX8_readSetting_11 : decode cX8_readSetting 11 = .ok (.aload_n 1, 1) := by decide +kernel
theorem dX8_readSetting_12 : decode cX8_readSetting 12 = .ok (.iconst 3, 1) := by decide +kernel
theorem dX8_readSetting_13 : decode cX8_readSetting 13 = .ok (.invokevirtual 46, 3) := by decide +kernel
theorem dX8_readSetting_16 : decode cX8_readSetting 16 = .ok (.ireturn, 1) := by decide +kernel
theorem dX8_readThick_0 : decode cX8_readThick 0 = .ok (.aload_n 1, 1) := by decide +kernel
theorem dX8_readThick_1 : decode cX8_readThick 1 = .ok (.invokevirtual 53, 3) := by decide +kernel
theorem dX8_readThick_4 : decode cX8_readThick 4 = .ok (.aload_n 0, 1) := by decide +kernel
theorem dX8_readThick_5 : decode cX8_readThick 5 = .ok (.aload_n 1, 1) := by decide +kernel
theorem dX8_readThick_6 : decode cX8_readThick 6 = .ok (.aload_n 2, 1) := by decide +kernel
theorem dX8_readThick_7 : decode cX8_readThick 7 = .ok (.iconst 1, 1) := by decide +kernel
theorem dX8_readThick_8 : decode cX8_readThick 8 = .ok (.invokevirtual 75, 3) := by decide +kernel
theorem dX8_readThick_11 : decode cX8_readThick 11 = .ok (.istore_n 3, 1) := by decide +kernel
theorem dX8_readThick_12 : decode cX8_readThick 12 = .ok (.iload_n 3, 1) := by decide +kernel
theorem dX8_readThick_13 : decode cX8_readThick 13 = .ok (.iconst (-1), 1) := by decide +kernel
theorem dX8_readThick_14 : decode cX8_readThick 14 = .ok (.if_icmp .ne 7, 3) := by decide +kernel
theorem dX8_readThick_17 : decode cX8_readThick 17 = .ok (.iconst (-1), 1) := by decide +kernel
theorem dX8_readThick_18 : decode cX8_readThick 18 = .ok (.goto 10, 3) := by decide +kernel
theorem dX8_readThick_28 : decode cX8_readThick 28 = .ok (.istore 4, 2) := by decide +kernel
theorem dX8_readThick_30 : decode cX8_readThick 30 = .ok (.iload 4, 2) := by decide +kernel
theorem dX8_readThick_32 : decode cX8_readThick 32 = .ok (.iconst (-1), 1) := by decide +kernel
theorem dX8_readThick_33 : decode cX8_readThick 33 = .ok (.if_icmp .ne 5, 3) := by decide +kernel
theorem dX8_readThick_36 : decode cX8_readThick 36 = .ok (.iconst 0, 1) := by decide +kernel
theorem dX8_readThick_37 : decode cX8_readThick 37 = .ok (.ireturn, 1) := by decide +kernel
theorem dX8_readThick_21 : decode cX8_readThick 21 = .ok (.aload_n 1, 1) := by decide +kernel
theorem dX8_readThick_22 : decode cX8_readThick 22 = .ok (.iconst 1, 1) := by decide +kernel
theorem dX8_readThick_23 : decode cX8_readThick 23 = .ok (.bipush 9, 2) := by decide +kernel
theorem dX8_readThick_25 : decode cX8_readThick 25 = .ok (.invokevirtual 56, 3) := by decide +kernel
theorem dX8_readThick_38 : decode cX8_readThick 38 = .ok (.aload_n 2, 1) := by decide +kernel
theorem dX8_readThick_39 : decode cX8_readThick 39 = .ok (.getfield 79, 3) := by decide +kernel
theorem dX8_readThick_42 : decode cX8_readThick 42 = .ok (.iload_n 3, 1) := by decide +kernel
theorem dX8_readThick_43 : decode cX8_readThick 43 = .ok (.iload 4, 2) := by decide +kernel
theorem dX8_readThick_45 : decode cX8_readThick 45 = .ok (.iastore, 1) := by decide +kernel
theorem dX8_readThick_46 : decode cX8_readThick 46 = .ok (.iconst 1, 1) := by decide +kernel
theorem dX8_readThick_47 : decode cX8_readThick 47 = .ok (.ireturn, 1) := by decide +kernel
theorem dX8_readLump_0 : decode cX8_readLump 0 = .ok (.aload_n 2, 1) := by decide +kernel
theorem dX8_readLump_1 : decode cX8_readLump 1 = .ok (.getfield 83, 3) := by decide +kernel
theorem dX8_readLump_4 : decode cX8_readLump 4 = .ok (.bipush 6, 2) := by decide +kernel
theorem dX8_readLump_6 : decode cX8_readLump 6 = .ok (.if_icmp .lt 9, 3) := by decide +kernel
theorem dX8_readLump_15 : decode cX8_readLump 15 = .ok (.aload_n 1, 1) := by decide +kernel
theorem dX8_readLump_16 : decode cX8_readLump 16 = .ok (.invokevirtual 53, 3) := by decide +kernel
theorem dX8_readLump_19 : decode cX8_readLump 19 = .ok (.aload_n 1, 1) := by decide +kernel
theorem dX8_readLump_20 : decode cX8_readLump 20 = .ok (.getfield 86, 3) := by decide +kernel
theorem dX8_readLump_23 : decode cX8_readLump 23 = .ok (.lstore_n 3, 1) := by decide +kernel
theorem dX8_readLump_24 : decode cX8_readLump 24 = .ok (.aload_n 0, 1) := by decide +kernel
theorem dX8_readLump_25 : decode cX8_readLump 25 = .ok (.aload_n 1, 1) := by decide +kernel
theorem dX8_readLump_26 : decode cX8_readLump 26 = .ok (.aload_n 2, 1) := by decide +kernel
theorem dX8_readLump_27 : decode cX8_readLump 27 = .ok (.invokevirtual 90, 3) := by decide +kernel
theorem dX8_readLump_30 : decode cX8_readLump 30 = .ok (.ifCond .eq 13, 3) := by decide +kernel
theorem dX8_readLump_43 : decode cX8_readLump 43 = .ok (.iconst (-1), 1) := by decide +kernel
theorem dX8_readLump_44 : decode cX8_readLump 44 = .ok (.istore 5, 2) := by decide +kernel
theorem dX8_readLump_46 : decode cX8_readLump 46 = .ok (.iload 5, 2) := by decide +kernel
theorem dX8_readLump_48 : decode cX8_readLump 48 = .ok (.iconst (-1), 1) := by decide +kernel
theorem dX8_readLump_49 : decode cX8_readLump 49 = .ok (.if_icmp .ne 5, 3) := by decide +kernel
theorem dX8_readLump_52 : decode cX8_readLump 52 = .ok (.iconst 0, 1) := by decide +kernel
theorem dX8_readLump_53 : decode cX8_readLump 53 = .ok (.ireturn, 1) := by decide +kernel
theorem dX8_readLump_33 : decode cX8_readLump 33 = .ok (.aload_n 0, 1) := by decide +kernel
theorem dX8_readLump_34 : decode cX8_readLump 34 = .ok (.aload_n 1, 1) := by decide +kernel
theorem dX8_readLump_35 : decode cX8_readLump 35 = .ok (.aload_n 2, 1) := by decide +kernel
theorem dX8_readLump_36 : decode cX8_readLump 36 = .ok (.iconst 2, 1) := by decide +kernel
theorem dX8_readLump_37 : decode cX8_readLump 37 = .ok (.invokevirtual 75, 3) := by decide +kernel
theorem dX8_readLump_40 : decode cX8_readLump 40 = .ok (.goto 4, 3) := by decide +kernel
theorem dX8_readLump_54 : decode cX8_readLump 54 = .ok (.aload_n 2, 1) := by decide +kernel
theorem dX8_readLump_55 : decode cX8_readLump 55 = .ok (.lload_n 3, 1) := by decide +kernel
theorem dX8_readLump_56 : decode cX8_readLump 56 = .ok (.iload 5, 2) := by decide +kernel
theorem dX8_readLump_58 : decode cX8_readLump 58 = .ok (.invokevirtual 93, 3) := by decide +kernel
theorem dX8_readLump_61 : decode cX8_readLump 61 = .ok (.iconst 1, 1) := by decide +kernel
theorem dX8_readLump_62 : decode cX8_readLump 62 = .ok (.ireturn, 1) := by decide +kernel
theorem dX8_readLump_9 : decode cX8_readLump 9 = .ok (.aload_n 1, 1) := by decide +kernel
theorem dX8_readLump_10 : decode cX8_readLump 10 = .ok (.iconst 4, 1) := by decide +kernel
theorem dX8_readLump_11 : decode cX8_readLump 11 = .ok (.invokevirtual 46, 3) := by decide +kernel
theorem dX8_readLump_14 : decode cX8_readLump 14 = .ok (.ireturn, 1) := by decide +kernel
theorem dX8_readBoat_0 : decode cX8_readBoat 0 = .ok (.aload_n 2, 1) := by decide +kernel
theorem dX8_readBoat_1 : decode cX8_readBoat 1 = .ok (.getfield 97, 3) := by decide +kernel
theorem dX8_readBoat_4 : decode cX8_readBoat 4 = .ok (.bipush 6, 2) := by decide +kernel
theorem dX8_readBoat_6 : decode cX8_readBoat 6 = .ok (.if_icmp .lt 9, 3) := by decide +kernel
theorem dX8_readBoat_15 : decode cX8_readBoat 15 = .ok (.aload_n 1, 1) := by decide +kernel
theorem dX8_readBoat_16 : decode cX8_readBoat 16 = .ok (.invokevirtual 53, 3) := by decide +kernel
theorem dX8_readBoat_19 : decode cX8_readBoat 19 = .ok (.aload_n 1, 1) := by decide +kernel
theorem dX8_readBoat_20 : decode cX8_readBoat 20 = .ok (.getfield 86, 3) := by decide +kernel
theorem dX8_readBoat_23 : decode cX8_readBoat 23 = .ok (.lstore_n 3, 1) := by decide +kernel
theorem dX8_readBoat_24 : decode cX8_readBoat 24 = .ok (.aload_n 0, 1) := by decide +kernel
theorem dX8_readBoat_25 : decode cX8_readBoat 25 = .ok (.aload_n 1, 1) := by decide +kernel
theorem dX8_readBoat_26 : decode cX8_readBoat 26 = .ok (.aload_n 2, 1) := by decide +kernel
theorem dX8_readBoat_27 : decode cX8_readBoat 27 = .ok (.invokevirtual 90, 3) := by decide +kernel
theorem dX8_readBoat_30 : decode cX8_readBoat 30 = .ok (.ifCond .eq 13, 3) := by decide +kernel
theorem dX8_readBoat_43 : decode cX8_readBoat 43 = .ok (.iconst (-1), 1) := by decide +kernel
theorem dX8_readBoat_44 : decode cX8_readBoat 44 = .ok (.istore 5, 2) := by decide +kernel
theorem dX8_readBoat_46 : decode cX8_readBoat 46 = .ok (.iload 5, 2) := by decide +kernel
theorem dX8_readBoat_48 : decode cX8_readBoat 48 = .ok (.iconst (-1), 1) := by decide +kernel
theorem dX8_readBoat_49 : decode cX8_readBoat 49 = .ok (.if_icmp .ne 7, 3) := by decide +kernel
theorem dX8_readBoat_52 : decode cX8_readBoat 52 = .ok (.iconst (-1), 1) := by decide +kernel
theorem dX8_readBoat_53 : decode cX8_readBoat 53 = .ok (.goto 10, 3) := by decide +kernel
theorem dX8_readBoat_63 : decode cX8_readBoat 63 = .ok (.istore 6, 2) := by decide +kernel
theorem dX8_readBoat_65 : decode cX8_readBoat 65 = .ok (.iload 6, 2) := by decide +kernel
theorem dX8_readBoat_67 : decode cX8_readBoat 67 = .ok (.iconst (-1), 1) := by decide +kernel
theorem dX8_readBoat_68 : decode cX8_readBoat 68 = .ok (.if_icmp .ne 7, 3) := by decide +kernel
theorem dX8_readBoat_71 : decode cX8_readBoat 71 = .ok (.iconst (-1), 1) := by decide +kernel
theorem dX8_readBoat_72 : decode cX8_readBoat 72 = .ok (.goto 10, 3) := by decide +kernel
theorem dX8_readBoat_82 : decode cX8_readBoat 82 = .ok (.istore 7, 2) := by decide +kernel
theorem dX8_readBoat_84 : decode cX8_readBoat 84 = .ok (.iload 7, 2) := by decide +kernel
theorem dX8_readBoat_86 : decode cX8_readBoat 86 = .ok (.iconst (-1), 1) := by decide +kernel
theorem dX8_readBoat_87 : decode cX8_readBoat 87 = .ok (.if_icmp .ne 5, 3) := by decide +kernel
theorem dX8_readBoat_90 : decode cX8_readBoat 90 = .ok (.iconst 0, 1) := by decide +kernel
theorem dX8_readBoat_91 : decode cX8_readBoat 91 = .ok (.ireturn, 1) := by decide +kernel
theorem dX8_readBoat_33 : decode cX8_readBoat 33 = .ok (.aload_n 0, 1) := by decide +kernel
theorem dX8_readBoat_34 : decode cX8_readBoat 34 = .ok (.aload_n 1, 1) := by decide +kernel
theorem dX8_readBoat_35 : decode cX8_readBoat 35 = .ok (.aload_n 2, 1) := by decide +kernel
theorem dX8_readBoat_36 : decode cX8_readBoat 36 = .ok (.iconst 3, 1) := by decide +kernel
theorem dX8_readBoat_37 : decode cX8_readBoat 37 = .ok (.invokevirtual 75, 3) := by decide +kernel
theorem dX8_readBoat_40 : decode cX8_readBoat 40 = .ok (.goto 4, 3) := by decide +kernel
theorem dX8_readBoat_56 : decode cX8_readBoat 56 = .ok (.aload_n 1, 1) := by decide +kernel
theorem dX8_readBoat_57 : decode cX8_readBoat 57 = .ok (.iconst 0, 1) := by decide +kernel
theorem dX8_readBoat_58 : decode cX8_readBoat 58 = .ok (.bipush 9, 2) := by decide +kernel
theorem dX8_readBoat_60 : decode cX8_readBoat 60 = .ok (.invokevirtual 56, 3) := by decide +kernel
theorem dX8_readBoat_75 : decode cX8_readBoat 75 = .ok (.aload_n 1, 1) := by decide +kernel
theorem dX8_readBoat_76 : decode cX8_readBoat 76 = .ok (.iconst 1, 1) := by decide +kernel
theorem dX8_readBoat_77 : decode cX8_readBoat 77 = .ok (.bipush 9, 2) := by decide +kernel
theorem dX8_readBoat_79 : decode cX8_readBoat 79 = .ok (.invokevirtual 56, 3) := by decide +kernel
theorem dX8_readBoat_92 : decode cX8_readBoat 92 = .ok (.aload_n 2, 1) := by decide +kernel
theorem dX8_readBoat_93 : decode cX8_readBoat 93 = .ok (.lload_n 3, 1) := by decide +kernel
theorem dX8_readBoat_94 : decode cX8_readBoat 94 = .ok (.iload 5, 2) := by decide +kernel
theorem dX8_readBoat_96 : decode cX8_readBoat 96 = .ok (.iload 6, 2) := by decide +kernel
theorem dX8_readBoat_98 : decode cX8_readBoat 98 = .ok (.iload 7, 2) := by decide +kernel
theorem dX8_readBoat_100 : decode cX8_readBoat 100 = .ok (.invokevirtual 100, 3) := by decide +kernel
theorem dX8_readBoat_103 : decode cX8_readBoat 103 = .ok (.iconst 1, 1) := by decide +kernel
theorem dX8_readBoat_104 : decode cX8_readBoat 104 = .ok (.ireturn, 1) := by decide +kernel
theorem dX8_readBoat_9 : decode cX8_readBoat 9 = .ok (.aload_n 1, 1) := by decide +kernel
theorem dX8_readBoat_10 : decode cX8_readBoat 10 = .ok (.iconst 4, 1) := by decide +kernel
theorem dX8_readBoat_11 : decode cX8_readBoat 11 = .ok (.invokevirtual 46, 3) := by decide +kernel
theorem dX8_readBoat_14 : decode cX8_readBoat 14 = .ok (.ireturn, 1) := by decide +kernel
set_option maxRecDepth 100000 in
theorem ggX8_readCell_X5_takeNumber : GoodIn wsX8_readCell wsX5_takeNumber := goodIn_r _ [8, 9, 10, 11, 12, 13, 7, 14, 15, 16, 17, 18, 19, 20, 21, 22, 23, 24, 25, 26, 27, 28, 29, 30, 31, 32, 33, 34, 35, 36, 37, 38, 39, 40, 41, 42, 43, 44, 45, 46, 47, 48, 49, 50, 51, 52, 53, 54, 55, 56, 57, 58, 59, 60, 61, 62, 63, 64, 65, 66, 67, 68, 69, 70, 71, 72, 73, 74, 75, 76, 77, 78, 79, 80, 81, 82, 83, 84, 85, 86, 87, 88, 89, 90, 91, 92, 93, 94, 95, 96, 97, 98, 131, 132, 133, 134, 135, 136, 137, 138, 139, 140, 141] rfl (by decide +kernel)
set_option maxRecDepth 100000 in
theorem ggX8_readCell_X7_hasLumpIn : GoodIn wsX8_readCell wsX7_hasLumpIn := goodIn_r _ [108, 109, 110, 112, 113, 114, 115, 116, 117, 118, 119, 120, 121, 122, 123, 124, 125, 126, 127, 128, 129, 130] rfl (by decide +kernel)
set_option maxRecDepth 100000 in
theorem ggX8_readCell_X5_refuseAt : GoodIn wsX8_readCell wsX5_refuseAt := goodIn_r _ [19, 20, 21, 131, 132, 133, 134, 135, 136, 137, 138, 139, 140, 141] rfl (by decide +kernel)
set_option maxRecDepth 100000 in
theorem ggX8_readCell_X7_thicknessIn : GoodIn wsX8_readCell wsX7_thicknessIn := goodIn_r _ [103, 104, 112, 113, 114, 115, 116, 117, 118, 119, 120, 121, 122, 123, 124, 125, 126, 127, 128, 129, 130] rfl (by decide +kernel)
set_option maxRecDepth 100000 in
theorem ggX8_takeNewName_X5_nextWord : GoodIn wsX8_takeNewName wsX5_nextWord := goodIn_r _ [6, 7, 110, 111, 112, 113, 114, 115, 116, 117, 118, 119, 120] rfl (by decide +kernel)
set_option maxRecDepth 100000 in
theorem ggX8_takeNewName_X7_lumpNamed : GoodIn wsX8_takeNewName wsX7_lumpNamed := goodIn_r _ [23, 24, 25, 121, 122, 123, 124, 125, 126, 127, 128, 129, 130, 131, 132, 133, 134, 135, 136, 137, 138, 139] rfl (by decide +kernel)
set_option maxRecDepth 100000 in
theorem ggX8_takeNewName_X7_boatNamed : GoodIn wsX8_takeNewName wsX7_boatNamed := goodIn_r _ [29, 30, 31, 121, 122, 123, 124, 125, 126, 127, 128, 129, 130, 131, 132, 133, 134, 135, 136, 137, 138, 139] rfl (by decide +kernel)
set_option maxRecDepth 100000 in
theorem ggX8_takeNewName_X5_advance : GoodIn wsX8_takeNewName wsX5_advance := goodIn_r _ [35, 36, 37, 38, 12, 7, 39, 40, 41, 42, 5, 43, 44, 45, 46, 47, 48, 49, 50, 51, 52, 53, 54, 55, 56, 57, 58, 59, 60, 61, 62, 63, 64, 65, 66, 67, 68, 69, 70, 71, 72, 73, 74, 75, 76, 77, 78, 79, 80, 81, 82, 83, 84, 85, 86, 87, 88, 89, 90, 91, 92, 93, 94, 95, 96, 97, 98, 99, 100, 101, 102, 103, 104, 105, 106, 107, 108, 109, 110, 111, 112, 113, 114, 115, 116, 117, 118, 119, 120] rfl (by decide +kernel)
set_option maxRecDepth 100000 in
theorem ggX8_takeNewName_X5_refuse : GoodIn wsX8_takeNewName wsX5_refuse := goodIn_r _ [11, 12, 13, 14, 15, 5, 16, 17, 18, 110, 111, 112, 113, 114, 115, 116, 117, 118, 119, 120] rfl (by decide +kernel)
set_option maxRecDepth 100000 in
theorem ggX8_readSize_X5_advance : GoodIn wsX8_readSize wsX5_advance := goodIn_r _ [19, 20, 21, 22, 9, 23, 24, 25, 26, 27, 7, 28, 29, 30, 31, 32, 33, 34, 35, 36, 37, 38, 39, 40, 41, 42, 43, 44, 45, 46, 47, 48, 49, 50, 51, 52, 53, 54, 55, 56, 57, 58, 59, 60, 61, 62, 63, 64, 65, 66, 67, 68, 69, 70, 71, 72, 73, 74, 75, 76, 77, 78, 79, 80, 81, 82, 83, 84, 85, 86, 87, 88, 89, 90, 91, 92, 93, 94, 121, 122, 123, 124, 125, 126, 127, 128, 129, 130, 131] rfl (by decide +kernel)
set_option maxRecDepth 100000 in
theorem ggX8_readSize_X5_takeNumber : GoodIn wsX8_readSize wsX5_takeNumber := goodIn_r _ [98, 25, 37, 99, 5, 6, 7, 8, 9, 10, 11, 12, 13, 14, 15, 100, 17, 18, 19, 20, 21, 22, 23, 24, 26, 27, 28, 29, 30, 31, 32, 33, 34, 35, 36, 38, 39, 40, 41, 42, 43, 44, 45, 46, 47, 48, 49, 50, 51, 52, 53, 54, 55, 56, 57, 58, 59, 60, 61, 62, 63, 64, 65, 66, 67, 68, 69, 70, 71, 72, 73, 74, 75, 76, 77, 78, 79, 80, 81, 82, 83, 84, 85, 86, 87, 88, 89, 90, 91, 92, 93, 94, 121, 122, 123, 124, 125, 126, 127, 128, 129, 130, 131] rfl (by decide +kernel)
set_option maxRecDepth 100000 in
theorem ggX8_readSize_X5_refuse : GoodIn wsX8_readSize wsX5_refuse := goodIn_r _ [8, 9, 10, 11, 12, 7, 13, 14, 15, 121, 122, 123, 124, 125, 126, 127, 128, 129, 130, 131] rfl (by decide +kernel)
set_option maxRecDepth 100000 in
theorem ggX8_readSetting_X5_advance : GoodIn wsX8_readSetting wsX5_advance := goodIn_r _ [20, 21, 22, 23, 10, 24, 25, 26, 27, 28, 8, 29, 30, 31, 32, 33, 34, 35, 36, 37, 38, 39, 40, 41, 42, 43, 44, 45, 46, 47, 48, 49, 50, 51, 52, 53, 54, 55, 56, 57, 58, 59, 60, 61, 62, 63, 64, 65, 66, 67, 68, 69, 70, 71, 72, 73, 74, 75, 76, 77, 78, 79, 80, 81, 82, 83, 84, 85, 86, 87, 88, 89, 90, 91, 92, 93, 94, 95, 122, 123, 124, 125, 126, 127, 128, 129, 130, 131, 132] rfl (by decide +kernel)
set_option maxRecDepth 100000 in
theorem ggX8_readSetting_X5_takeNumber : GoodIn wsX8_readSetting wsX5_takeNumber := goodIn_r _ [99, 26, 38, 100, 6, 7, 8, 9, 10, 11, 12, 13, 14, 15, 16, 101, 18, 19, 20, 21, 22, 23, 24, 25, 27, 28, 29, 30, 31, 32, 33, 34, 35, 36, 37, 39, 40, 41, 42, 43, 44, 45, 46, 47, 48, 49, 50, 51, 52, 53, 54, 55, 56, 57, 58, 59, 60, 61, 62, 63, 64, 65, 66, 67, 68, 69, 70, 71, 72, 73, 74, 75, 76, 77, 78, 79, 80, 81, 82, 83, 84, 85, 86, 87, 88, 89, 90, 91, 92, 93, 94, 95, 122, 123, 124, 125, 126, 127, 128, 129, 130, 131, 132] rfl (by decide +kernel)
set_option maxRecDepth 100000 in
theorem ggX8_readSetting_X5_refuse : GoodIn wsX8_readSetting wsX5_refuse := goodIn_r _ [9, 10, 11, 12, 13, 8, 14, 15, 16, 122, 123, 124, 125, 126, 127, 128, 129, 130, 131, 132] rfl (by decide +kernel)
set_option maxRecDepth 100000 in
theorem ggX8_readThick_X5_advance : GoodIn wsX8_readThick wsX5_advance := goodIn_r _ [6, 7, 8, 9, 10, 11, 12, 13, 14, 15, 5, 16, 17, 18, 19, 20, 21, 22, 23, 24, 25, 26, 27, 28, 29, 30, 31, 32, 33, 34, 35, 36, 37, 38, 39, 40, 41, 42, 43, 44, 45, 46, 47, 48, 49, 50, 51, 52, 53, 54, 55, 56, 57, 58, 59, 60, 61, 62, 63, 64, 65, 66, 67, 68, 69, 70, 71, 72, 73, 74, 75, 76, 77, 78, 79, 80, 81, 82, 138, 139, 140, 141, 142, 143, 144, 145, 146, 147, 148] rfl (by decide +kernel)
set_option maxRecDepth 100000 in
theorem ggX8_readThick_X8_readCell : GoodIn wsX8_readThick wsX8_readCell := goodIn_r _ [87, 88, 89, 90, 91, 92, 93, 5, 94, 13, 25, 95, 96, 97, 98, 10, 99, 100, 101, 102, 103, 104, 105, 3, 4, 6, 7, 8, 9, 11, 12, 14, 15, 16, 17, 18, 19, 20, 21, 22, 23, 24, 26, 27, 28, 29, 30, 31, 32, 33, 34, 35, 36, 37, 38, 39, 40, 41, 42, 43, 44, 45, 46, 47, 48, 49, 50, 51, 52, 53, 54, 55, 56, 57, 58, 59, 60, 61, 62, 63, 64, 65, 66, 67, 68, 69, 70, 71, 72, 73, 74, 75, 76, 77, 78, 79, 80, 81, 82, 106, 107, 108, 109, 110, 111, 112, 113, 114, 115, 116, 117, 118, 119, 120, 121, 122, 123, 124, 125, 126, 127, 128, 129, 130, 131, 132, 133, 134, 135, 136, 137, 138, 139, 140, 141, 142, 143, 144, 145, 146, 147, 148] rfl (by decide +kernel)
set_option maxRecDepth 100000 in
theorem ggX8_readThick_X5_takeNumber : GoodIn wsX8_readThick wsX5_takeNumber := goodIn_r _ [94, 13, 25, 95, 96, 97, 5, 98, 10, 99, 100, 101, 102, 103, 104, 105, 3, 4, 6, 7, 8, 9, 11, 12, 14, 15, 16, 17, 18, 19, 20, 21, 22, 23, 24, 26, 27, 28, 29, 30, 31, 32, 33, 34, 35, 36, 37, 38, 39, 40, 41, 42, 43, 44, 45, 46, 47, 48, 49, 50, 51, 52, 53, 54, 55, 56, 57, 58, 59, 60, 61, 62, 63, 64, 65, 66, 67, 68, 69, 70, 71, 72, 73, 74, 75, 76, 77, 78, 79, 80, 81, 82, 138, 139, 140, 141, 142, 143, 144, 145, 146, 147, 148] rfl (by decide +kernel)
set_option maxRecDepth 100000 in
theorem ggX8_readLump_X5_advance : GoodIn wsX8_readLump wsX5_advance := goodIn_r _ [18, 19, 20, 21, 8, 22, 23, 24, 25, 26, 6, 27, 28, 29, 30, 31, 32, 33, 34, 35, 36, 37, 38, 39, 40, 41, 42, 43, 44, 45, 46, 47, 48, 49, 50, 51, 52, 53, 54, 55, 56, 57, 58, 59, 60, 61, 62, 63, 64, 65, 66, 67, 68, 69, 70, 71, 72, 73, 74, 75, 76, 77, 78, 79, 80, 81, 82, 83, 84, 85, 86, 87, 88, 89, 90, 91, 92, 93, 163, 164, 165, 166, 167, 168, 169, 170, 171, 172, 173] rfl (by decide +kernel)
set_option maxRecDepth 100000 in
theorem ggX8_readLump_X8_takeNewName : GoodIn wsX8_readLump wsX8_takeNewName := goodIn_r _ [98, 2, 99, 100, 101, 6, 102, 22, 3, 4, 5, 7, 8, 9, 10, 11, 12, 13, 14, 103, 104, 105, 106, 107, 108, 109, 110, 111, 112, 113, 114, 115, 15, 16, 17, 18, 19, 20, 21, 23, 24, 25, 26, 27, 28, 29, 30, 31, 32, 33, 34, 35, 36, 37, 38, 39, 40, 41, 42, 43, 44, 45, 46, 47, 48, 49, 50, 51, 52, 53, 54, 55, 56, 57, 58, 59, 60, 61, 62, 63, 64, 65, 66, 67, 68, 69, 70, 71, 72, 73, 74, 75, 76, 77, 78, 79, 80, 81, 82, 83, 84, 85, 86, 87, 88, 89, 90, 91, 92, 93, 163, 164, 165, 166, 167, 168, 169, 170, 171, 172, 173, 144, 145, 146, 147, 148, 149, 150, 151, 152, 153, 154, 155, 156, 157, 158, 159, 160, 161, 162] rfl (by decide +kernel)
set_option maxRecDepth 100000 in
theorem ggX8_readLump_X8_readCell : GoodIn wsX8_readLump wsX8_readCell := goodIn_r _ [119, 120, 121, 122, 123, 124, 125, 6, 126, 24, 36, 127, 4, 5, 7, 8, 9, 10, 11, 12, 13, 14, 128, 16, 17, 18, 19, 20, 21, 22, 23, 25, 26, 27, 28, 29, 30, 31, 32, 33, 34, 35, 37, 38, 39, 40, 41, 42, 43, 44, 45, 46, 47, 48, 49, 50, 51, 52, 53, 54, 55, 56, 57, 58, 59, 60, 61, 62, 63, 64, 65, 66, 67, 68, 69, 70, 71, 72, 73, 74, 75, 76, 77, 78, 79, 80, 81, 82, 83, 84, 85, 86, 87, 88, 89, 90, 91, 92, 93, 129, 130, 131, 106, 132, 133, 134, 135, 136, 137, 108, 138, 139, 144, 145, 146, 147, 148, 149, 150, 151, 152, 153, 154, 155, 156, 157, 158, 159, 160, 161, 162, 163, 164, 165, 166, 167, 168, 169, 170, 171, 172, 173] rfl (by decide +kernel)
set_option maxRecDepth 100000 in
theorem ggX8_readLump_X7_addLump : GoodIn wsX8_readLump wsX7_addLump := goodIn_r _ [143, 108, 109, 138, 144, 145, 146, 147, 148, 149, 150, 151, 152, 153, 154, 155, 156, 157, 158, 159, 160, 161, 162] rfl (by decide +kernel)
set_option maxRecDepth 100000 in
theorem ggX8_readLump_X5_refuse : GoodIn wsX8_readLump wsX5_refuse := goodIn_r _ [7, 8, 9, 10, 11, 6, 12, 13, 14, 163, 164, 165, 166, 167, 168, 169, 170, 171, 172, 173] rfl (by decide +kernel)
set_option maxRecDepth 100000 in
theorem ggX8_readBoat_X5_advance : GoodIn wsX8_readBoat wsX5_advance := goodIn_r _ [18, 19, 20, 21, 8, 22, 23, 24, 25, 26, 6, 27, 28, 29, 30, 31, 32, 33, 34, 35, 36, 37, 38, 39, 40, 41, 42, 43, 44, 45, 46, 47, 48, 49, 50, 51, 52, 53, 54, 55, 56, 57, 58, 59, 60, 61, 62, 63, 64, 65, 66, 67, 68, 69, 70, 71, 72, 73, 74, 75, 76, 77, 78, 79, 80, 81, 82, 83, 84, 85, 86, 87, 88, 89, 90, 91, 92, 93, 168, 169, 170, 171, 172, 173, 174, 175, 176, 177, 178] rfl (by decide +kernel)
set_option maxRecDepth 100000 in
theorem ggX8_readBoat_X8_takeNewName : GoodIn wsX8_readBoat wsX8_takeNewName := goodIn_r _ [98, 2, 99, 100, 101, 6, 102, 22, 3, 4, 5, 7, 8, 9, 10, 11, 12, 13, 14, 103, 104, 105, 106, 107, 108, 109, 110, 111, 112, 113, 114, 115, 15, 16, 17, 18, 19, 20, 21, 23, 24, 25, 26, 27, 28, 29, 30, 31, 32, 33, 34, 35, 36, 37, 38, 39, 40, 41, 42, 43, 44, 45, 46, 47, 48, 49, 50, 51, 52, 53, 54, 55, 56, 57, 58, 59, 60, 61, 62, 63, 64, 65, 66, 67, 68, 69, 70, 71, 72, 73, 74, 75, 76, 77, 78, 79, 80, 81, 82, 83, 84, 85, 86, 87, 88, 89, 90, 91, 92, 93, 168, 169, 170, 171, 172, 173, 174, 175, 176, 177, 178, 149, 150, 151, 152, 153, 154, 155, 156, 157, 158, 159, 160, 161, 162, 163, 164, 165, 166, 167] rfl (by decide +kernel)
set_option maxRecDepth 100000 in
theorem ggX8_readBoat_X8_readCell : GoodIn wsX8_readBoat wsX8_readCell := goodIn_r _ [119, 120, 121, 122, 123, 124, 125, 6, 126, 24, 36, 127, 4, 5, 7, 8, 9, 10, 11, 12, 13, 14, 128, 16, 17, 18, 19, 20, 21, 22, 23, 25, 26, 27, 28, 29, 30, 31, 32, 33, 34, 35, 37, 38, 39, 40, 41, 42, 43, 44, 45, 46, 47, 48, 49, 50, 51, 52, 53, 54, 55, 56, 57, 58, 59, 60, 61, 62, 63, 64, 65, 66, 67, 68, 69, 70, 71, 72, 73, 74, 75, 76, 77, 78, 79, 80, 81, 82, 83, 84, 85, 86, 87, 88, 89, 90, 91, 92, 93, 129, 130, 131, 106, 132, 133, 134, 135, 136, 137, 108, 138, 139, 149, 150, 151, 152, 153, 154, 155, 156, 157, 158, 159, 160, 161, 162, 163, 164, 165, 166, 167, 168, 169, 170, 171, 172, 173, 174, 175, 176, 177, 178] rfl (by decide +kernel)
set_option maxRecDepth 100000 in
theorem ggX8_readBoat_X5_takeNumber : GoodIn wsX8_readBoat wsX5_takeNumber := goodIn_r _ [126, 24, 36, 127, 4, 5, 6, 7, 8, 9, 10, 11, 12, 13, 14, 128, 16, 17, 18, 19, 20, 21, 22, 23, 25, 26, 27, 28, 29, 30, 31, 32, 33, 34, 35, 37, 38, 39, 40, 41, 42, 43, 44, 45, 46, 47, 48, 49, 50, 51, 52, 53, 54, 55, 56, 57, 58, 59, 60, 61, 62, 63, 64, 65, 66, 67, 68, 69, 70, 71, 72, 73, 74, 75, 76, 77, 78, 79, 80, 81, 82, 83, 84, 85, 86, 87, 88, 89, 90, 91, 92, 93, 168, 169, 170, 171, 172, 173, 174, 175, 176, 177, 178] rfl (by decide +kernel)
set_option maxRecDepth 100000 in
theorem ggX8_readBoat_X7_addBoat : GoodIn wsX8_readBoat wsX7_addBoat := goodIn_r _ [143, 114, 115, 144, 145, 146, 147, 148, 149, 150, 151, 152, 153, 154, 155, 156, 157, 158, 159, 160, 161, 162, 163, 164, 165, 166, 167] rfl (by decide +kernel)
set_option maxRecDepth 100000 in
theorem ggX8_readBoat_X5_refuse : GoodIn wsX8_readBoat wsX5_refuse := goodIn_r _ [7, 8, 9, 10, 11, 6, 12, 13, 14, 168, 169, 170, 171, 172, 173, 174, 175, 176, 177, 178] rfl (by decide +kernel)
set_option maxRecDepth 100000 in
theorem gX8_readCell_X5_takeNumber : GoodIn wsX8_readCell (wsV RX8 56 RX5 yX5_takeNumber wsX5_takeNumber) := goodIn_app (goodIn_of _ (by decide +kernel)) ggX8_readCell_X5_takeNumber
set_option maxRecDepth 100000 in
theorem gX8_readCell_X7_hasLumpIn : GoodIn wsX8_readCell (wsV RX8 118 RX7 yX7_hasLumpIn wsX7_hasLumpIn) := goodIn_app (goodIn_of _ (by decide +kernel)) ggX8_readCell_X7_hasLumpIn
set_option maxRecDepth 100000 in
theorem gX8_readCell_X5_refuseAt : GoodIn wsX8_readCell (wsV RX8 121 RX5 yX5_refuseAt wsX5_refuseAt) := goodIn_app (goodIn_of _ (by decide +kernel)) ggX8_readCell_X5_refuseAt
set_option maxRecDepth 100000 in
theorem gX8_readCell_X7_thicknessIn : GoodIn wsX8_readCell (wsV RX8 114 RX7 yX7_thicknessIn wsX7_thicknessIn) := goodIn_app (goodIn_of _ (by decide +kernel)) ggX8_readCell_X7_thicknessIn
set_option maxRecDepth 100000 in
theorem gX8_takeNewName_X5_nextWord : GoodIn wsX8_takeNewName (wsV RX8 25 RX5 yX5_nextWord wsX5_nextWord) := goodIn_app (goodIn_of _ (by decide +kernel)) ggX8_takeNewName_X5_nextWord
set_option maxRecDepth 100000 in
theorem gX8_takeNewName_X7_lumpNamed : GoodIn wsX8_takeNewName (wsV RX8 104 RX7 yX7_lumpNamed wsX7_lumpNamed) := goodIn_app (goodIn_of _ (by decide +kernel)) ggX8_takeNewName_X7_lumpNamed
set_option maxRecDepth 100000 in
theorem gX8_takeNewName_X7_boatNamed : GoodIn wsX8_takeNewName (wsV RX8 108 RX7 yX7_boatNamed wsX7_boatNamed) := goodIn_app (goodIn_of _ (by decide +kernel)) ggX8_takeNewName_X7_boatNamed
set_option maxRecDepth 100000 in
theorem gX8_takeNewName_X5_advance : GoodIn wsX8_takeNewName (wsV RX8 53 RX5 yX5_advance wsX5_advance) := goodIn_app (goodIn_of _ (by decide +kernel)) ggX8_takeNewName_X5_advance
set_option maxRecDepth 100000 in
theorem gX8_takeNewName_X5_refuse : GoodIn wsX8_takeNewName (wsV RX8 46 RX5 yX5_refuse wsX5_refuse) := goodIn_app (goodIn_of _ (by decide +kernel)) ggX8_takeNewName_X5_refuse
set_option maxRecDepth 100000 in
theorem gX8_readSize_X5_advance : GoodIn wsX8_readSize (wsV RX8 53 RX5 yX5_advance wsX5_advance) := goodIn_app (goodIn_of _ (by decide +kernel)) ggX8_readSize_X5_advance
set_option maxRecDepth 100000 in
theorem gX8_readSize_X5_takeNumber : GoodIn wsX8_readSize (wsV RX8 56 RX5 yX5_takeNumber wsX5_takeNumber) := goodIn_app (goodIn_of _ (by decide +kernel)) ggX8_readSize_X5_takeNumber
set_option maxRecDepth 100000 in
theorem gX8_readSize_X5_refuse : GoodIn wsX8_readSize (wsV RX8 46 RX5 yX5_refuse wsX5_refuse) := goodIn_app (goodIn_of _ (by decide +kernel)) ggX8_readSize_X5_refuse
set_option maxRecDepth 100000 in
theorem gX8_readSetting_X5_advance : GoodIn wsX8_readSetting (wsV RX8 53 RX5 yX5_advance wsX5_advance) := goodIn_app (goodIn_of _ (by decide +kernel)) ggX8_readSetting_X5_advance
set_option maxRecDepth 100000 in
theorem gX8_readSetting_X5_takeNumber : GoodIn wsX8_readSetting (wsV RX8 56 RX5 yX5_takeNumber wsX5_takeNumber) := goodIn_app (goodIn_of _ (by decide +kernel)) ggX8_readSetting_X5_takeNumber
set_option maxRecDepth 100000 in
theorem gX8_readSetting_X5_refuse : GoodIn wsX8_readSetting (wsV RX8 46 RX5 yX5_refuse wsX5_refuse) := goodIn_app (goodIn_of _ (by decide +kernel)) ggX8_readSetting_X5_refuse
set_option maxRecDepth 100000 in
theorem gX8_readThick_X5_advance : GoodIn wsX8_readThick (wsV RX8 53 RX5 yX5_advance wsX5_advance) := goodIn_app (goodIn_of _ (by decide +kernel)) ggX8_readThick_X5_advance
set_option maxRecDepth 100000 in
theorem gX8_readThick_X8_readCell : GoodIn wsX8_readThick (wsV RX8 75 RX8 yX8_readCell wsX8_readCell) := goodIn_app (goodIn_of _ (by decide +kernel)) ggX8_readThick_X8_readCell
set_option maxRecDepth 100000 in
theorem gX8_readThick_X5_takeNumber : GoodIn wsX8_readThick (wsV RX8 56 RX5 yX5_takeNumber wsX5_takeNumber) := goodIn_app (goodIn_of _ (by decide +kernel)) ggX8_readThick_X5_takeNumber
set_option maxRecDepth 100000 in
theorem gX8_readLump_X5_advance : GoodIn wsX8_readLump (wsV RX8 53 RX5 yX5_advance wsX5_advance) := goodIn_app (goodIn_of _ (by decide +kernel)) ggX8_readLump_X5_advance
set_option maxRecDepth 100000 in
theorem gX8_readLump_X8_takeNewName : GoodIn wsX8_readLump (wsV RX8 90 RX8 yX8_takeNewName wsX8_takeNewName) := goodIn_app (goodIn_of _ (by decide +kernel)) ggX8_readLump_X8_takeNewName
set_option maxRecDepth 100000 in
theorem gX8_readLump_X8_readCell : GoodIn wsX8_readLump (wsV RX8 75 RX8 yX8_readCell wsX8_readCell) := goodIn_app (goodIn_of _ (by decide +kernel)) ggX8_readLump_X8_readCell
set_option maxRecDepth 100000 in
theorem gX8_readLump_X7_addLump : GoodIn wsX8_readLump (wsV RX8 93 RX7 yX7_addLump wsX7_addLump) := goodIn_app (goodIn_of _ (by decide +kernel)) ggX8_readLump_X7_addLump
set_option maxRecDepth 100000 in
theorem gX8_readLump_X5_refuse : GoodIn wsX8_readLump (wsV RX8 46 RX5 yX5_refuse wsX5_refuse) := goodIn_app (goodIn_of _ (by decide +kernel)) ggX8_readLump_X5_refuse
set_option maxRecDepth 100000 in
theorem gX8_readBoat_X5_advance : GoodIn wsX8_readBoat (wsV RX8 53 RX5 yX5_advance wsX5_advance) := goodIn_app (goodIn_of _ (by decide +kernel)) ggX8_readBoat_X5_advance
set_option maxRecDepth 100000 in
theorem gX8_readBoat_X8_takeNewName : GoodIn wsX8_readBoat (wsV RX8 90 RX8 yX8_takeNewName wsX8_takeNewName) := goodIn_app (goodIn_of _ (by decide +kernel)) ggX8_readBoat_X8_takeNewName
set_option maxRecDepth 100000 in
theorem gX8_readBoat_X8_readCell : GoodIn wsX8_readBoat (wsV RX8 75 RX8 yX8_readCell wsX8_readCell) := goodIn_app (goodIn_of _ (by decide +kernel)) ggX8_readBoat_X8_readCell
set_option maxRecDepth 100000 in
theorem gX8_readBoat_X5_takeNumber : GoodIn wsX8_readBoat (wsV RX8 56 RX5 yX5_takeNumber wsX5_takeNumber) := goodIn_app (goodIn_of _ (by decide +kernel)) ggX8_readBoat_X5_takeNumber
set_option maxRecDepth 100000 in
theorem gX8_readBoat_X7_addBoat : GoodIn wsX8_readBoat (wsV RX8 100 RX7 yX7_addBoat wsX7_addBoat) := goodIn_app (goodIn_of _ (by decide +kernel)) ggX8_readBoat_X7_addBoat
set_option maxRecDepth 100000 in
theorem gX8_readBoat_X5_refuse : GoodIn wsX8_readBoat (wsV RX8 46 RX5 yX5_refuse wsX5_refuse) := goodIn_app (goodIn_of _ (by decide +kernel)) ggX8_readBoat_X5_refuse
