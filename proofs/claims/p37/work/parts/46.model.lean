theorem dX12_readThick_0 : decode cX12_readThick 0 = .ok (.aload_n 0, 1) := by decide +kernel
theorem dX12_readThick_1 : decode cX12_readThick 1 = .ok (.invokevirtual 82, 3) := by decide +kernel
theorem dX12_readThick_4 : decode cX12_readThick 4 = .ok (.aload_n 0, 1) := by decide +kernel
theorem dX12_readThick_5 : decode cX12_readThick 5 = .ok (.invokevirtual 204, 3) := by decide +kernel
theorem dX12_readThick_8 : decode cX12_readThick 8 = .ok (.istore_n 1, 1) := by decide +kernel
theorem dX12_readThick_9 : decode cX12_readThick 9 = .ok (.iload_n 1, 1) := by decide +kernel
theorem dX12_readThick_10 : decode cX12_readThick 10 = .ok (.iconst (-1), 1) := by decide +kernel
theorem dX12_readThick_11 : decode cX12_readThick 11 = .ok (.if_icmp .ne 5, 3) := by decide +kernel
theorem dX12_readThick_14 : decode cX12_readThick 14 = .ok (.iconst 0, 1) := by decide +kernel
theorem dX12_readThick_15 : decode cX12_readThick 15 = .ok (.ireturn, 1) := by decide +kernel
theorem dX12_readThick_16 : decode cX12_readThick 16 = .ok (.aload_n 0, 1) := by decide +kernel
theorem dX12_readThick_17 : decode cX12_readThick 17 = .ok (.getfield 101, 3) := by decide +kernel
theorem dX12_readThick_20 : decode cX12_readThick 20 = .ok (.bipush 7, 2) := by decide +kernel
theorem dX12_readThick_22 : decode cX12_readThick 22 = .ok (.iload_n 1, 1) := by decide +kernel
theorem dX12_readThick_23 : decode cX12_readThick 23 = .ok (.iadd, 1) := by decide +kernel
theorem dX12_readThick_24 : decode cX12_readThick 24 = .ok (.iaload, 1) := by decide +kernel
theorem dX12_readThick_25 : decode cX12_readThick 25 = .ok (.ifCond .eq 9, 3) := by decide +kernel
theorem dX12_readThick_34 : decode cX12_readThick 34 = .ok (.aload_n 0, 1) := by decide +kernel
theorem dX12_readThick_35 : decode cX12_readThick 35 = .ok (.invokevirtual 82, 3) := by decide +kernel
theorem dX12_readThick_38 : decode cX12_readThick 38 = .ok (.aload_n 0, 1) := by decide +kernel
theorem dX12_readThick_39 : decode cX12_readThick 39 = .ok (.bipush 7, 2) := by decide +kernel
theorem dX12_readThick_41 : decode cX12_readThick 41 = .ok (.iload_n 1, 1) := by decide +kernel
theorem dX12_readThick_42 : decode cX12_readThick 42 = .ok (.iadd, 1) := by decide +kernel
theorem dX12_readThick_43 : decode cX12_readThick 43 = .ok (.aload_n 0, 1) := by decide +kernel
theorem dX12_readThick_44 : decode cX12_readThick 44 = .ok (.iconst 1, 1) := by decide +kernel
theorem dX12_readThick_45 : decode cX12_readThick 45 = .ok (.bipush 9, 2) := by decide +kernel
theorem dX12_readThick_47 : decode cX12_readThick 47 = .ok (.invokevirtual 200, 3) := by decide +kernel
theorem dX12_readThick_50 : decode cX12_readThick 50 = .ok (.invokevirtual 196, 3) := by decide +kernel
theorem dX12_readThick_53 : decode cX12_readThick 53 = .ok (.ireturn, 1) := by decide +kernel
theorem dX12_readThick_28 : decode cX12_readThick 28 = .ok (.aload_n 0, 1) := by decide +kernel
theorem dX12_readThick_29 : decode cX12_readThick 29 = .ok (.iconst 3, 1) := by decide +kernel
theorem dX12_readThick_30 : decode cX12_readThick 30 = .ok (.invokevirtual 72, 3) := by decide +kernel
theorem dX12_readThick_33 : decode cX12_readThick 33 = .ok (.ireturn, 1) := by decide +kernel
theorem dX12_readLump_0 : decode cX12_readLump 0 = .ok (.aload_n 0, 1) := by decide +kernel
theorem dX12_readLump_1 : decode cX12_readLump 1 = .ok (.iconst 2, 1) := by decide +kernel
theorem dX12_readLump_2 : decode cX12_readLump 2 = .ok (.bipush 6, 2) := by decide +kernel
theorem dX12_readLump_4 : decode cX12_readLump 4 = .ok (.invokevirtual 207, 3) := by decide +kernel
theorem dX12_readLump_7 : decode cX12_readLump 7 = .ok (.ifCond .ne 5, 3) := by decide +kernel
theorem dX12_readLump_12 : decode cX12_readLump 12 = .ok (.aload_n 0, 1) := by decide +kernel
theorem dX12_readLump_13 : decode cX12_readLump 13 = .ok (.getfield 101, 3) := by decide +kernel
theorem dX12_readLump_16 : decode cX12_readLump 16 = .ok (.iconst 2, 1) := by decide +kernel
theorem dX12_readLump_17 : decode cX12_readLump 17 = .ok (.iaload, 1) := by decide +kernel
theorem dX12_readLump_18 : decode cX12_readLump 18 = .ok (.istore_n 1, 1) := by decide +kernel
theorem dX12_readLump_19 : decode cX12_readLump 19 = .ok (.aload_n 0, 1) := by decide +kernel
theorem dX12_readLump_20 : decode cX12_readLump 20 = .ok (.iload_n 1, 1) := by decide +kernel
theorem dX12_readLump_21 : decode cX12_readLump 21 = .ok (.invokevirtual 210, 3) := by decide +kernel
theorem dX12_readLump_24 : decode cX12_readLump 24 = .ok (.ifCond .ne 5, 3) := by decide +kernel
theorem dX12_readLump_29 : decode cX12_readLump 29 = .ok (.aload_n 0, 1) := by decide +kernel
theorem dX12_readLump_30 : decode cX12_readLump 30 = .ok (.invokevirtual 204, 3) := by decide +kernel
theorem dX12_readLump_33 : decode cX12_readLump 33 = .ok (.istore_n 2, 1) := by decide +kernel
theorem dX12_readLump_34 : decode cX12_readLump 34 = .ok (.iload_n 2, 1) := by decide +kernel
theorem dX12_readLump_35 : decode cX12_readLump 35 = .ok (.iconst (-1), 1) := by decide +kernel
theorem dX12_readLump_36 : decode cX12_readLump 36 = .ok (.if_icmp .ne 5, 3) := by decide +kernel
theorem dX12_readLump_39 : decode cX12_readLump 39 = .ok (.iconst 0, 1) := by decide +kernel
theorem dX12_readLump_40 : decode cX12_readLump 40 = .ok (.ireturn, 1) := by decide +kernel
theorem dX12_readLump_41 : decode cX12_readLump 41 = .ok (.iconst 0, 1) := by decide +kernel
theorem dX12_readLump_42 : decode cX12_readLump 42 = .ok (.istore_n 3, 1) := by decide +kernel
theorem dX12_readLump_43 : decode cX12_readLump 43 = .ok (.iload_n 3, 1) := by decide +kernel
theorem dX12_readLump_44 : decode cX12_readLump 44 = .ok (.iload_n 1, 1) := by decide +kernel
theorem dX12_readLump_45 : decode cX12_readLump 45 = .ok (.if_icmp .ge 28, 3) := by decide +kernel
theorem dX12_readLump_73 : decode cX12_readLump 73 = .ok (.aload_n 0, 1) := by decide +kernel
theorem dX12_readLump_74 : decode cX12_readLump 74 = .ok (.getfield 101, 3) := by decide +kernel
theorem dX12_readLump_77 : decode cX12_readLump 77 = .ok (.bipush 43, 2) := by decide +kernel
theorem dX12_readLump_79 : decode cX12_readLump 79 = .ok (.iload_n 1, 1) := by decide +kernel
theorem dX12_readLump_80 : decode cX12_readLump 80 = .ok (.iadd, 1) := by decide +kernel
theorem dX12_readLump_81 : decode cX12_readLump 81 = .ok (.iload_n 2, 1) := by decide +kernel
theorem dX12_readLump_82 : decode cX12_readLump 82 = .ok (.iastore, 1) := by decide +kernel
theorem dX12_readLump_83 : decode cX12_readLump 83 = .ok (.aload_n 0, 1) := by decide +kernel
theorem dX12_readLump_84 : decode cX12_readLump 84 = .ok (.getfield 101, 3) := by decide +kernel
theorem dX12_readLump_87 : decode cX12_readLump 87 = .ok (.iconst 2, 1) := by decide +kernel
theorem dX12_readLump_88 : decode cX12_readLump 88 = .ok (.dup2, 1) := by decide +kernel
theorem dX12_readLump_89 : decode cX12_readLump 89 = .ok (.iaload, 1) := by decide +kernel
theorem dX12_readLump_90 : decode cX12_readLump 90 = .ok (.iconst 1, 1) := by decide +kernel
theorem dX12_readLump_91 : decode cX12_readLump 91 = .ok (.iadd, 1) := by decide +kernel
theorem dX12_readLump_92 : decode cX12_readLump 92 = .ok (.iastore, 1) := by decide +kernel
theorem dX12_readLump_93 : decode cX12_readLump 93 = .ok (.aload_n 0, 1) := by decide +kernel
theorem dX12_readLump_94 : decode cX12_readLump 94 = .ok (.invokevirtual 82, 3) := by decide +kernel
theorem dX12_readLump_97 : decode cX12_readLump 97 = .ok (.iconst 1, 1) := by decide +kernel
theorem dX12_readLump_98 : decode cX12_readLump 98 = .ok (.ireturn, 1) := by decide +kernel
theorem dX12_readLump_48 : decode cX12_readLump 48 = .ok (.aload_n 0, 1) := by decide +kernel
theorem dX12_readLump_49 : decode cX12_readLump 49 = .ok (.getfield 101, 3) := by decide +kernel
theorem dX12_readLump_52 : decode cX12_readLump 52 = .ok (.bipush 43, 2) := by decide +kernel
theorem dX12_readLump_54 : decode cX12_readLump 54 = .ok (.iload_n 3, 1) := by decide +kernel
theorem dX12_readLump_55 : decode cX12_readLump 55 = .ok (.iadd, 1) := by decide +kernel
theorem dX12_readLump_56 : decode cX12_readLump 56 = .ok (.iaload, 1) := by decide +kernel
theorem dX12_readLump_57 : decode cX12_readLump 57 = .ok (.iload_n 2, 1) := by decide +kernel
theorem dX12_readLump_58 : decode cX12_readLump 58 = .ok (.if_icmp .ne 9, 3) := by decide +kernel
theorem dX12_readLump_67 : decode cX12_readLump 67 = .ok (.iinc 3 1, 3) := by decide +kernel
theorem dX12_readLump_70 : decode cX12_readLump 70 = .ok (.goto (-27), 3) := by decide +kernel
theorem dX12_readLump_61 : decode cX12_readLump 61 = .ok (.aload_n 0, 1) := by decide +kernel
theorem dX12_readLump_62 : decode cX12_readLump 62 = .ok (.iconst 3, 1) := by decide +kernel
theorem dX12_readLump_63 : decode cX12_readLump 63 = .ok (.invokevirtual 72, 3) := by decide +kernel
theorem dX12_readLump_66 : decode cX12_readLump 66 = .ok (.ireturn, 1) := by decide +kernel
theorem dX12_readLump_27 : decode cX12_readLump 27 = .ok (.iconst 0, 1) := by decide +kernel
theorem dX12_readLump_28 : decode cX12_readLump 28 = .ok (.ireturn, 1) := by decide +kernel
theorem dX12_readLump_10 : decode cX12_readLump 10 = .ok (.iconst 0, 1) := by decide +kernel
theorem dX12_readLump_11 : decode cX12_readLump 11 = .ok (.ireturn, 1) := by decide +kernel
theorem dX12_readBoat_0 : decode cX12_readBoat 0 = .ok (.aload_n 0, 1) := by decide +kernel
theorem dX12_readBoat_1 : decode cX12_readBoat 1 = .ok (.iconst 3, 1) := by decide +kernel
theorem dX12_readBoat_2 : decode cX12_readBoat 2 = .ok (.bipush 6, 2) := by decide +kernel
theorem dX12_readBoat_4 : decode cX12_readBoat 4 = .ok (.invokevirtual 207, 3) := by decide +kernel
theorem dX12_readBoat_7 : decode cX12_readBoat 7 = .ok (.ifCond .ne 5, 3) := by decide +kernel
theorem dX12_readBoat_12 : decode cX12_readBoat 12 = .ok (.aload_n 0, 1) := by decide +kernel
theorem dX12_readBoat_13 : decode cX12_readBoat 13 = .ok (.getfield 101, 3) := by decide +kernel
theorem dX12_readBoat_16 : decode cX12_readBoat 16 = .ok (.iconst 3, 1) := by decide +kernel
theorem dX12_readBoat_17 : decode cX12_readBoat 17 = .ok (.iaload, 1) := by decide +kernel
theorem dX12_readBoat_18 : decode cX12_readBoat 18 = .ok (.istore_n 1, 1) := by decide +kernel
theorem dX12_readBoat_19 : decode cX12_readBoat 19 = .ok (.aload_n 0, 1) := by decide +kernel
theorem dX12_readBoat_20 : decode cX12_readBoat 20 = .ok (.bipush 6, 2) := by decide +kernel
theorem dX12_readBoat_22 : decode cX12_readBoat 22 = .ok (.iload_n 1, 1) := by decide +kernel
theorem dX12_readBoat_23 : decode cX12_readBoat 23 = .ok (.iadd, 1) := by decide +kernel
theorem dX12_readBoat_24 : decode cX12_readBoat 24 = .ok (.invokevirtual 210, 3) := by decide +kernel
theorem dX12_readBoat_27 : decode cX12_readBoat 27 = .ok (.ifCond .ne 5, 3) := by decide +kernel
theorem dX12_readBoat_32 : decode cX12_readBoat 32 = .ok (.aload_n 0, 1) := by decide +kernel
theorem dX12_readBoat_33 : decode cX12_readBoat 33 = .ok (.invokevirtual 204, 3) := by decide +kernel
theorem dX12_readBoat_36 : decode cX12_readBoat 36 = .ok (.istore_n 2, 1) := by decide +kernel
theorem dX12_readBoat_37 : decode cX12_readBoat 37 = .ok (.iload_n 2, 1) := by decide +kernel
theorem dX12_readBoat_38 : decode cX12_readBoat 38 = .ok (.iconst (-1), 1) := by decide +kernel
theorem dX12_readBoat_39 : decode cX12_readBoat 39 = .ok (.if_icmp .ne 5, 3) := by decide +kernel
theorem dX12_readBoat_42 : decode cX12_readBoat 42 = .ok (.iconst 0, 1) := by decide +kernel
theorem dX12_readBoat_43 : decode cX12_readBoat 43 = .ok (.ireturn, 1) := by decide +kernel
theorem dX12_readBoat_44 : decode cX12_readBoat 44 = .ok (.aload_n 0, 1) := by decide +kernel
theorem dX12_readBoat_45 : decode cX12_readBoat 45 = .ok (.getfield 101, 3) := by decide +kernel
theorem dX12_readBoat_48 : decode cX12_readBoat 48 = .ok (.bipush 49, 2) := by decide +kernel
theorem dX12_readBoat_50 : decode cX12_readBoat 50 = .ok (.iload_n 1, 1) := by decide +kernel
theorem dX12_readBoat_51 : decode cX12_readBoat 51 = .ok (.iadd, 1) := by decide +kernel
theorem dX12_readBoat_52 : decode cX12_readBoat 52 = .ok (.iload_n 2, 1) := by decide +kernel
theorem dX12_readBoat_53 : decode cX12_readBoat 53 = .ok (.iastore, 1) := by decide +kernel
theorem dX12_readBoat_54 : decode cX12_readBoat 54 = .ok (.aload_n 0, 1) := by decide +kernel
theorem dX12_readBoat_55 : decode cX12_readBoat 55 = .ok (.invokevirtual 82, 3) := by decide +kernel
theorem dX12_readBoat_58 : decode cX12_readBoat 58 = .ok (.aload_n 0, 1) := by decide +kernel
theorem dX12_readBoat_59 : decode cX12_readBoat 59 = .ok (.bipush 55, 2) := by decide +kernel
theorem dX12_readBoat_61 : decode cX12_readBoat 61 = .ok (.iload_n 1, 1) := by decide +kernel
theorem dX12_readBoat_62 : decode cX12_readBoat 62 = .ok (.iadd, 1) := by decide +kernel
theorem dX12_readBoat_63 : decode cX12_readBoat 63 = .ok (.aload_n 0, 1) := by decide +kernel
theorem dX12_readBoat_64 : decode cX12_readBoat 64 = .ok (.iconst 0, 1) := by decide +kernel
theorem dX12_readBoat_65 : decode cX12_readBoat 65 = .ok (.bipush 9, 2) := by decide +kernel
theorem dX12_readBoat_67 : decode cX12_readBoat 67 = .ok (.invokevirtual 200, 3) := by decide +kernel
theorem dX12_readBoat_70 : decode cX12_readBoat 70 = .ok (.invokevirtual 196, 3) := by decide +kernel
theorem dX12_readBoat_73 : decode cX12_readBoat 73 = .ok (.ifCond .eq 21, 3) := by decide +kernel
theorem dX12_readBoat_76 : decode cX12_readBoat 76 = .ok (.aload_n 0, 1) := by decide +kernel
theorem dX12_readBoat_77 : decode cX12_readBoat 77 = .ok (.bipush 61, 2) := by decide +kernel
theorem dX12_readBoat_79 : decode cX12_readBoat 79 = .ok (.iload_n 1, 1) := by decide +kernel
theorem dX12_readBoat_80 : decode cX12_readBoat 80 = .ok (.iadd, 1) := by decide +kernel
theorem dX12_readBoat_81 : decode cX12_readBoat 81 = .ok (.aload_n 0, 1) := by decide +kernel
theorem dX12_readBoat_82 : decode cX12_readBoat 82 = .ok (.iconst 1, 1) := by decide +kernel
theorem dX12_readBoat_83 : decode cX12_readBoat 83 = .ok (.bipush 9, 2) := by decide +kernel
theorem dX12_readBoat_85 : decode cX12_readBoat 85 = .ok (.invokevirtual 200, 3) := by decide +kernel
theorem dX12_readBoat_88 : decode cX12_readBoat 88 = .ok (.invokevirtual 196, 3) := by decide +kernel
theorem dX12_readBoat_91 : decode cX12_readBoat 91 = .ok (.ifCond .ne 5, 3) := by decide +kernel
theorem dX12_readBoat_96 : decode cX12_readBoat 96 = .ok (.aload_n 0, 1) := by decide +kernel
theorem dX12_readBoat_97 : decode cX12_readBoat 97 = .ok (.getfield 101, 3) := by decide +kernel
theorem dX12_readBoat_100 : decode cX12_readBoat 100 = .ok (.iconst 3, 1) := by decide +kernel
theorem dX12_readBoat_101 : decode cX12_readBoat 101 = .ok (.dup2, 1) := by decide +kernel
theorem dX12_readBoat_102 : decode cX12_readBoat 102 = .ok (.iaload, 1) := by decide +kernel
theorem dX12_readBoat_103 : decode cX12_readBoat 103 = .ok (.iconst 1, 1) := by decide +kernel
theorem dX12_readBoat_104 : decode cX12_readBoat 104 = .ok (.iadd, 1) := by decide +kernel
theorem dX12_readBoat_105 : decode cX12_readBoat 105 = .ok (.iastore, 1) := by decide +kernel
theorem dX12_readBoat_106 : decode cX12_readBoat 106 = .ok (.iconst 1, 1) := by decide +kernel
theorem dX12_readBoat_107 : decode cX12_readBoat 107 = .ok (.ireturn, 1) := by decide +kernel
theorem dX12_readBoat_94 : decode cX12_readBoat 94 = .ok (.iconst 0, 1) := by decide +kernel
theorem dX12_readBoat_95 : decode cX12_readBoat 95 = .ok (.ireturn, 1) := by decide +kernel
theorem dX12_readBoat_30 : decode cX12_readBoat 30 = .ok (.iconst 0, 1) := by decide +kernel
theorem dX12_readBoat_31 : decode cX12_readBoat 31 = .ok (.ireturn, 1) := by decide +kernel
theorem dX12_readBoat_10 : decode cX12_readBoat 10 = .ok (.iconst 0, 1) := by decide +kernel
theorem dX12_readBoat_11 : decode cX12_readBoat 11 = .ok (.ireturn, 1) := by decide +kernel
theorem dX12_readLine_0 : decode cX12_readLine 0 = .ok (.aload_n 0, 1) := by decide +kernel
theorem dX12_readLine_1 : decode cX12_readLine 1 = .ok (.iconst 0, 1) := by decide +kernel
theorem dX12_readLine_2 : decode cX12_readLine 2 = .ok (.invokevirtual 213, 3) := by decide +kernel
theorem dX12_readLine_5 : decode cX12_readLine 5 = .ok (.ifCond .eq 8, 3) := by decide +kernel
theorem dX12_readLine_13 : decode cX12_readLine 13 = .ok (.aload_n 0, 1) := by decide +kernel
theorem dX12_readLine_14 : decode cX12_readLine 14 = .ok (.iconst 1, 1) := by decide +kernel
theorem dX12_readLine_15 : decode cX12_readLine 15 = .ok (.invokevirtual 213, 3) := by decide +kernel
theorem dX12_readLine_18 : decode cX12_readLine 18 = .ok (.ifCond .eq 8, 3) := by decide +kernel
theorem dX12_readLine_26 : decode cX12_readLine 26 = .ok (.aload_n 0, 1) := by decide +kernel
theorem dX12_readLine_27 : decode cX12_readLine 27 = .ok (.iconst 2, 1) := by decide +kernel
theorem dX12_readLine_28 : decode cX12_readLine 28 = .ok (.invokevirtual 213, 3) := by decide +kernel
theorem dX12_readLine_31 : decode cX12_readLine 31 = .ok (.ifCond .eq 8, 3) := by decide +kernel
theorem dX12_readLine_39 : decode cX12_readLine 39 = .ok (.aload_n 0, 1) := by decide +kernel
theorem dX12_readLine_40 : decode cX12_readLine 40 = .ok (.iconst 3, 1) := by decide +kernel
theorem dX12_readLine_41 : decode cX12_readLine 41 = .ok (.invokevirtual 213, 3) := by decide +kernel
theorem dX12_readLine_44 : decode cX12_readLine 44 = .ok (.ifCond .eq 8, 3) := by decide +kernel
theorem dX12_readLine_52 : decode cX12_readLine 52 = .ok (.aload_n 0, 1) := by decide +kernel
theorem dX12_readLine_53 : decode cX12_readLine 53 = .ok (.iconst 4, 1) := by decide +kernel
theorem dX12_readLine_54 : decode cX12_readLine 54 = .ok (.invokevirtual 213, 3) := by decide +kernel
theorem dX12_readLine_57 : decode cX12_readLine 57 = .ok (.ifCond .eq 32, 3) := by decide +kernel
theorem dX12_readLine_89 : decode cX12_readLine 89 = .ok (.aload_n 0, 1) := by decide +kernel
theorem dX12_readLine_90 : decode cX12_readLine 90 = .ok (.iconst 5, 1) := by decide +kernel
theorem dX12_readLine_91 : decode cX12_readLine 91 = .ok (.invokevirtual 213, 3) := by decide +kernel
theorem dX12_readLine_94 : decode cX12_readLine 94 = .ok (.ifCond .eq 31, 3) := by decide +kernel
theorem dX12_readLine_125 : decode cX12_readLine 125 = .ok (.aload_n 0, 1) := by decide +kernel
theorem dX12_readLine_126 : decode cX12_readLine 126 = .ok (.bipush 6, 2) := by decide +kernel
theorem dX12_readLine_128 : decode cX12_readLine 128 = .ok (.invokevirtual 213, 3) := by decide +kernel
theorem dX12_readLine_131 : decode cX12_readLine 131 = .ok (.ifCond .eq 35, 3) := by decide +kernel
theorem dX12_readLine_166 : decode cX12_readLine 166 = .ok (.aload_n 0, 1) := by decide +kernel
theorem dX12_readLine_167 : decode cX12_readLine 167 = .ok (.iconst 1, 1) := by decide +kernel
theorem dX12_readLine_168 : decode cX12_readLine 168 = .ok (.invokevirtual 72, 3) := by decide +kernel
theorem dX12_readLine_171 : decode cX12_readLine 171 = .ok (.ireturn, 1) := by decide +kernel
theorem dX12_readLine_134 : decode cX12_readLine 134 = .ok (.aload_n 0, 1) := by decide +kernel
theorem dX12_readLine_135 : decode cX12_readLine 135 = .ok (.iconst 2, 1) := by decide +kernel
theorem dX12_readLine_136 : decode cX12_readLine 136 = .ok (.invokevirtual 190, 3) := by decide +kernel
theorem dX12_readLine_139 : decode cX12_readLine 139 = .ok (.ifCond .eq 23, 3) := by decide +kernel
theorem dX12_readLine_142 : decode cX12_readLine 142 = .ok (.aload_n 0, 1) := by decide +kernel
theorem dX12_readLine_143 : decode cX12_readLine 143 = .ok (.bipush 6, 2) := by decide +kernel
theorem dX12_readLine_145 : decode cX12_readLine 145 = .ok (.aload_n 0, 1) := by decide +kernel
theorem dX12_readLine_146 : decode cX12_readLine 146 = .ok (.iconst 0, 1) := by decide +kernel
theorem dX12_readLine_147 : decode cX12_readLine 147 = .ok (.bipush 30, 2) := by decide +kernel
theorem dX12_readLine_149 : decode cX12_readLine 149 = .ok (.invokevirtual 200, 3) := by decide +kernel
theorem dX12_readLine_152 : decode cX12_readLine 152 = .ok (.invokevirtual 196, 3) := by decide +kernel
theorem dX12_readLine_155 : decode cX12_readLine 155 = .ok (.ifCond .eq 7, 3) := by decide +kernel
theorem dX12_readLine_158 : decode cX12_readLine 158 = .ok (.iconst 1, 1) := by decide +kernel
theorem dX12_readLine_159 : decode cX12_readLine 159 = .ok (.goto 12, 3) := by decide +kernel
theorem dX12_readLine_162 : decode cX12_readLine 162 = .ok (.iconst 0, 1) := by decide +kernel
theorem dX12_readLine_163 : decode cX12_readLine 163 = .ok (.goto 8, 3) := by decide +kernel
theorem dX12_readLine_97 : decode cX12_readLine 97 = .ok (.aload_n 0, 1) := by decide +kernel
theorem dX12_readLine_98 : decode cX12_readLine 98 = .ok (.iconst 1, 1) := by decide +kernel
theorem dX12_readLine_99 : decode cX12_readLine 99 = .ok (.invokevirtual 190, 3) := by decide +kernel
theorem dX12_readLine_102 : decode cX12_readLine 102 = .ok (.ifCond .eq 21, 3) := by decide +kernel
theorem dX12_readLine_105 : decode cX12_readLine 105 = .ok (.aload_n 0, 1) := by decide +kernel
theorem dX12_readLine_106 : decode cX12_readLine 106 = .ok (.iconst 5, 1) := by decide +kernel
theorem dX12_readLine_107 : decode cX12_readLine 107 = .ok (.aload_n 0, 1) := by decide +kernel
theorem dX12_readLine_108 : decode cX12_readLine 108 = .ok (.iconst 0, 1) := by decide +kernel
theorem dX12_readLine_109 : decode cX12_readLine 109 = .ok (.iconst 5, 1) := by decide +kernel
theorem dX12_readLine_110 : decode cX12_readLine 110 = .ok (.invokevirtual 200, 3) := by decide +kernel
theorem dX12_readLine_113 : decode cX12_readLine 113 = .ok (.invokevirtual 196, 3) := by decide +kernel
theorem dX12_readLine_116 : decode cX12_readLine 116 = .ok (.ifCond .eq 7, 3) := by decide +kernel
theorem dX12_readLine_119 : decode cX12_readLine 119 = .ok (.iconst 1, 1) := by decide +kernel
theorem dX12_readLine_120 : decode cX12_readLine 120 = .ok (.goto 4, 3) := by decide +kernel
theorem dX12_readLine_124 : decode cX12_readLine 124 = .ok (.ireturn, 1) := by decide +kernel
theorem dX12_readLine_123 : decode cX12_readLine 123 = .ok (.iconst 0, 1) := by decide +kernel
theorem dX12_readLine_60 : decode cX12_readLine 60 = .ok (.aload_n 0, 1) := by decide +kernel
theorem dX12_readLine_61 : decode cX12_readLine 61 = .ok (.iconst 0, 1) := by decide +kernel
theorem dX12_readLine_62 : decode cX12_readLine 62 = .ok (.invokevirtual 190, 3) := by decide +kernel
theorem dX12_readLine_65 : decode cX12_readLine 65 = .ok (.ifCond .eq 22, 3) := by decide +kernel
theorem dX12_readLine_68 : decode cX12_readLine 68 = .ok (.aload_n 0, 1) := by decide +kernel
theorem dX12_readLine_69 : decode cX12_readLine 69 = .ok (.iconst 4, 1) := by decide +kernel
theorem dX12_readLine_70 : decode cX12_readLine 70 = .ok (.aload_n 0, 1) := by decide +kernel
theorem dX12_readLine_71 : decode cX12_readLine 71 = .ok (.iconst 0, 1) := by decide +kernel
theorem dX12_readLine_72 : decode cX12_readLine 72 = .ok (.bipush 30, 2) := by decide +kernel
theorem dX12_readLine_74 : decode cX12_readLine 74 = .ok (.invokevirtual 200, 3) := by decide +kernel
theorem dX12_readLine_77 : decode cX12_readLine 77 = .ok (.invokevirtual 196, 3) := by decide +kernel
theorem dX12_readLine_80 : decode cX12_readLine 80 = .ok (.ifCond .eq 7, 3) := by decide +kernel
theorem dX12_readLine_83 : decode cX12_readLine 83 = .ok (.iconst 1, 1) := by decide +kernel
theorem dX12_readLine_84 : decode cX12_readLine 84 = .ok (.goto 4, 3) := by decide +kernel
theorem dX12_readLine_88 : decode cX12_readLine 88 = .ok (.ireturn, 1) := by decide +kernel
theorem dX12_readLine_87 : decode cX12_readLine 87 = .ok (.iconst 0, 1) := by decide +kernel
theorem dX12_readLine_47 : decode cX12_readLine 47 = .ok (.aload_n 0, 1) := by decide +kernel
theorem dX12_readLine_48 : decode cX12_readLine 48 = .ok (.invokevirtual 225, 3) := by decide +kernel
theorem dX12_readLine_51 : decode cX12_readLine 51 = .ok (.ireturn, 1) := by decide +kernel
theorem dX12_readLine_34 : decode cX12_readLine 34 = .ok (.aload_n 0, 1) := by decide +kernel
theorem dX12_readLine_35 : decode cX12_readLine 35 = .ok (.invokevirtual 222, 3) := by decide +kernel
theorem dX12_readLine_38 : decode cX12_readLine 38 = .ok (.ireturn, 1) := by decide +kernel
theorem dX12_readLine_21 : decode cX12_readLine 21 = .ok (.aload_n 0, 1) := by decide +kernel
theorem dX12_readLine_22 : decode cX12_readLine 22 = .ok (.invokevirtual 219, 3) := by decide +kernel
theorem dX12_readLine_25 : decode cX12_readLine 25 = .ok (.ireturn, 1) := by decide +kernel
theorem dX12_readLine_8 : decode cX12_readLine 8 = .ok (.aload_n 0, 1) := by decide +kernel
theorem dX12_readLine_9 : decode cX12_readLine 9 = .ok (.invokevirtual 216, 3) := by decide +kernel
theorem dX12_readLine_12 : decode cX12_readLine 12 = .ok (.ireturn, 1) := by decide +kernel
set_option maxRecDepth 100000 in
theorem ggX12_readThick_X12_go : GoodIn wsX12_readThick wsX12_go := goodIn_r _ [6, 7, 8, 9, 10, 11, 12, 13, 14, 15, 16, 17, 18, 19, 5, 20, 21, 22, 23, 24, 25, 26, 27, 51, 52, 53, 54, 55, 56, 57, 58, 59, 60, 61, 62, 63, 64, 65, 66, 67, 68, 69, 70, 71, 72, 73, 74, 75, 76, 77, 78, 79, 80, 81, 82, 83, 84, 85, 86, 87, 88, 89, 90, 91, 92, 93, 94, 95, 96, 97, 98, 99, 100, 101, 102] rfl (by decide +kernel)
set_option maxRecDepth 100000 in
theorem ggX12_readThick_X12_readCell : GoodIn wsX12_readThick wsX12_readCell := goodIn_r _ [31, 32, 1, 33, 12, 15, 34, 35, 36, 5, 37, 38, 39, 40, 41, 42, 10, 43, 44, 45, 46, 2, 3, 4, 6, 7, 8, 9, 11, 13, 14, 16, 17, 18, 19, 20, 21, 22, 23, 24, 25, 26, 27, 51, 52, 53, 54, 55, 56, 57, 58, 59, 60, 61, 62, 63, 64, 65, 66, 67, 68, 69, 70, 71, 72, 73, 74, 75, 76, 77, 78, 79, 80, 81, 82, 83, 84, 85, 86, 87, 88, 89, 90, 91, 92, 93, 94, 95, 96, 97, 98, 99, 100, 101, 102] rfl (by decide +kernel)
set_option maxRecDepth 100000 in
theorem ggX12_readThick_X12_readNumber : GoodIn wsX12_readThick wsX12_readNumber := goodIn_r _ [37, 12, 15, 33, 38, 39, 40, 5, 41, 42, 10, 43, 44, 45, 46, 2, 3, 4, 6, 7, 8, 9, 11, 13, 14, 16, 17, 18, 19, 20, 21, 22, 23, 24, 25, 26, 27, 51, 52, 53, 54, 55, 56, 57, 58, 59, 60, 61, 62, 63, 64, 65, 66, 67, 68, 69, 70, 71, 72, 73, 74, 75, 76, 77, 78, 79, 80, 81, 82, 83, 84, 85, 86, 87, 88, 89, 90, 91, 92, 93, 94, 95, 96, 97, 98, 99, 100, 101, 102] rfl (by decide +kernel)
set_option maxRecDepth 100000 in
theorem ggX12_readThick_X12_put : GoodIn wsX12_readThick wsX12_put := goodIn_r _ [50, 1, 33, 51, 52, 53, 54, 55, 56, 57, 58, 59, 60, 61, 62, 63, 64, 65, 66, 67, 68, 69, 70, 71, 72, 73, 74, 75, 76, 77, 78, 79, 80, 81, 82, 83, 84, 85, 86, 87, 88, 89, 90, 91, 92, 93, 94, 95, 96, 97, 98, 99, 100, 101, 102] rfl (by decide +kernel)
set_option maxRecDepth 100000 in
theorem ggX12_readThick_X12_bad : GoodIn wsX12_readThick wsX12_bad := goodIn_r _ [41, 12, 42, 10, 43, 51, 52, 53, 54, 55, 56, 57, 58, 59, 60, 61, 62, 63, 64, 65, 66, 67, 68, 69, 70, 71, 72, 73, 74, 75, 76, 77, 78, 79, 80, 81, 82, 83, 84, 85, 86, 87, 88, 89, 90, 91, 92, 93, 94, 95, 96, 97, 98, 99, 100, 101, 102] rfl (by decide +kernel)
set_option maxRecDepth 100000 in
theorem ggX12_readLump_X12_readFirst : GoodIn wsX12_readLump wsX12_readFirst := goodIn_r _ [6, 1, 7, 8, 9, 5, 10, 11, 12, 13, 14, 15, 16, 17, 18, 19, 20, 21, 22, 23, 24, 25, 26, 27, 28, 29, 30, 31, 32, 33, 34, 35, 36, 37, 69, 70, 71, 72, 73, 74, 75, 76, 77, 78, 79, 80, 81, 82, 83, 84, 85, 86, 87, 88, 89, 90, 91, 92, 93, 94, 95, 96, 97, 98, 99, 100, 101, 102, 103, 104, 105, 106, 107, 108, 109, 110, 111, 112, 113, 114, 115, 116, 117, 118, 119, 120] rfl (by decide +kernel)
set_option maxRecDepth 100000 in
theorem ggX12_readLump_X12_readNew : GoodIn wsX12_readLump wsX12_readNew := goodIn_r _ [41, 42, 1, 24, 43, 44, 45, 5, 46, 11, 47, 48, 49, 50, 51, 52, 26, 27, 7, 8, 9, 10, 12, 13, 14, 53, 54, 55, 15, 16, 17, 18, 19, 20, 21, 22, 23, 25, 28, 29, 30, 31, 32, 33, 34, 35, 36, 37, 69, 70, 71, 72, 73, 74, 75, 76, 77, 78, 79, 80, 81, 82, 83, 84, 85, 86, 87, 88, 89, 90, 91, 92, 93, 94, 95, 96, 97, 98, 99, 100, 101, 102, 103, 104, 105, 106, 107, 108, 109, 110, 111, 112, 113, 114, 115, 116, 117, 118, 119, 120] rfl (by decide +kernel)
set_option maxRecDepth 100000 in
theorem ggX12_readLump_X12_readCell : GoodIn wsX12_readLump wsX12_readCell := goodIn_r _ [59, 60, 1, 61, 11, 25, 62, 63, 64, 5, 65, 7, 8, 9, 10, 12, 13, 14, 66, 67, 68, 15, 16, 17, 18, 19, 20, 21, 22, 23, 24, 26, 27, 28, 29, 30, 31, 32, 33, 34, 35, 36, 37, 69, 70, 71, 72, 73, 74, 75, 76, 77, 78, 79, 80, 81, 82, 83, 84, 85, 86, 87, 88, 89, 90, 91, 92, 93, 94, 95, 96, 97, 98, 99, 100, 101, 102, 103, 104, 105, 106, 107, 108, 109, 110, 111, 112, 113, 114, 115, 116, 117, 118, 119, 120] rfl (by decide +kernel)
set_option maxRecDepth 100000 in
theorem ggX12_readLump_X12_go : GoodIn wsX12_readLump wsX12_go := goodIn_r _ [18, 19, 20, 21, 13, 22, 11, 23, 24, 25, 26, 27, 28, 29, 5, 30, 31, 32, 33, 34, 35, 36, 37, 69, 70, 71, 72, 73, 74, 75, 76, 77, 78, 79, 80, 81, 82, 83, 84, 85, 86, 87, 88, 89, 90, 91, 92, 93, 94, 95, 96, 97, 98, 99, 100, 101, 102, 103, 104, 105, 106, 107, 108, 109, 110, 111, 112, 113, 114, 115, 116, 117, 118, 119, 120] rfl (by decide +kernel)
set_option maxRecDepth 100000 in
theorem ggX12_readLump_X12_bad : GoodIn wsX12_readLump wsX12_bad := goodIn_r _ [10, 11, 12, 13, 14, 69, 70, 71, 72, 73, 74, 75, 76, 77, 78, 79, 80, 81, 82, 83, 84, 85, 86, 87, 88, 89, 90, 91, 92, 93, 94, 95, 96, 97, 98, 99, 100, 101, 102, 103, 104, 105, 106, 107, 108, 109, 110, 111, 112, 113, 114, 115, 116, 117, 118, 119, 120] rfl (by decide +kernel)
set_option maxRecDepth 100000 in
theorem ggX12_readBoat_X12_readFirst : GoodIn wsX12_readBoat wsX12_readFirst := goodIn_r _ [6, 1, 7, 8, 9, 5, 10, 11, 12, 13, 14, 15, 16, 17, 18, 19, 20, 21, 22, 23, 24, 25, 26, 27, 28, 29, 30, 31, 32, 33, 34, 35, 36, 37, 73, 74, 75, 76, 77, 78, 79, 80, 81, 82, 83, 84, 85, 86, 87, 88, 89, 90, 91, 92, 93, 94, 95, 96, 97, 98, 99, 100, 101, 102, 103, 104, 105, 106, 107, 108, 109, 110, 111, 112, 113, 114, 115, 116, 117, 118, 119, 120, 121, 122, 123, 124] rfl (by decide +kernel)
set_option maxRecDepth 100000 in
theorem ggX12_readBoat_X12_readNew : GoodIn wsX12_readBoat wsX12_readNew := goodIn_r _ [41, 42, 1, 24, 43, 44, 45, 5, 46, 11, 47, 48, 49, 50, 51, 52, 26, 27, 7, 8, 9, 10, 12, 13, 14, 53, 54, 55, 15, 16, 17, 18, 19, 20, 21, 22, 23, 25, 28, 29, 30, 31, 32, 33, 34, 35, 36, 37, 73, 74, 75, 76, 77, 78, 79, 80, 81, 82, 83, 84, 85, 86, 87, 88, 89, 90, 91, 92, 93, 94, 95, 96, 97, 98, 99, 100, 101, 102, 103, 104, 105, 106, 107, 108, 109, 110, 111, 112, 113, 114, 115, 116, 117, 118, 119, 120, 121, 122, 123, 124] rfl (by decide +kernel)
set_option maxRecDepth 100000 in
theorem ggX12_readBoat_X12_readCell : GoodIn wsX12_readBoat wsX12_readCell := goodIn_r _ [59, 60, 1, 61, 11, 25, 62, 63, 64, 5, 65, 7, 8, 9, 10, 12, 13, 14, 66, 67, 68, 15, 16, 17, 18, 19, 20, 21, 22, 23, 24, 26, 27, 28, 29, 30, 31, 32, 33, 34, 35, 36, 37, 73, 74, 75, 76, 77, 78, 79, 80, 81, 82, 83, 84, 85, 86, 87, 88, 89, 90, 91, 92, 93, 94, 95, 96, 97, 98, 99, 100, 101, 102, 103, 104, 105, 106, 107, 108, 109, 110, 111, 112, 113, 114, 115, 116, 117, 118, 119, 120, 121, 122, 123, 124] rfl (by decide +kernel)
set_option maxRecDepth 100000 in
theorem ggX12_readBoat_X12_go : GoodIn wsX12_readBoat wsX12_go := goodIn_r _ [18, 19, 20, 21, 13, 22, 11, 23, 24, 25, 26, 27, 28, 29, 5, 30, 31, 32, 33, 34, 35, 36, 37, 73, 74, 75, 76, 77, 78, 79, 80, 81, 82, 83, 84, 85, 86, 87, 88, 89, 90, 91, 92, 93, 94, 95, 96, 97, 98, 99, 100, 101, 102, 103, 104, 105, 106, 107, 108, 109, 110, 111, 112, 113, 114, 115, 116, 117, 118, 119, 120, 121, 122, 123, 124] rfl (by decide +kernel)
set_option maxRecDepth 100000 in
theorem ggX12_readBoat_X12_readNumber : GoodIn wsX12_readBoat wsX12_readNumber := goodIn_r _ [65, 11, 25, 61, 7, 8, 9, 5, 10, 12, 13, 14, 66, 67, 68, 15, 16, 17, 18, 19, 20, 21, 22, 23, 24, 26, 27, 28, 29, 30, 31, 32, 33, 34, 35, 36, 37, 73, 74, 75, 76, 77, 78, 79, 80, 81, 82, 83, 84, 85, 86, 87, 88, 89, 90, 91, 92, 93, 94, 95, 96, 97, 98, 99, 100, 101, 102, 103, 104, 105, 106, 107, 108, 109, 110, 111, 112, 113, 114, 115, 116, 117, 118, 119, 120, 121, 122, 123, 124] rfl (by decide +kernel)
set_option maxRecDepth 100000 in
theorem ggX12_readBoat_X12_put : GoodIn wsX12_readBoat wsX12_put := goodIn_r _ [72, 1, 61, 73, 74, 75, 76, 77, 78, 79, 80, 81, 82, 83, 84, 85, 86, 87, 88, 89, 90, 91, 92, 93, 94, 95, 96, 97, 98, 99, 100, 101, 102, 103, 104, 105, 106, 107, 108, 109, 110, 111, 112, 113, 114, 115, 116, 117, 118, 119, 120, 121, 122, 123, 124] rfl (by decide +kernel)
set_option maxRecDepth 100000 in
theorem ggX12_readLine_X12_isWord : GoodIn wsX12_readLine wsX12_isWord := goodIn_r _ [5, 6, 7, 8, 9, 4, 10, 11, 12, 13, 14, 15, 102, 103, 104, 105, 106, 107, 108, 109, 110, 111, 112, 113, 114, 115, 116, 117, 118, 119, 120, 121, 122, 123, 124, 125, 126, 127, 128, 129, 130, 131, 132, 133, 134, 135, 136, 137, 138, 139, 140, 141, 142, 143, 144, 145, 146, 147, 148, 149, 150, 151, 152, 153] rfl (by decide +kernel)
set_option maxRecDepth 100000 in
theorem ggX12_readLine_X12_bad : GoodIn wsX12_readLine wsX12_bad := goodIn_r _ [24, 6, 25, 26, 27, 102, 103, 104, 105, 106, 107, 108, 109, 110, 111, 112, 113, 114, 115, 116, 117, 118, 119, 120, 121, 122, 123, 124, 125, 126, 127, 128, 129, 130, 131, 132, 133, 134, 135, 136, 137, 138, 139, 140, 141, 142, 143, 144, 145, 146, 147, 148, 149, 150, 151, 152, 153] rfl (by decide +kernel)
set_option maxRecDepth 100000 in
theorem ggX12_readLine_X12_isFresh : GoodIn wsX12_readLine wsX12_isFresh := goodIn_r _ [31, 32, 21, 22, 23, 4, 24, 6, 25, 26, 27, 33, 34, 35, 36, 37, 38, 39, 40, 41, 7, 42, 14, 15, 43, 44, 45, 46, 47, 48, 49, 50, 51, 52, 102, 103, 104, 105, 106, 107, 108, 109, 110, 111, 112, 113, 114, 115, 116, 117, 118, 119, 120, 121, 122, 123, 124, 125, 126, 127, 128, 129, 130, 131, 132, 133, 134, 135, 136, 137, 138, 139, 140, 141, 142, 143, 144, 145, 146, 147, 148, 149, 150, 151, 152, 153] rfl (by decide +kernel)
set_option maxRecDepth 100000 in
theorem ggX12_readLine_X12_readNumber : GoodIn wsX12_readLine wsX12_readNumber := goodIn_r _ [60, 6, 42, 61, 21, 22, 23, 4, 24, 25, 26, 27, 62, 63, 64, 33, 34, 35, 36, 37, 38, 39, 40, 41, 7, 14, 15, 43, 44, 45, 46, 47, 48, 49, 50, 51, 52, 102, 103, 104, 105, 106, 107, 108, 109, 110, 111, 112, 113, 114, 115, 116, 117, 118, 119, 120, 121, 122, 123, 124, 125, 126, 127, 128, 129, 130, 131, 132, 133, 134, 135, 136, 137, 138, 139, 140, 141, 142, 143, 144, 145, 146, 147, 148, 149, 150, 151, 152, 153] rfl (by decide +kernel)
set_option maxRecDepth 100000 in
theorem ggX12_readLine_X12_put : GoodIn wsX12_readLine wsX12_put := goodIn_r _ [68, 69, 61, 102, 103, 104, 105, 106, 107, 108, 109, 110, 111, 112, 113, 114, 115, 116, 117, 118, 119, 120, 121, 122, 123, 124, 125, 126, 127, 128, 129, 130, 131, 132, 133, 134, 135, 136, 137, 138, 139, 140, 141, 142, 143, 144, 145, 146, 147, 148, 149, 150, 151, 152, 153] rfl (by decide +kernel)
set_option maxRecDepth 100000 in
theorem ggX12_readLine_X12_readBoat : GoodIn wsX12_readLine wsX12_readBoat := goodIn_r _ [101, 69, 82, 83, 84, 4, 85, 21, 22, 23, 24, 6, 25, 26, 27, 33, 34, 35, 36, 37, 38, 39, 40, 41, 7, 42, 14, 15, 43, 44, 45, 46, 47, 48, 49, 50, 51, 52, 86, 87, 88, 89, 90, 91, 92, 93, 94, 8, 9, 10, 11, 12, 13, 95, 96, 97, 74, 75, 76, 77, 20, 61, 57, 58, 59, 60, 62, 63, 64, 65, 66, 67, 68, 102, 103, 104, 105, 106, 107, 108, 109, 110, 111, 112, 113, 114, 115, 116, 117, 118, 119, 120, 121, 122, 123, 124, 125, 126, 127, 128, 129, 130, 131, 132, 133, 134, 135, 136, 137, 138, 139, 140, 141, 142, 143, 144, 145, 146, 147, 148, 149, 150, 151, 152, 153] rfl (by decide +kernel)
set_option maxRecDepth 100000 in
theorem ggX12_readLine_X12_readLump : GoodIn wsX12_readLine wsX12_readLump := goodIn_r _ [81, 69, 82, 83, 84, 4, 85, 21, 22, 23, 24, 6, 25, 26, 27, 33, 34, 35, 36, 37, 38, 39, 40, 41, 7, 42, 14, 15, 43, 44, 45, 46, 47, 48, 49, 50, 51, 52, 86, 87, 88, 89, 90, 91, 92, 93, 94, 8, 9, 10, 11, 12, 13, 95, 96, 97, 74, 75, 76, 77, 20, 61, 57, 58, 59, 60, 62, 63, 64, 102, 103, 104, 105, 106, 107, 108, 109, 110, 111, 112, 113, 114, 115, 116, 117, 118, 119, 120, 121, 122, 123, 124, 125, 126, 127, 128, 129, 130, 131, 132, 133, 134, 135, 136, 137, 138, 139, 140, 141, 142, 143, 144, 145, 146, 147, 148, 149, 150, 151, 152, 153] rfl (by decide +kernel)
set_option maxRecDepth 100000 in
theorem ggX12_readLine_X12_readThick : GoodIn wsX12_readLine wsX12_readThick := goodIn_r _ [73, 69, 33, 34, 35, 4, 36, 37, 38, 39, 26, 40, 6, 41, 7, 42, 14, 15, 43, 44, 45, 46, 47, 48, 49, 50, 51, 52, 74, 75, 76, 77, 20, 61, 57, 58, 59, 60, 21, 22, 23, 24, 25, 27, 62, 63, 64, 65, 66, 67, 68, 102, 103, 104, 105, 106, 107, 108, 109, 110, 111, 112, 113, 114, 115, 116, 117, 118, 119, 120, 121, 122, 123, 124, 125, 126, 127, 128, 129, 130, 131, 132, 133, 134, 135, 136, 137, 138, 139, 140, 141, 142, 143, 144, 145, 146, 147, 148, 149, 150, 151, 152, 153] rfl (by decide +kernel)
set_option maxRecDepth 100000 in
theorem ggX12_readLine_X12_readSea : GoodIn wsX12_readLine wsX12_readSea := goodIn_r _ [19, 20, 21, 22, 23, 4, 24, 6, 25, 26, 27, 28, 29, 30, 31, 32, 33, 34, 35, 36, 37, 38, 39, 40, 41, 7, 42, 14, 15, 43, 44, 45, 46, 47, 48, 49, 50, 51, 52, 53, 54, 55, 56, 57, 58, 59, 60, 61, 62, 63, 64, 65, 66, 67, 68, 69, 102, 103, 104, 105, 106, 107, 108, 109, 110, 111, 112, 113, 114, 115, 116, 117, 118, 119, 120, 121, 122, 123, 124, 125, 126, 127, 128, 129, 130, 131, 132, 133, 134, 135, 136, 137, 138, 139, 140, 141, 142, 143, 144, 145, 146, 147, 148, 149, 150, 151, 152, 153] rfl (by decide +kernel)
set_option maxRecDepth 100000 in
theorem gX12_readThick_X12_go : GoodIn wsX12_readThick (wsV RX12 82 RX12 yX12_go wsX12_go) := goodIn_app (goodIn_of _ (by decide +kernel)) ggX12_readThick_X12_go
set_option maxRecDepth 100000 in
theorem gX12_readThick_X12_readCell : GoodIn wsX12_readThick (wsV RX12 204 RX12 yX12_readCell wsX12_readCell) := goodIn_app (goodIn_of _ (by decide +kernel)) ggX12_readThick_X12_readCell
set_option maxRecDepth 100000 in
theorem gX12_readThick_X12_readNumber : GoodIn wsX12_readThick (wsV RX12 200 RX12 yX12_readNumber wsX12_readNumber) := goodIn_app (goodIn_of _ (by decide +kernel)) ggX12_readThick_X12_readNumber
set_option maxRecDepth 100000 in
theorem gX12_readThick_X12_put : GoodIn wsX12_readThick (wsV RX12 196 RX12 yX12_put wsX12_put) := goodIn_app (goodIn_of _ (by decide +kernel)) ggX12_readThick_X12_put
set_option maxRecDepth 100000 in
theorem gX12_readThick_X12_bad : GoodIn wsX12_readThick (wsV RX12 72 RX12 yX12_bad wsX12_bad) := goodIn_app (goodIn_of _ (by decide +kernel)) ggX12_readThick_X12_bad
set_option maxRecDepth 100000 in
theorem gX12_readLump_X12_readFirst : GoodIn wsX12_readLump (wsV RX12 207 RX12 yX12_readFirst wsX12_readFirst) := goodIn_app (goodIn_of _ (by decide +kernel)) ggX12_readLump_X12_readFirst
set_option maxRecDepth 100000 in
theorem gX12_readLump_X12_readNew : GoodIn wsX12_readLump (wsV RX12 210 RX12 yX12_readNew wsX12_readNew) := goodIn_app (goodIn_of _ (by decide +kernel)) ggX12_readLump_X12_readNew
set_option maxRecDepth 100000 in
theorem gX12_readLump_X12_readCell : GoodIn wsX12_readLump (wsV RX12 204 RX12 yX12_readCell wsX12_readCell) := goodIn_app (goodIn_of _ (by decide +kernel)) ggX12_readLump_X12_readCell
set_option maxRecDepth 100000 in
theorem gX12_readLump_X12_go : GoodIn wsX12_readLump (wsV RX12 82 RX12 yX12_go wsX12_go) := goodIn_app (goodIn_of _ (by decide +kernel)) ggX12_readLump_X12_go
set_option maxRecDepth 100000 in
theorem gX12_readLump_X12_bad : GoodIn wsX12_readLump (wsV RX12 72 RX12 yX12_bad wsX12_bad) := goodIn_app (goodIn_of _ (by decide +kernel)) ggX12_readLump_X12_bad
set_option maxRecDepth 100000 in
theorem gX12_readBoat_X12_readFirst : GoodIn wsX12_readBoat (wsV RX12 207 RX12 yX12_readFirst wsX12_readFirst) := goodIn_app (goodIn_of _ (by decide +kernel)) ggX12_readBoat_X12_readFirst
set_option maxRecDepth 100000 in
theorem gX12_readBoat_X12_readNew : GoodIn wsX12_readBoat (wsV RX12 210 RX12 yX12_readNew wsX12_readNew) := goodIn_app (goodIn_of _ (by decide +kernel)) ggX12_readBoat_X12_readNew
set_option maxRecDepth 100000 in
theorem gX12_readBoat_X12_readCell : GoodIn wsX12_readBoat (wsV RX12 204 RX12 yX12_readCell wsX12_readCell) := goodIn_app (goodIn_of _ (by decide +kernel)) ggX12_readBoat_X12_readCell
set_option maxRecDepth 100000 in
theorem gX12_readBoat_X12_go : GoodIn wsX12_readBoat (wsV RX12 82 RX12 yX12_go wsX12_go) := goodIn_app (goodIn_of _ (by decide +kernel)) ggX12_readBoat_X12_go
set_option maxRecDepth 100000 in
theorem gX12_readBoat_X12_readNumber : GoodIn wsX12_readBoat (wsV RX12 200 RX12 yX12_readNumber wsX12_readNumber) := goodIn_app (goodIn_of _ (by decide +kernel)) ggX12_readBoat_X12_readNumber
set_option maxRecDepth 100000 in
theorem gX12_readBoat_X12_put : GoodIn wsX12_readBoat (wsV RX12 196 RX12 yX12_put wsX12_put) := goodIn_app (goodIn_of _ (by decide +kernel)) ggX12_readBoat_X12_put
set_option maxRecDepth 100000 in
theorem gX12_readLine_X12_isWord : GoodIn wsX12_readLine (wsV RX12 213 RX12 yX12_isWord wsX12_isWord) := goodIn_app (goodIn_of _ (by decide +kernel)) ggX12_readLine_X12_isWord
set_option maxRecDepth 100000 in
theorem gX12_readLine_X12_bad : GoodIn wsX12_readLine (wsV RX12 72 RX12 yX12_bad wsX12_bad) := goodIn_app (goodIn_of _ (by decide +kernel)) ggX12_readLine_X12_bad
set_option maxRecDepth 100000 in
theorem gX12_readLine_X12_isFresh : GoodIn wsX12_readLine (wsV RX12 190 RX12 yX12_isFresh wsX12_isFresh) := goodIn_app (goodIn_of _ (by decide +kernel)) ggX12_readLine_X12_isFresh
set_option maxRecDepth 100000 in
theorem gX12_readLine_X12_readNumber : GoodIn wsX12_readLine (wsV RX12 200 RX12 yX12_readNumber wsX12_readNumber) := goodIn_app (goodIn_of _ (by decide +kernel)) ggX12_readLine_X12_readNumber
set_option maxRecDepth 100000 in
theorem gX12_readLine_X12_put : GoodIn wsX12_readLine (wsV RX12 196 RX12 yX12_put wsX12_put) := goodIn_app (goodIn_of _ (by decide +kernel)) ggX12_readLine_X12_put
set_option maxRecDepth 100000 in
theorem gX12_readLine_X12_readBoat : GoodIn wsX12_readLine (wsV RX12 225 RX12 yX12_readBoat wsX12_readBoat) := goodIn_app (goodIn_of _ (by decide +kernel)) ggX12_readLine_X12_readBoat
set_option maxRecDepth 100000 in
theorem gX12_readLine_X12_readLump : GoodIn wsX12_readLine (wsV RX12 222 RX12 yX12_readLump wsX12_readLump) := goodIn_app (goodIn_of _ (by decide +kernel)) ggX12_readLine_X12_readLump
set_option maxRecDepth 100000 in
theorem gX12_readLine_X12_readThick : GoodIn wsX12_readLine (wsV RX12 219 RX12 yX12_readThick wsX12_readThick) := goodIn_app (goodIn_of _ (by decide +kernel)) ggX12_readLine_X12_readThick
set_option maxRecDepth 100000 in
theorem gX12_readLine_X12_readSea : GoodIn wsX12_readLine (wsV RX12 216 RX12 yX12_readSea wsX12_readSea) := goodIn_app (goodIn_of _ (by decide +kernel)) ggX12_readLine_X12_readSea
