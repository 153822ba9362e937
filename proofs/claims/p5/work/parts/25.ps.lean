theorem dX11_commonDivisor_0 : decode cX11_commonDivisor 0 = .ok (.iload_n 1, 1) := by decide +kernel
theorem dX11_commonDivisor_1 : decode cX11_commonDivisor 1 = .ok (.istore_n 2, 1) := by decide +kernel
theorem dX11_commonDivisor_2 : decode cX11_commonDivisor 2 = .ok (.iload_n 2, 1) := by decide +kernel
theorem dX11_commonDivisor_3 : decode cX11_commonDivisor 3 = .ok (.iconst 1, 1) := by decide +kernel
theorem dX11_commonDivisor_4 : decode cX11_commonDivisor 4 = .ok (.if_icmp .le 23, 3) := by decide +kernel
theorem dX11_commonDivisor_27 : decode cX11_commonDivisor 27 = .ok (.iconst 1, 1) := by decide +kernel
theorem dX11_commonDivisor_28 : decode cX11_commonDivisor 28 = .ok (.ireturn, 1) := by decide +kernel
theorem dX11_commonDivisor_7 : decode cX11_commonDivisor 7 = .ok (.iload_n 0, 1) := by decide +kernel
theorem dX11_commonDivisor_8 : decode cX11_commonDivisor 8 = .ok (.iload_n 2, 1) := by decide +kernel
theorem dX11_commonDivisor_9 : decode cX11_commonDivisor 9 = .ok (.irem, 1) := by decide +kernel
theorem dX11_commonDivisor_10 : decode cX11_commonDivisor 10 = .ok (.ifCond .ne 11, 3) := by decide +kernel
theorem dX11_commonDivisor_21 : decode cX11_commonDivisor 21 = .ok (.iinc 2 (-1), 3) := by decide +kernel
theorem dX11_commonDivisor_24 : decode cX11_commonDivisor 24 = .ok (.goto (-22), 3) := by decide +kernel
theorem dX11_commonDivisor_13 : decode cX11_commonDivisor 13 = .ok (.iload_n 1, 1) := by decide +kernel
theorem dX11_commonDivisor_14 : decode cX11_commonDivisor 14 = .ok (.iload_n 2, 1) := by decide +kernel
theorem dX11_commonDivisor_15 : decode cX11_commonDivisor 15 = .ok (.irem, 1) := by decide +kernel
theorem dX11_commonDivisor_16 : decode cX11_commonDivisor 16 = .ok (.ifCond .ne 5, 3) := by decide +kernel
theorem dX11_commonDivisor_19 : decode cX11_commonDivisor 19 = .ok (.iload_n 2, 1) := by decide +kernel
theorem dX11_commonDivisor_20 : decode cX11_commonDivisor 20 = .ok (.ireturn, 1) := by decide +kernel
theorem dX11_fleet_0 : decode cX11_fleet 0 = .ok (.iload_n 1, 1) := by decide +kernel
theorem dX11_fleet_1 : decode cX11_fleet 1 = .ok (.iconst 1, 1) := by decide +kernel
theorem dX11_fleet_2 : decode cX11_fleet 2 = .ok (.if_icmp .lt 9, 3) := by decide +kernel
theorem dX11_fleet_11 : decode cX11_fleet 11 = .ok (.iconst (-1), 1) := by decide +kernel
theorem dX11_fleet_12 : decode cX11_fleet 12 = .ok (.ireturn, 1) := by decide +kernel
theorem dX11_fleet_5 : decode cX11_fleet 5 = .ok (.iload_n 1, 1) := by decide +kernel
theorem dX11_fleet_6 : decode cX11_fleet 6 = .ok (.bipush 54, 2) := by decide +kernel
theorem dX11_fleet_8 : decode cX11_fleet 8 = .ok (.if_icmp .le 5, 3) := by decide +kernel
theorem dX11_fleet_13 : decode cX11_fleet 13 = .ok (.aload_n 0, 1) := by decide +kernel
theorem dX11_fleet_14 : decode cX11_fleet 14 = .ok (.getfield 26, 3) := by decide +kernel
theorem dX11_fleet_17 : decode cX11_fleet 17 = .ok (.invokevirtual 181, 3) := by decide +kernel
theorem dX11_fleet_20 : decode cX11_fleet 20 = .ok (.istore_n 2, 1) := by decide +kernel
theorem dX11_fleet_21 : decode cX11_fleet 21 = .ok (.iconst 0, 1) := by decide +kernel
theorem dX11_fleet_22 : decode cX11_fleet 22 = .ok (.istore_n 3, 1) := by decide +kernel
theorem dX11_fleet_23 : decode cX11_fleet 23 = .ok (.iconst 1, 1) := by decide +kernel
theorem dX11_fleet_24 : decode cX11_fleet 24 = .ok (.istore 4, 2) := by decide +kernel
theorem dX11_fleet_26 : decode cX11_fleet 26 = .ok (.iload 4, 2) := by decide +kernel
theorem dX11_fleet_28 : decode cX11_fleet 28 = .ok (.iconst 1, 1) := by decide +kernel
theorem dX11_fleet_29 : decode cX11_fleet 29 = .ok (.aload_n 0, 1) := by decide +kernel
theorem dX11_fleet_30 : decode cX11_fleet 30 = .ok (.getfield 26, 3) := by decide +kernel
theorem dX11_fleet_33 : decode cX11_fleet 33 = .ok (.getfield 206, 3) := by decide +kernel
theorem dX11_fleet_36 : decode cX11_fleet 36 = .ok (.ishl, 1) := by decide +kernel
theorem dX11_fleet_37 : decode cX11_fleet 37 = .ok (.if_icmp .ge 60, 3) := by decide +kernel
theorem dX11_fleet_97 : decode cX11_fleet 97 = .ok (.iload_n 3, 1) := by decide +kernel
theorem dX11_fleet_98 : decode cX11_fleet 98 = .ok (.ifCond .ne 5, 3) := by decide +kernel
theorem dX11_fleet_101 : decode cX11_fleet 101 = .ok (.iconst (-1), 1) := by decide +kernel
theorem dX11_fleet_102 : decode cX11_fleet 102 = .ok (.ireturn, 1) := by decide +kernel
theorem dX11_fleet_40 : decode cX11_fleet 40 = .ok (.iload_n 3, 1) := by decide +kernel
theorem dX11_fleet_41 : decode cX11_fleet 41 = .ok (.ifCond .eq 15, 3) := by decide +kernel
theorem dX11_fleet_56 : decode cX11_fleet 56 = .ok (.iconst 1, 1) := by decide +kernel
theorem dX11_fleet_57 : decode cX11_fleet 57 = .ok (.goto 4, 3) := by decide +kernel
theorem dX11_fleet_61 : decode cX11_fleet 61 = .ok (.istore 5, 2) := by decide +kernel
theorem dX11_fleet_63 : decode cX11_fleet 63 = .ok (.iload 5, 2) := by decide +kernel
theorem dX11_fleet_65 : decode cX11_fleet 65 = .ok (.ifCond .eq 26, 3) := by decide +kernel
theorem dX11_fleet_68 : decode cX11_fleet 68 = .ok (.iload 4, 2) := by decide +kernel
theorem dX11_fleet_70 : decode cX11_fleet 70 = .ok (.iload_n 2, 1) := by decide +kernel
theorem dX11_fleet_71 : decode cX11_fleet 71 = .ok (.iand, 1) := by decide +kernel
theorem dX11_fleet_72 : decode cX11_fleet 72 = .ok (.ifCond .ne 19, 3) := by decide +kernel
theorem dX11_fleet_91 : decode cX11_fleet 91 = .ok (.iinc 4 1, 3) := by decide +kernel
theorem dX11_fleet_94 : decode cX11_fleet 94 = .ok (.goto (-68), 3) := by decide +kernel
theorem dX11_fleet_75 : decode cX11_fleet 75 = .ok (.aload_n 0, 1) := by decide +kernel
theorem dX11_fleet_76 : decode cX11_fleet 76 = .ok (.getfield 26, 3) := by decide +kernel
theorem dX11_fleet_79 : decode cX11_fleet 79 = .ok (.iload 4, 2) := by decide +kernel
theorem dX11_fleet_81 : decode cX11_fleet 81 = .ok (.invokevirtual 300, 3) := by decide +kernel
theorem dX11_fleet_84 : decode cX11_fleet 84 = .ok (.iload_n 1, 1) := by decide +kernel
theorem dX11_fleet_85 : decode cX11_fleet 85 = .ok (.if_icmp .lt 6, 3) := by decide +kernel
theorem dX11_fleet_88 : decode cX11_fleet 88 = .ok (.iload 4, 2) := by decide +kernel
theorem dX11_fleet_90 : decode cX11_fleet 90 = .ok (.istore_n 3, 1) := by decide +kernel
theorem dX11_fleet_103 : decode cX11_fleet 103 = .ok (.aload_n 0, 1) := by decide +kernel
theorem dX11_fleet_104 : decode cX11_fleet 104 = .ok (.iload_n 3, 1) := by decide +kernel
theorem dX11_fleet_105 : decode cX11_fleet 105 = .ok (.putfield 106, 3) := by decide +kernel
theorem dX11_fleet_108 : decode cX11_fleet 108 = .ok (.iload_n 3, 1) := by decide +kernel
theorem dX11_fleet_109 : decode cX11_fleet 109 = .ok (.invokestatic 295, 3) := by decide +kernel
theorem dX11_fleet_112 : decode cX11_fleet 112 = .ok (.ireturn, 1) := by decide +kernel
theorem dX11_fleet_44 : decode cX11_fleet 44 = .ok (.iload 4, 2) := by decide +kernel
theorem dX11_fleet_46 : decode cX11_fleet 46 = .ok (.invokestatic 295, 3) := by decide +kernel
theorem dX11_fleet_49 : decode cX11_fleet 49 = .ok (.iload_n 3, 1) := by decide +kernel
theorem dX11_fleet_50 : decode cX11_fleet 50 = .ok (.invokestatic 295, 3) := by decide +kernel
theorem dX11_fleet_53 : decode cX11_fleet 53 = .ok (.if_icmp .ge 7, 3) := by decide +kernel
theorem dX11_fleet_60 : decode cX11_fleet 60 = .ok (.iconst 0, 1) := by decide +kernel
theorem dX11_fleets_0 : decode cX11_fleets 0 = .ok (.aload_n 0, 1) := by decide +kernel
theorem dX11_fleets_1 : decode cX11_fleets 1 = .ok (.getfield 106, 3) := by decide +kernel
theorem dX11_fleets_4 : decode cX11_fleets 4 = .ok (.ireturn, 1) := by decide +kernel
theorem dX11_odds_0 : decode cX11_odds 0 = .ok (.aload_n 0, 1) := by decide +kernel
theorem dX11_odds_1 : decode cX11_odds 1 = .ok (.getfield 26, 3) := by decide +kernel
theorem dX11_odds_4 : decode cX11_odds 4 = .ok (.iload_n 1, 1) := by decide +kernel
theorem dX11_odds_5 : decode cX11_odds 5 = .ok (.invokevirtual 157, 3) := by decide +kernel
theorem dX11_odds_8 : decode cX11_odds 8 = .ok (.ifCond .eq 14, 3) := by decide +kernel
theorem dX11_odds_11 : decode cX11_odds 11 = .ok (.iload_n 2, 1) := by decide +kernel
theorem dX11_odds_12 : decode cX11_odds 12 = .ok (.iconst 1, 1) := by decide +kernel
theorem dX11_odds_13 : decode cX11_odds 13 = .ok (.if_icmp .lt 9, 3) := by decide +kernel
theorem dX11_odds_22 : decode cX11_odds 22 = .ok (.iconst (-1), 1) := by decide +kernel
theorem dX11_odds_23 : decode cX11_odds 23 = .ok (.ireturn, 1) := by decide +kernel
theorem dX11_odds_16 : decode cX11_odds 16 = .ok (.iload_n 2, 1) := by decide +kernel
theorem dX11_odds_17 : decode cX11_odds 17 = .ok (.bipush 30, 2) := by decide +kernel
theorem dX11_odds_19 : decode cX11_odds 19 = .ok (.if_icmp .le 5, 3) := by decide +kernel
theorem dX11_odds_24 : decode cX11_odds 24 = .ok (.iconst 0, 1) := by decide +kernel
theorem dX11_odds_25 : decode cX11_odds 25 = .ok (.istore 4, 2) := by decide +kernel
theorem dX11_odds_27 : decode cX11_odds 27 = .ok (.iconst 0, 1) := by decide +kernel
theorem dX11_odds_28 : decode cX11_odds 28 = .ok (.istore 5, 2) := by decide +kernel
theorem dX11_odds_30 : decode cX11_odds 30 = .ok (.iload 5, 2) := by decide +kernel
theorem dX11_odds_32 : decode cX11_odds 32 = .ok (.iload_n 2, 1) := by decide +kernel
theorem dX11_odds_33 : decode cX11_odds 33 = .ok (.if_icmp .ge 59, 3) := by decide +kernel
theorem dX11_odds_92 : decode cX11_odds 92 = .ok (.iload 4, 2) := by decide +kernel
theorem dX11_odds_94 : decode cX11_odds 94 = .ok (.ireturn, 1) := by decide +kernel
theorem dX11_odds_36 : decode cX11_odds 36 = .ok (.aload_n 0, 1) := by decide +kernel
theorem dX11_odds_37 : decode cX11_odds 37 = .ok (.getfield 26, 3) := by decide +kernel
theorem dX11_odds_40 : decode cX11_odds 40 = .ok (.aload_n 0, 1) := by decide +kernel
theorem dX11_odds_41 : decode cX11_odds 41 = .ok (.getfield 30, 3) := by decide +kernel
theorem dX11_odds_44 : decode cX11_odds 44 = .ok (.invokestatic 129, 3) := by decide +kernel
theorem dX11_odds_47 : decode cX11_odds 47 = .ok (.aload_n 0, 1) := by decide +kernel
theorem dX11_odds_48 : decode cX11_odds 48 = .ok (.getfield 81, 3) := by decide +kernel
theorem dX11_odds_51 : decode cX11_odds 51 = .ok (.aload_n 0, 1) := by decide +kernel
theorem dX11_odds_52 : decode cX11_odds 52 = .ok (.getfield 30, 3) := by decide +kernel
theorem dX11_odds_55 : decode cX11_odds 55 = .ok (.bipush 20, 2) := by decide +kernel
theorem dX11_odds_57 : decode cX11_odds 57 = .ok (.iload_n 3, 1) := by decide +kernel
theorem dX11_odds_58 : decode cX11_odds 58 = .ok (.iload 5, 2) := by decide +kernel
theorem dX11_odds_60 : decode cX11_odds 60 = .ok (.iadd, 1) := by decide +kernel
theorem dX11_odds_61 : decode cX11_odds 61 = .ok (.invokevirtual 254, 3) := by decide +kernel
theorem dX11_odds_64 : decode cX11_odds 64 = .ok (.pop, 1) := by decide +kernel
theorem dX11_odds_65 : decode cX11_odds 65 = .ok (.iload 4, 2) := by decide +kernel
theorem dX11_odds_67 : decode cX11_odds 67 = .ok (.aload_n 0, 1) := by decide +kernel
theorem dX11_odds_68 : decode cX11_odds 68 = .ok (.getfield 30, 3) := by decide +kernel
theorem dX11_odds_71 : decode cX11_odds 71 = .ok (.iload_n 1, 1) := by decide +kernel
theorem dX11_odds_72 : decode cX11_odds 72 = .ok (.invokevirtual 303, 3) := by decide +kernel
theorem dX11_odds_75 : decode cX11_odds 75 = .ok (.ifCond .eq 7, 3) := by decide +kernel
theorem dX11_odds_78 : decode cX11_odds 78 = .ok (.iconst 1, 1) := by decide +kernel
theorem dX11_odds_79 : decode cX11_odds 79 = .ok (.goto 4, 3) := by decide +kernel
theorem dX11_odds_83 : decode cX11_odds 83 = .ok (.iadd, 1) := by decide +kernel
theorem dX11_odds_84 : decode cX11_odds 84 = .ok (.istore 4, 2) := by decide +kernel
theorem dX11_odds_86 : decode cX11_odds 86 = .ok (.iinc 5 1, 3) := by decide +kernel
theorem dX11_odds_89 : decode cX11_odds 89 = .ok (.goto (-59), 3) := by decide +kernel
theorem dX11_odds_82 : decode cX11_odds 82 = .ok (.iconst 0, 1) := by decide +kernel
theorem dX11_writeByte_0 : decode cX11_writeByte 0 = .ok (.aload_n 0, 1) := by decide +kernel
theorem dX11_writeByte_1 : decode cX11_writeByte 1 = .ok (.getfield 103, 3) := by decide +kernel
theorem dX11_writeByte_4 : decode cX11_writeByte 4 = .ok (.bipush 32, 2) := by decide +kernel
theorem dX11_writeByte_6 : decode cX11_writeByte 6 = .ok (.if_icmp .ge 24, 3) := by decide +kernel
theorem dX11_writeByte_30 : decode cX11_writeByte 30 = .ok (.return_, 1) := by decide +kernel
theorem dX11_writeByte_9 : decode cX11_writeByte 9 = .ok (.aload_n 0, 1) := by decide +kernel
theorem dX11_writeByte_10 : decode cX11_writeByte 10 = .ok (.getfield 99, 3) := by decide +kernel
theorem dX11_writeByte_13 : decode cX11_writeByte 13 = .ok (.aload_n 0, 1) := by decide +kernel
theorem dX11_writeByte_14 : decode cX11_writeByte 14 = .ok (.getfield 103, 3) := by decide +kernel
theorem dX11_writeByte_17 : decode cX11_writeByte 17 = .ok (.iload_n 1, 1) := by decide +kernel
theorem dX11_writeByte_18 : decode cX11_writeByte 18 = .ok (.i2b, 1) := by decide +kernel
theorem dX11_writeByte_19 : decode cX11_writeByte 19 = .ok (.bastore, 1) := by decide +kernel
theorem dX11_writeByte_20 : decode cX11_writeByte 20 = .ok (.aload_n 0, 1) := by decide +kernel
theorem dX11_writeByte_21 : decode cX11_writeByte 21 = .ok (.dup, 1) := by decide +kernel
theorem dX11_writeByte_22 : decode cX11_writeByte 22 = .ok (.getfield 103, 3) := by decide +kernel
theorem dX11_writeByte_25 : decode cX11_writeByte 25 = .ok (.iconst 1, 1) := by decide +kernel
theorem dX11_writeByte_26 : decode cX11_writeByte 26 = .ok (.iadd, 1) := by decide +kernel
theorem dX11_writeByte_27 : decode cX11_writeByte 27 = .ok (.putfield 103, 3) := by decide +kernel
theorem dX11_writeDigit_0 : decode cX11_writeDigit 0 = .ok (.aload_n 0, 1) := by decide +kernel
theorem dX11_writeDigit_1 : decode cX11_writeDigit 1 = .ok (.bipush 48, 2) := by decide +kernel
theorem dX11_writeDigit_3 : decode cX11_writeDigit 3 = .ok (.iload_n 1, 1) := by decide +kernel
theorem dX11_writeDigit_4 : decode cX11_writeDigit 4 = .ok (.iadd, 1) := by decide +kernel
theorem dX11_writeDigit_5 : decode cX11_writeDigit 5 = .ok (.invokevirtual 334, 3) := by decide +kernel
theorem dX11_writeDigit_8 : decode cX11_writeDigit 8 = .ok (.return_, 1) := by decide +kernel
theorem dX11_writeName_0 : decode cX11_writeName 0 = .ok (.bipush 48, 2) := by decide +kernel
theorem dX11_writeName_2 : decode cX11_writeName 2 = .ok (.istore_n 3, 1) := by decide +kernel
theorem dX11_writeName_3 : decode cX11_writeName 3 = .ok (.iload_n 3, 1) := by decide +kernel
theorem dX11_writeName_4 : decode cX11_writeName 4 = .ok (.ifCond .lt 30, 3) := by decide +kernel
theorem dX11_writeName_7 : decode cX11_writeName 7 = .ok (.lload_n 1, 1) := by decide +kernel
theorem dX11_writeName_8 : decode cX11_writeName 8 = .ok (.iload_n 3, 1) := by decide +kernel
theorem dX11_writeName_9 : decode cX11_writeName 9 = .ok (.lushr, 1) := by decide +kernel
theorem dX11_writeName_10 : decode cX11_writeName 10 = .ok (.l2i, 1) := by decide +kernel
theorem dX11_writeName_11 : decode cX11_writeName 11 = .ok (.sipush 255, 3) := by decide +kernel
theorem dX11_writeName_14 : decode cX11_writeName 14 = .ok (.iand, 1) := by decide +kernel
theorem dX11_writeName_15 : decode cX11_writeName 15 = .ok (.istore 4, 2) := by decide +kernel
theorem dX11_writeName_17 : decode cX11_writeName 17 = .ok (.iload 4, 2) := by decide +kernel
theorem dX11_writeName_19 : decode cX11_writeName 19 = .ok (.ifCond .eq 9, 3) := by decide +kernel
theorem dX11_writeName_22 : decode cX11_writeName 22 = .ok (.aload_n 0, 1) := by decide +kernel
theorem dX11_writeName_23 : decode cX11_writeName 23 = .ok (.iload 4, 2) := by decide +kernel
theorem dX11_writeName_25 : decode cX11_writeName 25 = .ok (.invokevirtual 334, 3) := by decide +kernel
theorem dX11_writeName_28 : decode cX11_writeName 28 = .ok (.iinc 3 (-8), 3) := by decide +kernel
theorem dX11_writeName_31 : decode cX11_writeName 31 = .ok (.goto (-28), 3) := by decide +kernel
theorem dX11_writeName_34 : decode cX11_writeName 34 = .ok (.return_, 1) := by decide +kernel
theorem dX11_write_0 : decode cX11_write 0 = .ok (.iconst 0, 1) := by decide +kernel
theorem dX11_write_1 : decode cX11_write 1 = .ok (.istore_n 2, 1) := by decide +kernel
theorem dX11_write_2 : decode cX11_write 2 = .ok (.iload_n 2, 1) := by decide +kernel
theorem dX11_write_3 : decode cX11_write 3 = .ok (.aload_n 1, 1) := by decide +kernel
theorem dX11_write_4 : decode cX11_write 4 = .ok (.invokevirtual 337, 3) := by decide +kernel
theorem dX11_write_7 : decode cX11_write 7 = .ok (.if_icmp .ge 18, 3) := by decide +kernel
theorem dX11_write_10 : decode cX11_write 10 = .ok (.aload_n 0, 1) := by decide +kernel
theorem dX11_write_11 : decode cX11_write 11 = .ok (.aload_n 1, 1) := by decide +kernel
theorem dX11_write_12 : decode cX11_write 12 = .ok (.iload_n 2, 1) := by decide +kernel
theorem dX11_write_13 : decode cX11_write 13 = .ok (.invokevirtual 342, 3) := by decide +kernel
theorem dX11_write_16 : decode cX11_write 16 = .ok (.invokevirtual 334, 3) := by decide +kernel
theorem dX11_write_19 : decode cX11_write 19 = .ok (.iinc 2 1, 3) := by decide +kernel
theorem dX11_write_22 : decode cX11_write 22 = .ok (.goto (-20), 3) := by decide +kernel
theorem dX11_write_25 : decode cX11_write 25 = .ok (.return_, 1) := by decide +kernel
theorem dX11_chart_0 : decode cX11_chart 0 = .ok (.aload_n 0, 1) := by decide +kernel
theorem dX11_chart_1 : decode cX11_chart 1 = .ok (.getfield 26, 3) := by decide +kernel
theorem dX11_chart_4 : decode cX11_chart 4 = .ok (.iload_n 1, 1) := by decide +kernel
theorem dX11_chart_5 : decode cX11_chart 5 = .ok (.invokevirtual 157, 3) := by decide +kernel
theorem dX11_chart_8 : decode cX11_chart 8 = .ok (.ifCond .ne 5, 3) := by decide +kernel
theorem dX11_chart_13 : decode cX11_chart 13 = .ok (.aload_n 0, 1) := by decide +kernel
theorem dX11_chart_14 : decode cX11_chart 14 = .ok (.iconst 0, 1) := by decide +kernel
theorem dX11_chart_15 : decode cX11_chart 15 = .ok (.putfield 103, 3) := by decide +kernel
theorem dX11_chart_18 : decode cX11_chart 18 = .ok (.aload_n 0, 1) := by decide +kernel
theorem dX11_chart_19 : decode cX11_chart 19 = .ok (.aload_n 0, 1) := by decide +kernel
theorem dX11_chart_20 : decode cX11_chart 20 = .ok (.getfield 26, 3) := by decide +kernel
theorem dX11_chart_23 : decode cX11_chart 23 = .ok (.getfield 306, 3) := by decide +kernel
theorem dX11_chart_26 : decode cX11_chart 26 = .ok (.iload_n 1, 1) := by decide +kernel
theorem dX11_chart_27 : decode cX11_chart 27 = .ok (.laload, 1) := by decide +kernel
theorem dX11_chart_28 : decode cX11_chart 28 = .ok (.invokevirtual 310, 3) := by decide +kernel
theorem dX11_chart_31 : decode cX11_chart 31 = .ok (.aload_n 0, 1) := by decide +kernel
theorem dX11_chart_32 : decode cX11_chart 32 = .ok (.getfield 26, 3) := by decide +kernel
theorem dX11_chart_35 : decode cX11_chart 35 = .ok (.iload_n 1, 1) := by decide +kernel
theorem dX11_chart_36 : decode cX11_chart 36 = .ok (.invokevirtual 303, 3) := by decide +kernel
theorem dX11_chart_39 : decode cX11_chart 39 = .ok (.ifCond .eq 15, 3) := by decide +kernel
theorem dX11_chart_42 : decode cX11_chart 42 = .ok (.aload_n 0, 1) := by decide +kernel
theorem dX11_chart_43 : decode cX11_chart 43 = .ok (.ldc_w 314, 3) := by decide +kernel
theorem dX11_chart_46 : decode cX11_chart 46 = .ok (.invokevirtual 316, 3) := by decide +kernel
theorem dX11_chart_49 : decode cX11_chart 49 = .ok (.aload_n 0, 1) := by decide +kernel
theorem dX11_chart_50 : decode cX11_chart 50 = .ok (.getfield 103, 3) := by decide +kernel
theorem dX11_chart_53 : decode cX11_chart 53 = .ok (.ireturn, 1) := by decide +kernel
theorem dX11_chart_54 : decode cX11_chart 54 = .ok (.aload_n 0, 1) := by decide +kernel
theorem dX11_chart_55 : decode cX11_chart 55 = .ok (.ldc_w 319, 3) := by decide +kernel
theorem dX11_chart_58 : decode cX11_chart 58 = .ok (.invokevirtual 316, 3) := by decide +kernel
theorem dX11_chart_61 : decode cX11_chart 61 = .ok (.aload_n 0, 1) := by decide +kernel
theorem dX11_chart_62 : decode cX11_chart 62 = .ok (.aload_n 0, 1) := by decide +kernel
theorem dX11_chart_63 : decode cX11_chart 63 = .ok (.getfield 26, 3) := by decide +kernel
theorem dX11_chart_66 : decode cX11_chart 66 = .ok (.getfield 321, 3) := by decide +kernel
theorem dX11_chart_69 : decode cX11_chart 69 = .ok (.iload_n 1, 1) := by decide +kernel
theorem dX11_chart_70 : decode cX11_chart 70 = .ok (.iaload, 1) := by decide +kernel
theorem dX11_chart_71 : decode cX11_chart 71 = .ok (.bipush 6, 2) := by decide +kernel
theorem dX11_chart_73 : decode cX11_chart 73 = .ok (.irem, 1) := by decide +kernel
theorem dX11_chart_74 : decode cX11_chart 74 = .ok (.invokevirtual 324, 3) := by decide +kernel
theorem dX11_chart_77 : decode cX11_chart 77 = .ok (.aload_n 0, 1) := by decide +kernel
theorem dX11_chart_78 : decode cX11_chart 78 = .ok (.ldc_w 327, 3) := by decide +kernel
theorem dX11_chart_81 : decode cX11_chart 81 = .ok (.invokevirtual 316, 3) := by decide +kernel
theorem dX11_chart_84 : decode cX11_chart 84 = .ok (.aload_n 0, 1) := by decide +kernel
theorem dX11_chart_85 : decode cX11_chart 85 = .ok (.aload_n 0, 1) := by decide +kernel
theorem dX11_chart_86 : decode cX11_chart 86 = .ok (.getfield 26, 3) := by decide +kernel
theorem dX11_chart_89 : decode cX11_chart 89 = .ok (.getfield 321, 3) := by decide +kernel
theorem dX11_chart_92 : decode cX11_chart 92 = .ok (.iload_n 1, 1) := by decide +kernel
theorem dX11_chart_93 : decode cX11_chart 93 = .ok (.iaload, 1) := by decide +kernel
theorem dX11_chart_94 : decode cX11_chart 94 = .ok (.bipush 6, 2) := by decide +kernel
theorem dX11_chart_96 : decode cX11_chart 96 = .ok (.idiv, 1) := by decide +kernel
theorem dX11_chart_97 : decode cX11_chart 97 = .ok (.invokevirtual 324, 3) := by decide +kernel
theorem dX11_chart_100 : decode cX11_chart 100 = .ok (.aload_n 0, 1) := by decide +kernel
theorem dX11_chart_101 : decode cX11_chart 101 = .ok (.getfield 26, 3) := by decide +kernel
theorem dX11_chart_104 : decode cX11_chart 104 = .ok (.getfield 329, 3) := by decide +kernel
theorem dX11_chart_107 : decode cX11_chart 107 = .ok (.iload_n 1, 1) := by decide +kernel
theorem dX11_chart_108 : decode cX11_chart 108 = .ok (.iaload, 1) := by decide +kernel
theorem dX11_chart_109 : decode cX11_chart 109 = .ok (.ifCond .le 23, 3) := by decide +kernel
theorem dX11_chart_132 : decode cX11_chart 132 = .ok (.aload_n 0, 1) := by decide +kernel
theorem dX11_chart_133 : decode cX11_chart 133 = .ok (.getfield 103, 3) := by decide +kernel
theorem dX11_chart_136 : decode cX11_chart 136 = .ok (.ireturn, 1) := by decide +kernel
theorem dX11_chart_112 : decode cX11_chart 112 = .ok (.aload_n 0, 1) := by decide +kernel
theorem dX11_chart_113 : decode cX11_chart 113 = .ok (.ldc_w 332, 3) := by decide +kernel
theorem dX11_chart_116 : decode cX11_chart 116 = .ok (.invokevirtual 316, 3) := by decide +kernel
theorem dX11_chart_119 : decode cX11_chart 119 = .ok (.aload_n 0, 1) := by decide +kernel
theorem dX11_chart_120 : decode cX11_chart 120 = .ok (.aload_n 0, 1) := by decide +kernel
theorem dX11_chart_121 : decode cX11_chart 121 = .ok (.getfield 26, 3) := by decide +kernel
theorem dX11_chart_124 : decode cX11_chart 124 = .ok (.getfield 329, 3) := by decide +kernel
theorem dX11_chart_127 : decode cX11_chart 127 = .ok (.iload_n 1, 1) := by decide +kernel
theorem dX11_chart_128 : decode cX11_chart 128 = .ok (.iaload, 1) := by decide +kernel
theorem dX11_chart_129 : decode cX11_chart 129 = .ok (.invokevirtual 324, 3) := by decide +kernel
theorem dX11_chart_11 : decode cX11_chart 11 = .ok (.iconst (-1), 1) := by decide +kernel
theorem dX11_chart_12 : decode cX11_chart 12 = .ok (.ireturn, 1) := by decide +kernel
theorem dX11_byteAt_0 : decode cX11_byteAt 0 = .ok (.iload_n 1, 1) := by decide +kernel
theorem dX11_byteAt_1 : decode cX11_byteAt 1 = .ok (.ifCond .lt 24, 3) := by decide +kernel
theorem dX11_byteAt_25 : decode cX11_byteAt 25 = .ok (.iconst (-1), 1) := by decide +kernel
theorem dX11_byteAt_26 : decode cX11_byteAt 26 = .ok (.ireturn, 1) := by decide +kernel
theorem dX11_byteAt_4 : decode cX11_byteAt 4 = .ok (.iload_n 1, 1) := by decide +kernel
theorem dX11_byteAt_5 : decode cX11_byteAt 5 = .ok (.aload_n 0, 1) := by decide +kernel
theorem dX11_byteAt_6 : decode cX11_byteAt 6 = .ok (.getfield 103, 3) := by decide +kernel
theorem dX11_byteAt_9 : decode cX11_byteAt 9 = .ok (.if_icmp .ge 16, 3) := by decide +kernel
theorem dX11_byteAt_12 : decode cX11_byteAt 12 = .ok (.aload_n 0, 1) := by decide +kernel
theorem dX11_byteAt_13 : decode cX11_byteAt 13 = .ok (.getfield 99, 3) := by decide +kernel
theorem dX11_byteAt_16 : decode cX11_byteAt 16 = .ok (.iload_n 1, 1) := by decide +kernel
theorem dX11_byteAt_17 : decode cX11_byteAt 17 = .ok (.baload, 1) := by decide +kernel
theorem dX11_byteAt_18 : decode cX11_byteAt 18 = .ok (.sipush 255, 3) := by decide +kernel
theorem dX11_byteAt_21 : decode cX11_byteAt 21 = .ok (.iand, 1) := by decide +kernel
theorem dX11_byteAt_22 : decode cX11_byteAt 22 = .ok (.goto 4, 3) := by decide +kernel
set_option maxRecDepth 100000 in
theorem ggX11_fleet_X7_eatenBits : GoodIn wsX11_fleet wsX7_eatenBits := goodIn_r _ [8, 9, 10, 11, 12, 7, 13, 14, 15, 16, 17, 18, 49, 50, 51, 52, 53, 54, 55, 56, 57, 58, 59, 60, 61, 62, 63, 64, 65, 66, 67] rfl (by decide +kernel)
set_option maxRecDepth 100000 in
theorem ggX11_fleet_X7_loadOf : GoodIn wsX11_fleet wsX7_loadOf := goodIn_r _ [29, 9, 30, 49, 50, 51, 52, 53, 54, 55, 56, 57, 58, 59, 60, 61, 62, 63, 64, 65, 66, 67] rfl (by decide +kernel)
set_option maxRecDepth 100000 in
theorem ggX11_fleet_J6_bitCount_0f7a4 : GoodIn wsX11_fleet wsJ6_bitCount_0f7a4 := goodIn_r _ [22, 23, 24, 25] rfl (by decide +kernel)
set_option maxRecDepth 100000 in
theorem ggX11_odds_X7_isBoat : GoodIn wsX11_odds wsX7_isBoat := goodIn_r _ [8, 9, 160, 161, 162, 163, 164, 165, 166, 167, 168, 169, 170, 171, 172, 173, 174, 175, 176, 177, 178] rfl (by decide +kernel)
set_option maxRecDepth 100000 in
theorem ggX11_odds_X7_copy : GoodIn wsX11_odds wsX7_copy := goodIn_r _ [12, 13, 14, 15, 16, 17, 18, 19, 20, 21, 9, 22, 23, 24, 25, 26, 27, 28, 29, 30, 31, 32, 33, 34, 160, 161, 162, 163, 164, 165, 166, 167, 168, 169, 170, 171, 172, 173, 174, 175, 176, 177, 178] rfl (by decide +kernel)
set_option maxRecDepth 100000 in
theorem ggX11_odds_X1_passDays : GoodIn wsX11_odds wsX1_passDays := goodIn_r _ [39, 40, 41, 42, 43, 44, 45, 46, 47, 7, 48, 18, 49, 50, 51, 38, 52, 53, 54, 55, 56, 57, 58, 59, 60, 61, 62, 63, 64, 65, 66, 67, 13, 14, 68, 69, 70, 71, 15, 17, 72, 73, 74, 75, 21, 28, 9, 30, 19, 76, 77, 78, 79, 22, 80, 81, 82, 83, 84, 85, 86, 87, 88, 89, 90, 34, 91, 5, 6, 8, 92, 93, 94, 95, 96, 97, 98, 99, 100, 101, 33, 102, 103, 104, 105, 106, 107, 108, 109, 110, 111, 112, 113, 114, 115, 116, 117, 118, 119, 120, 121, 20, 122, 123, 124, 125, 32, 16, 126, 127, 128, 129, 130, 131, 132, 133, 134, 135, 136, 31, 137, 138, 139, 140, 179, 160, 161, 162, 163, 164, 165, 166, 167, 168, 169, 170, 171, 172, 173, 174, 175, 176, 177, 178] rfl (by decide +kernel)
set_option maxRecDepth 100000 in
theorem ggX11_odds_X7_isEaten : GoodIn wsX11_odds wsX7_isEaten := goodIn_r _ [90, 34, 91, 5, 6, 7, 8, 9, 160, 161, 162, 163, 164, 165, 166, 167, 168, 169, 170, 171, 172, 173, 174, 175, 176, 177, 178] rfl (by decide +kernel)
set_option maxRecDepth 100000 in
theorem ggX11_writeDigit_X11_writeByte : GoodIn wsX11_writeDigit wsX11_writeByte := goodIn_r _ [5, 6, 7, 8, 9, 10, 11, 12, 13, 14, 15, 16, 17, 18, 19, 20, 21, 22, 23, 24, 25] rfl (by decide +kernel)
set_option maxRecDepth 100000 in
theorem ggX11_writeName_X11_writeByte : GoodIn wsX11_writeName wsX11_writeByte := goodIn_r _ [5, 6, 7, 8, 9, 10, 11, 12, 13, 14, 15, 16, 17, 18, 19, 20, 21, 22, 23, 24, 25] rfl (by decide +kernel)
set_option maxRecDepth 100000 in
theorem ggX11_write_J0_length_8abf5 : GoodIn wsX11_write wsJ0_length_8abf5 := goodIn_r _ [5, 6, 7, 8, 9, 4, 10, 11, 12] rfl (by decide +kernel)
set_option maxRecDepth 100000 in
theorem ggX11_write_J0_charAt_5068e : GoodIn wsX11_write wsJ0_charAt_5068e := goodIn_r _ [16, 6, 17, 18, 19, 4, 20, 11, 12, 21, 22, 23, 24, 25, 26, 27, 28, 29, 30, 31, 32, 33, 34, 35, 36, 37, 38, 39, 40, 41, 42, 43, 44, 45, 46, 47, 48, 49] rfl (by decide +kernel)
set_option maxRecDepth 100000 in
theorem ggX11_write_X11_writeByte : GoodIn wsX11_write wsX11_writeByte := goodIn_r _ [54, 55, 56, 57, 58, 59, 60, 61, 62, 63, 64, 65, 66, 67, 68, 69, 70, 71, 72, 73, 74] rfl (by decide +kernel)
set_option maxRecDepth 100000 in
theorem ggX11_chart_X7_isBoat : GoodIn wsX11_chart wsX7_isBoat := goodIn_r _ [10, 11, 103, 104, 105, 106, 107, 108, 109, 110, 111, 112, 113, 114, 115, 116, 117, 118, 119, 120, 121] rfl (by decide +kernel)
set_option maxRecDepth 100000 in
theorem ggX11_chart_X11_writeName : GoodIn wsX11_chart wsX11_writeName := goodIn_r _ [16, 17, 18, 19, 15, 20, 2, 21, 85, 86, 87, 88, 89, 90, 91, 92, 93, 94, 95, 96, 97, 98, 99, 100, 101, 102] rfl (by decide +kernel)
set_option maxRecDepth 100000 in
theorem ggX11_chart_X7_isEaten : GoodIn wsX11_chart wsX7_isEaten := goodIn_r _ [25, 26, 27, 7, 8, 9, 10, 11, 103, 104, 105, 106, 107, 108, 109, 110, 111, 112, 113, 114, 115, 116, 117, 118, 119, 120, 121] rfl (by decide +kernel)
set_option maxRecDepth 100000 in
theorem ggX11_chart_X11_write : GoodIn wsX11_chart wsX11_write := goodIn_r _ [31, 32, 33, 34, 35, 36, 37, 38, 39, 40, 41, 42, 43, 44, 45, 46, 47, 48, 49, 50, 51, 52, 53, 54, 55, 56, 57, 58, 59, 60, 61, 62, 63, 64, 65, 66, 67, 68, 69, 70, 71, 72, 73, 74, 75, 76, 77, 78, 79, 80, 17, 18, 19, 15, 20, 2, 21, 85, 86, 87, 88, 89, 90, 91, 92, 93, 94, 95, 96, 97, 98, 99, 100, 101, 102] rfl (by decide +kernel)
set_option maxRecDepth 100000 in
theorem ggX11_chart_X11_writeDigit : GoodIn wsX11_chart wsX11_writeDigit := goodIn_r _ [84, 17, 18, 19, 15, 20, 2, 21, 85, 86, 87, 88, 89, 90, 91, 92, 93, 94, 95, 96, 97, 98, 99, 100, 101, 102] rfl (by decide +kernel)
set_option maxRecDepth 100000 in
theorem gX11_fleet_X7_eatenBits : GoodIn wsX11_fleet (wsV RX11 181 RX7 yX7_eatenBits wsX7_eatenBits) := goodIn_app (goodIn_of _ (by decide +kernel)) ggX11_fleet_X7_eatenBits
set_option maxRecDepth 100000 in
theorem gX11_fleet_X7_loadOf : GoodIn wsX11_fleet (wsV RX11 300 RX7 yX7_loadOf wsX7_loadOf) := goodIn_app (goodIn_of _ (by decide +kernel)) ggX11_fleet_X7_loadOf
set_option maxRecDepth 100000 in
theorem gX11_fleet_J6_bitCount_0f7a4 : GoodIn wsX11_fleet (va_wsS RX11 295 yJ6_bitCount_0f7a4 wsJ6_bitCount_0f7a4) := goodIn_app (goodIn_of _ (by decide +kernel)) ggX11_fleet_J6_bitCount_0f7a4
set_option maxRecDepth 100000 in
theorem gX11_odds_X7_isBoat : GoodIn wsX11_odds (wsV RX11 157 RX7 yX7_isBoat wsX7_isBoat) := goodIn_app (goodIn_of _ (by decide +kernel)) ggX11_odds_X7_isBoat
set_option maxRecDepth 100000 in
theorem gX11_odds_X7_copy : GoodIn wsX11_odds (va_wsS RX11 129 yX7_copy wsX7_copy) := goodIn_app (goodIn_of _ (by decide +kernel)) ggX11_odds_X7_copy
set_option maxRecDepth 100000 in
theorem gX11_odds_X1_passDays : GoodIn wsX11_odds (wsV RX11 254 RX1 yX1_passDays wsX1_passDays) := goodIn_app (goodIn_of _ (by decide +kernel)) ggX11_odds_X1_passDays
set_option maxRecDepth 100000 in
theorem gX11_odds_X7_isEaten : GoodIn wsX11_odds (wsV RX11 303 RX7 yX7_isEaten wsX7_isEaten) := goodIn_app (goodIn_of _ (by decide +kernel)) ggX11_odds_X7_isEaten
set_option maxRecDepth 100000 in
theorem gX11_writeDigit_X11_writeByte : GoodIn wsX11_writeDigit (wsV RX11 334 RX11 yX11_writeByte wsX11_writeByte) := goodIn_app (goodIn_of _ (by decide +kernel)) ggX11_writeDigit_X11_writeByte
set_option maxRecDepth 100000 in
theorem gX11_writeName_X11_writeByte : GoodIn wsX11_writeName (wsV RX11 334 RX11 yX11_writeByte wsX11_writeByte) := goodIn_app (goodIn_of _ (by decide +kernel)) ggX11_writeName_X11_writeByte
set_option maxRecDepth 100000 in
theorem gX11_write_J0_length_8abf5 : GoodIn wsX11_write (wsV RX11 337 RJ0 yJ0_length_8abf5 wsJ0_length_8abf5) := goodIn_app (goodIn_of _ (by decide +kernel)) ggX11_write_J0_length_8abf5
set_option maxRecDepth 100000 in
theorem gX11_write_J0_charAt_5068e : GoodIn wsX11_write (wsV RX11 342 RJ0 yJ0_charAt_5068e wsJ0_charAt_5068e) := goodIn_app (goodIn_of _ (by decide +kernel)) ggX11_write_J0_charAt_5068e
set_option maxRecDepth 100000 in
theorem gX11_write_X11_writeByte : GoodIn wsX11_write (wsV RX11 334 RX11 yX11_writeByte wsX11_writeByte) := goodIn_app (goodIn_of _ (by decide +kernel)) ggX11_write_X11_writeByte
set_option maxRecDepth 100000 in
theorem gX11_chart_X7_isBoat : GoodIn wsX11_chart (wsV RX11 157 RX7 yX7_isBoat wsX7_isBoat) := goodIn_app (goodIn_of _ (by decide +kernel)) ggX11_chart_X7_isBoat
set_option maxRecDepth 100000 in
theorem gX11_chart_X11_writeName : GoodIn wsX11_chart (wsV RX11 310 RX11 yX11_writeName wsX11_writeName) := goodIn_app (goodIn_of _ (by decide +kernel)) ggX11_chart_X11_writeName
set_option maxRecDepth 100000 in
theorem gX11_chart_X7_isEaten : GoodIn wsX11_chart (wsV RX11 303 RX7 yX7_isEaten wsX7_isEaten) := goodIn_app (goodIn_of _ (by decide +kernel)) ggX11_chart_X7_isEaten
set_option maxRecDepth 100000 in
theorem gX11_chart_X11_write : GoodIn wsX11_chart (wsV RX11 316 RX11 yX11_write wsX11_write) := goodIn_app (goodIn_of _ (by decide +kernel)) ggX11_chart_X11_write
set_option maxRecDepth 100000 in
theorem gX11_chart_X11_writeDigit : GoodIn wsX11_chart (wsV RX11 324 RX11 yX11_writeDigit wsX11_writeDigit) := goodIn_app (goodIn_of _ (by decide +kernel)) ggX11_chart_X11_writeDigit
theorem n_dec {k : Nat} (h : 1 ≤ k) : nI k + Int32.ofInt (-1) = nI (k - 1) := by
  obtain ⟨j, rfl⟩ : ∃ j, k = j + 1 := ⟨k - 1, by omega⟩
  have h1 : nI (j + 1) + Int32.ofInt (-1) = nI (j + 1) - 1 := by rw [Int32.sub_eq_add_neg]; rfl
  rw [h1, nI_pred]
  rfl
set_option maxRecDepth 20000 in
theorem lf_p_commonDivisor_1   : 1 ≤ 1 ∧ 1 ≤ 6 := by
  try simp only [ia_lt, ia_le, ia_eq, ia_m1, ia_0, ia_1, ne_eq, true_and, and_true, false_and, and_false, or_false, false_or, or_true, true_or, not_true_eq_false, not_false_eq_true] at *
  all_goals omega
set_option maxRecDepth 20000 in
theorem lf_p_commonDivisor_2 (x : Int32) (k3 : Nat) (n6 : Nat) (y10 : Int32) (j4 : k3 ≤ 6) (hm8 : k3 < n6 + 1) (c9 : 1 < k3) (e11 : y10 = x - x / (nI k3) * (nI k3)) (c12 : y10 ≠ 0) : (k3 - 1) ≤ 6 := by
  have b_x := ia_b x
  have b_y10 := ia_b y10
  try have k_0 := ia_n k3 (by first | decide | omega)
  try simp only [ia_lt, ia_le, ia_eq, ia_m1, ia_0, ia_1, ne_eq, true_and, and_true, false_and, and_false, or_false, false_or, or_true, true_or, not_true_eq_false, not_false_eq_true] at *
  all_goals omega
set_option maxRecDepth 20000 in
theorem lf_p_commonDivisor_3 (x : Int32) (k3 : Nat) (n6 : Nat) (y10 : Int32) (j4 : k3 ≤ 6) (hm8 : k3 < n6 + 1) (c9 : 1 < k3) (e11 : y10 = x - x / (nI k3) * (nI k3)) (c12 : y10 ≠ 0) : (k3 - 1) < n6 := by
  have b_x := ia_b x
  have b_y10 := ia_b y10
  try have k_0 := ia_n k3 (by first | decide | omega)
  try simp only [ia_lt, ia_le, ia_eq, ia_m1, ia_0, ia_1, ne_eq, true_and, and_true, false_and, and_false, or_false, false_or, or_true, true_or, not_true_eq_false, not_false_eq_true] at *
  all_goals omega
set_option maxRecDepth 20000 in
theorem lf_p_commonDivisor_4 (x : Int32) (n : Nat) (k3 : Nat) (n6 : Nat) (y10 : Int32) (hn : n ≤ 6) (hn2 : 2 ≤ n) (j4 : k3 ≤ 6) (hm8 : k3 < n6 + 1) (c9 : 1 < k3) (e11 : y10 = x - x / (nI k3) * (nI k3)) (c12 : y10 = 0) (f13 : n % k3 < k3) (c14 : 0 < (n % k3)) : (k3 - 1) ≤ 6 := by
  have b_x := ia_b x
  have b_y10 := ia_b y10
  try have k_0 := ia_n k3 (by first | decide | omega)
  try simp only [ia_lt, ia_le, ia_eq, ia_m1, ia_0, ia_1, ne_eq, true_and, and_true, false_and, and_false, or_false, false_or, or_true, true_or, not_true_eq_false, not_false_eq_true] at *
  all_goals omega
set_option maxRecDepth 20000 in
theorem lf_p_commonDivisor_5 (x : Int32) (n : Nat) (k3 : Nat) (n6 : Nat) (y10 : Int32) (hn : n ≤ 6) (hn2 : 2 ≤ n) (j4 : k3 ≤ 6) (hm8 : k3 < n6 + 1) (c9 : 1 < k3) (e11 : y10 = x - x / (nI k3) * (nI k3)) (c12 : y10 = 0) (f13 : n % k3 < k3) (c14 : 0 < (n % k3)) : (k3 - 1) < n6 := by
  have b_x := ia_b x
  have b_y10 := ia_b y10
  try have k_0 := ia_n k3 (by first | decide | omega)
  try simp only [ia_lt, ia_le, ia_eq, ia_m1, ia_0, ia_1, ne_eq, true_and, and_true, false_and, and_false, or_false, false_or, or_true, true_or, not_true_eq_false, not_false_eq_true] at *
  all_goals omega
set_option maxRecDepth 20000 in
theorem lf_p_commonDivisor_6 (x : Int32) (n : Nat) (k3 : Nat) (n6 : Nat) (y10 : Int32) (hn : n ≤ 6) (hn2 : 2 ≤ n) (j4 : k3 ≤ 6) (hm8 : k3 < n6 + 1) (c9 : 1 < k3) (e11 : y10 = x - x / (nI k3) * (nI k3)) (c12 : y10 = 0) (f13 : n % k3 < k3) (c14 : (n % k3) = 0) : 1 ≤ k3 ∧ k3 ≤ 6 := by
  have b_x := ia_b x
  have b_y10 := ia_b y10
  try have k_0 := ia_n k3 (by first | decide | omega)
  try simp only [ia_lt, ia_le, ia_eq, ia_m1, ia_0, ia_1, ne_eq, true_and, and_true, false_and, and_false, or_false, false_or, or_true, true_or, not_true_eq_false, not_false_eq_true] at *
  all_goals omega
set_option maxHeartbeats 4000000 in
set_option maxRecDepth 100000 in
theorem c_p_commonDivisor (l : Launch) (dC : Nat → ClassId) (dI : Nat → Nat → Nat) (ky : Nat → ClassId) (x : Int32) (n : Nat) (hn : n ≤ 6) (hn2 : 2 ≤ n) : Met l yX11_commonDivisor wsX11_commonDivisor ({ frames := 0, cells := 0, slots := 0, locals := 0 }) (PcP dC dI ky [.int x, .int (nI n)] []) (vp_Si (fun r : Int32 => ∃ k9 : Nat, (1 ≤ k9 ∧ k9 ≤ 6) ∧ r = nI k9)) 0 0 (fun _ => False) := by
  refine Met.ofW (cc := cX11_commonDivisor) (maxL := 3) (ret := (some .int)) (by decide) rfl ?_
  intro p e s m args below meth c s₁ B hml hv
  obtain ⟨rfl, hP, hK⟩ := hv
  have hx := B.exec
  have hb := B.bytes
  have hr := B.returns
  have hts := atoms_spec (ws := wsX11_commonDivisor) B.pre
  have hown : s.vm.findClass RX11 = some m.cls := findClass_of_methodNamed B.named
  have hlocks := B.notSynchronized
  have hl := lv_entry ([.int x, .int (nI n)]) (n := 3) (Nat.le_of_ble_eq_true rfl)
  rw [lg_entry_eq]
  generalize (lg_sl ([.int x, .int (nI n)]) ++ List.replicate (3 - (lg_sl ([.int x, .int (nI n)])).length) Slot.unset).toArray = ls at hl ⊢
  have hl : lv_has ls 3 [(0, .int x), (1, .int (nI n))] := hl
  refine q_name (fun Q hQ => ?_)
  generalize ([.int x, .int (nI n)] : List Value).toArray = args at hts hQ ⊢
  refine lv_iload_n hx hb dX11_commonDivisor_0 rfl (lv_at hl 1 rfl) ?_
  refine lv_istore_n (lv' := [(2, .int (nI n)), (0, .int x), (1, .int (nI n))]) hx hb dX11_commonDivisor_1 rfl hl (by decide) rfl (fun ls hl => ?_)
  have hL5 : ∀ (n6 : Nat) (k3 : Nat), (k3 ≤ 6) → k3 < n6 → ∀ (ls : Array Slot), lv_has ls 3 [(2, .int (nI k3)), (0, .int x), (1, .int (nI n))] → W p l e (headSpec wsX11_commonDivisor ({ frames := 0, cells := 0, slots := 0, locals := 0 })).room s m args below meth c s.heap [] 0 0 Q (F0 m 2 ls []) := by
    intro n6
    induction n6 with
    | zero => intro k3 _ h9; exact absurd h9 (Nat.not_lt_zero _)
    | succ n6 ih7 =>
      intro k3 j4 hm8 ls hl
      refine lv_iload_n hx hb dX11_commonDivisor_2 rfl (lv_at hl 0 rfl) ?_
      refine lv_iconst (v := nI 1) hx hb dX11_commonDivisor_3 (by decide) ?_
      refine n_icmp_le (x := k3) (y := 1) (tgt := 27) hx hb (by omega) (by omega) dX11_commonDivisor_4 (by decide) (fun c9 => ?_) (fun c9 => ?_)
      · refine lv_iconst (v := nI 1) hx hb dX11_commonDivisor_27 (by decide) ?_
        rw [hQ]
        exact W.iret (v := nI 1) hx hb hr (fun t9 ht9 hW9 => ⟨nI 1, rfl, ⟨1, (lf_p_commonDivisor_1), rfl⟩, ht9⟩) (fun _ h => absurd h List.not_mem_nil) dX11_commonDivisor_28
      · refine lv_iload_n hx hb dX11_commonDivisor_7 rfl (lv_at hl 1 rfl) ?_
        refine lv_iload_n hx hb dX11_commonDivisor_8 rfl (lv_at hl 0 rfl) ?_
        refine lv_irem hx hb dX11_commonDivisor_9 (nI_ne0 (by omega) (by omega)) ?_
        refine lv_topi (fun y10 e11 => ?_)
        refine lv_if_ne (tgt := 21) hx hb dX11_commonDivisor_10 (by decide) (fun c12 => ?_) (fun c12 => ?_)
        · refine lv_iinc (v := nI (k3 - 1)) (lv' := [(2, .int (nI (k3 - 1))), (0, .int x), (1, .int (nI n))]) hx hb dX11_commonDivisor_21 hl (k := 0) rfl (n_dec (by omega)) (by decide) rfl (fun ls hl => ?_)
          refine lv_goto (tgt := 2) hx hb dX11_commonDivisor_24 (by decide) ?_
          exact ih7 (k3 - 1) (lf_p_commonDivisor_2 x k3 n6 y10 j4 hm8 c9 e11 c12) (lf_p_commonDivisor_3 x k3 n6 y10 j4 hm8 c9 e11 c12) _ (lv_sub hl [0, 1, 2] rfl)
        · refine lv_iload_n hx hb dX11_commonDivisor_13 rfl (lv_at hl 2 rfl) ?_
          refine lv_iload_n hx hb dX11_commonDivisor_14 rfl (lv_at hl 0 rfl) ?_
          refine lv_irem hx hb dX11_commonDivisor_15 (nI_ne0 (by omega) (by omega)) ?_
          refine r_ti (nI (n % k3)) (pk_rem (by omega) (by omega) (by omega)) ?_
          have f13 : n % k3 < k3 := Nat.mod_lt _ (by omega)
          refine n_if_ne (x := (n % k3)) (tgt := 21) hx hb (by omega) dX11_commonDivisor_16 (by decide) (fun c14 => ?_) (fun c14 => ?_)
          · refine lv_iinc (v := nI (k3 - 1)) (lv' := [(2, .int (nI (k3 - 1))), (0, .int x), (1, .int (nI n))]) hx hb dX11_commonDivisor_21 hl (k := 0) rfl (n_dec (by omega)) (by decide) rfl (fun ls hl => ?_)
            refine lv_goto (tgt := 2) hx hb dX11_commonDivisor_24 (by decide) ?_
            exact ih7 (k3 - 1) (lf_p_commonDivisor_4 x n k3 n6 y10 hn hn2 j4 hm8 c9 e11 c12 f13 c14) (lf_p_commonDivisor_5 x n k3 n6 y10 hn hn2 j4 hm8 c9 e11 c12 f13 c14) _ (lv_sub hl [0, 1, 2] rfl)
          · refine lv_iload_n hx hb dX11_commonDivisor_19 rfl (lv_at hl 0 rfl) ?_
            rw [hQ]
            exact W.iret (v := nI k3) hx hb hr (fun t9 ht9 hW9 => ⟨nI k3, rfl, ⟨k3, (lf_p_commonDivisor_6 x n k3 n6 y10 hn hn2 j4 hm8 c9 e11 c12 f13 c14), rfl⟩, ht9⟩) (fun _ h => absurd h List.not_mem_nil) dX11_commonDivisor_20
  exact hL5 (n + 1) n hn (Nat.lt_succ_self _) _ (lv_sub hl [0, 1, 2] rfl)
set_option maxRecDepth 20000 in
theorem lf_p_fleet_1 (boats : Nat) (k12 : Nat) (n16 : Nat) (y19 : Int32) (iv_sea_5 : boats ≤ 6) (p4 : True) (j14 : k12 ≤ 2147483647) (hm18 : 2147483647 - k12 < n16 + 1) (e20 : y19 = (nI 1) <<< ((nI boats) &&& 31)) (c21 : ¬ y19 ≤ nI k12) : (k12 + 1) ≤ 2147483647 := by
  have b_y19 := ia_b y19
  try have k_0 := ia_n 1 (by first | decide | omega)
  try have k_1 := ia_n boats (by first | decide | omega)
  try have k_2 := ia_n k12 (by first | decide | omega)
  try simp only [ia_lt, ia_le, ia_eq, ia_m1, ia_0, ia_1, ne_eq, true_and, and_true, false_and, and_false, or_false, false_or, or_true, true_or, not_true_eq_false, not_false_eq_true] at *
  all_goals omega
set_option maxRecDepth 20000 in
theorem lf_p_fleet_2 (boats : Nat) (k12 : Nat) (n16 : Nat) (y19 : Int32) (iv_sea_5 : boats ≤ 6) (p4 : True) (j14 : k12 ≤ 2147483647) (hm18 : 2147483647 - k12 < n16 + 1) (e20 : y19 = (nI 1) <<< ((nI boats) &&& 31)) (c21 : ¬ y19 ≤ nI k12) : 2147483647 - (k12 + 1) < n16 := by
  have b_y19 := ia_b y19
  try have k_0 := ia_n 1 (by first | decide | omega)
  try have k_1 := ia_n boats (by first | decide | omega)
  try have k_2 := ia_n k12 (by first | decide | omega)
  try simp only [ia_lt, ia_le, ia_eq, ia_m1, ia_0, ia_1, ne_eq, true_and, and_true, false_and, and_false, or_false, false_or, or_true, true_or, not_true_eq_false, not_false_eq_true] at *
  all_goals omega
set_option maxRecDepth 20000 in
theorem lf_p_fleet_3 (boats : Nat) (r3 : Int32) (k12 : Nat) (n16 : Nat) (y19 : Int32) (y30 : Int32) (iv_sea_5 : boats ≤ 6) (p4 : True) (j14 : k12 ≤ 2147483647) (hm18 : 2147483647 - k12 < n16 + 1) (e20 : y19 = (nI 1) <<< ((nI boats) &&& 31)) (c21 : ¬ y19 ≤ nI k12) (e31 : y30 = (nI k12) &&& r3) (c32 : y30 ≠ 0) : (k12 + 1) ≤ 2147483647 := by
  have b_r3 := ia_b r3
  have b_y19 := ia_b y19
  have b_y30 := ia_b y30
  try have k_0 := ia_n 1 (by first | decide | omega)
  try have k_1 := ia_n boats (by first | decide | omega)
  try have k_2 := ia_n k12 (by first | decide | omega)
  try simp only [ia_lt, ia_le, ia_eq, ia_m1, ia_0, ia_1, ne_eq, true_and, and_true, false_and, and_false, or_false, false_or, or_true, true_or, not_true_eq_false, not_false_eq_true] at *
  all_goals omega
set_option maxRecDepth 20000 in
theorem lf_p_fleet_4 (boats : Nat) (r3 : Int32) (k12 : Nat) (n16 : Nat) (y19 : Int32) (y30 : Int32) (iv_sea_5 : boats ≤ 6) (p4 : True) (j14 : k12 ≤ 2147483647) (hm18 : 2147483647 - k12 < n16 + 1) (e20 : y19 = (nI 1) <<< ((nI boats) &&& 31)) (c21 : ¬ y19 ≤ nI k12) (e31 : y30 = (nI k12) &&& r3) (c32 : y30 ≠ 0) : 2147483647 - (k12 + 1) < n16 := by
  have b_r3 := ia_b r3
  have b_y19 := ia_b y19
  have b_y30 := ia_b y30
  try have k_0 := ia_n 1 (by first | decide | omega)
  try have k_1 := ia_n boats (by first | decide | omega)
  try have k_2 := ia_n k12 (by first | decide | omega)
  try simp only [ia_lt, ia_le, ia_eq, ia_m1, ia_0, ia_1, ne_eq, true_and, and_true, false_and, and_false, or_false, false_or, or_true, true_or, not_true_eq_false, not_false_eq_true] at *
  all_goals omega
set_option maxRecDepth 20000 in
theorem lf_p_fleet_5 (boats : Nat) (r3 : Int32) (k12 : Nat) (n16 : Nat) (y19 : Int32) (y30 : Int32) (iv_sea_5 : boats ≤ 6) (p4 : True) (j14 : k12 ≤ 2147483647) (hm18 : 2147483647 - k12 < n16 + 1) (e20 : y19 = (nI 1) <<< ((nI boats) &&& 31)) (c21 : ¬ y19 ≤ nI k12) (e31 : y30 = (nI k12) &&& r3) (c32 : y30 = 0) (p34 : True) : (k12 + 1) ≤ 2147483647 := by
  have b_r3 := ia_b r3
  have b_y19 := ia_b y19
  have b_y30 := ia_b y30
  try have k_0 := ia_n 1 (by first | decide | omega)
  try have k_1 := ia_n boats (by first | decide | omega)
  try have k_2 := ia_n k12 (by first | decide | omega)
  try simp only [ia_lt, ia_le, ia_eq, ia_m1, ia_0, ia_1, ne_eq, true_and, and_true, false_and, and_false, or_false, false_or, or_true, true_or, not_true_eq_false, not_false_eq_true] at *
  all_goals omega
set_option maxRecDepth 20000 in
theorem lf_p_fleet_6 (boats : Nat) (r3 : Int32) (k12 : Nat) (n16 : Nat) (y19 : Int32) (y30 : Int32) (iv_sea_5 : boats ≤ 6) (p4 : True) (j14 : k12 ≤ 2147483647) (hm18 : 2147483647 - k12 < n16 + 1) (e20 : y19 = (nI 1) <<< ((nI boats) &&& 31)) (c21 : ¬ y19 ≤ nI k12) (e31 : y30 = (nI k12) &&& r3) (c32 : y30 = 0) (p34 : True) : 2147483647 - (k12 + 1) < n16 := by
  have b_r3 := ia_b r3
  have b_y19 := ia_b y19
  have b_y30 := ia_b y30
  try have k_0 := ia_n 1 (by first | decide | omega)
  try have k_1 := ia_n boats (by first | decide | omega)
  try have k_2 := ia_n k12 (by first | decide | omega)
  try simp only [ia_lt, ia_le, ia_eq, ia_m1, ia_0, ia_1, ne_eq, true_and, and_true, false_and, and_false, or_false, false_or, or_true, true_or, not_true_eq_false, not_false_eq_true] at *
  all_goals omega
set_option maxRecDepth 20000 in
theorem lf_p_fleet_7 (boats : Nat) (r3 : Int32) (k12 : Nat) (n16 : Nat) (y19 : Int32) (y30 : Int32) (iv_sea_5 : boats ≤ 6) (p4 : True) (j14 : k12 ≤ 2147483647) (hm18 : 2147483647 - k12 < n16 + 1) (e20 : y19 = (nI 1) <<< ((nI boats) &&& 31)) (c21 : ¬ y19 ≤ nI k12) (e31 : y30 = (nI k12) &&& r3) (c32 : y30 = 0) (p34 : True) : (k12 + 1) ≤ 2147483647 := by
  have b_r3 := ia_b r3
  have b_y19 := ia_b y19
  have b_y30 := ia_b y30
  try have k_0 := ia_n 1 (by first | decide | omega)
  try have k_1 := ia_n boats (by first | decide | omega)
  try have k_2 := ia_n k12 (by first | decide | omega)
  try simp only [ia_lt, ia_le, ia_eq, ia_m1, ia_0, ia_1, ne_eq, true_and, and_true, false_and, and_false, or_false, false_or, or_true, true_or, not_true_eq_false, not_false_eq_true] at *
  all_goals omega
set_option maxRecDepth 20000 in
theorem lf_p_fleet_8 (boats : Nat) (r3 : Int32) (k12 : Nat) (n16 : Nat) (y19 : Int32) (y30 : Int32) (iv_sea_5 : boats ≤ 6) (p4 : True) (j14 : k12 ≤ 2147483647) (hm18 : 2147483647 - k12 < n16 + 1) (e20 : y19 = (nI 1) <<< ((nI boats) &&& 31)) (c21 : ¬ y19 ≤ nI k12) (e31 : y30 = (nI k12) &&& r3) (c32 : y30 = 0) (p34 : True) : 2147483647 - (k12 + 1) < n16 := by
  have b_r3 := ia_b r3
  have b_y19 := ia_b y19
  have b_y30 := ia_b y30
  try have k_0 := ia_n 1 (by first | decide | omega)
  try have k_1 := ia_n boats (by first | decide | omega)
  try have k_2 := ia_n k12 (by first | decide | omega)
  try simp only [ia_lt, ia_le, ia_eq, ia_m1, ia_0, ia_1, ne_eq, true_and, and_true, false_and, and_false, or_false, false_or, or_true, true_or, not_true_eq_false, not_false_eq_true] at *
  all_goals omega
set_option maxRecDepth 20000 in
theorem lf_p_fleet_9  (p4 : True) : (nI 1) = nI 0 ∨ (nI 1) = nI 1 := by
  try have k_0 := ia_n 1 (by first | decide | omega)
  try have k_1 := ia_n 0 (by first | decide | omega)
  try simp only [ia_lt, ia_le, ia_eq, ia_m1, ia_0, ia_1, ne_eq, true_and, and_true, false_and, and_false, or_false, false_or, or_true, true_or, not_true_eq_false, not_false_eq_true] at *
  all_goals omega
set_option maxRecDepth 20000 in
theorem lf_p_fleet_10  (p4 : True) (p37 : True) (p39 : True) : (nI 0) = nI 0 ∨ (nI 0) = nI 1 := by
  try have k_0 := ia_n 0 (by first | decide | omega)
  try have k_1 := ia_n 1 (by first | decide | omega)
  try simp only [ia_lt, ia_le, ia_eq, ia_m1, ia_0, ia_1, ne_eq, true_and, and_true, false_and, and_false, or_false, false_or, or_true, true_or, not_true_eq_false, not_false_eq_true] at *
  all_goals omega
set_option maxRecDepth 20000 in
theorem lf_p_fleet_11  (p4 : True) (p37 : True) (p39 : True) : (nI 1) = nI 0 ∨ (nI 1) = nI 1 := by
  try have k_0 := ia_n 1 (by first | decide | omega)
  try have k_1 := ia_n 0 (by first | decide | omega)
  try simp only [ia_lt, ia_le, ia_eq, ia_m1, ia_0, ia_1, ne_eq, true_and, and_true, false_and, and_false, or_false, false_or, or_true, true_or, not_true_eq_false, not_false_eq_true] at *
  all_goals omega
set_option maxRecDepth 20000 in
theorem lf_p_fleet_12  (p4 : True) : 1 ≤ 2147483647 := by
  try simp only [ia_lt, ia_le, ia_eq, ia_m1, ia_0, ia_1, ne_eq, true_and, and_true, false_and, and_false, or_false, false_or, or_true, true_or, not_true_eq_false, not_false_eq_true] at *
  all_goals omega
set_option maxHeartbeats 4000000 in
set_option maxRecDepth 100000 in
theorem c_p_fleet (l : Launch) (dC : Nat → ClassId) (dI : Nat → Nat → Nat) (ky : Nat → ClassId) (sz : Nat) (t : Nat) (reader : Nat) (tapeLength : Nat) (latestFault : Int32) (sea : Nat) (spareSea : Nat) (seaText : Nat) (book : Nat) (sentence : Nat) (spareSentence : Nat) (route : Nat) (meeting : Nat) (sighting : Nat) (draws : Nat) (history : Nat) (images : Nat) (chartBytes : Nat) (chartLength : Nat) (fleetBits : Int32) (wide : Nat) (high : Nat) (heat : Int32) (cools : Int32) (skinHeat : Int32) (today : Int32) (stirs : Int32) (steps : Int32) (lumps : Nat) (boats : Nat) (thickness : Nat) (lumpNames : Nat) (lumpCells : Nat) (boatNames : Nat) (boatCells : Nat) (loads : Nat) (spoons : Nat) (spoonsLeft : Nat) (depths : Nat) (loadsF : Nat → Int32) (depthsF : Nat → Int32) (x : Int32) (iv_t_0 : tapeLength ≤ 940) (iv_t_1 : chartLength ≤ 32) (iv_sea_0 : 2 ≤ wide) (iv_sea_1 : wide ≤ 6) (iv_sea_2 : 2 ≤ high) (iv_sea_3 : high ≤ 6) (iv_sea_4 : lumps ≤ 6) (iv_sea_5 : boats ≤ 6) : Met l yX11_fleet wsX11_fleet ({ frames := 3, cells := 0, slots := 0, locals := 64 }) (PcU dC dI ky [.ref t, .int x] [(t, .inr (11, [.ref reader, .int (nI tapeLength), .int latestFault, .ref sea, .ref spareSea, .ref seaText, .ref book, .ref sentence, .ref spareSentence, .ref route, .ref meeting, .ref sighting, .ref draws, .ref history, .ref images, .ref chartBytes, .int (nI chartLength), .int fleetBits])), (sea, .inr (7, [.int (nI wide), .int (nI high), .int heat, .int cools, .int skinHeat, .int today, .int stirs, .int steps, .int (nI lumps), .int (nI boats), .ref thickness, .ref lumpNames, .ref lumpCells, .ref boatNames, .ref boatCells, .ref loads, .ref spoons, .ref spoonsLeft, .ref depths])), (loads, .inl (ky 0, 6, .inl loadsF)), (depths, .inl (ky 0, 6, .inl depthsF))] sz) (va_Qi (fun (r : Int32) (fleetBitsG : Int32) => True) (BU dC dI ky (fun (fleetBitsG : Int32) => [(t, .inr (11, [.ref reader, .int (nI tapeLength), .int latestFault, .ref sea, .ref spareSea, .ref seaText, .ref book, .ref sentence, .ref spareSentence, .ref route, .ref meeting, .ref sighting, .ref draws, .ref history, .ref images, .ref chartBytes, .int (nI chartLength), .int fleetBitsG])), (sea, .inr (7, [.int (nI wide), .int (nI high), .int heat, .int cools, .int skinHeat, .int today, .int stirs, .int steps, .int (nI lumps), .int (nI boats), .ref thickness, .ref lumpNames, .ref lumpCells, .ref boatNames, .ref boatCells, .ref loads, .ref spoons, .ref spoonsLeft, .ref depths])), (loads, .inl (ky 0, 6, .inl loadsF)), (depths, .inl (ky 0, 6, .inl depthsF))]) (va_A [(t, .inr (11, [.ref reader, .int (nI tapeLength), .int latestFault, .ref sea, .ref spareSea, .ref seaText, .ref book, .ref sentence, .ref spareSentence, .ref route, .ref meeting, .ref sighting, .ref draws, .ref history, .ref images, .ref chartBytes, .int (nI chartLength), .int fleetBits])), (sea, .inr (7, [.int (nI wide), .int (nI high), .int heat, .int cools, .int skinHeat, .int today, .int stirs, .int steps, .int (nI lumps), .int (nI boats), .ref thickness, .ref lumpNames, .ref lumpCells, .ref boatNames, .ref boatCells, .ref loads, .ref spoons, .ref spoonsLeft, .ref depths])), (loads, .inl (ky 0, 6, .inl loadsF)), (depths, .inl (ky 0, 6, .inl depthsF))] sz)) (va_A [(t, .inr (11, [.ref reader, .int (nI tapeLength), .int latestFault, .ref sea, .ref spareSea, .ref seaText, .ref book, .ref sentence, .ref spareSentence, .ref route, .ref meeting, .ref sighting, .ref draws, .ref history, .ref images, .ref chartBytes, .int (nI chartLength), .int fleetBits])), (sea, .inr (7, [.int (nI wide), .int (nI high), .int heat, .int cools, .int skinHeat, .int today, .int stirs, .int steps, .int (nI lumps), .int (nI boats), .ref thickness, .ref lumpNames, .ref lumpCells, .ref boatNames, .ref boatCells, .ref loads, .ref spoons, .ref spoonsLeft, .ref depths])), (loads, .inl (ky 0, 6, .inl loadsF)), (depths, .inl (ky 0, 6, .inl depthsF))] sz)) 0 0 (va_A [(t, .inr (11, [.ref reader, .int (nI tapeLength), .int latestFault, .ref sea, .ref spareSea, .ref seaText, .ref book, .ref sentence, .ref spareSentence, .ref route, .ref meeting, .ref sighting, .ref draws, .ref history, .ref images, .ref chartBytes, .int (nI chartLength), .int fleetBits])), (sea, .inr (7, [.int (nI wide), .int (nI high), .int heat, .int cools, .int skinHeat, .int today, .int stirs, .int steps, .int (nI lumps), .int (nI boats), .ref thickness, .ref lumpNames, .ref lumpCells, .ref boatNames, .ref boatCells, .ref loads, .ref spoons, .ref spoonsLeft, .ref depths])), (loads, .inl (ky 0, 6, .inl loadsF)), (depths, .inl (ky 0, 6, .inl depthsF))] sz) := by
  refine Met.ofW (cc := cX11_fleet) (maxL := 6) (ret := (some .int)) (by decide) rfl ?_
  intro p e s m args below meth c s₁ B hml hv
  obtain ⟨rfl, hsz, hP, hK, hD0⟩ := hv
  have hx := B.exec
  have hb := B.bytes
  have hr := B.returns
  have hts := atoms_spec (ws := wsX11_fleet) B.pre
  have hown : s.vm.findClass RX11 = some m.cls := findClass_of_methodNamed B.named
  have hlocks := B.notSynchronized
  have hin7 : ∀ w ∈ u_ws RX7 TX7 19, w ∈ wsX11_fleet := by decide +kernel
  have hin11 : ∀ w ∈ u_ws RX11 TX11 18, w ∈ wsX11_fleet := by decide +kernel
  subst hsz
  have hD := hD0.self (sz := s.heap.size)
  generalize hAe : va_A [(t, .inr (11, [.ref reader, .int (nI tapeLength), .int latestFault, .ref sea, .ref spareSea, .ref seaText, .ref book, .ref sentence, .ref spareSentence, .ref route, .ref meeting, .ref sighting, .ref draws, .ref history, .ref images, .ref chartBytes, .int (nI chartLength), .int fleetBits])), (sea, .inr (7, [.int (nI wide), .int (nI high), .int heat, .int cools, .int skinHeat, .int today, .int stirs, .int steps, .int (nI lumps), .int (nI boats), .ref thickness, .ref lumpNames, .ref lumpCells, .ref boatNames, .ref boatCells, .ref loads, .ref spoons, .ref spoonsLeft, .ref depths])), (loads, .inl (ky 0, 6, .inl loadsF)), (depths, .inl (ky 0, 6, .inl depthsF))] s.heap.size = A at hD ⊢
  have hA : ∀ q : Nat, s.heap.size ≤ q → A q := fun q h => by rw [← hAe]; exact Or.inr h
  have hS : va_S A s.heap s.heap [] := va_S.rf
  have hl := lv_entry ([.ref t, .int x]) (n := 6) (Nat.le_of_ble_eq_true rfl)
  rw [lg_entry_eq]
  generalize (lg_sl ([.ref t, .int x]) ++ List.replicate (6 - (lg_sl ([.ref t, .int x])).length) Slot.unset).toArray = ls at hl ⊢
  have hl : lv_has ls 6 [(0, .ref t), (1, .int x)] := hl
  refine q_name (fun Q hQ => ?_)
  generalize ([.ref t, .int x] : List Value).toArray = args at hts hQ ⊢
  refine lv_iload_n hx hb dX11_fleet_0 rfl (lv_at hl 1 rfl) ?_
  refine lv_iconst (v := nI 1) hx hb dX11_fleet_1 (by decide) ?_
  refine lv_icmp_lt (tgt := 11) hx hb dX11_fleet_2 (by decide) (fun c1 => ?_) (fun c1 => ?_)
  · refine lv_iconst (v := (-1 : Int32)) hx hb dX11_fleet_11 (by decide) ?_
    rw [hQ]
    exact W.iret (v := (-1 : Int32)) hx hb hr (fun t9 ht9 hW9 => ⟨⟨(-1 : Int32), fleetBits, rfl, trivial, by rw [ht9]; exact hP, va_K.moved hW9.alike hK, hD⟩, hS.F ht9⟩) hS.2.2 dX11_fleet_12
  · refine lv_iload_n hx hb dX11_fleet_5 rfl (lv_at hl 1 rfl) ?_
    refine lv_bipush (v := nI 54) hx hb dX11_fleet_6 (by decide) ?_
    refine lv_icmp_le (tgt := 13) hx hb dX11_fleet_8 (by decide) (fun c2 => ?_) (fun c2 => ?_)
    · refine lv_aload_n hx hb dX11_fleet_13 rfl (lv_at hl 0 rfl) ?_
      refine va_get (D := (dC, dI)) (ci := 11) (v := .ref sea) (C := RX11) (T := TX11) (N := 18) hx hb hts hin11 hown hK hP 0 rfl rfl 3 (by decide) (hts (.fieldLink RX11 26 "PorridgeSea" "sea" "LPorridgeSea$Sea;") (List.mem_of_getElem? (i := 1) rfl)) (fun _ h9 => h9) rfl dX11_fleet_14 ?_
      refine vp_callSi (W.runV (As := []) (rest := []) ⟨hx, hb, hml, hown, hts⟩ (c_s_eatenBits l dC dI ky sea wide high heat cools skinHeat today stirs steps lumps boats thickness lumpNames lumpCells boatNames boatCells loads spoons spoonsLeft depths depthsF iv_sea_0 iv_sea_1 iv_sea_2 iv_sea_3 iv_sea_4 iv_sea_5) (cwV 0 hts gX11_fleet_X7_eatenBits rfl rfl rfl (by decide +kernel) ⟨(Nat.le_of_ble_eq_true rfl), (Nat.le_of_ble_eq_true rfl)⟩) (pre_PV hK hP [1, 3] rfl (ci := 7) (q0 := 1) rfl rfl) rfl rfl hl.1 rfl (lv_room (Nat.le_of_ble_eq_true rfl)) dX11_fleet_17 ⟨(Nat.le_of_ble_eq_true rfl), (Nat.le_of_ble_eq_true rfl)⟩) (fun r3 p4 => ?_)
      refine lv_istore_n (lv' := [(2, .int r3), (0, .ref t), (1, .int x)]) hx hb dX11_fleet_20 rfl hl (by decide) rfl (fun ls hl => ?_)
      refine lv_iconst (v := nI 0) hx hb dX11_fleet_21 (by decide) ?_
      refine lv_istore_n (lv' := [(3, .int (nI 0)), (2, .int r3), (0, .ref t), (1, .int x)]) hx hb dX11_fleet_22 rfl hl (by decide) rfl (fun ls hl => ?_)
      refine lv_iconst (v := nI 1) hx hb dX11_fleet_23 (by decide) ?_
      refine lv_istore (lv' := [(4, .int (nI 1)), (3, .int (nI 0)), (2, .int r3), (0, .ref t), (1, .int x)]) hx hb dX11_fleet_24 hl (by decide) rfl (fun ls hl => ?_)
      have hL15 : ∀ (n16 : Nat) (k12 : Nat) (x13 : Int32), (k12 ≤ 2147483647) → 2147483647 - k12 < n16 → ∀ (H : Heap) (locs : List Loc) (ls : Array Slot), va_P (dC, dI) vwCl [(t, .inr (11, [.ref reader, .int (nI tapeLength), .int latestFault, .ref sea, .ref spareSea, .ref seaText, .ref book, .ref sentence, .ref spareSentence, .ref route, .ref meeting, .ref sighting, .ref draws, .ref history, .ref images, .ref chartBytes, .int (nI chartLength), .int fleetBits])), (sea, .inr (7, [.int (nI wide), .int (nI high), .int heat, .int cools, .int skinHeat, .int today, .int stirs, .int steps, .int (nI lumps), .int (nI boats), .ref thickness, .ref lumpNames, .ref lumpCells, .ref boatNames, .ref boatCells, .ref loads, .ref spoons, .ref spoonsLeft, .ref depths])), (loads, .inl (ky 0, 6, .inl loadsF)), (depths, .inl (ky 0, 6, .inl depthsF))] H → va_D A [(t, .inr (11, [.ref reader, .int (nI tapeLength), .int latestFault, .ref sea, .ref spareSea, .ref seaText, .ref book, .ref sentence, .ref spareSentence, .ref route, .ref meeting, .ref sighting, .ref draws, .ref history, .ref images, .ref chartBytes, .int (nI chartLength), .int fleetBits])), (sea, .inr (7, [.int (nI wide), .int (nI high), .int heat, .int cools, .int skinHeat, .int today, .int stirs, .int steps, .int (nI lumps), .int (nI boats), .ref thickness, .ref lumpNames, .ref lumpCells, .ref boatNames, .ref boatCells, .ref loads, .ref spoons, .ref spoonsLeft, .ref depths])), (loads, .inl (ky 0, 6, .inl loadsF)), (depths, .inl (ky 0, 6, .inl depthsF))] → va_S A s.heap H locs → lv_has ls 6 [(4, .int (nI k12)), (3, .int x13), (2, .int r3), (0, .ref t), (1, .int x)] → W p l e (headSpec wsX11_fleet ({ frames := 3, cells := 0, slots := 0, locals := 64 })).room s m args below meth c H locs 0 0 Q (F0 m 26 ls []) := by
        intro n16
        induction n16 with
        | zero => intro k12 x13 _ h9; exact absurd h9 (Nat.not_lt_zero _)
        | succ n16 ih17 =>
          intro k12 x13 j14 hm18 H locs ls hP hD hS hl
          refine lv_iload hx hb dX11_fleet_26 (lv_at hl 0 rfl) ?_
          refine lv_iconst (v := nI 1) hx hb dX11_fleet_28 (by decide) ?_
          refine lv_aload_n hx hb dX11_fleet_29 rfl (lv_at hl 3 rfl) ?_
          refine va_get (D := (dC, dI)) (ci := 11) (v := .ref sea) (C := RX11) (T := TX11) (N := 18) hx hb hts hin11 hown hK hP 0 rfl rfl 3 (by decide) (hts (.fieldLink RX11 26 "PorridgeSea" "sea" "LPorridgeSea$Sea;") (List.mem_of_getElem? (i := 1) rfl)) (fun _ h9 => h9) rfl dX11_fleet_30 ?_
          refine va_get (D := (dC, dI)) (ci := 7) (v := .int (nI boats)) (C := RX7) (T := TX7) (N := 19) hx hb hts hin7 hown hK hP 1 rfl rfl 9 (by decide) (hts (.fieldLink RX11 206 "PorridgeSea$Sea" "boats" "I") (List.mem_of_getElem? (i := 2) rfl)) (fun _ h9 => h9) rfl dX11_fleet_33 ?_
          refine lv_ishl hx hb dX11_fleet_36 ?_
          refine lv_topi (fun y19 e20 => ?_)
          refine lv_icmp_ge (tgt := 97) hx hb dX11_fleet_37 (by decide) (fun c21 => ?_) (fun c21 => ?_)
          · refine lv_iload_n hx hb dX11_fleet_97 rfl (lv_at hl 1 rfl) ?_
            refine lv_if_ne (tgt := 103) hx hb dX11_fleet_98 (by decide) (fun c22 => ?_) (fun c22 => ?_)
            · refine lv_aload_n hx hb dX11_fleet_103 rfl (lv_at hl 3 rfl) ?_
              refine lv_iload_n hx hb dX11_fleet_104 rfl (lv_at hl 1 rfl) ?_
              refine va_put (D := (dC, dI)) (ci := 11) (v := .int x13) (ty := .int) (C := RX11) (T := TX11) (N := 18) hx hb hts hin11 tyX11 tyX11_ok nmX11 hown hK hP hD hS 0 rfl rfl 17 (by decide) (hts (.fieldLink RX11 106 "PorridgeSea" "fleetBits" "I") (List.mem_of_getElem? (i := 3) rfl)) (fun _ h9 => h9) rfl (by decide +kernel) rfl rfl (Nat.le_of_ble_eq_true rfl) dX11_fleet_105 (fun H locs hP hD hS => ?_)
              have hP : va_P (dC, dI) vwCl [(t, .inr (11, [.ref reader, .int (nI tapeLength), .int latestFault, .ref sea, .ref spareSea, .ref seaText, .ref book, .ref sentence, .ref spareSentence, .ref route, .ref meeting, .ref sighting, .ref draws, .ref history, .ref images, .ref chartBytes, .int (nI chartLength), .int x13])), (sea, .inr (7, [.int (nI wide), .int (nI high), .int heat, .int cools, .int skinHeat, .int today, .int stirs, .int steps, .int (nI lumps), .int (nI boats), .ref thickness, .ref lumpNames, .ref lumpCells, .ref boatNames, .ref boatCells, .ref loads, .ref spoons, .ref spoonsLeft, .ref depths])), (loads, .inl (ky 0, 6, .inl loadsF)), (depths, .inl (ky 0, 6, .inl depthsF))] H := hP
              have hD : va_D A [(t, .inr (11, [.ref reader, .int (nI tapeLength), .int latestFault, .ref sea, .ref spareSea, .ref seaText, .ref book, .ref sentence, .ref spareSentence, .ref route, .ref meeting, .ref sighting, .ref draws, .ref history, .ref images, .ref chartBytes, .int (nI chartLength), .int x13])), (sea, .inr (7, [.int (nI wide), .int (nI high), .int heat, .int cools, .int skinHeat, .int today, .int stirs, .int steps, .int (nI lumps), .int (nI boats), .ref thickness, .ref lumpNames, .ref lumpCells, .ref boatNames, .ref boatCells, .ref loads, .ref spoons, .ref spoonsLeft, .ref depths])), (loads, .inl (ky 0, 6, .inl loadsF)), (depths, .inl (ky 0, 6, .inl depthsF))] := hD
              refine lv_iload_n hx hb dX11_fleet_108 rfl (lv_at hl 1 rfl) ?_
              refine vp_callSi (W.runS (As := [.int x13]) (rest := []) ⟨hx, hb, hml, hown, hts⟩ (c_j_bitI l dC dI ky x13) (va_cwS 1 hts gX11_fleet_J6_bitCount_0f7a4 rfl rfl rfl (by decide +kernel) ⟨(Nat.le_of_ble_eq_true rfl), (Nat.le_of_ble_eq_true rfl)⟩) (pre_PS hK hP [] rfl) rfl rfl hl.1 rfl (lv_room (Nat.le_of_ble_eq_true rfl)) dX11_fleet_109 ⟨(Nat.le_of_ble_eq_true rfl), (Nat.le_of_ble_eq_true rfl)⟩) (fun r23 p24 => ?_)
              rw [hQ]
              exact W.iret (v := r23) hx hb hr (fun t9 ht9 hW9 => ⟨⟨r23, x13, rfl, trivial, by rw [ht9]; exact hP, va_K.moved hW9.alike hK, hD⟩, hS.F ht9⟩) hS.2.2 dX11_fleet_112
            · refine lv_iconst (v := (-1 : Int32)) hx hb dX11_fleet_101 (by decide) ?_
              rw [hQ]
              exact W.iret (v := (-1 : Int32)) hx hb hr (fun t9 ht9 hW9 => ⟨⟨(-1 : Int32), fleetBits, rfl, trivial, by rw [ht9]; exact hP, va_K.moved hW9.alike hK, hD⟩, hS.F ht9⟩) hS.2.2 dX11_fleet_102
          · refine lv_iload_n hx hb dX11_fleet_40 rfl (lv_at hl 1 rfl) ?_
            have hJ28 : ∀ (x26 : Int32), (x26 = nI 0 ∨ x26 = nI 1) → ∀ (H : Heap) (locs : List Loc) (ls : Array Slot), va_P (dC, dI) vwCl [(t, .inr (11, [.ref reader, .int (nI tapeLength), .int latestFault, .ref sea, .ref spareSea, .ref seaText, .ref book, .ref sentence, .ref spareSentence, .ref route, .ref meeting, .ref sighting, .ref draws, .ref history, .ref images, .ref chartBytes, .int (nI chartLength), .int fleetBits])), (sea, .inr (7, [.int (nI wide), .int (nI high), .int heat, .int cools, .int skinHeat, .int today, .int stirs, .int steps, .int (nI lumps), .int (nI boats), .ref thickness, .ref lumpNames, .ref lumpCells, .ref boatNames, .ref boatCells, .ref loads, .ref spoons, .ref spoonsLeft, .ref depths])), (loads, .inl (ky 0, 6, .inl loadsF)), (depths, .inl (ky 0, 6, .inl depthsF))] H → va_D A [(t, .inr (11, [.ref reader, .int (nI tapeLength), .int latestFault, .ref sea, .ref spareSea, .ref seaText, .ref book, .ref sentence, .ref spareSentence, .ref route, .ref meeting, .ref sighting, .ref draws, .ref history, .ref images, .ref chartBytes, .int (nI chartLength), .int fleetBits])), (sea, .inr (7, [.int (nI wide), .int (nI high), .int heat, .int cools, .int skinHeat, .int today, .int stirs, .int steps, .int (nI lumps), .int (nI boats), .ref thickness, .ref lumpNames, .ref lumpCells, .ref boatNames, .ref boatCells, .ref loads, .ref spoons, .ref spoonsLeft, .ref depths])), (loads, .inl (ky 0, 6, .inl loadsF)), (depths, .inl (ky 0, 6, .inl depthsF))] → va_S A s.heap H locs → lv_has ls 6 [(4, .int (nI k12)), (3, .int x13), (2, .int r3), (0, .ref t), (1, .int x)] → W p l e (headSpec wsX11_fleet ({ frames := 3, cells := 0, slots := 0, locals := 64 })).room s m args below meth c H locs 0 0 Q (F0 m 61 ls [.int x26]) := by
              intro x26 j27 H locs ls hP hD hS hl
              refine lv_istore (lv' := [(5, .int x26), (4, .int (nI k12)), (3, .int x13), (2, .int r3), (0, .ref t), (1, .int x)]) hx hb dX11_fleet_61 hl (by decide) rfl (fun ls hl => ?_)
              refine lv_iload hx hb dX11_fleet_63 (lv_at hl 0 rfl) ?_
              refine lv_if_eq (tgt := 91) hx hb dX11_fleet_65 (by decide) (fun c29 => ?_) (fun c29 => ?_)
              · refine lv_iinc (v := nI (k12 + 1)) (lv' := [(4, .int (nI (k12 + 1))), (5, .int x26), (3, .int x13), (2, .int r3), (0, .ref t), (1, .int x)]) hx hb dX11_fleet_91 hl (k := 1) rfl (show nI k12 + nI 1 = nI (k12 + 1) from nI_add _ _) (by decide) rfl (fun ls hl => ?_)
                refine lv_goto (tgt := 26) hx hb dX11_fleet_94 (by decide) ?_
                exact ih17 (k12 + 1) x13 (lf_p_fleet_1 boats k12 n16 y19 iv_sea_5 p4 j14 hm18 e20 c21) (lf_p_fleet_2 boats k12 n16 y19 iv_sea_5 p4 j14 hm18 e20 c21) _ _ _ hP hD hS (lv_sub hl [0, 2, 3, 4, 5] rfl)
              · refine lv_iload hx hb dX11_fleet_68 (lv_at hl 1 rfl) ?_
                refine lv_iload_n hx hb dX11_fleet_70 rfl (lv_at hl 3 rfl) ?_
                refine lv_iand hx hb dX11_fleet_71 ?_
                refine lv_topi (fun y30 e31 => ?_)
                refine lv_if_ne (tgt := 91) hx hb dX11_fleet_72 (by decide) (fun c32 => ?_) (fun c32 => ?_)
                · refine lv_iinc (v := nI (k12 + 1)) (lv' := [(4, .int (nI (k12 + 1))), (5, .int x26), (3, .int x13), (2, .int r3), (0, .ref t), (1, .int x)]) hx hb dX11_fleet_91 hl (k := 1) rfl (show nI k12 + nI 1 = nI (k12 + 1) from nI_add _ _) (by decide) rfl (fun ls hl => ?_)
                  refine lv_goto (tgt := 26) hx hb dX11_fleet_94 (by decide) ?_
                  exact ih17 (k12 + 1) x13 (lf_p_fleet_3 boats r3 k12 n16 y19 y30 iv_sea_5 p4 j14 hm18 e20 c21 e31 c32) (lf_p_fleet_4 boats r3 k12 n16 y19 y30 iv_sea_5 p4 j14 hm18 e20 c21 e31 c32) _ _ _ hP hD hS (lv_sub hl [0, 2, 3, 4, 5] rfl)
                · refine lv_aload_n hx hb dX11_fleet_75 rfl (lv_at hl 4 rfl) ?_
                  refine va_get (D := (dC, dI)) (ci := 11) (v := .ref sea) (C := RX11) (T := TX11) (N := 18) hx hb hts hin11 hown hK hP 0 rfl rfl 3 (by decide) (hts (.fieldLink RX11 26 "PorridgeSea" "sea" "LPorridgeSea$Sea;") (List.mem_of_getElem? (i := 1) rfl)) (fun _ h9 => h9) rfl dX11_fleet_76 ?_
                  refine lv_iload hx hb dX11_fleet_79 (lv_at hl 1 rfl) ?_
                  refine vp_callSi (W.runV (As := [.int (nI k12)]) (rest := []) ⟨hx, hb, hml, hown, hts⟩ (c_s_loadOf l dC dI ky sea wide high heat cools skinHeat today stirs steps lumps boats thickness lumpNames lumpCells boatNames boatCells loads spoons spoonsLeft depths loadsF (nI k12) iv_sea_0 iv_sea_1 iv_sea_2 iv_sea_3 iv_sea_4 iv_sea_5) (cwV 1 hts gX11_fleet_X7_loadOf rfl rfl rfl (by decide +kernel) ⟨(Nat.le_of_ble_eq_true rfl), (Nat.le_of_ble_eq_true rfl)⟩) (pre_PV hK hP [1, 2] rfl (ci := 7) (q0 := 1) rfl rfl) rfl rfl hl.1 rfl (lv_room (Nat.le_of_ble_eq_true rfl)) dX11_fleet_81 ⟨(Nat.le_of_ble_eq_true rfl), (Nat.le_of_ble_eq_true rfl)⟩) (fun r33 p34 => ?_)
                  refine lv_iload_n hx hb dX11_fleet_84 rfl (lv_at hl 5 rfl) ?_
                  refine lv_icmp_lt (tgt := 91) hx hb dX11_fleet_85 (by decide) (fun c35 => ?_) (fun c35 => ?_)
                  · refine lv_iinc (v := nI (k12 + 1)) (lv' := [(4, .int (nI (k12 + 1))), (5, .int x26), (3, .int x13), (2, .int r3), (0, .ref t), (1, .int x)]) hx hb dX11_fleet_91 hl (k := 1) rfl (show nI k12 + nI 1 = nI (k12 + 1) from nI_add _ _) (by decide) rfl (fun ls hl => ?_)
                    refine lv_goto (tgt := 26) hx hb dX11_fleet_94 (by decide) ?_
                    exact ih17 (k12 + 1) x13 (lf_p_fleet_5 boats r3 k12 n16 y19 y30 iv_sea_5 p4 j14 hm18 e20 c21 e31 c32 p34) (lf_p_fleet_6 boats r3 k12 n16 y19 y30 iv_sea_5 p4 j14 hm18 e20 c21 e31 c32 p34) _ _ _ hP hD hS (lv_sub hl [0, 2, 3, 4, 5] rfl)
                  · refine lv_iload hx hb dX11_fleet_88 (lv_at hl 1 rfl) ?_
                    refine lv_istore_n (lv' := [(3, .int (nI k12)), (5, .int x26), (4, .int (nI k12)), (2, .int r3), (0, .ref t), (1, .int x)]) hx hb dX11_fleet_90 rfl hl (by decide) rfl (fun ls hl => ?_)
                    refine lv_iinc (v := nI (k12 + 1)) (lv' := [(4, .int (nI (k12 + 1))), (3, .int (nI k12)), (5, .int x26), (2, .int r3), (0, .ref t), (1, .int x)]) hx hb dX11_fleet_91 hl (k := 2) rfl (show nI k12 + nI 1 = nI (k12 + 1) from nI_add _ _) (by decide) rfl (fun ls hl => ?_)
                    refine lv_goto (tgt := 26) hx hb dX11_fleet_94 (by decide) ?_
                    exact ih17 (k12 + 1) (nI k12) (lf_p_fleet_7 boats r3 k12 n16 y19 y30 iv_sea_5 p4 j14 hm18 e20 c21 e31 c32 p34) (lf_p_fleet_8 boats r3 k12 n16 y19 y30 iv_sea_5 p4 j14 hm18 e20 c21 e31 c32 p34) _ _ _ hP hD hS (lv_sub hl [0, 1, 3, 4, 5] rfl)
            refine lv_if_eq (tgt := 56) hx hb dX11_fleet_41 (by decide) (fun c25 => ?_) (fun c25 => ?_)
            · refine lv_iconst (v := nI 1) hx hb dX11_fleet_56 (by decide) ?_
              refine lv_goto (tgt := 61) hx hb dX11_fleet_57 (by decide) ?_
              exact hJ28 (nI 1) (lf_p_fleet_9 p4) _ _ _ hP hD hS (lv_sub hl [0, 1, 2, 3, 4] rfl)
            · refine lv_iload hx hb dX11_fleet_44 (lv_at hl 0 rfl) ?_
              refine vp_callSi (W.runS (As := [.int (nI k12)]) (rest := []) ⟨hx, hb, hml, hown, hts⟩ (c_j_bitI l dC dI ky (nI k12)) (va_cwS 1 hts gX11_fleet_J6_bitCount_0f7a4 rfl rfl rfl (by decide +kernel) ⟨(Nat.le_of_ble_eq_true rfl), (Nat.le_of_ble_eq_true rfl)⟩) (pre_PS hK hP [] rfl) rfl rfl hl.1 rfl (lv_room (Nat.le_of_ble_eq_true rfl)) dX11_fleet_46 ⟨(Nat.le_of_ble_eq_true rfl), (Nat.le_of_ble_eq_true rfl)⟩) (fun r36 p37 => ?_)
              refine lv_iload_n hx hb dX11_fleet_49 rfl (lv_at hl 1 rfl) ?_
              refine vp_callSi (W.runS (As := [.int x13]) (rest := [.int r36]) ⟨hx, hb, hml, hown, hts⟩ (c_j_bitI l dC dI ky x13) (va_cwS 1 hts gX11_fleet_J6_bitCount_0f7a4 rfl rfl rfl (by decide +kernel) ⟨(Nat.le_of_ble_eq_true rfl), (Nat.le_of_ble_eq_true rfl)⟩) (pre_PS hK hP [] rfl) rfl rfl hl.1 rfl (lv_room (Nat.le_of_ble_eq_true rfl)) dX11_fleet_50 ⟨(Nat.le_of_ble_eq_true rfl), (Nat.le_of_ble_eq_true rfl)⟩) (fun r38 p39 => ?_)
              refine lv_icmp_ge (tgt := 60) hx hb dX11_fleet_53 (by decide) (fun c40 => ?_) (fun c40 => ?_)
              · refine lv_iconst (v := nI 0) hx hb dX11_fleet_60 (by decide) ?_
                exact hJ28 (nI 0) (lf_p_fleet_10 p4 p37 p39) _ _ _ hP hD hS (lv_sub hl [0, 1, 2, 3, 4] rfl)
              · refine lv_iconst (v := nI 1) hx hb dX11_fleet_56 (by decide) ?_
                refine lv_goto (tgt := 61) hx hb dX11_fleet_57 (by decide) ?_
                exact hJ28 (nI 1) (lf_p_fleet_11 p4 p37 p39) _ _ _ hP hD hS (lv_sub hl [0, 1, 2, 3, 4] rfl)
      exact hL15 ((2147483647 - 1) + 1) 1 (nI 0) (lf_p_fleet_12 p4) (Nat.lt_succ_self _) _ _ _ hP hD hS (lv_sub hl [0, 1, 2, 3, 4] rfl)
    · refine lv_iconst (v := (-1 : Int32)) hx hb dX11_fleet_11 (by decide) ?_
      rw [hQ]
      exact W.iret (v := (-1 : Int32)) hx hb hr (fun t9 ht9 hW9 => ⟨⟨(-1 : Int32), fleetBits, rfl, trivial, by rw [ht9]; exact hP, va_K.moved hW9.alike hK, hD⟩, hS.F ht9⟩) hS.2.2 dX11_fleet_12
set_option maxHeartbeats 4000000 in
set_option maxRecDepth 100000 in
theorem c_p_fleets (l : Launch) (dC : Nat → ClassId) (dI : Nat → Nat → Nat) (ky : Nat → ClassId) (t : Nat) (reader : Nat) (tapeLength : Nat) (latestFault : Int32) (sea : Nat) (spareSea : Nat) (seaText : Nat) (book : Nat) (sentence : Nat) (spareSentence : Nat) (route : Nat) (meeting : Nat) (sighting : Nat) (draws : Nat) (history : Nat) (images : Nat) (chartBytes : Nat) (chartLength : Nat) (fleetBits : Int32) (iv_t_0 : tapeLength ≤ 940) (iv_t_1 : chartLength ≤ 32) : Met l yX11_fleets wsX11_fleets ({ frames := 0, cells := 0, slots := 0, locals := 0 }) (PcP dC dI ky [.ref t] [(t, .inr (11, [.ref reader, .int (nI tapeLength), .int latestFault, .ref sea, .ref spareSea, .ref seaText, .ref book, .ref sentence, .ref spareSentence, .ref route, .ref meeting, .ref sighting, .ref draws, .ref history, .ref images, .ref chartBytes, .int (nI chartLength), .int fleetBits]))]) (vp_Si (fun r : Int32 => True)) 0 0 (fun _ => False) := by
  refine Met.ofW (cc := cX11_fleets) (maxL := 1) (ret := (some .int)) (by decide) rfl ?_
  intro p e s m args below meth c s₁ B hml hv
  obtain ⟨rfl, hP, hK⟩ := hv
  have hx := B.exec
  have hb := B.bytes
  have hr := B.returns
  have hts := atoms_spec (ws := wsX11_fleets) B.pre
  have hown : s.vm.findClass RX11 = some m.cls := findClass_of_methodNamed B.named
  have hlocks := B.notSynchronized
  have hin11 : ∀ w ∈ u_ws RX11 TX11 18, w ∈ wsX11_fleets := by decide +kernel
  have hl := lv_entry ([.ref t]) (n := 1) (Nat.le_of_ble_eq_true rfl)
  rw [lg_entry_eq]
  generalize (lg_sl ([.ref t]) ++ List.replicate (1 - (lg_sl ([.ref t])).length) Slot.unset).toArray = ls at hl ⊢
  have hl : lv_has ls 1 [(0, .ref t)] := hl
  refine q_name (fun Q hQ => ?_)
  generalize ([.ref t] : List Value).toArray = args at hts hQ ⊢
  refine lv_aload_n hx hb dX11_fleets_0 rfl (lv_at hl 0 rfl) ?_
  refine va_get (D := (dC, dI)) (ci := 11) (v := .int fleetBits) (C := RX11) (T := TX11) (N := 18) hx hb hts hin11 hown hK hP 0 rfl rfl 17 (by decide) (hts (.fieldLink RX11 106 "PorridgeSea" "fleetBits" "I") (List.mem_of_getElem? (i := 1) rfl)) (fun _ h9 => h9) rfl dX11_fleets_1 ?_
  rw [hQ]
  exact W.iret (v := fleetBits) hx hb hr (fun t9 ht9 hW9 => ⟨fleetBits, rfl, trivial, ht9⟩) (fun _ h => absurd h List.not_mem_nil) dX11_fleets_4
set_option maxRecDepth 20000 in
theorem lf_p_odds_1 (y : Int32) (z : Int32) (k68 : Nat) (n98 : Nat) (y129 : Int32) (c7 : ¬ y < nI 1) (c8 : y ≤ nI 30) (j90 : k68 ≤ 30) (hm100 : 30 - k68 < n98 + 1) (c101 : ¬ y ≤ nI k68) (e130 : y129 = z + (nI k68)) : (k68 + 1) ≤ 30 := by
  have b_y := ia_b y
  have b_z := ia_b z
  have b_y129 := ia_b y129
  try have k_0 := ia_n 1 (by first | decide | omega)
  try have k_1 := ia_n 30 (by first | decide | omega)
  try have k_2 := ia_n k68 (by first | decide | omega)
  try simp only [ia_lt, ia_le, ia_eq, ia_m1, ia_0, ia_1, ne_eq, true_and, and_true, false_and, and_false, or_false, false_or, or_true, true_or, not_true_eq_false, not_false_eq_true] at *
  all_goals omega
set_option maxRecDepth 20000 in
theorem lf_p_odds_2 (y : Int32) (z : Int32) (k68 : Nat) (n98 : Nat) (y129 : Int32) (c7 : ¬ y < nI 1) (c8 : y ≤ nI 30) (j90 : k68 ≤ 30) (hm100 : 30 - k68 < n98 + 1) (c101 : ¬ y ≤ nI k68) (e130 : y129 = z + (nI k68)) : 30 - (k68 + 1) < n98 := by
  have b_y := ia_b y
  have b_z := ia_b z
  have b_y129 := ia_b y129
  try have k_0 := ia_n 1 (by first | decide | omega)
  try have k_1 := ia_n 30 (by first | decide | omega)
  try have k_2 := ia_n k68 (by first | decide | omega)
  try simp only [ia_lt, ia_le, ia_eq, ia_m1, ia_0, ia_1, ne_eq, true_and, and_true, false_and, and_false, or_false, false_or, or_true, true_or, not_true_eq_false, not_false_eq_true] at *
  all_goals omega
set_option maxRecDepth 20000 in
theorem lf_p_odds_3 (y : Int32) (z : Int32) (k68 : Nat) (n98 : Nat) (y129 : Int32) (c7 : ¬ y < nI 1) (c8 : y ≤ nI 30) (j90 : k68 ≤ 30) (hm100 : 30 - k68 < n98 + 1) (c101 : ¬ y ≤ nI k68) (e130 : y129 = z + (nI k68)) (t148 : True) : (k68 + 1) ≤ 30 := by
  have b_y := ia_b y
  have b_z := ia_b z
  have b_y129 := ia_b y129
  try have k_0 := ia_n 1 (by first | decide | omega)
  try have k_1 := ia_n 30 (by first | decide | omega)
  try have k_2 := ia_n k68 (by first | decide | omega)
  try simp only [ia_lt, ia_le, ia_eq, ia_m1, ia_0, ia_1, ne_eq, true_and, and_true, false_and, and_false, or_false, false_or, or_true, true_or, not_true_eq_false, not_false_eq_true] at *
  all_goals omega
set_option maxRecDepth 20000 in
theorem lf_p_odds_4 (y : Int32) (z : Int32) (k68 : Nat) (n98 : Nat) (y129 : Int32) (c7 : ¬ y < nI 1) (c8 : y ≤ nI 30) (j90 : k68 ≤ 30) (hm100 : 30 - k68 < n98 + 1) (c101 : ¬ y ≤ nI k68) (e130 : y129 = z + (nI k68)) (t148 : True) : 30 - (k68 + 1) < n98 := by
  have b_y := ia_b y
  have b_z := ia_b z
  have b_y129 := ia_b y129
  try have k_0 := ia_n 1 (by first | decide | omega)
  try have k_1 := ia_n 30 (by first | decide | omega)
  try have k_2 := ia_n k68 (by first | decide | omega)
  try simp only [ia_lt, ia_le, ia_eq, ia_m1, ia_0, ia_1, ne_eq, true_and, and_true, false_and, and_false, or_false, false_or, or_true, true_or, not_true_eq_false, not_false_eq_true] at *
  all_goals omega
set_option maxRecDepth 20000 in
theorem lf_p_odds_5   : 0 ≤ 30 := by
  try simp only [ia_lt, ia_le, ia_eq, ia_m1, ia_0, ia_1, ne_eq, true_and, and_true, false_and, and_false, or_false, false_or, or_true, true_or, not_true_eq_false, not_false_eq_true] at *
  all_goals omega
set_option maxHeartbeats 4000000 in
set_option maxRecDepth 100000 in
theorem c_p_odds (l : Launch) (dC : Nat → ClassId) (dI : Nat → Nat → Nat) (ky : Nat → ClassId) (sz : Nat) (t : Nat) (reader : Nat) (tapeLength : Nat) (latestFault : Int32) (sea : Nat) (spareSea : Nat) (seaText : Nat) (book : Nat) (sentence : Nat) (spareSentence : Nat) (route : Nat) (meeting : Nat) (sighting : Nat) (draws : Nat) (history : Nat) (images : Nat) (chartBytes : Nat) (chartLength : Nat) (fleetBits : Int32) (wide : Nat) (high : Nat) (heat : Int32) (cools : Int32) (skinHeat : Int32) (today : Int32) (stirs : Int32) (steps : Int32) (lumps : Nat) (boats : Nat) (thickness : Nat) (lumpNames : Nat) (lumpCells : Nat) (boatNames : Nat) (boatCells : Nat) (loads : Nat) (spoons : Nat) (spoonsLeft : Nat) (depths : Nat) (thicknessF : Nat → Int32) (lumpNamesF : Nat → Int64) (lumpCellsF : Nat → Int32) (boatNamesF : Nat → Int64) (boatCellsF : Nat → Int32) (loadsF : Nat → Int32) (spoonsF : Nat → Int32) (spoonsLeftF : Nat → Int32) (depthsF : Nat → Int32) (pwide : Nat) (phigh : Nat) (pheat : Int32) (pcools : Int32) (pskinHeat : Int32) (ptoday : Int32) (pstirs : Int32) (psteps : Int32) (plumps : Nat) (pboats : Nat) (pthickness : Nat) (plumpNames : Nat) (plumpCells : Nat) (pboatNames : Nat) (pboatCells : Nat) (ploads : Nat) (pspoons : Nat) (pspoonsLeft : Nat) (pdepths : Nat) (pthicknessF : Nat → Int32) (plumpNamesF : Nat → Int64) (plumpCellsF : Nat → Int32) (pboatNamesF : Nat → Int64) (pboatCellsF : Nat → Int32) (ploadsF : Nat → Int32) (pspoonsF : Nat → Int32) (pspoonsLeftF : Nat → Int32) (pdepthsF : Nat → Int32) (dx : Int32) (x : Int32) (y : Int32) (z : Int32) (iv_t_0 : tapeLength ≤ 940) (iv_t_1 : chartLength ≤ 32) (iv_sea_0 : 2 ≤ wide) (iv_sea_1 : wide ≤ 6) (iv_sea_2 : 2 ≤ high) (iv_sea_3 : high ≤ 6) (iv_sea_4 : lumps ≤ 6) (iv_sea_5 : boats ≤ 6) (iv_pspareSea_0 : 2 ≤ pwide) (iv_pspareSea_1 : pwide ≤ 6) (iv_pspareSea_2 : 2 ≤ phigh) (iv_pspareSea_3 : phigh ≤ 6) (iv_pspareSea_4 : plumps ≤ 6) (iv_pspareSea_5 : pboats ≤ 6) : Met l yX11_odds wsX11_odds ({ frames := 5, cells := 0, slots := 0, locals := 121 }) (PcU dC dI ky [.ref t, .int x, .int y, .int z] [(t, .inr (11, [.ref reader, .int (nI tapeLength), .int latestFault, .ref sea, .ref spareSea, .ref seaText, .ref book, .ref sentence, .ref spareSentence, .ref route, .ref meeting, .ref sighting, .ref draws, .ref history, .ref images, .ref chartBytes, .int (nI chartLength), .int fleetBits])), (sea, .inr (7, [.int (nI wide), .int (nI high), .int heat, .int cools, .int skinHeat, .int today, .int stirs, .int steps, .int (nI lumps), .int (nI boats), .ref thickness, .ref lumpNames, .ref lumpCells, .ref boatNames, .ref boatCells, .ref loads, .ref spoons, .ref spoonsLeft, .ref depths])), (thickness, .inl (ky 0, 36, .inl thicknessF)), (lumpNames, .inl (ky 1, 6, .inr (.inl lumpNamesF))), (lumpCells, .inl (ky 0, 6, .inl lumpCellsF)), (boatNames, .inl (ky 1, 6, .inr (.inl boatNamesF))), (boatCells, .inl (ky 0, 6, .inl boatCellsF)), (loads, .inl (ky 0, 6, .inl loadsF)), (spoons, .inl (ky 0, 6, .inl spoonsF)), (spoonsLeft, .inl (ky 0, 6, .inl spoonsLeftF)), (depths, .inl (ky 0, 6, .inl depthsF)), (spareSea, .inr (7, [.int (nI pwide), .int (nI phigh), .int pheat, .int pcools, .int pskinHeat, .int ptoday, .int pstirs, .int psteps, .int (nI plumps), .int (nI pboats), .ref pthickness, .ref plumpNames, .ref plumpCells, .ref pboatNames, .ref pboatCells, .ref ploads, .ref pspoons, .ref pspoonsLeft, .ref pdepths])), (pthickness, .inl (ky 0, 36, .inl pthicknessF)), (plumpNames, .inl (ky 1, 6, .inr (.inl plumpNamesF))), (plumpCells, .inl (ky 0, 6, .inl plumpCellsF)), (pboatNames, .inl (ky 1, 6, .inr (.inl pboatNamesF))), (pboatCells, .inl (ky 0, 6, .inl pboatCellsF)), (ploads, .inl (ky 0, 6, .inl ploadsF)), (pspoons, .inl (ky 0, 6, .inl pspoonsF)), (pspoonsLeft, .inl (ky 0, 6, .inl pspoonsLeftF)), (pdepths, .inl (ky 0, 6, .inl pdepthsF)), (draws, .inr (1, [.int dx]))] sz) (va_Qi (fun (r : Int32) (u : Nat × Nat × Int32 × Int32 × Int32 × Int32 × Int32 × Int32 × Nat × Nat × (Nat → Int32) × (Nat → Int64) × (Nat → Int32) × (Nat → Int64) × (Nat → Int32) × (Nat → Int32) × (Nat → Int32) × (Nat → Int32) × (Nat → Int32) × Int32) => match u with | (pwideG, phighG, pheatG, pcoolsG, pskinHeatG, ptodayG, pstirsG, pstepsG, plumpsG, pboatsG, pthicknessG, plumpNamesG, plumpCellsG, pboatNamesG, pboatCellsG, ploadsG, pspoonsG, pspoonsLeftG, pdepthsG, dxG) => (2 ≤ pwideG) ∧ (pwideG ≤ 6) ∧ (2 ≤ phighG) ∧ (phighG ≤ 6) ∧ (plumpsG ≤ 6) ∧ (pboatsG ≤ 6)) (BU dC dI ky (fun (u : Nat × Nat × Int32 × Int32 × Int32 × Int32 × Int32 × Int32 × Nat × Nat × (Nat → Int32) × (Nat → Int64) × (Nat → Int32) × (Nat → Int64) × (Nat → Int32) × (Nat → Int32) × (Nat → Int32) × (Nat → Int32) × (Nat → Int32) × Int32) => match u with | (pwideG, phighG, pheatG, pcoolsG, pskinHeatG, ptodayG, pstirsG, pstepsG, plumpsG, pboatsG, pthicknessG, plumpNamesG, plumpCellsG, pboatNamesG, pboatCellsG, ploadsG, pspoonsG, pspoonsLeftG, pdepthsG, dxG) => [(t, .inr (11, [.ref reader, .int (nI tapeLength), .int latestFault, .ref sea, .ref spareSea, .ref seaText, .ref book, .ref sentence, .ref spareSentence, .ref route, .ref meeting, .ref sighting, .ref draws, .ref history, .ref images, .ref chartBytes, .int (nI chartLength), .int fleetBits])), (sea, .inr (7, [.int (nI wide), .int (nI high), .int heat, .int cools, .int skinHeat, .int today, .int stirs, .int steps, .int (nI lumps), .int (nI boats), .ref thickness, .ref lumpNames, .ref lumpCells, .ref boatNames, .ref boatCells, .ref loads, .ref spoons, .ref spoonsLeft, .ref depths])), (thickness, .inl (ky 0, 36, .inl thicknessF)), (lumpNames, .inl (ky 1, 6, .inr (.inl lumpNamesF))), (lumpCells, .inl (ky 0, 6, .inl lumpCellsF)), (boatNames, .inl (ky 1, 6, .inr (.inl boatNamesF))), (boatCells, .inl (ky 0, 6, .inl boatCellsF)), (loads, .inl (ky 0, 6, .inl loadsF)), (spoons, .inl (ky 0, 6, .inl spoonsF)), (spoonsLeft, .inl (ky 0, 6, .inl spoonsLeftF)), (depths, .inl (ky 0, 6, .inl depthsF)), (spareSea, .inr (7, [.int (nI pwideG), .int (nI phighG), .int pheatG, .int pcoolsG, .int pskinHeatG, .int ptodayG, .int pstirsG, .int pstepsG, .int (nI plumpsG), .int (nI pboatsG), .ref pthickness, .ref plumpNames, .ref plumpCells, .ref pboatNames, .ref pboatCells, .ref ploads, .ref pspoons, .ref pspoonsLeft, .ref pdepths])), (pthickness, .inl (ky 0, 36, .inl pthicknessG)), (plumpNames, .inl (ky 1, 6, .inr (.inl plumpNamesG))), (plumpCells, .inl (ky 0, 6, .inl plumpCellsG)), (pboatNames, .inl (ky 1, 6, .inr (.inl pboatNamesG))), (pboatCells, .inl (ky 0, 6, .inl pboatCellsG)), (ploads, .inl (ky 0, 6, .inl ploadsG)), (pspoons, .inl (ky 0, 6, .inl pspoonsG)), (pspoonsLeft, .inl (ky 0, 6, .inl pspoonsLeftG)), (pdepths, .inl (ky 0, 6, .inl pdepthsG)), (draws, .inr (1, [.int dxG]))]) (va_A [(t, .inr (11, [.ref reader, .int (nI tapeLength), .int latestFault, .ref sea, .ref spareSea, .ref seaText, .ref book, .ref sentence, .ref spareSentence, .ref route, .ref meeting, .ref sighting, .ref draws, .ref history, .ref images, .ref chartBytes, .int (nI chartLength), .int fleetBits])), (sea, .inr (7, [.int (nI wide), .int (nI high), .int heat, .int cools, .int skinHeat, .int today, .int stirs, .int steps, .int (nI lumps), .int (nI boats), .ref thickness, .ref lumpNames, .ref lumpCells, .ref boatNames, .ref boatCells, .ref loads, .ref spoons, .ref spoonsLeft, .ref depths])), (thickness, .inl (ky 0, 36, .inl thicknessF)), (lumpNames, .inl (ky 1, 6, .inr (.inl lumpNamesF))), (lumpCells, .inl (ky 0, 6, .inl lumpCellsF)), (boatNames, .inl (ky 1, 6, .inr (.inl boatNamesF))), (boatCells, .inl (ky 0, 6, .inl boatCellsF)), (loads, .inl (ky 0, 6, .inl loadsF)), (spoons, .inl (ky 0, 6, .inl spoonsF)), (spoonsLeft, .inl (ky 0, 6, .inl spoonsLeftF)), (depths, .inl (ky 0, 6, .inl depthsF)), (spareSea, .inr (7, [.int (nI pwide), .int (nI phigh), .int pheat, .int pcools, .int pskinHeat, .int ptoday, .int pstirs, .int psteps, .int (nI plumps), .int (nI pboats), .ref pthickness, .ref plumpNames, .ref plumpCells, .ref pboatNames, .ref pboatCells, .ref ploads, .ref pspoons, .ref pspoonsLeft, .ref pdepths])), (pthickness, .inl (ky 0, 36, .inl pthicknessF)), (plumpNames, .inl (ky 1, 6, .inr (.inl plumpNamesF))), (plumpCells, .inl (ky 0, 6, .inl plumpCellsF)), (pboatNames, .inl (ky 1, 6, .inr (.inl pboatNamesF))), (pboatCells, .inl (ky 0, 6, .inl pboatCellsF)), (ploads, .inl (ky 0, 6, .inl ploadsF)), (pspoons, .inl (ky 0, 6, .inl pspoonsF)), (pspoonsLeft, .inl (ky 0, 6, .inl pspoonsLeftF)), (pdepths, .inl (ky 0, 6, .inl pdepthsF)), (draws, .inr (1, [.int dx]))] sz)) (va_A [(t, .inr (11, [.ref reader, .int (nI tapeLength), .int latestFault, .ref sea, .ref spareSea, .ref seaText, .ref book, .ref sentence, .ref spareSentence, .ref route, .ref meeting, .ref sighting, .ref draws, .ref history, .ref images, .ref chartBytes, .int (nI chartLength), .int fleetBits])), (sea, .inr (7, [.int (nI wide), .int (nI high), .int heat, .int cools, .int skinHeat, .int today, .int stirs, .int steps, .int (nI lumps), .int (nI boats), .ref thickness, .ref lumpNames, .ref lumpCells, .ref boatNames, .ref boatCells, .ref loads, .ref spoons, .ref spoonsLeft, .ref depths])), (thickness, .inl (ky 0, 36, .inl thicknessF)), (lumpNames, .inl (ky 1, 6, .inr (.inl lumpNamesF))), (lumpCells, .inl (ky 0, 6, .inl lumpCellsF)), (boatNames, .inl (ky 1, 6, .inr (.inl boatNamesF))), (boatCells, .inl (ky 0, 6, .inl boatCellsF)), (loads, .inl (ky 0, 6, .inl loadsF)), (spoons, .inl (ky 0, 6, .inl spoonsF)), (spoonsLeft, .inl (ky 0, 6, .inl spoonsLeftF)), (depths, .inl (ky 0, 6, .inl depthsF)), (spareSea, .inr (7, [.int (nI pwide), .int (nI phigh), .int pheat, .int pcools, .int pskinHeat, .int ptoday, .int pstirs, .int psteps, .int (nI plumps), .int (nI pboats), .ref pthickness, .ref plumpNames, .ref plumpCells, .ref pboatNames, .ref pboatCells, .ref ploads, .ref pspoons, .ref pspoonsLeft, .ref pdepths])), (pthickness, .inl (ky 0, 36, .inl pthicknessF)), (plumpNames, .inl (ky 1, 6, .inr (.inl plumpNamesF))), (plumpCells, .inl (ky 0, 6, .inl plumpCellsF)), (pboatNames, .inl (ky 1, 6, .inr (.inl pboatNamesF))), (pboatCells, .inl (ky 0, 6, .inl pboatCellsF)), (ploads, .inl (ky 0, 6, .inl ploadsF)), (pspoons, .inl (ky 0, 6, .inl pspoonsF)), (pspoonsLeft, .inl (ky 0, 6, .inl pspoonsLeftF)), (pdepths, .inl (ky 0, 6, .inl pdepthsF)), (draws, .inr (1, [.int dx]))] sz)) 0 0 (va_A [(t, .inr (11, [.ref reader, .int (nI tapeLength), .int latestFault, .ref sea, .ref spareSea, .ref seaText, .ref book, .ref sentence, .ref spareSentence, .ref route, .ref meeting, .ref sighting, .ref draws, .ref history, .ref images, .ref chartBytes, .int (nI chartLength), .int fleetBits])), (sea, .inr (7, [.int (nI wide), .int (nI high), .int heat, .int cools, .int skinHeat, .int today, .int stirs, .int steps, .int (nI lumps), .int (nI boats), .ref thickness, .ref lumpNames, .ref lumpCells, .ref boatNames, .ref boatCells, .ref loads, .ref spoons, .ref spoonsLeft, .ref depths])), (thickness, .inl (ky 0, 36, .inl thicknessF)), (lumpNames, .inl (ky 1, 6, .inr (.inl lumpNamesF))), (lumpCells, .inl (ky 0, 6, .inl lumpCellsF)), (boatNames, .inl (ky 1, 6, .inr (.inl boatNamesF))), (boatCells, .inl (ky 0, 6, .inl boatCellsF)), (loads, .inl (ky 0, 6, .inl loadsF)), (spoons, .inl (ky 0, 6, .inl spoonsF)), (spoonsLeft, .inl (ky 0, 6, .inl spoonsLeftF)), (depths, .inl (ky 0, 6, .inl depthsF)), (spareSea, .inr (7, [.int (nI pwide), .int (nI phigh), .int pheat, .int pcools, .int pskinHeat, .int ptoday, .int pstirs, .int psteps, .int (nI plumps), .int (nI pboats), .ref pthickness, .ref plumpNames, .ref plumpCells, .ref pboatNames, .ref pboatCells, .ref ploads, .ref pspoons, .ref pspoonsLeft, .ref pdepths])), (pthickness, .inl (ky 0, 36, .inl pthicknessF)), (plumpNames, .inl (ky 1, 6, .inr (.inl plumpNamesF))), (plumpCells, .inl (ky 0, 6, .inl plumpCellsF)), (pboatNames, .inl (ky 1, 6, .inr (.inl pboatNamesF))), (pboatCells, .inl (ky 0, 6, .inl pboatCellsF)), (ploads, .inl (ky 0, 6, .inl ploadsF)), (pspoons, .inl (ky 0, 6, .inl pspoonsF)), (pspoonsLeft, .inl (ky 0, 6, .inl pspoonsLeftF)), (pdepths, .inl (ky 0, 6, .inl pdepthsF)), (draws, .inr (1, [.int dx]))] sz) := by
  refine Met.ofW (cc := cX11_odds) (maxL := 6) (ret := (some .int)) (by decide) rfl ?_
  intro p e s m args below meth c s₁ B hml hv
  obtain ⟨rfl, hsz, hP, hK, hD0⟩ := hv
  have hx := B.exec
  have hb := B.bytes
  have hr := B.returns
  have hts := atoms_spec (ws := wsX11_odds) B.pre
  have hown : s.vm.findClass RX11 = some m.cls := findClass_of_methodNamed B.named
  have hlocks := B.notSynchronized
  have hin11 : ∀ w ∈ u_ws RX11 TX11 18, w ∈ wsX11_odds := by decide +kernel
  subst hsz
  have hD := hD0.self (sz := s.heap.size)
  generalize hAe : va_A [(t, .inr (11, [.ref reader, .int (nI tapeLength), .int latestFault, .ref sea, .ref spareSea, .ref seaText, .ref book, .ref sentence, .ref spareSentence, .ref route, .ref meeting, .ref sighting, .ref draws, .ref history, .ref images, .ref chartBytes, .int (nI chartLength), .int fleetBits])), (sea, .inr (7, [.int (nI wide), .int (nI high), .int heat, .int cools, .int skinHeat, .int today, .int stirs, .int steps, .int (nI lumps), .int (nI boats), .ref thickness, .ref lumpNames, .ref lumpCells, .ref boatNames, .ref boatCells, .ref loads, .ref spoons, .ref spoonsLeft, .ref depths])), (thickness, .inl (ky 0, 36, .inl thicknessF)), (lumpNames, .inl (ky 1, 6, .inr (.inl lumpNamesF))), (lumpCells, .inl (ky 0, 6, .inl lumpCellsF)), (boatNames, .inl (ky 1, 6, .inr (.inl boatNamesF))), (boatCells, .inl (ky 0, 6, .inl boatCellsF)), (loads, .inl (ky 0, 6, .inl loadsF)), (spoons, .inl (ky 0, 6, .inl spoonsF)), (spoonsLeft, .inl (ky 0, 6, .inl spoonsLeftF)), (depths, .inl (ky 0, 6, .inl depthsF)), (spareSea, .inr (7, [.int (nI pwide), .int (nI phigh), .int pheat, .int pcools, .int pskinHeat, .int ptoday, .int pstirs, .int psteps, .int (nI plumps), .int (nI pboats), .ref pthickness, .ref plumpNames, .ref plumpCells, .ref pboatNames, .ref pboatCells, .ref ploads, .ref pspoons, .ref pspoonsLeft, .ref pdepths])), (pthickness, .inl (ky 0, 36, .inl pthicknessF)), (plumpNames, .inl (ky 1, 6, .inr (.inl plumpNamesF))), (plumpCells, .inl (ky 0, 6, .inl plumpCellsF)), (pboatNames, .inl (ky 1, 6, .inr (.inl pboatNamesF))), (pboatCells, .inl (ky 0, 6, .inl pboatCellsF)), (ploads, .inl (ky 0, 6, .inl ploadsF)), (pspoons, .inl (ky 0, 6, .inl pspoonsF)), (pspoonsLeft, .inl (ky 0, 6, .inl pspoonsLeftF)), (pdepths, .inl (ky 0, 6, .inl pdepthsF)), (draws, .inr (1, [.int dx]))] s.heap.size = A at hD ⊢
  have hA : ∀ q : Nat, s.heap.size ≤ q → A q := fun q h => by rw [← hAe]; exact Or.inr h
  have hS : va_S A s.heap s.heap [] := va_S.rf
  have hl := lv_entry ([.ref t, .int x, .int y, .int z]) (n := 6) (Nat.le_of_ble_eq_true rfl)
  rw [lg_entry_eq]
  generalize (lg_sl ([.ref t, .int x, .int y, .int z]) ++ List.replicate (6 - (lg_sl ([.ref t, .int x, .int y, .int z])).length) Slot.unset).toArray = ls at hl ⊢
  have hl : lv_has ls 6 [(0, .ref t), (1, .int x), (2, .int y), (3, .int z)] := hl
  refine q_name (fun Q hQ => ?_)
  generalize ([.ref t, .int x, .int y, .int z] : List Value).toArray = args at hts hQ ⊢
  refine lv_aload_n hx hb dX11_odds_0 rfl (lv_at hl 0 rfl) ?_
  refine va_get (D := (dC, dI)) (ci := 11) (v := .ref sea) (C := RX11) (T := TX11) (N := 18) hx hb hts hin11 hown hK hP 0 rfl rfl 3 (by decide) (hts (.fieldLink RX11 26 "PorridgeSea" "sea" "LPorridgeSea$Sea;") (List.mem_of_getElem? (i := 1) rfl)) (fun _ h9 => h9) rfl dX11_odds_1 ?_
  refine lv_iload_n hx hb dX11_odds_4 rfl (lv_at hl 1 rfl) ?_
  refine vp_callSi (W.runV (As := [.int x]) (rest := []) ⟨hx, hb, hml, hown, hts⟩ (c_s_isBoat l dC dI ky sea wide high heat cools skinHeat today stirs steps lumps boats thickness lumpNames lumpCells boatNames boatCells loads spoons spoonsLeft depths x iv_sea_0 iv_sea_1 iv_sea_2 iv_sea_3 iv_sea_4 iv_sea_5) (cwV 1 hts gX11_odds_X7_isBoat rfl rfl rfl (by decide +kernel) ⟨(Nat.le_of_ble_eq_true rfl), (Nat.le_of_ble_eq_true rfl)⟩) (pre_PV hK hP [1] rfl (ci := 7) (q0 := 1) rfl rfl) rfl rfl hl.1 rfl (lv_room (Nat.le_of_ble_eq_true rfl)) dX11_odds_5 ⟨(Nat.le_of_ble_eq_true rfl), (Nat.le_of_ble_eq_true rfl)⟩) (fun r1 p2 => ?_)
  rcases p2 with ⟨rfl, t3, t4⟩ | ⟨rfl, t5⟩
  · refine lv_if_eq (tgt := 22) hx hb dX11_odds_8 (by decide) (fun c6 => absurd c6 (by decide)) (fun c6 => ?_)
    refine lv_iload_n hx hb dX11_odds_11 rfl (lv_at hl 2 rfl) ?_
    refine lv_iconst (v := nI 1) hx hb dX11_odds_12 (by decide) ?_
    refine lv_icmp_lt (tgt := 22) hx hb dX11_odds_13 (by decide) (fun c7 => ?_) (fun c7 => ?_)
    · refine lv_iconst (v := (-1 : Int32)) hx hb dX11_odds_22 (by decide) ?_
      rw [hQ]
      exact W.iret (v := (-1 : Int32)) hx hb hr (fun t9 ht9 hW9 => ⟨⟨(-1 : Int32), (pwide, phigh, pheat, pcools, pskinHeat, ptoday, pstirs, psteps, plumps, pboats, pthicknessF, plumpNamesF, plumpCellsF, pboatNamesF, pboatCellsF, ploadsF, pspoonsF, pspoonsLeftF, pdepthsF, dx), rfl, ⟨iv_pspareSea_0, iv_pspareSea_1, iv_pspareSea_2, iv_pspareSea_3, iv_pspareSea_4, iv_pspareSea_5⟩, by rw [ht9]; exact hP, va_K.moved hW9.alike hK, hD⟩, hS.F ht9⟩) hS.2.2 dX11_odds_23
    · refine lv_iload_n hx hb dX11_odds_16 rfl (lv_at hl 2 rfl) ?_
      refine lv_bipush (v := nI 30) hx hb dX11_odds_17 (by decide) ?_
      refine lv_icmp_le (tgt := 24) hx hb dX11_odds_19 (by decide) (fun c8 => ?_) (fun c8 => ?_)
      · refine lv_iconst (v := nI 0) hx hb dX11_odds_24 (by decide) ?_
        refine lv_istore (lv' := [(4, .int (nI 0)), (0, .ref t), (1, .int x), (2, .int y), (3, .int z)]) hx hb dX11_odds_25 hl (by decide) rfl (fun ls hl => ?_)
        refine lv_iconst (v := nI 0) hx hb dX11_odds_27 (by decide) ?_
        refine lv_istore (lv' := [(5, .int (nI 0)), (4, .int (nI 0)), (0, .ref t), (1, .int x), (2, .int y), (3, .int z)]) hx hb dX11_odds_28 hl (by decide) rfl (fun ls hl => ?_)
        have hL97 : ∀ (n98 : Nat) (k68 : Nat) (x69 : Int32) (k70 : Nat) (k71 : Nat) (x72 : Int32) (x73 : Int32) (x74 : Int32) (x75 : Int32) (x76 : Int32) (x77 : Int32) (k78 : Nat) (k79 : Nat) (f80 : Nat → Int32) (f81 : Nat → Int64) (f82 : Nat → Int32) (f83 : Nat → Int64) (f84 : Nat → Int32) (f85 : Nat → Int32) (f86 : Nat → Int32) (f87 : Nat → Int32) (f88 : Nat → Int32) (x89 : Int32), (k68 ≤ 30) → (k70 ≤ 6) → (k71 ≤ 6) → (k78 ≤ 6) → (k79 ≤ 6) → (2 ≤ k70) → (2 ≤ k71) → 30 - k68 < n98 → ∀ (H : Heap) (locs : List Loc) (ls : Array Slot), va_P (dC, dI) vwCl [(t, .inr (11, [.ref reader, .int (nI tapeLength), .int latestFault, .ref sea, .ref spareSea, .ref seaText, .ref book, .ref sentence, .ref spareSentence, .ref route, .ref meeting, .ref sighting, .ref draws, .ref history, .ref images, .ref chartBytes, .int (nI chartLength), .int fleetBits])), (sea, .inr (7, [.int (nI wide), .int (nI high), .int heat, .int cools, .int skinHeat, .int today, .int stirs, .int steps, .int (nI lumps), .int (nI boats), .ref thickness, .ref lumpNames, .ref lumpCells, .ref boatNames, .ref boatCells, .ref loads, .ref spoons, .ref spoonsLeft, .ref depths])), (thickness, .inl (ky 0, 36, .inl thicknessF)), (lumpNames, .inl (ky 1, 6, .inr (.inl lumpNamesF))), (lumpCells, .inl (ky 0, 6, .inl lumpCellsF)), (boatNames, .inl (ky 1, 6, .inr (.inl boatNamesF))), (boatCells, .inl (ky 0, 6, .inl boatCellsF)), (loads, .inl (ky 0, 6, .inl loadsF)), (spoons, .inl (ky 0, 6, .inl spoonsF)), (spoonsLeft, .inl (ky 0, 6, .inl spoonsLeftF)), (depths, .inl (ky 0, 6, .inl depthsF)), (spareSea, .inr (7, [.int (nI k70), .int (nI k71), .int x72, .int x73, .int x74, .int x75, .int x76, .int x77, .int (nI k78), .int (nI k79), .ref pthickness, .ref plumpNames, .ref plumpCells, .ref pboatNames, .ref pboatCells, .ref ploads, .ref pspoons, .ref pspoonsLeft, .ref pdepths])), (pthickness, .inl (ky 0, 36, .inl f80)), (plumpNames, .inl (ky 1, 6, .inr (.inl f81))), (plumpCells, .inl (ky 0, 6, .inl f82)), (pboatNames, .inl (ky 1, 6, .inr (.inl f83))), (pboatCells, .inl (ky 0, 6, .inl f84)), (ploads, .inl (ky 0, 6, .inl f85)), (pspoons, .inl (ky 0, 6, .inl f86)), (pspoonsLeft, .inl (ky 0, 6, .inl f87)), (pdepths, .inl (ky 0, 6, .inl f88)), (draws, .inr (1, [.int x89]))] H → va_D A [(t, .inr (11, [.ref reader, .int (nI tapeLength), .int latestFault, .ref sea, .ref spareSea, .ref seaText, .ref book, .ref sentence, .ref spareSentence, .ref route, .ref meeting, .ref sighting, .ref draws, .ref history, .ref images, .ref chartBytes, .int (nI chartLength), .int fleetBits])), (sea, .inr (7, [.int (nI wide), .int (nI high), .int heat, .int cools, .int skinHeat, .int today, .int stirs, .int steps, .int (nI lumps), .int (nI boats), .ref thickness, .ref lumpNames, .ref lumpCells, .ref boatNames, .ref boatCells, .ref loads, .ref spoons, .ref spoonsLeft, .ref depths])), (thickness, .inl (ky 0, 36, .inl thicknessF)), (lumpNames, .inl (ky 1, 6, .inr (.inl lumpNamesF))), (lumpCells, .inl (ky 0, 6, .inl lumpCellsF)), (boatNames, .inl (ky 1, 6, .inr (.inl boatNamesF))), (boatCells, .inl (ky 0, 6, .inl boatCellsF)), (loads, .inl (ky 0, 6, .inl loadsF)), (spoons, .inl (ky 0, 6, .inl spoonsF)), (spoonsLeft, .inl (ky 0, 6, .inl spoonsLeftF)), (depths, .inl (ky 0, 6, .inl depthsF)), (spareSea, .inr (7, [.int (nI k70), .int (nI k71), .int x72, .int x73, .int x74, .int x75, .int x76, .int x77, .int (nI k78), .int (nI k79), .ref pthickness, .ref plumpNames, .ref plumpCells, .ref pboatNames, .ref pboatCells, .ref ploads, .ref pspoons, .ref pspoonsLeft, .ref pdepths])), (pthickness, .inl (ky 0, 36, .inl f80)), (plumpNames, .inl (ky 1, 6, .inr (.inl f81))), (plumpCells, .inl (ky 0, 6, .inl f82)), (pboatNames, .inl (ky 1, 6, .inr (.inl f83))), (pboatCells, .inl (ky 0, 6, .inl f84)), (ploads, .inl (ky 0, 6, .inl f85)), (pspoons, .inl (ky 0, 6, .inl f86)), (pspoonsLeft, .inl (ky 0, 6, .inl f87)), (pdepths, .inl (ky 0, 6, .inl f88)), (draws, .inr (1, [.int x89]))] → va_S A s.heap H locs → lv_has ls 6 [(5, .int (nI k68)), (4, .int x69), (0, .ref t), (1, .int x), (2, .int y), (3, .int z)] → W p l e (headSpec wsX11_odds ({ frames := 5, cells := 0, slots := 0, locals := 121 })).room s m args below meth c H locs 0 0 Q (F0 m 30 ls []) := by
          intro n98
          induction n98 with
          | zero => intro k68 x69 k70 k71 x72 x73 x74 x75 x76 x77 k78 k79 f80 f81 f82 f83 f84 f85 f86 f87 f88 x89 _ _ _ _ _ _ _ h9; exact absurd h9 (Nat.not_lt_zero _)
          | succ n98 ih99 =>
            intro k68 x69 k70 k71 x72 x73 x74 x75 x76 x77 k78 k79 f80 f81 f82 f83 f84 f85 f86 f87 f88 x89 j90 j91 j92 j93 j94 j95 j96 hm100 H locs ls hP hD hS hl
            refine lv_iload hx hb dX11_odds_30 (lv_at hl 0 rfl) ?_
            refine lv_iload_n hx hb dX11_odds_32 rfl (lv_at hl 4 rfl) ?_
            refine lv_icmp_ge (tgt := 92) hx hb dX11_odds_33 (by decide) (fun c101 => ?_) (fun c101 => ?_)
            · refine lv_iload hx hb dX11_odds_92 (lv_at hl 1 rfl) ?_
              rw [hQ]
              exact W.iret (v := x69) hx hb hr (fun t9 ht9 hW9 => ⟨⟨x69, (k70, k71, x72, x73, x74, x75, x76, x77, k78, k79, f80, f81, f82, f83, f84, f85, f86, f87, f88, x89), rfl, ⟨j95, j91, j96, j92, j93, j94⟩, by rw [ht9]; exact hP, va_K.moved hW9.alike hK, hD⟩, hS.F ht9⟩) hS.2.2 dX11_odds_94
            · refine lv_aload_n hx hb dX11_odds_36 rfl (lv_at hl 2 rfl) ?_
              refine va_get (D := (dC, dI)) (ci := 11) (v := .ref sea) (C := RX11) (T := TX11) (N := 18) hx hb hts hin11 hown hK hP 0 rfl rfl 3 (by decide) (hts (.fieldLink RX11 26 "PorridgeSea" "sea" "LPorridgeSea$Sea;") (List.mem_of_getElem? (i := 1) rfl)) (fun _ h9 => h9) rfl dX11_odds_37 ?_
              refine lv_aload_n hx hb dX11_odds_40 rfl (lv_at hl 2 rfl) ?_
              refine va_get (D := (dC, dI)) (ci := 11) (v := .ref spareSea) (C := RX11) (T := TX11) (N := 18) hx hb hts hin11 hown hK hP 0 rfl rfl 4 (by decide) (hts (.fieldLink RX11 30 "PorridgeSea" "spareSea" "LPorridgeSea$Sea;") (List.mem_of_getElem? (i := 2) rfl)) (fun _ h9 => h9) rfl dX11_odds_41 ?_
              refine r_call_v (wr := [(t, .inr (11, [.ref reader, .int (nI tapeLength), .int latestFault, .ref sea, .ref spareSea, .ref seaText, .ref book, .ref sentence, .ref spareSentence, .ref route, .ref meeting, .ref sighting, .ref draws, .ref history, .ref images, .ref chartBytes, .int (nI chartLength), .int fleetBits])), (draws, .inr (1, [.int x89]))]) (va_runS (As := [.ref sea, .ref spareSea]) (rest := []) ⟨hx, hb, hml, hown, hts⟩ (c_s_copy l dC dI ky H.size sea wide high heat cools skinHeat today stirs steps lumps boats thickness lumpNames lumpCells boatNames boatCells loads spoons spoonsLeft depths thicknessF lumpNamesF lumpCellsF boatNamesF boatCellsF loadsF spoonsF spoonsLeftF depthsF spareSea k70 k71 x72 x73 x74 x75 x76 x77 k78 k79 pthickness plumpNames plumpCells pboatNames pboatCells ploads pspoons pspoonsLeft pdepths f80 f81 f82 f83 f84 f85 f86 f87 f88 iv_sea_0 iv_sea_1 iv_sea_2 iv_sea_3 iv_sea_4 iv_sea_5 j95 j91 j96 j92 j93 j94) (va_cwS 2 hts gX11_odds_X7_copy rfl rfl rfl (by decide +kernel) ⟨(Nat.le_of_ble_eq_true rfl), (Nat.le_of_ble_eq_true rfl)⟩) (pre_US hK hP hD [1, 2, 3, 4, 5, 6, 7, 8, 9, 10, 11, 12, 13, 14, 15, 16, 17, 18, 19, 20] (by decide) rfl) rfl rfl hl.1 rfl (lv_room (Nat.le_of_ble_eq_true rfl)) dX11_odds_44 ⟨(Nat.le_of_ble_eq_true rfl), (Nat.le_of_ble_eq_true rfl)⟩) hP hD hS hA [1, 2, 3, 4, 5, 6, 7, 8, 9, 10, 11, 12, 13, 14, 15, 16, 17, 18, 19, 20] [0, 21] rfl rfl (by decide) (by decide) (fun  u102 H locs p103 hP hD hS => ?_)
              obtain ⟨twideG_104, thighG_105, theatG_106, tcoolsG_107, tskinHeatG_108, ttodayG_109, tstirsG_110, tstepsG_111, tlumpsG_112, tboatsG_113, tthicknessG_114, tlumpNamesG_115, tlumpCellsG_116, tboatNamesG_117, tboatCellsG_118, tloadsG_119, tspoonsG_120, tspoonsLeftG_121, tdepthsG_122⟩ := u102
              try dsimp only at p103
              obtain ⟨p123, p124, p125, p126, p127, p128⟩ := p103
              refine W.widen (k := 0) (n := 0) (Nat.le_of_ble_eq_true rfl) (Nat.le_of_ble_eq_true rfl) ?_
              have hP : va_P (dC, dI) vwCl [(t, .inr (11, [.ref reader, .int (nI tapeLength), .int latestFault, .ref sea, .ref spareSea, .ref seaText, .ref book, .ref sentence, .ref spareSentence, .ref route, .ref meeting, .ref sighting, .ref draws, .ref history, .ref images, .ref chartBytes, .int (nI chartLength), .int fleetBits])), (draws, .inr (1, [.int x89])), (sea, .inr (7, [.int (nI wide), .int (nI high), .int heat, .int cools, .int skinHeat, .int today, .int stirs, .int steps, .int (nI lumps), .int (nI boats), .ref thickness, .ref lumpNames, .ref lumpCells, .ref boatNames, .ref boatCells, .ref loads, .ref spoons, .ref spoonsLeft, .ref depths])), (thickness, .inl (ky 0, 36, .inl thicknessF)), (lumpNames, .inl (ky 1, 6, .inr (.inl lumpNamesF))), (lumpCells, .inl (ky 0, 6, .inl lumpCellsF)), (boatNames, .inl (ky 1, 6, .inr (.inl boatNamesF))), (boatCells, .inl (ky 0, 6, .inl boatCellsF)), (loads, .inl (ky 0, 6, .inl loadsF)), (spoons, .inl (ky 0, 6, .inl spoonsF)), (spoonsLeft, .inl (ky 0, 6, .inl spoonsLeftF)), (depths, .inl (ky 0, 6, .inl depthsF)), (spareSea, .inr (7, [.int (nI twideG_104), .int (nI thighG_105), .int theatG_106, .int tcoolsG_107, .int tskinHeatG_108, .int ttodayG_109, .int tstirsG_110, .int tstepsG_111, .int (nI tlumpsG_112), .int (nI tboatsG_113), .ref pthickness, .ref plumpNames, .ref plumpCells, .ref pboatNames, .ref pboatCells, .ref ploads, .ref pspoons, .ref pspoonsLeft, .ref pdepths])), (pthickness, .inl (ky 0, 36, .inl tthicknessG_114)), (plumpNames, .inl (ky 1, 6, .inr (.inl tlumpNamesG_115))), (plumpCells, .inl (ky 0, 6, .inl tlumpCellsG_116)), (pboatNames, .inl (ky 1, 6, .inr (.inl tboatNamesG_117))), (pboatCells, .inl (ky 0, 6, .inl tboatCellsG_118)), (ploads, .inl (ky 0, 6, .inl tloadsG_119)), (pspoons, .inl (ky 0, 6, .inl tspoonsG_120)), (pspoonsLeft, .inl (ky 0, 6, .inl tspoonsLeftG_121)), (pdepths, .inl (ky 0, 6, .inl tdepthsG_122))] H := hP
              have hD : va_D A [(t, .inr (11, [.ref reader, .int (nI tapeLength), .int latestFault, .ref sea, .ref spareSea, .ref seaText, .ref book, .ref sentence, .ref spareSentence, .ref route, .ref meeting, .ref sighting, .ref draws, .ref history, .ref images, .ref chartBytes, .int (nI chartLength), .int fleetBits])), (draws, .inr (1, [.int x89])), (sea, .inr (7, [.int (nI wide), .int (nI high), .int heat, .int cools, .int skinHeat, .int today, .int stirs, .int steps, .int (nI lumps), .int (nI boats), .ref thickness, .ref lumpNames, .ref lumpCells, .ref boatNames, .ref boatCells, .ref loads, .ref spoons, .ref spoonsLeft, .ref depths])), (thickness, .inl (ky 0, 36, .inl thicknessF)), (lumpNames, .inl (ky 1, 6, .inr (.inl lumpNamesF))), (lumpCells, .inl (ky 0, 6, .inl lumpCellsF)), (boatNames, .inl (ky 1, 6, .inr (.inl boatNamesF))), (boatCells, .inl (ky 0, 6, .inl boatCellsF)), (loads, .inl (ky 0, 6, .inl loadsF)), (spoons, .inl (ky 0, 6, .inl spoonsF)), (spoonsLeft, .inl (ky 0, 6, .inl spoonsLeftF)), (depths, .inl (ky 0, 6, .inl depthsF)), (spareSea, .inr (7, [.int (nI twideG_104), .int (nI thighG_105), .int theatG_106, .int tcoolsG_107, .int tskinHeatG_108, .int ttodayG_109, .int tstirsG_110, .int tstepsG_111, .int (nI tlumpsG_112), .int (nI tboatsG_113), .ref pthickness, .ref plumpNames, .ref plumpCells, .ref pboatNames, .ref pboatCells, .ref ploads, .ref pspoons, .ref pspoonsLeft, .ref pdepths])), (pthickness, .inl (ky 0, 36, .inl tthicknessG_114)), (plumpNames, .inl (ky 1, 6, .inr (.inl tlumpNamesG_115))), (plumpCells, .inl (ky 0, 6, .inl tlumpCellsG_116)), (pboatNames, .inl (ky 1, 6, .inr (.inl tboatNamesG_117))), (pboatCells, .inl (ky 0, 6, .inl tboatCellsG_118)), (ploads, .inl (ky 0, 6, .inl tloadsG_119)), (pspoons, .inl (ky 0, 6, .inl tspoonsG_120)), (pspoonsLeft, .inl (ky 0, 6, .inl tspoonsLeftG_121)), (pdepths, .inl (ky 0, 6, .inl tdepthsG_122))] := hD
              refine lv_aload_n hx hb dX11_odds_47 rfl (lv_at hl 2 rfl) ?_
              refine va_get (D := (dC, dI)) (ci := 11) (v := .ref draws) (C := RX11) (T := TX11) (N := 18) hx hb hts hin11 hown hK hP 0 rfl rfl 12 (by decide) (hts (.fieldLink RX11 81 "PorridgeSea" "draws" "LPorridgeSea$Draws;") (List.mem_of_getElem? (i := 3) rfl)) (fun _ h9 => h9) rfl dX11_odds_48 ?_
              refine lv_aload_n hx hb dX11_odds_51 rfl (lv_at hl 2 rfl) ?_
              refine va_get (D := (dC, dI)) (ci := 11) (v := .ref spareSea) (C := RX11) (T := TX11) (N := 18) hx hb hts hin11 hown hK hP 0 rfl rfl 4 (by decide) (hts (.fieldLink RX11 30 "PorridgeSea" "spareSea" "LPorridgeSea$Sea;") (List.mem_of_getElem? (i := 2) rfl)) (fun _ h9 => h9) rfl dX11_odds_52 ?_
              refine lv_bipush (v := nI 20) hx hb dX11_odds_55 (by decide) ?_
              refine lv_iload_n hx hb dX11_odds_57 rfl (lv_at hl 5 rfl) ?_
              refine lv_iload hx hb dX11_odds_58 (lv_at hl 0 rfl) ?_
              refine lv_iadd hx hb dX11_odds_60 ?_
              refine lv_topi (fun y129 e130 => ?_)
              refine r_call_i (wr := [(t, .inr (11, [.ref reader, .int (nI tapeLength), .int latestFault, .ref sea, .ref spareSea, .ref seaText, .ref book, .ref sentence, .ref spareSentence, .ref route, .ref meeting, .ref sighting, .ref draws, .ref history, .ref images, .ref chartBytes, .int (nI chartLength), .int fleetBits])), (sea, .inr (7, [.int (nI wide), .int (nI high), .int heat, .int cools, .int skinHeat, .int today, .int stirs, .int steps, .int (nI lumps), .int (nI boats), .ref thickness, .ref lumpNames, .ref lumpCells, .ref boatNames, .ref boatCells, .ref loads, .ref spoons, .ref spoonsLeft, .ref depths])), (thickness, .inl (ky 0, 36, .inl thicknessF)), (lumpNames, .inl (ky 1, 6, .inr (.inl lumpNamesF))), (lumpCells, .inl (ky 0, 6, .inl lumpCellsF)), (boatNames, .inl (ky 1, 6, .inr (.inl boatNamesF))), (boatCells, .inl (ky 0, 6, .inl boatCellsF)), (loads, .inl (ky 0, 6, .inl loadsF)), (spoons, .inl (ky 0, 6, .inl spoonsF)), (spoonsLeft, .inl (ky 0, 6, .inl spoonsLeftF)), (depths, .inl (ky 0, 6, .inl depthsF)), (plumpNames, .inl (ky 1, 6, .inr (.inl tlumpNamesG_115))), (pboatNames, .inl (ky 1, 6, .inr (.inl tboatNamesG_117)))]) (va_runV (As := [.ref spareSea, .int (nI 20), .int y129]) (rest := []) ⟨hx, hb, hml, hown, hts⟩ (c_d_passDays l dC dI ky H.size draws x89 spareSea twideG_104 thighG_105 theatG_106 tcoolsG_107 tskinHeatG_108 ttodayG_109 tstirsG_110 tstepsG_111 tlumpsG_112 tboatsG_113 pthickness plumpNames plumpCells pboatNames pboatCells ploads pspoons pspoonsLeft pdepths tthicknessG_114 tlumpCellsG_116 tboatCellsG_118 tloadsG_119 tspoonsG_120 tspoonsLeftG_121 tdepthsG_122 (nI 20) y129 p123 p124 p125 p126 p127 p128) (cwV 3 hts gX11_odds_X1_passDays rfl rfl rfl (by decide +kernel) ⟨(Nat.le_of_ble_eq_true rfl), (Nat.le_of_ble_eq_true rfl)⟩) (pre_UV hK hP hD [1, 12, 13, 15, 17, 18, 19, 20, 21] (by decide) rfl (ci := 1) (q0 := 1) rfl rfl) rfl rfl hl.1 rfl (lv_room (Nat.le_of_ble_eq_true rfl)) dX11_odds_61 ⟨(Nat.le_of_ble_eq_true rfl), (Nat.le_of_ble_eq_true rfl)⟩) hP hD hS hA [1, 12, 13, 15, 17, 18, 19, 20, 21] [0, 2, 3, 4, 5, 6, 7, 8, 9, 10, 11, 14, 16] rfl rfl (by decide) (by decide) (fun r133 u131 H locs p132 hP hD hS => ?_)
              obtain ⟨dxG_134, heatG_135, todayG_136, stirsG_137, stepsG_138, thicknessG_139, lumpCellsG_140, boatCellsG_141, spoonsLeftG_142, depthsG_143⟩ := u131
              refine W.widen (k := 0) (n := 0) (Nat.le_of_ble_eq_true rfl) (Nat.le_of_ble_eq_true rfl) ?_
              have hP : va_P (dC, dI) vwCl [(t, .inr (11, [.ref reader, .int (nI tapeLength), .int latestFault, .ref sea, .ref spareSea, .ref seaText, .ref book, .ref sentence, .ref spareSentence, .ref route, .ref meeting, .ref sighting, .ref draws, .ref history, .ref images, .ref chartBytes, .int (nI chartLength), .int fleetBits])), (sea, .inr (7, [.int (nI wide), .int (nI high), .int heat, .int cools, .int skinHeat, .int today, .int stirs, .int steps, .int (nI lumps), .int (nI boats), .ref thickness, .ref lumpNames, .ref lumpCells, .ref boatNames, .ref boatCells, .ref loads, .ref spoons, .ref spoonsLeft, .ref depths])), (thickness, .inl (ky 0, 36, .inl thicknessF)), (lumpNames, .inl (ky 1, 6, .inr (.inl lumpNamesF))), (lumpCells, .inl (ky 0, 6, .inl lumpCellsF)), (boatNames, .inl (ky 1, 6, .inr (.inl boatNamesF))), (boatCells, .inl (ky 0, 6, .inl boatCellsF)), (loads, .inl (ky 0, 6, .inl loadsF)), (spoons, .inl (ky 0, 6, .inl spoonsF)), (spoonsLeft, .inl (ky 0, 6, .inl spoonsLeftF)), (depths, .inl (ky 0, 6, .inl depthsF)), (plumpNames, .inl (ky 1, 6, .inr (.inl tlumpNamesG_115))), (pboatNames, .inl (ky 1, 6, .inr (.inl tboatNamesG_117))), (draws, .inr (1, [.int dxG_134])), (spareSea, .inr (7, [.int (nI twideG_104), .int (nI thighG_105), .int heatG_135, .int tcoolsG_107, .int tskinHeatG_108, .int todayG_136, .int stirsG_137, .int stepsG_138, .int (nI tlumpsG_112), .int (nI tboatsG_113), .ref pthickness, .ref plumpNames, .ref plumpCells, .ref pboatNames, .ref pboatCells, .ref ploads, .ref pspoons, .ref pspoonsLeft, .ref pdepths])), (pthickness, .inl (ky 0, 36, .inl thicknessG_139)), (plumpCells, .inl (ky 0, 6, .inl lumpCellsG_140)), (pboatCells, .inl (ky 0, 6, .inl boatCellsG_141)), (ploads, .inl (ky 0, 6, .inl tloadsG_119)), (pspoons, .inl (ky 0, 6, .inl tspoonsG_120)), (pspoonsLeft, .inl (ky 0, 6, .inl spoonsLeftG_142)), (pdepths, .inl (ky 0, 6, .inl depthsG_143))] H := hP
              have hD : va_D A [(t, .inr (11, [.ref reader, .int (nI tapeLength), .int latestFault, .ref sea, .ref spareSea, .ref seaText, .ref book, .ref sentence, .ref spareSentence, .ref route, .ref meeting, .ref sighting, .ref draws, .ref history, .ref images, .ref chartBytes, .int (nI chartLength), .int fleetBits])), (sea, .inr (7, [.int (nI wide), .int (nI high), .int heat, .int cools, .int skinHeat, .int today, .int stirs, .int steps, .int (nI lumps), .int (nI boats), .ref thickness, .ref lumpNames, .ref lumpCells, .ref boatNames, .ref boatCells, .ref loads, .ref spoons, .ref spoonsLeft, .ref depths])), (thickness, .inl (ky 0, 36, .inl thicknessF)), (lumpNames, .inl (ky 1, 6, .inr (.inl lumpNamesF))), (lumpCells, .inl (ky 0, 6, .inl lumpCellsF)), (boatNames, .inl (ky 1, 6, .inr (.inl boatNamesF))), (boatCells, .inl (ky 0, 6, .inl boatCellsF)), (loads, .inl (ky 0, 6, .inl loadsF)), (spoons, .inl (ky 0, 6, .inl spoonsF)), (spoonsLeft, .inl (ky 0, 6, .inl spoonsLeftF)), (depths, .inl (ky 0, 6, .inl depthsF)), (plumpNames, .inl (ky 1, 6, .inr (.inl tlumpNamesG_115))), (pboatNames, .inl (ky 1, 6, .inr (.inl tboatNamesG_117))), (draws, .inr (1, [.int dxG_134])), (spareSea, .inr (7, [.int (nI twideG_104), .int (nI thighG_105), .int heatG_135, .int tcoolsG_107, .int tskinHeatG_108, .int todayG_136, .int stirsG_137, .int stepsG_138, .int (nI tlumpsG_112), .int (nI tboatsG_113), .ref pthickness, .ref plumpNames, .ref plumpCells, .ref pboatNames, .ref pboatCells, .ref ploads, .ref pspoons, .ref pspoonsLeft, .ref pdepths])), (pthickness, .inl (ky 0, 36, .inl thicknessG_139)), (plumpCells, .inl (ky 0, 6, .inl lumpCellsG_140)), (pboatCells, .inl (ky 0, 6, .inl boatCellsG_141)), (ploads, .inl (ky 0, 6, .inl tloadsG_119)), (pspoons, .inl (ky 0, 6, .inl tspoonsG_120)), (pspoonsLeft, .inl (ky 0, 6, .inl spoonsLeftG_142)), (pdepths, .inl (ky 0, 6, .inl depthsG_143))] := hD
              refine lv_pop hx hb dX11_odds_64 rfl ?_
              refine lv_iload hx hb dX11_odds_65 (lv_at hl 1 rfl) ?_
              refine lv_aload_n hx hb dX11_odds_67 rfl (lv_at hl 2 rfl) ?_
              refine va_get (D := (dC, dI)) (ci := 11) (v := .ref spareSea) (C := RX11) (T := TX11) (N := 18) hx hb hts hin11 hown hK hP 0 rfl rfl 4 (by decide) (hts (.fieldLink RX11 30 "PorridgeSea" "spareSea" "LPorridgeSea$Sea;") (List.mem_of_getElem? (i := 2) rfl)) (fun _ h9 => h9) rfl dX11_odds_68 ?_
              refine lv_iload_n hx hb dX11_odds_71 rfl (lv_at hl 3 rfl) ?_
              refine vp_callSi (W.runV (As := [.int x]) (rest := [.int x69]) ⟨hx, hb, hml, hown, hts⟩ (c_s_isEaten l dC dI ky spareSea twideG_104 thighG_105 heatG_135 tcoolsG_107 tskinHeatG_108 todayG_136 stirsG_137 stepsG_138 tlumpsG_112 tboatsG_113 pthickness plumpNames plumpCells pboatNames pboatCells ploads pspoons pspoonsLeft pdepths depthsG_143 x p123 p124 p125 p126 p127 p128) (cwV 1 hts gX11_odds_X7_isEaten rfl rfl rfl (by decide +kernel) ⟨(Nat.le_of_ble_eq_true rfl), (Nat.le_of_ble_eq_true rfl)⟩) (pre_PV hK hP [14, 21] rfl (ci := 7) (q0 := 14) rfl rfl) rfl rfl hl.1 rfl (lv_room (Nat.le_of_ble_eq_true rfl)) dX11_odds_72 ⟨(Nat.le_of_ble_eq_true rfl), (Nat.le_of_ble_eq_true rfl)⟩) (fun r144 p145 => ?_)
              rcases p145 with ⟨rfl, t146, t147⟩ | ⟨rfl, t148⟩
              · refine lv_if_eq (tgt := 82) hx hb dX11_odds_75 (by decide) (fun c149 => absurd c149 (by decide)) (fun c149 => ?_)
                refine lv_iconst (v := nI 1) hx hb dX11_odds_78 (by decide) ?_
                refine lv_goto (tgt := 83) hx hb dX11_odds_79 (by decide) ?_
                refine lv_iadd hx hb dX11_odds_83 ?_
                refine lv_topi (fun y150 e151 => ?_)
                refine lv_istore (lv' := [(4, .int y150), (5, .int (nI k68)), (0, .ref t), (1, .int x), (2, .int y), (3, .int z)]) hx hb dX11_odds_84 hl (by decide) rfl (fun ls hl => ?_)
                refine lv_iinc (v := nI (k68 + 1)) (lv' := [(5, .int (nI (k68 + 1))), (4, .int y150), (0, .ref t), (1, .int x), (2, .int y), (3, .int z)]) hx hb dX11_odds_86 hl (k := 1) rfl (show nI k68 + nI 1 = nI (k68 + 1) from nI_add _ _) (by decide) rfl (fun ls hl => ?_)
                refine lv_goto (tgt := 30) hx hb dX11_odds_89 (by decide) ?_
                exact ih99 (k68 + 1) y150 twideG_104 thighG_105 heatG_135 tcoolsG_107 tskinHeatG_108 todayG_136 stirsG_137 stepsG_138 tlumpsG_112 tboatsG_113 thicknessG_139 tlumpNamesG_115 lumpCellsG_140 tboatNamesG_117 boatCellsG_141 tloadsG_119 tspoonsG_120 spoonsLeftG_142 depthsG_143 dxG_134 (lf_p_odds_1 y z k68 n98 y129 c7 c8 j90 hm100 c101 e130) p124 p126 p127 p128 p123 p125 (lf_p_odds_2 y z k68 n98 y129 c7 c8 j90 hm100 c101 e130) _ _ _ (hP.sub [0, 1, 2, 3, 4, 5, 6, 7, 8, 9, 10, 14, 15, 11, 16, 12, 17, 18, 19, 20, 21, 13] rfl) (hD.sub [0, 1, 2, 3, 4, 5, 6, 7, 8, 9, 10, 14, 15, 11, 16, 12, 17, 18, 19, 20, 21, 13] (by decide) rfl) hS (lv_sub hl [0, 1, 2, 3, 4, 5] rfl)
              · refine lv_if_eq (tgt := 82) hx hb dX11_odds_75 (by decide) (fun c152 => ?_) (fun c152 => absurd (by decide) c152)
                refine lv_iconst (v := nI 0) hx hb dX11_odds_82 (by decide) ?_
                refine lv_iadd hx hb dX11_odds_83 ?_
                refine lv_topi (fun y153 e154 => ?_)
                refine lv_istore (lv' := [(4, .int y153), (5, .int (nI k68)), (0, .ref t), (1, .int x), (2, .int y), (3, .int z)]) hx hb dX11_odds_84 hl (by decide) rfl (fun ls hl => ?_)
                refine lv_iinc (v := nI (k68 + 1)) (lv' := [(5, .int (nI (k68 + 1))), (4, .int y153), (0, .ref t), (1, .int x), (2, .int y), (3, .int z)]) hx hb dX11_odds_86 hl (k := 1) rfl (show nI k68 + nI 1 = nI (k68 + 1) from nI_add _ _) (by decide) rfl (fun ls hl => ?_)
                refine lv_goto (tgt := 30) hx hb dX11_odds_89 (by decide) ?_
                exact ih99 (k68 + 1) y153 twideG_104 thighG_105 heatG_135 tcoolsG_107 tskinHeatG_108 todayG_136 stirsG_137 stepsG_138 tlumpsG_112 tboatsG_113 thicknessG_139 tlumpNamesG_115 lumpCellsG_140 tboatNamesG_117 boatCellsG_141 tloadsG_119 tspoonsG_120 spoonsLeftG_142 depthsG_143 dxG_134 (lf_p_odds_3 y z k68 n98 y129 c7 c8 j90 hm100 c101 e130 t148) p124 p126 p127 p128 p123 p125 (lf_p_odds_4 y z k68 n98 y129 c7 c8 j90 hm100 c101 e130 t148) _ _ _ (hP.sub [0, 1, 2, 3, 4, 5, 6, 7, 8, 9, 10, 14, 15, 11, 16, 12, 17, 18, 19, 20, 21, 13] rfl) (hD.sub [0, 1, 2, 3, 4, 5, 6, 7, 8, 9, 10, 14, 15, 11, 16, 12, 17, 18, 19, 20, 21, 13] (by decide) rfl) hS (lv_sub hl [0, 1, 2, 3, 4, 5] rfl)
        exact hL97 ((30 - 0) + 1) 0 (nI 0) pwide phigh pheat pcools pskinHeat ptoday pstirs psteps plumps pboats pthicknessF plumpNamesF plumpCellsF pboatNamesF pboatCellsF ploadsF pspoonsF pspoonsLeftF pdepthsF dx (lf_p_odds_5) iv_pspareSea_1 iv_pspareSea_3 iv_pspareSea_4 iv_pspareSea_5 iv_pspareSea_0 iv_pspareSea_2 (Nat.lt_succ_self _) _ _ _ hP hD hS (lv_sub hl [0, 1, 2, 3, 4, 5] rfl)
      · refine lv_iconst (v := (-1 : Int32)) hx hb dX11_odds_22 (by decide) ?_
        rw [hQ]
        exact W.iret (v := (-1 : Int32)) hx hb hr (fun t9 ht9 hW9 => ⟨⟨(-1 : Int32), (pwide, phigh, pheat, pcools, pskinHeat, ptoday, pstirs, psteps, plumps, pboats, pthicknessF, plumpNamesF, plumpCellsF, pboatNamesF, pboatCellsF, ploadsF, pspoonsF, pspoonsLeftF, pdepthsF, dx), rfl, ⟨iv_pspareSea_0, iv_pspareSea_1, iv_pspareSea_2, iv_pspareSea_3, iv_pspareSea_4, iv_pspareSea_5⟩, by rw [ht9]; exact hP, va_K.moved hW9.alike hK, hD⟩, hS.F ht9⟩) hS.2.2 dX11_odds_23
  · refine lv_if_eq (tgt := 22) hx hb dX11_odds_8 (by decide) (fun c155 => ?_) (fun c155 => absurd (by decide) c155)
    refine lv_iconst (v := (-1 : Int32)) hx hb dX11_odds_22 (by decide) ?_
    rw [hQ]
    exact W.iret (v := (-1 : Int32)) hx hb hr (fun t9 ht9 hW9 => ⟨⟨(-1 : Int32), (pwide, phigh, pheat, pcools, pskinHeat, ptoday, pstirs, psteps, plumps, pboats, pthicknessF, plumpNamesF, plumpCellsF, pboatNamesF, pboatCellsF, ploadsF, pspoonsF, pspoonsLeftF, pdepthsF, dx), rfl, ⟨iv_pspareSea_0, iv_pspareSea_1, iv_pspareSea_2, iv_pspareSea_3, iv_pspareSea_4, iv_pspareSea_5⟩, by rw [ht9]; exact hP, va_K.moved hW9.alike hK, hD⟩, hS.F ht9⟩) hS.2.2 dX11_odds_23
set_option maxRecDepth 20000 in
theorem lf_p_writeByte_1 (chartLength : Nat) (iv_t_1 : chartLength ≤ 32) (c1 : chartLength < 32) : (chartLength + 1) ≤ 32 := by
  try simp only [ia_lt, ia_le, ia_eq, ia_m1, ia_0, ia_1, ne_eq, true_and, and_true, false_and, and_false, or_false, false_or, or_true, true_or, not_true_eq_false, not_false_eq_true] at *
  all_goals omega
set_option maxHeartbeats 4000000 in
set_option maxRecDepth 100000 in
theorem c_p_writeByte (l : Launch) (dC : Nat → ClassId) (dI : Nat → Nat → Nat) (ky : Nat → ClassId) (sz : Nat) (t : Nat) (reader : Nat) (tapeLength : Nat) (latestFault : Int32) (sea : Nat) (spareSea : Nat) (seaText : Nat) (book : Nat) (sentence : Nat) (spareSentence : Nat) (route : Nat) (meeting : Nat) (sighting : Nat) (draws : Nat) (history : Nat) (images : Nat) (chartBytes : Nat) (chartLength : Nat) (fleetBits : Int32) (chartF : Nat → Int32) (x : Int32) (iv_t_0 : tapeLength ≤ 940) (iv_t_1 : chartLength ≤ 32) : Met l yX11_writeByte wsX11_writeByte ({ frames := 0, cells := 0, slots := 0, locals := 0 }) (PcU dC dI ky [.ref t, .int x] [(t, .inr (11, [.ref reader, .int (nI tapeLength), .int latestFault, .ref sea, .ref spareSea, .ref seaText, .ref book, .ref sentence, .ref spareSentence, .ref route, .ref meeting, .ref sighting, .ref draws, .ref history, .ref images, .ref chartBytes, .int (nI chartLength), .int fleetBits])), (chartBytes, .inl (ky 2, 32, .inl chartF))] sz) (va_Qv (fun (u : Nat × (Nat → Int32)) => match u with | (chartLengthG, chartG) => chartLengthG ≤ 32) (BU dC dI ky (fun (u : Nat × (Nat → Int32)) => match u with | (chartLengthG, chartG) => [(t, .inr (11, [.ref reader, .int (nI tapeLength), .int latestFault, .ref sea, .ref spareSea, .ref seaText, .ref book, .ref sentence, .ref spareSentence, .ref route, .ref meeting, .ref sighting, .ref draws, .ref history, .ref images, .ref chartBytes, .int (nI chartLengthG), .int fleetBits])), (chartBytes, .inl (ky 2, 32, .inl chartG))]) (va_A [(t, .inr (11, [.ref reader, .int (nI tapeLength), .int latestFault, .ref sea, .ref spareSea, .ref seaText, .ref book, .ref sentence, .ref spareSentence, .ref route, .ref meeting, .ref sighting, .ref draws, .ref history, .ref images, .ref chartBytes, .int (nI chartLength), .int fleetBits])), (chartBytes, .inl (ky 2, 32, .inl chartF))] sz)) (va_A [(t, .inr (11, [.ref reader, .int (nI tapeLength), .int latestFault, .ref sea, .ref spareSea, .ref seaText, .ref book, .ref sentence, .ref spareSentence, .ref route, .ref meeting, .ref sighting, .ref draws, .ref history, .ref images, .ref chartBytes, .int (nI chartLength), .int fleetBits])), (chartBytes, .inl (ky 2, 32, .inl chartF))] sz)) 0 0 (va_A [(t, .inr (11, [.ref reader, .int (nI tapeLength), .int latestFault, .ref sea, .ref spareSea, .ref seaText, .ref book, .ref sentence, .ref spareSentence, .ref route, .ref meeting, .ref sighting, .ref draws, .ref history, .ref images, .ref chartBytes, .int (nI chartLength), .int fleetBits])), (chartBytes, .inl (ky 2, 32, .inl chartF))] sz) := by
  refine Met.ofW (cc := cX11_writeByte) (maxL := 2) (ret := none) (by decide) rfl ?_
  intro p e s m args below meth c s₁ B hml hv
  obtain ⟨rfl, hsz, hP, hK, hD0⟩ := hv
  have hx := B.exec
  have hb := B.bytes
  have hr := B.returns
  have hts := atoms_spec (ws := wsX11_writeByte) B.pre
  have hown : s.vm.findClass RX11 = some m.cls := findClass_of_methodNamed B.named
  have hlocks := B.notSynchronized
  have hin11 : ∀ w ∈ u_ws RX11 TX11 18, w ∈ wsX11_writeByte := by decide +kernel
  subst hsz
  have hD := hD0.self (sz := s.heap.size)
  generalize hAe : va_A [(t, .inr (11, [.ref reader, .int (nI tapeLength), .int latestFault, .ref sea, .ref spareSea, .ref seaText, .ref book, .ref sentence, .ref spareSentence, .ref route, .ref meeting, .ref sighting, .ref draws, .ref history, .ref images, .ref chartBytes, .int (nI chartLength), .int fleetBits])), (chartBytes, .inl (ky 2, 32, .inl chartF))] s.heap.size = A at hD ⊢
  have hA : ∀ q : Nat, s.heap.size ≤ q → A q := fun q h => by rw [← hAe]; exact Or.inr h
  have hS : va_S A s.heap s.heap [] := va_S.rf
  have hl := lv_entry ([.ref t, .int x]) (n := 2) (Nat.le_of_ble_eq_true rfl)
  rw [lg_entry_eq]
  generalize (lg_sl ([.ref t, .int x]) ++ List.replicate (2 - (lg_sl ([.ref t, .int x])).length) Slot.unset).toArray = ls at hl ⊢
  have hl : lv_has ls 2 [(0, .ref t), (1, .int x)] := hl
  refine q_name (fun Q hQ => ?_)
  generalize ([.ref t, .int x] : List Value).toArray = args at hts hQ ⊢
  refine lv_aload_n hx hb dX11_writeByte_0 rfl (lv_at hl 0 rfl) ?_
  refine va_get (D := (dC, dI)) (ci := 11) (v := .int (nI chartLength)) (C := RX11) (T := TX11) (N := 18) hx hb hts hin11 hown hK hP 0 rfl rfl 16 (by decide) (hts (.fieldLink RX11 103 "PorridgeSea" "chartLength" "I") (List.mem_of_getElem? (i := 1) rfl)) (fun _ h9 => h9) rfl dX11_writeByte_1 ?_
  refine lv_bipush (v := nI 32) hx hb dX11_writeByte_4 (by decide) ?_
  refine n_icmp_ge (x := chartLength) (y := 32) (tgt := 30) hx hb (by omega) (by omega) dX11_writeByte_6 (by decide) (fun c1 => ?_) (fun c1 => ?_)
  · rw [hQ]
    exact W.vret hx hb hr (fun t9 ht9 hW9 => ⟨⟨(chartLength, chartF), rfl, iv_t_1, by rw [ht9]; exact hP, va_K.moved hW9.alike hK, hD⟩, hS.F ht9⟩) hS.2.2 dX11_writeByte_30
  · refine lv_aload_n hx hb dX11_writeByte_9 rfl (lv_at hl 0 rfl) ?_
    refine va_get (D := (dC, dI)) (ci := 11) (v := .ref chartBytes) (C := RX11) (T := TX11) (N := 18) hx hb hts hin11 hown hK hP 0 rfl rfl 15 (by decide) (hts (.fieldLink RX11 99 "PorridgeSea" "chartBytes" "[B") (List.mem_of_getElem? (i := 2) rfl)) (fun _ h9 => h9) rfl dX11_writeByte_10 ?_
    refine lv_aload_n hx hb dX11_writeByte_13 rfl (lv_at hl 0 rfl) ?_
    refine va_get (D := (dC, dI)) (ci := 11) (v := .int (nI chartLength)) (C := RX11) (T := TX11) (N := 18) hx hb hts hin11 hown hK hP 0 rfl rfl 16 (by decide) (hts (.fieldLink RX11 103 "PorridgeSea" "chartLength" "I") (List.mem_of_getElem? (i := 1) rfl)) (fun _ h9 => h9) rfl dX11_writeByte_14 ?_
    refine lv_iload_n hx hb dX11_writeByte_17 rfl (lv_at hl 1 rfl) ?_
    refine lv_i2b (v := (x).toInt8.toInt32) hx hb dX11_writeByte_18 rfl ?_
    refine lv_topi (fun y2 e3 => ?_)
    refine r_bast (x := y2) hx hb hK hP hD hS 1 rfl chartLength (by omega) (by decide) dX11_writeByte_19 (fun H locs hP hD hS => ?_)
    obtain ⟨g4, e5⟩ : ∃ z9, z9 = upd chartF chartLength (vp_nar .byte y2) := ⟨_, rfl⟩
    rw [← e5] at hP hD
    have hP : va_P (dC, dI) vwCl [(t, .inr (11, [.ref reader, .int (nI tapeLength), .int latestFault, .ref sea, .ref spareSea, .ref seaText, .ref book, .ref sentence, .ref spareSentence, .ref route, .ref meeting, .ref sighting, .ref draws, .ref history, .ref images, .ref chartBytes, .int (nI chartLength), .int fleetBits])), (chartBytes, .inl (ky 2, 32, .inl g4))] H := hP
    have hD : va_D A [(t, .inr (11, [.ref reader, .int (nI tapeLength), .int latestFault, .ref sea, .ref spareSea, .ref seaText, .ref book, .ref sentence, .ref spareSentence, .ref route, .ref meeting, .ref sighting, .ref draws, .ref history, .ref images, .ref chartBytes, .int (nI chartLength), .int fleetBits])), (chartBytes, .inl (ky 2, 32, .inl g4))] := hD
    refine lv_aload_n hx hb dX11_writeByte_20 rfl (lv_at hl 0 rfl) ?_
    refine lv_dup hx hb dX11_writeByte_21 rfl ?_
    refine va_get (D := (dC, dI)) (ci := 11) (v := .int (nI chartLength)) (C := RX11) (T := TX11) (N := 18) hx hb hts hin11 hown hK hP 0 rfl rfl 16 (by decide) (hts (.fieldLink RX11 103 "PorridgeSea" "chartLength" "I") (List.mem_of_getElem? (i := 1) rfl)) (fun _ h9 => h9) rfl dX11_writeByte_22 ?_
    refine lv_iconst (v := nI 1) hx hb dX11_writeByte_25 (by decide) ?_
    refine lv_iadd hx hb dX11_writeByte_26 ?_
    refine r_ti (nI (chartLength + 1)) (nI_add _ _) ?_
    refine va_put (D := (dC, dI)) (ci := 11) (v := .int (nI (chartLength + 1))) (ty := .int) (C := RX11) (T := TX11) (N := 18) hx hb hts hin11 tyX11 tyX11_ok nmX11 hown hK hP hD hS 0 rfl rfl 16 (by decide) (hts (.fieldLink RX11 103 "PorridgeSea" "chartLength" "I") (List.mem_of_getElem? (i := 1) rfl)) (fun _ h9 => h9) rfl (by decide +kernel) rfl rfl (Nat.le_of_ble_eq_true rfl) dX11_writeByte_27 (fun H locs hP hD hS => ?_)
    have hP : va_P (dC, dI) vwCl [(t, .inr (11, [.ref reader, .int (nI tapeLength), .int latestFault, .ref sea, .ref spareSea, .ref seaText, .ref book, .ref sentence, .ref spareSentence, .ref route, .ref meeting, .ref sighting, .ref draws, .ref history, .ref images, .ref chartBytes, .int (nI (chartLength + 1)), .int fleetBits])), (chartBytes, .inl (ky 2, 32, .inl g4))] H := hP
    have hD : va_D A [(t, .inr (11, [.ref reader, .int (nI tapeLength), .int latestFault, .ref sea, .ref spareSea, .ref seaText, .ref book, .ref sentence, .ref spareSentence, .ref route, .ref meeting, .ref sighting, .ref draws, .ref history, .ref images, .ref chartBytes, .int (nI (chartLength + 1)), .int fleetBits])), (chartBytes, .inl (ky 2, 32, .inl g4))] := hD
    rw [hQ]
    exact W.vret hx hb hr (fun t9 ht9 hW9 => ⟨⟨((chartLength + 1), g4), rfl, (lf_p_writeByte_1 chartLength iv_t_1 c1), by rw [ht9]; exact hP, va_K.moved hW9.alike hK, hD⟩, hS.F ht9⟩) hS.2.2 dX11_writeByte_30
set_option maxHeartbeats 4000000 in
set_option maxRecDepth 100000 in
theorem c_p_writeDigit (l : Launch) (dC : Nat → ClassId) (dI : Nat → Nat → Nat) (ky : Nat → ClassId) (sz : Nat) (t : Nat) (reader : Nat) (tapeLength : Nat) (latestFault : Int32) (sea : Nat) (spareSea : Nat) (seaText : Nat) (book : Nat) (sentence : Nat) (spareSentence : Nat) (route : Nat) (meeting : Nat) (sighting : Nat) (draws : Nat) (history : Nat) (images : Nat) (chartBytes : Nat) (chartLength : Nat) (fleetBits : Int32) (chartF : Nat → Int32) (x : Int32) (iv_t_0 : tapeLength ≤ 940) (iv_t_1 : chartLength ≤ 32) : Met l yX11_writeDigit wsX11_writeDigit ({ frames := 1, cells := 0, slots := 0, locals := 21 }) (PcU dC dI ky [.ref t, .int x] [(t, .inr (11, [.ref reader, .int (nI tapeLength), .int latestFault, .ref sea, .ref spareSea, .ref seaText, .ref book, .ref sentence, .ref spareSentence, .ref route, .ref meeting, .ref sighting, .ref draws, .ref history, .ref images, .ref chartBytes, .int (nI chartLength), .int fleetBits])), (chartBytes, .inl (ky 2, 32, .inl chartF))] sz) (va_Qv (fun (u : Nat × (Nat → Int32)) => match u with | (chartLengthG, chartG) => chartLengthG ≤ 32) (BU dC dI ky (fun (u : Nat × (Nat → Int32)) => match u with | (chartLengthG, chartG) => [(t, .inr (11, [.ref reader, .int (nI tapeLength), .int latestFault, .ref sea, .ref spareSea, .ref seaText, .ref book, .ref sentence, .ref spareSentence, .ref route, .ref meeting, .ref sighting, .ref draws, .ref history, .ref images, .ref chartBytes, .int (nI chartLengthG), .int fleetBits])), (chartBytes, .inl (ky 2, 32, .inl chartG))]) (va_A [(t, .inr (11, [.ref reader, .int (nI tapeLength), .int latestFault, .ref sea, .ref spareSea, .ref seaText, .ref book, .ref sentence, .ref spareSentence, .ref route, .ref meeting, .ref sighting, .ref draws, .ref history, .ref images, .ref chartBytes, .int (nI chartLength), .int fleetBits])), (chartBytes, .inl (ky 2, 32, .inl chartF))] sz)) (va_A [(t, .inr (11, [.ref reader, .int (nI tapeLength), .int latestFault, .ref sea, .ref spareSea, .ref seaText, .ref book, .ref sentence, .ref spareSentence, .ref route, .ref meeting, .ref sighting, .ref draws, .ref history, .ref images, .ref chartBytes, .int (nI chartLength), .int fleetBits])), (chartBytes, .inl (ky 2, 32, .inl chartF))] sz)) 0 0 (va_A [(t, .inr (11, [.ref reader, .int (nI tapeLength), .int latestFault, .ref sea, .ref spareSea, .ref seaText, .ref book, .ref sentence, .ref spareSentence, .ref route, .ref meeting, .ref sighting, .ref draws, .ref history, .ref images, .ref chartBytes, .int (nI chartLength), .int fleetBits])), (chartBytes, .inl (ky 2, 32, .inl chartF))] sz) := by
  refine Met.ofW (cc := cX11_writeDigit) (maxL := 2) (ret := none) (by decide) rfl ?_
  intro p e s m args below meth c s₁ B hml hv
  obtain ⟨rfl, hsz, hP, hK, hD0⟩ := hv
  have hx := B.exec
  have hb := B.bytes
  have hr := B.returns
  have hts := atoms_spec (ws := wsX11_writeDigit) B.pre
  have hown : s.vm.findClass RX11 = some m.cls := findClass_of_methodNamed B.named
  have hlocks := B.notSynchronized
  subst hsz
  have hD := hD0.self (sz := s.heap.size)
  generalize hAe : va_A [(t, .inr (11, [.ref reader, .int (nI tapeLength), .int latestFault, .ref sea, .ref spareSea, .ref seaText, .ref book, .ref sentence, .ref spareSentence, .ref route, .ref meeting, .ref sighting, .ref draws, .ref history, .ref images, .ref chartBytes, .int (nI chartLength), .int fleetBits])), (chartBytes, .inl (ky 2, 32, .inl chartF))] s.heap.size = A at hD ⊢
  have hA : ∀ q : Nat, s.heap.size ≤ q → A q := fun q h => by rw [← hAe]; exact Or.inr h
  have hS : va_S A s.heap s.heap [] := va_S.rf
  have hl := lv_entry ([.ref t, .int x]) (n := 2) (Nat.le_of_ble_eq_true rfl)
  rw [lg_entry_eq]
  generalize (lg_sl ([.ref t, .int x]) ++ List.replicate (2 - (lg_sl ([.ref t, .int x])).length) Slot.unset).toArray = ls at hl ⊢
  have hl : lv_has ls 2 [(0, .ref t), (1, .int x)] := hl
  refine q_name (fun Q hQ => ?_)
  generalize ([.ref t, .int x] : List Value).toArray = args at hts hQ ⊢
  refine lv_aload_n hx hb dX11_writeDigit_0 rfl (lv_at hl 0 rfl) ?_
  refine lv_bipush (v := nI 48) hx hb dX11_writeDigit_1 (by decide) ?_
  refine lv_iload_n hx hb dX11_writeDigit_3 rfl (lv_at hl 1 rfl) ?_
  refine lv_iadd hx hb dX11_writeDigit_4 ?_
  refine lv_topi (fun y1 e2 => ?_)
  refine r_call_v (wr := []) (va_runV (As := [.int y1]) (rest := []) ⟨hx, hb, hml, hown, hts⟩ (c_p_writeByte l dC dI ky s.heap.size t reader tapeLength latestFault sea spareSea seaText book sentence spareSentence route meeting sighting draws history images chartBytes chartLength fleetBits chartF y1 iv_t_0 iv_t_1) (cwV 1 hts gX11_writeDigit_X11_writeByte rfl rfl rfl (by decide +kernel) ⟨(Nat.le_of_ble_eq_true rfl), (Nat.le_of_ble_eq_true rfl)⟩) (pre_UV hK hP hD [0, 1] (by decide) rfl (ci := 11) (q0 := 0) rfl rfl) rfl rfl hl.1 rfl (lv_room (Nat.le_of_ble_eq_true rfl)) dX11_writeDigit_5 ⟨(Nat.le_of_ble_eq_true rfl), (Nat.le_of_ble_eq_true rfl)⟩) hP hD hS hA [0, 1] [] rfl rfl (by decide) (by decide) (fun  u3 H locs p4 hP hD hS => ?_)
  obtain ⟨chartLengthG_5, chartG_6⟩ := u3
  try dsimp only at p4
  have p7 := p4
  refine W.widen (k := 0) (n := 0) (Nat.le_of_ble_eq_true rfl) (Nat.le_of_ble_eq_true rfl) ?_
  have hP : va_P (dC, dI) vwCl [(t, .inr (11, [.ref reader, .int (nI tapeLength), .int latestFault, .ref sea, .ref spareSea, .ref seaText, .ref book, .ref sentence, .ref spareSentence, .ref route, .ref meeting, .ref sighting, .ref draws, .ref history, .ref images, .ref chartBytes, .int (nI chartLengthG_5), .int fleetBits])), (chartBytes, .inl (ky 2, 32, .inl chartG_6))] H := hP
  have hD : va_D A [(t, .inr (11, [.ref reader, .int (nI tapeLength), .int latestFault, .ref sea, .ref spareSea, .ref seaText, .ref book, .ref sentence, .ref spareSentence, .ref route, .ref meeting, .ref sighting, .ref draws, .ref history, .ref images, .ref chartBytes, .int (nI chartLengthG_5), .int fleetBits])), (chartBytes, .inl (ky 2, 32, .inl chartG_6))] := hD
  rw [hQ]
  exact W.vret hx hb hr (fun t9 ht9 hW9 => ⟨⟨(chartLengthG_5, chartG_6), rfl, p7, by rw [ht9]; exact hP, va_K.moved hW9.alike hK, hD⟩, hS.F ht9⟩) hS.2.2 dX11_writeDigit_8
set_option maxHeartbeats 4000000 in
set_option maxRecDepth 100000 in
theorem c_p_writeName (l : Launch) (dC : Nat → ClassId) (dI : Nat → Nat → Nat) (ky : Nat → ClassId) (sz : Nat) (t : Nat) (reader : Nat) (tapeLength : Nat) (latestFault : Int32) (sea : Nat) (spareSea : Nat) (seaText : Nat) (book : Nat) (sentence : Nat) (spareSentence : Nat) (route : Nat) (meeting : Nat) (sighting : Nat) (draws : Nat) (history : Nat) (images : Nat) (chartBytes : Nat) (chartLength : Nat) (fleetBits : Int32) (chartF : Nat → Int32) (name : Int64) (iv_t_0 : tapeLength ≤ 940) (iv_t_1 : chartLength ≤ 32) : Met l yX11_writeName wsX11_writeName ({ frames := 1, cells := 0, slots := 0, locals := 21 }) (PcU dC dI ky [.ref t, .long name] [(t, .inr (11, [.ref reader, .int (nI tapeLength), .int latestFault, .ref sea, .ref spareSea, .ref seaText, .ref book, .ref sentence, .ref spareSentence, .ref route, .ref meeting, .ref sighting, .ref draws, .ref history, .ref images, .ref chartBytes, .int (nI chartLength), .int fleetBits])), (chartBytes, .inl (ky 2, 32, .inl chartF))] sz) (va_Qv (fun (u : Nat × (Nat → Int32)) => match u with | (chartLengthG, chartG) => chartLengthG ≤ 32) (BU dC dI ky (fun (u : Nat × (Nat → Int32)) => match u with | (chartLengthG, chartG) => [(t, .inr (11, [.ref reader, .int (nI tapeLength), .int latestFault, .ref sea, .ref spareSea, .ref seaText, .ref book, .ref sentence, .ref spareSentence, .ref route, .ref meeting, .ref sighting, .ref draws, .ref history, .ref images, .ref chartBytes, .int (nI chartLengthG), .int fleetBits])), (chartBytes, .inl (ky 2, 32, .inl chartG))]) (va_A [(t, .inr (11, [.ref reader, .int (nI tapeLength), .int latestFault, .ref sea, .ref spareSea, .ref seaText, .ref book, .ref sentence, .ref spareSentence, .ref route, .ref meeting, .ref sighting, .ref draws, .ref history, .ref images, .ref chartBytes, .int (nI chartLength), .int fleetBits])), (chartBytes, .inl (ky 2, 32, .inl chartF))] sz)) (va_A [(t, .inr (11, [.ref reader, .int (nI tapeLength), .int latestFault, .ref sea, .ref spareSea, .ref seaText, .ref book, .ref sentence, .ref spareSentence, .ref route, .ref meeting, .ref sighting, .ref draws, .ref history, .ref images, .ref chartBytes, .int (nI chartLength), .int fleetBits])), (chartBytes, .inl (ky 2, 32, .inl chartF))] sz)) 0 0 (va_A [(t, .inr (11, [.ref reader, .int (nI tapeLength), .int latestFault, .ref sea, .ref spareSea, .ref seaText, .ref book, .ref sentence, .ref spareSentence, .ref route, .ref meeting, .ref sighting, .ref draws, .ref history, .ref images, .ref chartBytes, .int (nI chartLength), .int fleetBits])), (chartBytes, .inl (ky 2, 32, .inl chartF))] sz) := by
  refine Met.ofW (cc := cX11_writeName) (maxL := 5) (ret := none) (by decide) rfl ?_
  intro p e s m args below meth c s₁ B hml hv
  obtain ⟨rfl, hsz, hP, hK, hD0⟩ := hv
  have hx := B.exec
  have hb := B.bytes
  have hr := B.returns
  have hts := atoms_spec (ws := wsX11_writeName) B.pre
  have hown : s.vm.findClass RX11 = some m.cls := findClass_of_methodNamed B.named
  have hlocks := B.notSynchronized
  subst hsz
  have hD := hD0.self (sz := s.heap.size)
  generalize hAe : va_A [(t, .inr (11, [.ref reader, .int (nI tapeLength), .int latestFault, .ref sea, .ref spareSea, .ref seaText, .ref book, .ref sentence, .ref spareSentence, .ref route, .ref meeting, .ref sighting, .ref draws, .ref history, .ref images, .ref chartBytes, .int (nI chartLength), .int fleetBits])), (chartBytes, .inl (ky 2, 32, .inl chartF))] s.heap.size = A at hD ⊢
  have hA : ∀ q : Nat, s.heap.size ≤ q → A q := fun q h => by rw [← hAe]; exact Or.inr h
  have hS : va_S A s.heap s.heap [] := va_S.rf
  have hl := lv_entry ([.ref t, .long name]) (n := 5) (Nat.le_of_ble_eq_true rfl)
  rw [lg_entry_eq]
  generalize (lg_sl ([.ref t, .long name]) ++ List.replicate (5 - (lg_sl ([.ref t, .long name])).length) Slot.unset).toArray = ls at hl ⊢
  have hl : lv_has ls 5 [(0, .ref t), (1, .long name)] := hl
  refine q_name (fun Q hQ => ?_)
  generalize ([.ref t, .long name] : List Value).toArray = args at hts hQ ⊢
  refine lv_bipush (v := nI 48) hx hb dX11_writeName_0 (by decide) ?_
  refine lv_istore_n (lv' := [(3, .int (nI 48)), (0, .ref t), (1, .long name)]) hx hb dX11_writeName_2 rfl hl (by decide) rfl (fun ls hl => ?_)
  refine lv_iload_n hx hb dX11_writeName_3 rfl (lv_at hl 0 rfl) ?_
  refine lv_if_lt (tgt := 34) hx hb dX11_writeName_4 (by decide) (fun c1 => absurd c1 (by decide)) (fun c1 => ?_)
  refine lv_lload_n hx hb dX11_writeName_7 rfl (lv_at hl 2 rfl) ?_
  refine lv_iload_n hx hb dX11_writeName_8 rfl (lv_at hl 0 rfl) ?_
  obtain ⟨w2, e3⟩ : ∃ z9 : Int64, z9 = ((name).toUInt64 >>> ((nI 48).toInt64.toUInt64 &&& Int64.toUInt64 63)).toInt64 := ⟨_, rfl⟩
  refine lv_lushr (v := w2) hx hb dX11_writeName_9 e3.symm ?_
  obtain ⟨y4, e5⟩ : ∃ z9 : Int32, z9 = (w2).toInt32 := ⟨_, rfl⟩
  refine lv_l2i (v := y4) hx hb dX11_writeName_10 e5.symm ?_
  refine lv_sipush (v := nI 255) hx hb dX11_writeName_11 (by decide) ?_
  refine lv_iand hx hb dX11_writeName_14 ?_
  refine lv_topi (fun y6 e7 => ?_)
  refine lv_istore (lv' := [(4, .int y6), (3, .int (nI 48)), (0, .ref t), (1, .long name)]) hx hb dX11_writeName_15 hl (by decide) rfl (fun ls hl => ?_)
  refine lv_iload hx hb dX11_writeName_17 (lv_at hl 0 rfl) ?_
  have hJ12 : ∀ (k9 : Nat) (f10 : Nat → Int32), (k9 ≤ 32) → ∀ (H : Heap) (locs : List Loc) (ls : Array Slot), va_P (dC, dI) vwCl [(t, .inr (11, [.ref reader, .int (nI tapeLength), .int latestFault, .ref sea, .ref spareSea, .ref seaText, .ref book, .ref sentence, .ref spareSentence, .ref route, .ref meeting, .ref sighting, .ref draws, .ref history, .ref images, .ref chartBytes, .int (nI k9), .int fleetBits])), (chartBytes, .inl (ky 2, 32, .inl f10))] H → va_D A [(t, .inr (11, [.ref reader, .int (nI tapeLength), .int latestFault, .ref sea, .ref spareSea, .ref seaText, .ref book, .ref sentence, .ref spareSentence, .ref route, .ref meeting, .ref sighting, .ref draws, .ref history, .ref images, .ref chartBytes, .int (nI k9), .int fleetBits])), (chartBytes, .inl (ky 2, 32, .inl f10))] → va_S A s.heap H locs → lv_has ls 5 [(3, .int (nI 48)), (0, .ref t), (1, .long name)] → W p l e (headSpec wsX11_writeName ({ frames := 1, cells := 0, slots := 0, locals := 21 })).room s m args below meth c H locs 0 0 Q (F0 m 28 ls []) := by
    intro k9 f10 j11 H locs ls hP hD hS hl
    refine lv_iinc (v := nI 40) (lv' := [(3, .int (nI 40)), (0, .ref t), (1, .long name)]) hx hb dX11_writeName_28 hl (k := 0) rfl (by decide) (by decide) rfl (fun ls hl => ?_)
    refine lv_goto (tgt := 3) hx hb dX11_writeName_31 (by decide) ?_
    refine lv_iload_n hx hb dX11_writeName_3 rfl (lv_at hl 0 rfl) ?_
    refine lv_if_lt (tgt := 34) hx hb dX11_writeName_4 (by decide) (fun c13 => absurd c13 (by decide)) (fun c13 => ?_)
    refine lv_lload_n hx hb dX11_writeName_7 rfl (lv_at hl 2 rfl) ?_
    refine lv_iload_n hx hb dX11_writeName_8 rfl (lv_at hl 0 rfl) ?_
    obtain ⟨w14, e15⟩ : ∃ z9 : Int64, z9 = ((name).toUInt64 >>> ((nI 40).toInt64.toUInt64 &&& Int64.toUInt64 63)).toInt64 := ⟨_, rfl⟩
    refine lv_lushr (v := w14) hx hb dX11_writeName_9 e15.symm ?_
    obtain ⟨y16, e17⟩ : ∃ z9 : Int32, z9 = (w14).toInt32 := ⟨_, rfl⟩
    refine lv_l2i (v := y16) hx hb dX11_writeName_10 e17.symm ?_
    refine lv_sipush (v := nI 255) hx hb dX11_writeName_11 (by decide) ?_
    refine lv_iand hx hb dX11_writeName_14 ?_
    refine lv_topi (fun y18 e19 => ?_)
    refine lv_istore (lv' := [(4, .int y18), (3, .int (nI 40)), (0, .ref t), (1, .long name)]) hx hb dX11_writeName_15 hl (by decide) rfl (fun ls hl => ?_)
    refine lv_iload hx hb dX11_writeName_17 (lv_at hl 0 rfl) ?_
    have hJ24 : ∀ (k21 : Nat) (f22 : Nat → Int32), (k21 ≤ 32) → ∀ (H : Heap) (locs : List Loc) (ls : Array Slot), va_P (dC, dI) vwCl [(t, .inr (11, [.ref reader, .int (nI tapeLength), .int latestFault, .ref sea, .ref spareSea, .ref seaText, .ref book, .ref sentence, .ref spareSentence, .ref route, .ref meeting, .ref sighting, .ref draws, .ref history, .ref images, .ref chartBytes, .int (nI k21), .int fleetBits])), (chartBytes, .inl (ky 2, 32, .inl f22))] H → va_D A [(t, .inr (11, [.ref reader, .int (nI tapeLength), .int latestFault, .ref sea, .ref spareSea, .ref seaText, .ref book, .ref sentence, .ref spareSentence, .ref route, .ref meeting, .ref sighting, .ref draws, .ref history, .ref images, .ref chartBytes, .int (nI k21), .int fleetBits])), (chartBytes, .inl (ky 2, 32, .inl f22))] → va_S A s.heap H locs → lv_has ls 5 [(3, .int (nI 40)), (0, .ref t), (1, .long name)] → W p l e (headSpec wsX11_writeName ({ frames := 1, cells := 0, slots := 0, locals := 21 })).room s m args below meth c H locs 0 0 Q (F0 m 28 ls []) := by
      intro k21 f22 j23 H locs ls hP hD hS hl
      refine lv_iinc (v := nI 32) (lv' := [(3, .int (nI 32)), (0, .ref t), (1, .long name)]) hx hb dX11_writeName_28 hl (k := 0) rfl (by decide) (by decide) rfl (fun ls hl => ?_)
      refine lv_goto (tgt := 3) hx hb dX11_writeName_31 (by decide) ?_
      refine lv_iload_n hx hb dX11_writeName_3 rfl (lv_at hl 0 rfl) ?_
      refine lv_if_lt (tgt := 34) hx hb dX11_writeName_4 (by decide) (fun c25 => absurd c25 (by decide)) (fun c25 => ?_)
      refine lv_lload_n hx hb dX11_writeName_7 rfl (lv_at hl 2 rfl) ?_
      refine lv_iload_n hx hb dX11_writeName_8 rfl (lv_at hl 0 rfl) ?_
      obtain ⟨w26, e27⟩ : ∃ z9 : Int64, z9 = ((name).toUInt64 >>> ((nI 32).toInt64.toUInt64 &&& Int64.toUInt64 63)).toInt64 := ⟨_, rfl⟩
      refine lv_lushr (v := w26) hx hb dX11_writeName_9 e27.symm ?_
      obtain ⟨y28, e29⟩ : ∃ z9 : Int32, z9 = (w26).toInt32 := ⟨_, rfl⟩
      refine lv_l2i (v := y28) hx hb dX11_writeName_10 e29.symm ?_
      refine lv_sipush (v := nI 255) hx hb dX11_writeName_11 (by decide) ?_
      refine lv_iand hx hb dX11_writeName_14 ?_
      refine lv_topi (fun y30 e31 => ?_)
      refine lv_istore (lv' := [(4, .int y30), (3, .int (nI 32)), (0, .ref t), (1, .long name)]) hx hb dX11_writeName_15 hl (by decide) rfl (fun ls hl => ?_)
      refine lv_iload hx hb dX11_writeName_17 (lv_at hl 0 rfl) ?_
      have hJ36 : ∀ (k33 : Nat) (f34 : Nat → Int32), (k33 ≤ 32) → ∀ (H : Heap) (locs : List Loc) (ls : Array Slot), va_P (dC, dI) vwCl [(t, .inr (11, [.ref reader, .int (nI tapeLength), .int latestFault, .ref sea, .ref spareSea, .ref seaText, .ref book, .ref sentence, .ref spareSentence, .ref route, .ref meeting, .ref sighting, .ref draws, .ref history, .ref images, .ref chartBytes, .int (nI k33), .int fleetBits])), (chartBytes, .inl (ky 2, 32, .inl f34))] H → va_D A [(t, .inr (11, [.ref reader, .int (nI tapeLength), .int latestFault, .ref sea, .ref spareSea, .ref seaText, .ref book, .ref sentence, .ref spareSentence, .ref route, .ref meeting, .ref sighting, .ref draws, .ref history, .ref images, .ref chartBytes, .int (nI k33), .int fleetBits])), (chartBytes, .inl (ky 2, 32, .inl f34))] → va_S A s.heap H locs → lv_has ls 5 [(3, .int (nI 32)), (0, .ref t), (1, .long name)] → W p l e (headSpec wsX11_writeName ({ frames := 1, cells := 0, slots := 0, locals := 21 })).room s m args below meth c H locs 0 0 Q (F0 m 28 ls []) := by
        intro k33 f34 j35 H locs ls hP hD hS hl
        refine lv_iinc (v := nI 24) (lv' := [(3, .int (nI 24)), (0, .ref t), (1, .long name)]) hx hb dX11_writeName_28 hl (k := 0) rfl (by decide) (by decide) rfl (fun ls hl => ?_)
        refine lv_goto (tgt := 3) hx hb dX11_writeName_31 (by decide) ?_
        refine lv_iload_n hx hb dX11_writeName_3 rfl (lv_at hl 0 rfl) ?_
        refine lv_if_lt (tgt := 34) hx hb dX11_writeName_4 (by decide) (fun c37 => absurd c37 (by decide)) (fun c37 => ?_)
        refine lv_lload_n hx hb dX11_writeName_7 rfl (lv_at hl 2 rfl) ?_
        refine lv_iload_n hx hb dX11_writeName_8 rfl (lv_at hl 0 rfl) ?_
        obtain ⟨w38, e39⟩ : ∃ z9 : Int64, z9 = ((name).toUInt64 >>> ((nI 24).toInt64.toUInt64 &&& Int64.toUInt64 63)).toInt64 := ⟨_, rfl⟩
        refine lv_lushr (v := w38) hx hb dX11_writeName_9 e39.symm ?_
        obtain ⟨y40, e41⟩ : ∃ z9 : Int32, z9 = (w38).toInt32 := ⟨_, rfl⟩
        refine lv_l2i (v := y40) hx hb dX11_writeName_10 e41.symm ?_
        refine lv_sipush (v := nI 255) hx hb dX11_writeName_11 (by decide) ?_
        refine lv_iand hx hb dX11_writeName_14 ?_
        refine lv_topi (fun y42 e43 => ?_)
        refine lv_istore (lv' := [(4, .int y42), (3, .int (nI 24)), (0, .ref t), (1, .long name)]) hx hb dX11_writeName_15 hl (by decide) rfl (fun ls hl => ?_)
        refine lv_iload hx hb dX11_writeName_17 (lv_at hl 0 rfl) ?_
        have hJ48 : ∀ (k45 : Nat) (f46 : Nat → Int32), (k45 ≤ 32) → ∀ (H : Heap) (locs : List Loc) (ls : Array Slot), va_P (dC, dI) vwCl [(t, .inr (11, [.ref reader, .int (nI tapeLength), .int latestFault, .ref sea, .ref spareSea, .ref seaText, .ref book, .ref sentence, .ref spareSentence, .ref route, .ref meeting, .ref sighting, .ref draws, .ref history, .ref images, .ref chartBytes, .int (nI k45), .int fleetBits])), (chartBytes, .inl (ky 2, 32, .inl f46))] H → va_D A [(t, .inr (11, [.ref reader, .int (nI tapeLength), .int latestFault, .ref sea, .ref spareSea, .ref seaText, .ref book, .ref sentence, .ref spareSentence, .ref route, .ref meeting, .ref sighting, .ref draws, .ref history, .ref images, .ref chartBytes, .int (nI k45), .int fleetBits])), (chartBytes, .inl (ky 2, 32, .inl f46))] → va_S A s.heap H locs → lv_has ls 5 [(3, .int (nI 24)), (0, .ref t), (1, .long name)] → W p l e (headSpec wsX11_writeName ({ frames := 1, cells := 0, slots := 0, locals := 21 })).room s m args below meth c H locs 0 0 Q (F0 m 28 ls []) := by
          intro k45 f46 j47 H locs ls hP hD hS hl
          refine lv_iinc (v := nI 16) (lv' := [(3, .int (nI 16)), (0, .ref t), (1, .long name)]) hx hb dX11_writeName_28 hl (k := 0) rfl (by decide) (by decide) rfl (fun ls hl => ?_)
          refine lv_goto (tgt := 3) hx hb dX11_writeName_31 (by decide) ?_
          refine lv_iload_n hx hb dX11_writeName_3 rfl (lv_at hl 0 rfl) ?_
          refine lv_if_lt (tgt := 34) hx hb dX11_writeName_4 (by decide) (fun c49 => absurd c49 (by decide)) (fun c49 => ?_)
          refine lv_lload_n hx hb dX11_writeName_7 rfl (lv_at hl 2 rfl) ?_
          refine lv_iload_n hx hb dX11_writeName_8 rfl (lv_at hl 0 rfl) ?_
          obtain ⟨w50, e51⟩ : ∃ z9 : Int64, z9 = ((name).toUInt64 >>> ((nI 16).toInt64.toUInt64 &&& Int64.toUInt64 63)).toInt64 := ⟨_, rfl⟩
          refine lv_lushr (v := w50) hx hb dX11_writeName_9 e51.symm ?_
          obtain ⟨y52, e53⟩ : ∃ z9 : Int32, z9 = (w50).toInt32 := ⟨_, rfl⟩
          refine lv_l2i (v := y52) hx hb dX11_writeName_10 e53.symm ?_
          refine lv_sipush (v := nI 255) hx hb dX11_writeName_11 (by decide) ?_
          refine lv_iand hx hb dX11_writeName_14 ?_
          refine lv_topi (fun y54 e55 => ?_)
          refine lv_istore (lv' := [(4, .int y54), (3, .int (nI 16)), (0, .ref t), (1, .long name)]) hx hb dX11_writeName_15 hl (by decide) rfl (fun ls hl => ?_)
          refine lv_iload hx hb dX11_writeName_17 (lv_at hl 0 rfl) ?_
          have hJ60 : ∀ (k57 : Nat) (f58 : Nat → Int32), (k57 ≤ 32) → ∀ (H : Heap) (locs : List Loc) (ls : Array Slot), va_P (dC, dI) vwCl [(t, .inr (11, [.ref reader, .int (nI tapeLength), .int latestFault, .ref sea, .ref spareSea, .ref seaText, .ref book, .ref sentence, .ref spareSentence, .ref route, .ref meeting, .ref sighting, .ref draws, .ref history, .ref images, .ref chartBytes, .int (nI k57), .int fleetBits])), (chartBytes, .inl (ky 2, 32, .inl f58))] H → va_D A [(t, .inr (11, [.ref reader, .int (nI tapeLength), .int latestFault, .ref sea, .ref spareSea, .ref seaText, .ref book, .ref sentence, .ref spareSentence, .ref route, .ref meeting, .ref sighting, .ref draws, .ref history, .ref images, .ref chartBytes, .int (nI k57), .int fleetBits])), (chartBytes, .inl (ky 2, 32, .inl f58))] → va_S A s.heap H locs → lv_has ls 5 [(3, .int (nI 16)), (0, .ref t), (1, .long name)] → W p l e (headSpec wsX11_writeName ({ frames := 1, cells := 0, slots := 0, locals := 21 })).room s m args below meth c H locs 0 0 Q (F0 m 28 ls []) := by
            intro k57 f58 j59 H locs ls hP hD hS hl
            refine lv_iinc (v := nI 8) (lv' := [(3, .int (nI 8)), (0, .ref t), (1, .long name)]) hx hb dX11_writeName_28 hl (k := 0) rfl (by decide) (by decide) rfl (fun ls hl => ?_)
            refine lv_goto (tgt := 3) hx hb dX11_writeName_31 (by decide) ?_
            refine lv_iload_n hx hb dX11_writeName_3 rfl (lv_at hl 0 rfl) ?_
            refine lv_if_lt (tgt := 34) hx hb dX11_writeName_4 (by decide) (fun c61 => absurd c61 (by decide)) (fun c61 => ?_)
            refine lv_lload_n hx hb dX11_writeName_7 rfl (lv_at hl 2 rfl) ?_
            refine lv_iload_n hx hb dX11_writeName_8 rfl (lv_at hl 0 rfl) ?_
            obtain ⟨w62, e63⟩ : ∃ z9 : Int64, z9 = ((name).toUInt64 >>> ((nI 8).toInt64.toUInt64 &&& Int64.toUInt64 63)).toInt64 := ⟨_, rfl⟩
            refine lv_lushr (v := w62) hx hb dX11_writeName_9 e63.symm ?_
            obtain ⟨y64, e65⟩ : ∃ z9 : Int32, z9 = (w62).toInt32 := ⟨_, rfl⟩
            refine lv_l2i (v := y64) hx hb dX11_writeName_10 e65.symm ?_
            refine lv_sipush (v := nI 255) hx hb dX11_writeName_11 (by decide) ?_
            refine lv_iand hx hb dX11_writeName_14 ?_
            refine lv_topi (fun y66 e67 => ?_)
            refine lv_istore (lv' := [(4, .int y66), (3, .int (nI 8)), (0, .ref t), (1, .long name)]) hx hb dX11_writeName_15 hl (by decide) rfl (fun ls hl => ?_)
            refine lv_iload hx hb dX11_writeName_17 (lv_at hl 0 rfl) ?_
            have hJ72 : ∀ (k69 : Nat) (f70 : Nat → Int32), (k69 ≤ 32) → ∀ (H : Heap) (locs : List Loc) (ls : Array Slot), va_P (dC, dI) vwCl [(t, .inr (11, [.ref reader, .int (nI tapeLength), .int latestFault, .ref sea, .ref spareSea, .ref seaText, .ref book, .ref sentence, .ref spareSentence, .ref route, .ref meeting, .ref sighting, .ref draws, .ref history, .ref images, .ref chartBytes, .int (nI k69), .int fleetBits])), (chartBytes, .inl (ky 2, 32, .inl f70))] H → va_D A [(t, .inr (11, [.ref reader, .int (nI tapeLength), .int latestFault, .ref sea, .ref spareSea, .ref seaText, .ref book, .ref sentence, .ref spareSentence, .ref route, .ref meeting, .ref sighting, .ref draws, .ref history, .ref images, .ref chartBytes, .int (nI k69), .int fleetBits])), (chartBytes, .inl (ky 2, 32, .inl f70))] → va_S A s.heap H locs → lv_has ls 5 [(3, .int (nI 8)), (0, .ref t), (1, .long name)] → W p l e (headSpec wsX11_writeName ({ frames := 1, cells := 0, slots := 0, locals := 21 })).room s m args below meth c H locs 0 0 Q (F0 m 28 ls []) := by
              intro k69 f70 j71 H locs ls hP hD hS hl
              refine lv_iinc (v := nI 0) (lv' := [(3, .int (nI 0)), (0, .ref t), (1, .long name)]) hx hb dX11_writeName_28 hl (k := 0) rfl (by decide) (by decide) rfl (fun ls hl => ?_)
              refine lv_goto (tgt := 3) hx hb dX11_writeName_31 (by decide) ?_
              refine lv_iload_n hx hb dX11_writeName_3 rfl (lv_at hl 0 rfl) ?_
              refine lv_if_lt (tgt := 34) hx hb dX11_writeName_4 (by decide) (fun c73 => absurd c73 (by decide)) (fun c73 => ?_)
              refine lv_lload_n hx hb dX11_writeName_7 rfl (lv_at hl 2 rfl) ?_
              refine lv_iload_n hx hb dX11_writeName_8 rfl (lv_at hl 0 rfl) ?_
              obtain ⟨w74, e75⟩ : ∃ z9 : Int64, z9 = ((name).toUInt64 >>> ((nI 0).toInt64.toUInt64 &&& Int64.toUInt64 63)).toInt64 := ⟨_, rfl⟩
              refine lv_lushr (v := w74) hx hb dX11_writeName_9 e75.symm ?_
              obtain ⟨y76, e77⟩ : ∃ z9 : Int32, z9 = (w74).toInt32 := ⟨_, rfl⟩
              refine lv_l2i (v := y76) hx hb dX11_writeName_10 e77.symm ?_
              refine lv_sipush (v := nI 255) hx hb dX11_writeName_11 (by decide) ?_
              refine lv_iand hx hb dX11_writeName_14 ?_
              refine lv_topi (fun y78 e79 => ?_)
              refine lv_istore (lv' := [(4, .int y78), (3, .int (nI 0)), (0, .ref t), (1, .long name)]) hx hb dX11_writeName_15 hl (by decide) rfl (fun ls hl => ?_)
              refine lv_iload hx hb dX11_writeName_17 (lv_at hl 0 rfl) ?_
              have hJ84 : ∀ (k81 : Nat) (f82 : Nat → Int32), (k81 ≤ 32) → ∀ (H : Heap) (locs : List Loc) (ls : Array Slot), va_P (dC, dI) vwCl [(t, .inr (11, [.ref reader, .int (nI tapeLength), .int latestFault, .ref sea, .ref spareSea, .ref seaText, .ref book, .ref sentence, .ref spareSentence, .ref route, .ref meeting, .ref sighting, .ref draws, .ref history, .ref images, .ref chartBytes, .int (nI k81), .int fleetBits])), (chartBytes, .inl (ky 2, 32, .inl f82))] H → va_D A [(t, .inr (11, [.ref reader, .int (nI tapeLength), .int latestFault, .ref sea, .ref spareSea, .ref seaText, .ref book, .ref sentence, .ref spareSentence, .ref route, .ref meeting, .ref sighting, .ref draws, .ref history, .ref images, .ref chartBytes, .int (nI k81), .int fleetBits])), (chartBytes, .inl (ky 2, 32, .inl f82))] → va_S A s.heap H locs → lv_has ls 5 [(3, .int (nI 0)), (0, .ref t), (1, .long name)] → W p l e (headSpec wsX11_writeName ({ frames := 1, cells := 0, slots := 0, locals := 21 })).room s m args below meth c H locs 0 0 Q (F0 m 28 ls []) := by
                intro k81 f82 j83 H locs ls hP hD hS hl
                refine lv_iinc (v := (-8 : Int32)) (lv' := [(3, .int (-8 : Int32)), (0, .ref t), (1, .long name)]) hx hb dX11_writeName_28 hl (k := 0) rfl (by decide) (by decide) rfl (fun ls hl => ?_)
                refine lv_goto (tgt := 3) hx hb dX11_writeName_31 (by decide) ?_
                refine lv_iload_n hx hb dX11_writeName_3 rfl (lv_at hl 0 rfl) ?_
                refine lv_if_lt (tgt := 34) hx hb dX11_writeName_4 (by decide) (fun c85 => ?_) (fun c85 => absurd (by decide) c85)
                rw [hQ]
                exact W.vret hx hb hr (fun t9 ht9 hW9 => ⟨⟨(k81, f82), rfl, j83, by rw [ht9]; exact hP, va_K.moved hW9.alike hK, hD⟩, hS.F ht9⟩) hS.2.2 dX11_writeName_34
              refine lv_if_eq (tgt := 28) hx hb dX11_writeName_19 (by decide) (fun c80 => ?_) (fun c80 => ?_)
              · exact hJ84 k69 f70 j71 _ _ _ hP hD hS (lv_sub hl [1, 2, 3] rfl)
              · refine lv_aload_n hx hb dX11_writeName_22 rfl (lv_at hl 2 rfl) ?_
                refine lv_iload hx hb dX11_writeName_23 (lv_at hl 0 rfl) ?_
                refine r_call_v (wr := []) (va_runV (As := [.int y78]) (rest := []) ⟨hx, hb, hml, hown, hts⟩ (c_p_writeByte l dC dI ky H.size t reader tapeLength latestFault sea spareSea seaText book sentence spareSentence route meeting sighting draws history images chartBytes k69 fleetBits f70 y78 iv_t_0 j71) (cwV 1 hts gX11_writeName_X11_writeByte rfl rfl rfl (by decide +kernel) ⟨(Nat.le_of_ble_eq_true rfl), (Nat.le_of_ble_eq_true rfl)⟩) (pre_UV hK hP hD [0, 1] (by decide) rfl (ci := 11) (q0 := 0) rfl rfl) rfl rfl hl.1 rfl (lv_room (Nat.le_of_ble_eq_true rfl)) dX11_writeName_25 ⟨(Nat.le_of_ble_eq_true rfl), (Nat.le_of_ble_eq_true rfl)⟩) hP hD hS hA [0, 1] [] rfl rfl (by decide) (by decide) (fun  u86 H locs p87 hP hD hS => ?_)
                obtain ⟨chartLengthG_88, chartG_89⟩ := u86
                try dsimp only at p87
                have p90 := p87
                refine W.widen (k := 0) (n := 0) (Nat.le_of_ble_eq_true rfl) (Nat.le_of_ble_eq_true rfl) ?_
                have hP : va_P (dC, dI) vwCl [(t, .inr (11, [.ref reader, .int (nI tapeLength), .int latestFault, .ref sea, .ref spareSea, .ref seaText, .ref book, .ref sentence, .ref spareSentence, .ref route, .ref meeting, .ref sighting, .ref draws, .ref history, .ref images, .ref chartBytes, .int (nI chartLengthG_88), .int fleetBits])), (chartBytes, .inl (ky 2, 32, .inl chartG_89))] H := hP
                have hD : va_D A [(t, .inr (11, [.ref reader, .int (nI tapeLength), .int latestFault, .ref sea, .ref spareSea, .ref seaText, .ref book, .ref sentence, .ref spareSentence, .ref route, .ref meeting, .ref sighting, .ref draws, .ref history, .ref images, .ref chartBytes, .int (nI chartLengthG_88), .int fleetBits])), (chartBytes, .inl (ky 2, 32, .inl chartG_89))] := hD
                exact hJ84 chartLengthG_88 chartG_89 p90 _ _ _ hP hD hS (lv_sub hl [1, 2, 3] rfl)
            refine lv_if_eq (tgt := 28) hx hb dX11_writeName_19 (by decide) (fun c68 => ?_) (fun c68 => ?_)
            · exact hJ72 k57 f58 j59 _ _ _ hP hD hS (lv_sub hl [1, 2, 3] rfl)
            · refine lv_aload_n hx hb dX11_writeName_22 rfl (lv_at hl 2 rfl) ?_
              refine lv_iload hx hb dX11_writeName_23 (lv_at hl 0 rfl) ?_
              refine r_call_v (wr := []) (va_runV (As := [.int y66]) (rest := []) ⟨hx, hb, hml, hown, hts⟩ (c_p_writeByte l dC dI ky H.size t reader tapeLength latestFault sea spareSea seaText book sentence spareSentence route meeting sighting draws history images chartBytes k57 fleetBits f58 y66 iv_t_0 j59) (cwV 1 hts gX11_writeName_X11_writeByte rfl rfl rfl (by decide +kernel) ⟨(Nat.le_of_ble_eq_true rfl), (Nat.le_of_ble_eq_true rfl)⟩) (pre_UV hK hP hD [0, 1] (by decide) rfl (ci := 11) (q0 := 0) rfl rfl) rfl rfl hl.1 rfl (lv_room (Nat.le_of_ble_eq_true rfl)) dX11_writeName_25 ⟨(Nat.le_of_ble_eq_true rfl), (Nat.le_of_ble_eq_true rfl)⟩) hP hD hS hA [0, 1] [] rfl rfl (by decide) (by decide) (fun  u91 H locs p92 hP hD hS => ?_)
              obtain ⟨chartLengthG_93, chartG_94⟩ := u91
              try dsimp only at p92
              have p95 := p92
              refine W.widen (k := 0) (n := 0) (Nat.le_of_ble_eq_true rfl) (Nat.le_of_ble_eq_true rfl) ?_
              have hP : va_P (dC, dI) vwCl [(t, .inr (11, [.ref reader, .int (nI tapeLength), .int latestFault, .ref sea, .ref spareSea, .ref seaText, .ref book, .ref sentence, .ref spareSentence, .ref route, .ref meeting, .ref sighting, .ref draws, .ref history, .ref images, .ref chartBytes, .int (nI chartLengthG_93), .int fleetBits])), (chartBytes, .inl (ky 2, 32, .inl chartG_94))] H := hP
              have hD : va_D A [(t, .inr (11, [.ref reader, .int (nI tapeLength), .int latestFault, .ref sea, .ref spareSea, .ref seaText, .ref book, .ref sentence, .ref spareSentence, .ref route, .ref meeting, .ref sighting, .ref draws, .ref history, .ref images, .ref chartBytes, .int (nI chartLengthG_93), .int fleetBits])), (chartBytes, .inl (ky 2, 32, .inl chartG_94))] := hD
              exact hJ72 chartLengthG_93 chartG_94 p95 _ _ _ hP hD hS (lv_sub hl [1, 2, 3] rfl)
          refine lv_if_eq (tgt := 28) hx hb dX11_writeName_19 (by decide) (fun c56 => ?_) (fun c56 => ?_)
          · exact hJ60 k45 f46 j47 _ _ _ hP hD hS (lv_sub hl [1, 2, 3] rfl)
          · refine lv_aload_n hx hb dX11_writeName_22 rfl (lv_at hl 2 rfl) ?_
            refine lv_iload hx hb dX11_writeName_23 (lv_at hl 0 rfl) ?_
            refine r_call_v (wr := []) (va_runV (As := [.int y54]) (rest := []) ⟨hx, hb, hml, hown, hts⟩ (c_p_writeByte l dC dI ky H.size t reader tapeLength latestFault sea spareSea seaText book sentence spareSentence route meeting sighting draws history images chartBytes k45 fleetBits f46 y54 iv_t_0 j47) (cwV 1 hts gX11_writeName_X11_writeByte rfl rfl rfl (by decide +kernel) ⟨(Nat.le_of_ble_eq_true rfl), (Nat.le_of_ble_eq_true rfl)⟩) (pre_UV hK hP hD [0, 1] (by decide) rfl (ci := 11) (q0 := 0) rfl rfl) rfl rfl hl.1 rfl (lv_room (Nat.le_of_ble_eq_true rfl)) dX11_writeName_25 ⟨(Nat.le_of_ble_eq_true rfl), (Nat.le_of_ble_eq_true rfl)⟩) hP hD hS hA [0, 1] [] rfl rfl (by decide) (by decide) (fun  u96 H locs p97 hP hD hS => ?_)
            obtain ⟨chartLengthG_98, chartG_99⟩ := u96
            try dsimp only at p97
            have p100 := p97
            refine W.widen (k := 0) (n := 0) (Nat.le_of_ble_eq_true rfl) (Nat.le_of_ble_eq_true rfl) ?_
            have hP : va_P (dC, dI) vwCl [(t, .inr (11, [.ref reader, .int (nI tapeLength), .int latestFault, .ref sea, .ref spareSea, .ref seaText, .ref book, .ref sentence, .ref spareSentence, .ref route, .ref meeting, .ref sighting, .ref draws, .ref history, .ref images, .ref chartBytes, .int (nI chartLengthG_98), .int fleetBits])), (chartBytes, .inl (ky 2, 32, .inl chartG_99))] H := hP
            have hD : va_D A [(t, .inr (11, [.ref reader, .int (nI tapeLength), .int latestFault, .ref sea, .ref spareSea, .ref seaText, .ref book, .ref sentence, .ref spareSentence, .ref route, .ref meeting, .ref sighting, .ref draws, .ref history, .ref images, .ref chartBytes, .int (nI chartLengthG_98), .int fleetBits])), (chartBytes, .inl (ky 2, 32, .inl chartG_99))] := hD
            exact hJ60 chartLengthG_98 chartG_99 p100 _ _ _ hP hD hS (lv_sub hl [1, 2, 3] rfl)
        refine lv_if_eq (tgt := 28) hx hb dX11_writeName_19 (by decide) (fun c44 => ?_) (fun c44 => ?_)
        · exact hJ48 k33 f34 j35 _ _ _ hP hD hS (lv_sub hl [1, 2, 3] rfl)
        · refine lv_aload_n hx hb dX11_writeName_22 rfl (lv_at hl 2 rfl) ?_
          refine lv_iload hx hb dX11_writeName_23 (lv_at hl 0 rfl) ?_
          refine r_call_v (wr := []) (va_runV (As := [.int y42]) (rest := []) ⟨hx, hb, hml, hown, hts⟩ (c_p_writeByte l dC dI ky H.size t reader tapeLength latestFault sea spareSea seaText book sentence spareSentence route meeting sighting draws history images chartBytes k33 fleetBits f34 y42 iv_t_0 j35) (cwV 1 hts gX11_writeName_X11_writeByte rfl rfl rfl (by decide +kernel) ⟨(Nat.le_of_ble_eq_true rfl), (Nat.le_of_ble_eq_true rfl)⟩) (pre_UV hK hP hD [0, 1] (by decide) rfl (ci := 11) (q0 := 0) rfl rfl) rfl rfl hl.1 rfl (lv_room (Nat.le_of_ble_eq_true rfl)) dX11_writeName_25 ⟨(Nat.le_of_ble_eq_true rfl), (Nat.le_of_ble_eq_true rfl)⟩) hP hD hS hA [0, 1] [] rfl rfl (by decide) (by decide) (fun  u101 H locs p102 hP hD hS => ?_)
          obtain ⟨chartLengthG_103, chartG_104⟩ := u101
          try dsimp only at p102
          have p105 := p102
          refine W.widen (k := 0) (n := 0) (Nat.le_of_ble_eq_true rfl) (Nat.le_of_ble_eq_true rfl) ?_
          have hP : va_P (dC, dI) vwCl [(t, .inr (11, [.ref reader, .int (nI tapeLength), .int latestFault, .ref sea, .ref spareSea, .ref seaText, .ref book, .ref sentence, .ref spareSentence, .ref route, .ref meeting, .ref sighting, .ref draws, .ref history, .ref images, .ref chartBytes, .int (nI chartLengthG_103), .int fleetBits])), (chartBytes, .inl (ky 2, 32, .inl chartG_104))] H := hP
          have hD : va_D A [(t, .inr (11, [.ref reader, .int (nI tapeLength), .int latestFault, .ref sea, .ref spareSea, .ref seaText, .ref book, .ref sentence, .ref spareSentence, .ref route, .ref meeting, .ref sighting, .ref draws, .ref history, .ref images, .ref chartBytes, .int (nI chartLengthG_103), .int fleetBits])), (chartBytes, .inl (ky 2, 32, .inl chartG_104))] := hD
          exact hJ48 chartLengthG_103 chartG_104 p105 _ _ _ hP hD hS (lv_sub hl [1, 2, 3] rfl)
      refine lv_if_eq (tgt := 28) hx hb dX11_writeName_19 (by decide) (fun c32 => ?_) (fun c32 => ?_)
      · exact hJ36 k21 f22 j23 _ _ _ hP hD hS (lv_sub hl [1, 2, 3] rfl)
      · refine lv_aload_n hx hb dX11_writeName_22 rfl (lv_at hl 2 rfl) ?_
        refine lv_iload hx hb dX11_writeName_23 (lv_at hl 0 rfl) ?_
        refine r_call_v (wr := []) (va_runV (As := [.int y30]) (rest := []) ⟨hx, hb, hml, hown, hts⟩ (c_p_writeByte l dC dI ky H.size t reader tapeLength latestFault sea spareSea seaText book sentence spareSentence route meeting sighting draws history images chartBytes k21 fleetBits f22 y30 iv_t_0 j23) (cwV 1 hts gX11_writeName_X11_writeByte rfl rfl rfl (by decide +kernel) ⟨(Nat.le_of_ble_eq_true rfl), (Nat.le_of_ble_eq_true rfl)⟩) (pre_UV hK hP hD [0, 1] (by decide) rfl (ci := 11) (q0 := 0) rfl rfl) rfl rfl hl.1 rfl (lv_room (Nat.le_of_ble_eq_true rfl)) dX11_writeName_25 ⟨(Nat.le_of_ble_eq_true rfl), (Nat.le_of_ble_eq_true rfl)⟩) hP hD hS hA [0, 1] [] rfl rfl (by decide) (by decide) (fun  u106 H locs p107 hP hD hS => ?_)
        obtain ⟨chartLengthG_108, chartG_109⟩ := u106
        try dsimp only at p107
        have p110 := p107
        refine W.widen (k := 0) (n := 0) (Nat.le_of_ble_eq_true rfl) (Nat.le_of_ble_eq_true rfl) ?_
        have hP : va_P (dC, dI) vwCl [(t, .inr (11, [.ref reader, .int (nI tapeLength), .int latestFault, .ref sea, .ref spareSea, .ref seaText, .ref book, .ref sentence, .ref spareSentence, .ref route, .ref meeting, .ref sighting, .ref draws, .ref history, .ref images, .ref chartBytes, .int (nI chartLengthG_108), .int fleetBits])), (chartBytes, .inl (ky 2, 32, .inl chartG_109))] H := hP
        have hD : va_D A [(t, .inr (11, [.ref reader, .int (nI tapeLength), .int latestFault, .ref sea, .ref spareSea, .ref seaText, .ref book, .ref sentence, .ref spareSentence, .ref route, .ref meeting, .ref sighting, .ref draws, .ref history, .ref images, .ref chartBytes, .int (nI chartLengthG_108), .int fleetBits])), (chartBytes, .inl (ky 2, 32, .inl chartG_109))] := hD
        exact hJ36 chartLengthG_108 chartG_109 p110 _ _ _ hP hD hS (lv_sub hl [1, 2, 3] rfl)
    refine lv_if_eq (tgt := 28) hx hb dX11_writeName_19 (by decide) (fun c20 => ?_) (fun c20 => ?_)
    · exact hJ24 k9 f10 j11 _ _ _ hP hD hS (lv_sub hl [1, 2, 3] rfl)
    · refine lv_aload_n hx hb dX11_writeName_22 rfl (lv_at hl 2 rfl) ?_
      refine lv_iload hx hb dX11_writeName_23 (lv_at hl 0 rfl) ?_
      refine r_call_v (wr := []) (va_runV (As := [.int y18]) (rest := []) ⟨hx, hb, hml, hown, hts⟩ (c_p_writeByte l dC dI ky H.size t reader tapeLength latestFault sea spareSea seaText book sentence spareSentence route meeting sighting draws history images chartBytes k9 fleetBits f10 y18 iv_t_0 j11) (cwV 1 hts gX11_writeName_X11_writeByte rfl rfl rfl (by decide +kernel) ⟨(Nat.le_of_ble_eq_true rfl), (Nat.le_of_ble_eq_true rfl)⟩) (pre_UV hK hP hD [0, 1] (by decide) rfl (ci := 11) (q0 := 0) rfl rfl) rfl rfl hl.1 rfl (lv_room (Nat.le_of_ble_eq_true rfl)) dX11_writeName_25 ⟨(Nat.le_of_ble_eq_true rfl), (Nat.le_of_ble_eq_true rfl)⟩) hP hD hS hA [0, 1] [] rfl rfl (by decide) (by decide) (fun  u111 H locs p112 hP hD hS => ?_)
      obtain ⟨chartLengthG_113, chartG_114⟩ := u111
      try dsimp only at p112
      have p115 := p112
      refine W.widen (k := 0) (n := 0) (Nat.le_of_ble_eq_true rfl) (Nat.le_of_ble_eq_true rfl) ?_
      have hP : va_P (dC, dI) vwCl [(t, .inr (11, [.ref reader, .int (nI tapeLength), .int latestFault, .ref sea, .ref spareSea, .ref seaText, .ref book, .ref sentence, .ref spareSentence, .ref route, .ref meeting, .ref sighting, .ref draws, .ref history, .ref images, .ref chartBytes, .int (nI chartLengthG_113), .int fleetBits])), (chartBytes, .inl (ky 2, 32, .inl chartG_114))] H := hP
      have hD : va_D A [(t, .inr (11, [.ref reader, .int (nI tapeLength), .int latestFault, .ref sea, .ref spareSea, .ref seaText, .ref book, .ref sentence, .ref spareSentence, .ref route, .ref meeting, .ref sighting, .ref draws, .ref history, .ref images, .ref chartBytes, .int (nI chartLengthG_113), .int fleetBits])), (chartBytes, .inl (ky 2, 32, .inl chartG_114))] := hD
      exact hJ24 chartLengthG_113 chartG_114 p115 _ _ _ hP hD hS (lv_sub hl [1, 2, 3] rfl)
  refine lv_if_eq (tgt := 28) hx hb dX11_writeName_19 (by decide) (fun c8 => ?_) (fun c8 => ?_)
  · exact hJ12 chartLength chartF iv_t_1 _ _ _ hP hD hS (lv_sub hl [1, 2, 3] rfl)
  · refine lv_aload_n hx hb dX11_writeName_22 rfl (lv_at hl 2 rfl) ?_
    refine lv_iload hx hb dX11_writeName_23 (lv_at hl 0 rfl) ?_
    refine r_call_v (wr := []) (va_runV (As := [.int y6]) (rest := []) ⟨hx, hb, hml, hown, hts⟩ (c_p_writeByte l dC dI ky s.heap.size t reader tapeLength latestFault sea spareSea seaText book sentence spareSentence route meeting sighting draws history images chartBytes chartLength fleetBits chartF y6 iv_t_0 iv_t_1) (cwV 1 hts gX11_writeName_X11_writeByte rfl rfl rfl (by decide +kernel) ⟨(Nat.le_of_ble_eq_true rfl), (Nat.le_of_ble_eq_true rfl)⟩) (pre_UV hK hP hD [0, 1] (by decide) rfl (ci := 11) (q0 := 0) rfl rfl) rfl rfl hl.1 rfl (lv_room (Nat.le_of_ble_eq_true rfl)) dX11_writeName_25 ⟨(Nat.le_of_ble_eq_true rfl), (Nat.le_of_ble_eq_true rfl)⟩) hP hD hS hA [0, 1] [] rfl rfl (by decide) (by decide) (fun  u116 H locs p117 hP hD hS => ?_)
    obtain ⟨chartLengthG_118, chartG_119⟩ := u116
    try dsimp only at p117
    have p120 := p117
    refine W.widen (k := 0) (n := 0) (Nat.le_of_ble_eq_true rfl) (Nat.le_of_ble_eq_true rfl) ?_
    have hP : va_P (dC, dI) vwCl [(t, .inr (11, [.ref reader, .int (nI tapeLength), .int latestFault, .ref sea, .ref spareSea, .ref seaText, .ref book, .ref sentence, .ref spareSentence, .ref route, .ref meeting, .ref sighting, .ref draws, .ref history, .ref images, .ref chartBytes, .int (nI chartLengthG_118), .int fleetBits])), (chartBytes, .inl (ky 2, 32, .inl chartG_119))] H := hP
    have hD : va_D A [(t, .inr (11, [.ref reader, .int (nI tapeLength), .int latestFault, .ref sea, .ref spareSea, .ref seaText, .ref book, .ref sentence, .ref spareSentence, .ref route, .ref meeting, .ref sighting, .ref draws, .ref history, .ref images, .ref chartBytes, .int (nI chartLengthG_118), .int fleetBits])), (chartBytes, .inl (ky 2, 32, .inl chartG_119))] := hD
    exact hJ12 chartLengthG_118 chartG_119 p120 _ _ _ hP hD hS (lv_sub hl [1, 2, 3] rfl)
set_option maxRecDepth 20000 in
theorem lf_p_write3_1 (k11 : Nat) (n17 : Nat) (j14 : k11 ≤ 6) (hm19 : 6 - k11 < n17 + 1) (c22 : k11 < 6) : (k11 + 1) ≤ 6 := by
  try simp only [ia_lt, ia_le, ia_eq, ia_m1, ia_0, ia_1, ne_eq, true_and, and_true, false_and, and_false, or_false, false_or, or_true, true_or, not_true_eq_false, not_false_eq_true] at *
  all_goals omega
set_option maxRecDepth 20000 in
theorem lf_p_write3_2 (k11 : Nat) (n17 : Nat) (j14 : k11 ≤ 6) (hm19 : 6 - k11 < n17 + 1) (c22 : k11 < 6) : 6 - (k11 + 1) < n17 := by
  try simp only [ia_lt, ia_le, ia_eq, ia_m1, ia_0, ia_1, ne_eq, true_and, and_true, false_and, and_false, or_false, false_or, or_true, true_or, not_true_eq_false, not_false_eq_true] at *
  all_goals omega
set_option maxRecDepth 20000 in
theorem lf_p_write3_3   : 0 ≤ 6 := by
  try simp only [ia_lt, ia_le, ia_eq, ia_m1, ia_0, ia_1, ne_eq, true_and, and_true, false_and, and_false, or_false, false_or, or_true, true_or, not_true_eq_false, not_false_eq_true] at *
  all_goals omega
set_option maxHeartbeats 4000000 in
set_option maxRecDepth 100000 in
theorem c_p_write3 (l : Launch) (dC : Nat → ClassId) (dI : Nat → Nat → Nat) (ky : Nat → ClassId) (sz : Nat) (adK : Nat → Nat) (adV : Nat → Nat) (t : Nat) (reader : Nat) (tapeLength : Nat) (latestFault : Int32) (sea : Nat) (spareSea : Nat) (seaText : Nat) (book : Nat) (sentence : Nat) (spareSentence : Nat) (route : Nat) (meeting : Nat) (sighting : Nat) (draws : Nat) (history : Nat) (images : Nat) (chartBytes : Nat) (chartLength : Nat) (fleetBits : Int32) (chartF : Nat → Int32) (iv_t_0 : tapeLength ≤ 940) (iv_t_1 : chartLength ≤ 32) : Met l yX11_write wsX11_write ({ frames := 4, cells := 0, slots := 0, locals := 85 }) (PcUE dC dI ky adK adV [.ref t, .ref (adK 3)] [(t, .inr (11, [.ref reader, .int (nI tapeLength), .int latestFault, .ref sea, .ref spareSea, .ref seaText, .ref book, .ref sentence, .ref spareSentence, .ref route, .ref meeting, .ref sighting, .ref draws, .ref history, .ref images, .ref chartBytes, .int (nI chartLength), .int fleetBits])), (chartBytes, .inl (ky 2, 32, .inl chartF))] sz) (va_Qv (fun (u : Nat × (Nat → Int32)) => match u with | (chartLengthG, chartG) => chartLengthG ≤ 32) (BU dC dI ky (fun (u : Nat × (Nat → Int32)) => match u with | (chartLengthG, chartG) => [(t, .inr (11, [.ref reader, .int (nI tapeLength), .int latestFault, .ref sea, .ref spareSea, .ref seaText, .ref book, .ref sentence, .ref spareSentence, .ref route, .ref meeting, .ref sighting, .ref draws, .ref history, .ref images, .ref chartBytes, .int (nI chartLengthG), .int fleetBits])), (chartBytes, .inl (ky 2, 32, .inl chartG))]) (va_A [(t, .inr (11, [.ref reader, .int (nI tapeLength), .int latestFault, .ref sea, .ref spareSea, .ref seaText, .ref book, .ref sentence, .ref spareSentence, .ref route, .ref meeting, .ref sighting, .ref draws, .ref history, .ref images, .ref chartBytes, .int (nI chartLength), .int fleetBits])), (chartBytes, .inl (ky 2, 32, .inl chartF))] sz)) (va_A [(t, .inr (11, [.ref reader, .int (nI tapeLength), .int latestFault, .ref sea, .ref spareSea, .ref seaText, .ref book, .ref sentence, .ref spareSentence, .ref route, .ref meeting, .ref sighting, .ref draws, .ref history, .ref images, .ref chartBytes, .int (nI chartLength), .int fleetBits])), (chartBytes, .inl (ky 2, 32, .inl chartF))] sz)) 0 0 (va_A [(t, .inr (11, [.ref reader, .int (nI tapeLength), .int latestFault, .ref sea, .ref spareSea, .ref seaText, .ref book, .ref sentence, .ref spareSentence, .ref route, .ref meeting, .ref sighting, .ref draws, .ref history, .ref images, .ref chartBytes, .int (nI chartLength), .int fleetBits])), (chartBytes, .inl (ky 2, 32, .inl chartF))] sz) := by
  refine Met.ofW (cc := cX11_write) (maxL := 3) (ret := none) (by decide) rfl ?_
  intro p e s m args below meth c s₁ B hml hv
  obtain ⟨rfl, hsz, hP, hK, hD0, hE⟩ := hv
  have hx := B.exec
  have hb := B.bytes
  have hr := B.returns
  have hts := atoms_spec (ws := wsX11_write) B.pre
  have hown : s.vm.findClass RX11 = some m.cls := findClass_of_methodNamed B.named
  have hlocks := B.notSynchronized
  subst hsz
  have hD := hD0.self (sz := s.heap.size)
  generalize hAe : va_A [(t, .inr (11, [.ref reader, .int (nI tapeLength), .int latestFault, .ref sea, .ref spareSea, .ref seaText, .ref book, .ref sentence, .ref spareSentence, .ref route, .ref meeting, .ref sighting, .ref draws, .ref history, .ref images, .ref chartBytes, .int (nI chartLength), .int fleetBits])), (chartBytes, .inl (ky 2, 32, .inl chartF))] s.heap.size = A at hD hE ⊢
  have hA : ∀ q : Nat, s.heap.size ≤ q → A q := fun q h => by rw [← hAe]; exact Or.inr h
  have hS : va_S A s.heap s.heap [] := va_S.rf
  have hl := lv_entry ([.ref t, .ref (adK 3)]) (n := 3) (Nat.le_of_ble_eq_true rfl)
  rw [lg_entry_eq]
  generalize (lg_sl ([.ref t, .ref (adK 3)]) ++ List.replicate (3 - (lg_sl ([.ref t, .ref (adK 3)])).length) Slot.unset).toArray = ls at hl ⊢
  have hl : lv_has ls 3 [(0, .ref t), (1, .ref (adK 3))] := hl
  refine q_name (fun Q hQ => ?_)
  generalize ([.ref t, .ref (adK 3)] : List Value).toArray = args at hts hQ ⊢
  refine lv_iconst (v := nI 0) hx hb dX11_write_0 (by decide) ?_
  refine lv_istore_n (lv' := [(2, .int (nI 0)), (0, .ref t), (1, .ref (adK 3))]) hx hb dX11_write_1 rfl hl (by decide) rfl (fun ls hl => ?_)
  have hL16 : ∀ (n17 : Nat) (k11 : Nat) (k12 : Nat) (f13 : Nat → Int32), (k11 ≤ 6) → (k12 ≤ 32) → 6 - k11 < n17 → ∀ (H : Heap) (locs : List Loc) (ls : Array Slot), va_P (dC, dI) vwCl [(t, .inr (11, [.ref reader, .int (nI tapeLength), .int latestFault, .ref sea, .ref spareSea, .ref seaText, .ref book, .ref sentence, .ref spareSentence, .ref route, .ref meeting, .ref sighting, .ref draws, .ref history, .ref images, .ref chartBytes, .int (nI k12), .int fleetBits])), (chartBytes, .inl (ky 2, 32, .inl f13))] H → va_D A [(t, .inr (11, [.ref reader, .int (nI tapeLength), .int latestFault, .ref sea, .ref spareSea, .ref seaText, .ref book, .ref sentence, .ref spareSentence, .ref route, .ref meeting, .ref sighting, .ref draws, .ref history, .ref images, .ref chartBytes, .int (nI k12), .int fleetBits])), (chartBytes, .inl (ky 2, 32, .inl f13))] → va_S A s.heap H locs → lv_has ls 3 [(2, .int (nI k11)), (0, .ref t), (1, .ref (adK 3))] → W p l e (headSpec wsX11_write ({ frames := 4, cells := 0, slots := 0, locals := 85 })).room s m args below meth c H locs 0 0 Q (F0 m 2 ls []) := by
    intro n17
    induction n17 with
    | zero => intro k11 k12 f13 _ _ h9; exact absurd h9 (Nat.not_lt_zero _)
    | succ n17 ih18 =>
      intro k11 k12 f13 j14 j15 hm19 H locs ls hP hD hS hl
      refine lv_iload_n hx hb dX11_write_2 rfl (lv_at hl 0 rfl) ?_
      refine lv_aload_n hx hb dX11_write_3 rfl (lv_at hl 2 rfl) ?_
      refine vp_callSi (W.runV (As := []) (rest := [.int (nI k11)]) ⟨hx, hb, hml, hown, hts⟩ (c_j_length3 l dC dI ky adK adV) (cwV 0 hts gX11_write_J0_length_8abf5 rfl rfl rfl (by decide +kernel) ⟨(Nat.le_of_ble_eq_true rfl), (Nat.le_of_ble_eq_true rfl)⟩) (pre_PEV hE hS hK hP [] rfl (vk_recv hE.1 (i := 3) (by decide) hS)) rfl rfl hl.1 rfl (lv_room (Nat.le_of_ble_eq_true rfl)) dX11_write_4 ⟨(Nat.le_of_ble_eq_true rfl), (Nat.le_of_ble_eq_true rfl)⟩) (fun r20 p21 => ?_)
      subst p21
      refine n_icmp_ge (x := k11) (y := 6) (tgt := 25) hx hb (by omega) (by omega) dX11_write_7 (by decide) (fun c22 => ?_) (fun c22 => ?_)
      · rw [hQ]
        exact W.vret hx hb hr (fun t9 ht9 hW9 => ⟨⟨(k12, f13), rfl, j15, by rw [ht9]; exact hP, va_K.moved hW9.alike hK, hD⟩, hS.F ht9⟩) hS.2.2 dX11_write_25
      · refine lv_aload_n hx hb dX11_write_10 rfl (lv_at hl 1 rfl) ?_
        refine lv_aload_n hx hb dX11_write_11 rfl (lv_at hl 2 rfl) ?_
        refine lv_iload_n hx hb dX11_write_12 rfl (lv_at hl 0 rfl) ?_
        refine r_call_i (wr := [(t, .inr (11, [.ref reader, .int (nI tapeLength), .int latestFault, .ref sea, .ref spareSea, .ref seaText, .ref book, .ref sentence, .ref spareSentence, .ref route, .ref meeting, .ref sighting, .ref draws, .ref history, .ref images, .ref chartBytes, .int (nI k12), .int fleetBits])), (chartBytes, .inl (ky 2, 32, .inl f13))]) (va_runV (As := [.int (nI k11)]) (rest := [.ref t]) ⟨hx, hb, hml, hown, hts⟩ (c_j_ch3 l dC dI ky H.size adK adV k11 c22) (cwV 1 hts gX11_write_J0_charAt_5068e rfl rfl rfl (by decide +kernel) ⟨(Nat.le_of_ble_eq_true rfl), (Nat.le_of_ble_eq_true rfl)⟩) (pre_UEV hE hS hA hK hP hD [] (by decide) rfl (vk_recv hE.1 (i := 3) (by decide) hS)) rfl rfl hl.1 rfl (lv_room (Nat.le_of_ble_eq_true rfl)) dX11_write_13 ⟨(Nat.le_of_ble_eq_true rfl), (Nat.le_of_ble_eq_true rfl)⟩) hP hD hS hA [] [0, 1] rfl rfl (by decide) (by decide) (fun r25 u23 H locs p24 hP hD hS => ?_)
        try dsimp only at p24
        have p26 := p24
        refine W.widen (k := 0) (n := 0) (Nat.le_of_ble_eq_true rfl) (Nat.le_of_ble_eq_true rfl) ?_
        have hP : va_P (dC, dI) vwCl [(t, .inr (11, [.ref reader, .int (nI tapeLength), .int latestFault, .ref sea, .ref spareSea, .ref seaText, .ref book, .ref sentence, .ref spareSentence, .ref route, .ref meeting, .ref sighting, .ref draws, .ref history, .ref images, .ref chartBytes, .int (nI k12), .int fleetBits])), (chartBytes, .inl (ky 2, 32, .inl f13))] H := hP
        have hD : va_D A [(t, .inr (11, [.ref reader, .int (nI tapeLength), .int latestFault, .ref sea, .ref spareSea, .ref seaText, .ref book, .ref sentence, .ref spareSentence, .ref route, .ref meeting, .ref sighting, .ref draws, .ref history, .ref images, .ref chartBytes, .int (nI k12), .int fleetBits])), (chartBytes, .inl (ky 2, 32, .inl f13))] := hD
        refine r_call_v (wr := []) (va_runV (As := [.int r25]) (rest := []) ⟨hx, hb, hml, hown, hts⟩ (c_p_writeByte l dC dI ky H.size t reader tapeLength latestFault sea spareSea seaText book sentence spareSentence route meeting sighting draws history images chartBytes k12 fleetBits f13 r25 iv_t_0 j15) (cwV 1 hts gX11_write_X11_writeByte rfl rfl rfl (by decide +kernel) ⟨(Nat.le_of_ble_eq_true rfl), (Nat.le_of_ble_eq_true rfl)⟩) (pre_UV hK hP hD [0, 1] (by decide) rfl (ci := 11) (q0 := 0) rfl rfl) rfl rfl hl.1 rfl (lv_room (Nat.le_of_ble_eq_true rfl)) dX11_write_16 ⟨(Nat.le_of_ble_eq_true rfl), (Nat.le_of_ble_eq_true rfl)⟩) hP hD hS hA [0, 1] [] rfl rfl (by decide) (by decide) (fun  u27 H locs p28 hP hD hS => ?_)
        obtain ⟨chartLengthG_29, chartG_30⟩ := u27
        try dsimp only at p28
        have p31 := p28
        refine W.widen (k := 0) (n := 0) (Nat.le_of_ble_eq_true rfl) (Nat.le_of_ble_eq_true rfl) ?_
        have hP : va_P (dC, dI) vwCl [(t, .inr (11, [.ref reader, .int (nI tapeLength), .int latestFault, .ref sea, .ref spareSea, .ref seaText, .ref book, .ref sentence, .ref spareSentence, .ref route, .ref meeting, .ref sighting, .ref draws, .ref history, .ref images, .ref chartBytes, .int (nI chartLengthG_29), .int fleetBits])), (chartBytes, .inl (ky 2, 32, .inl chartG_30))] H := hP
        have hD : va_D A [(t, .inr (11, [.ref reader, .int (nI tapeLength), .int latestFault, .ref sea, .ref spareSea, .ref seaText, .ref book, .ref sentence, .ref spareSentence, .ref route, .ref meeting, .ref sighting, .ref draws, .ref history, .ref images, .ref chartBytes, .int (nI chartLengthG_29), .int fleetBits])), (chartBytes, .inl (ky 2, 32, .inl chartG_30))] := hD
        refine lv_iinc (v := nI (k11 + 1)) (lv' := [(2, .int (nI (k11 + 1))), (0, .ref t), (1, .ref (adK 3))]) hx hb dX11_write_19 hl (k := 0) rfl (show nI k11 + nI 1 = nI (k11 + 1) from nI_add _ _) (by decide) rfl (fun ls hl => ?_)
        refine lv_goto (tgt := 2) hx hb dX11_write_22 (by decide) ?_
        exact ih18 (k11 + 1) chartLengthG_29 chartG_30 (lf_p_write3_1 k11 n17 j14 hm19 c22) p31 (lf_p_write3_2 k11 n17 j14 hm19 c22) _ _ _ hP hD hS (lv_sub hl [0, 1, 2] rfl)
  exact hL16 ((6 - 0) + 1) 0 chartLength chartF (lf_p_write3_3) iv_t_1 (Nat.lt_succ_self _) _ _ _ hP hD hS (lv_sub hl [0, 1, 2] rfl)
set_option maxRecDepth 20000 in
theorem lf_p_write4_1 (k11 : Nat) (n17 : Nat) (j14 : k11 ≤ 4) (hm19 : 4 - k11 < n17 + 1) (c22 : k11 < 4) : (k11 + 1) ≤ 4 := by
  try simp only [ia_lt, ia_le, ia_eq, ia_m1, ia_0, ia_1, ne_eq, true_and, and_true, false_and, and_false, or_false, false_or, or_true, true_or, not_true_eq_false, not_false_eq_true] at *
  all_goals omega
set_option maxRecDepth 20000 in
theorem lf_p_write4_2 (k11 : Nat) (n17 : Nat) (j14 : k11 ≤ 4) (hm19 : 4 - k11 < n17 + 1) (c22 : k11 < 4) : 4 - (k11 + 1) < n17 := by
  try simp only [ia_lt, ia_le, ia_eq, ia_m1, ia_0, ia_1, ne_eq, true_and, and_true, false_and, and_false, or_false, false_or, or_true, true_or, not_true_eq_false, not_false_eq_true] at *
  all_goals omega
set_option maxRecDepth 20000 in
theorem lf_p_write4_3   : 0 ≤ 4 := by
  try simp only [ia_lt, ia_le, ia_eq, ia_m1, ia_0, ia_1, ne_eq, true_and, and_true, false_and, and_false, or_false, false_or, or_true, true_or, not_true_eq_false, not_false_eq_true] at *
  all_goals omega
set_option maxHeartbeats 4000000 in
set_option maxRecDepth 100000 in
theorem c_p_write4 (l : Launch) (dC : Nat → ClassId) (dI : Nat → Nat → Nat) (ky : Nat → ClassId) (sz : Nat) (adK : Nat → Nat) (adV : Nat → Nat) (t : Nat) (reader : Nat) (tapeLength : Nat) (latestFault : Int32) (sea : Nat) (spareSea : Nat) (seaText : Nat) (book : Nat) (sentence : Nat) (spareSentence : Nat) (route : Nat) (meeting : Nat) (sighting : Nat) (draws : Nat) (history : Nat) (images : Nat) (chartBytes : Nat) (chartLength : Nat) (fleetBits : Int32) (chartF : Nat → Int32) (iv_t_0 : tapeLength ≤ 940) (iv_t_1 : chartLength ≤ 32) : Met l yX11_write wsX11_write ({ frames := 4, cells := 0, slots := 0, locals := 85 }) (PcUE dC dI ky adK adV [.ref t, .ref (adK 4)] [(t, .inr (11, [.ref reader, .int (nI tapeLength), .int latestFault, .ref sea, .ref spareSea, .ref seaText, .ref book, .ref sentence, .ref spareSentence, .ref route, .ref meeting, .ref sighting, .ref draws, .ref history, .ref images, .ref chartBytes, .int (nI chartLength), .int fleetBits])), (chartBytes, .inl (ky 2, 32, .inl chartF))] sz) (va_Qv (fun (u : Nat × (Nat → Int32)) => match u with | (chartLengthG, chartG) => chartLengthG ≤ 32) (BU dC dI ky (fun (u : Nat × (Nat → Int32)) => match u with | (chartLengthG, chartG) => [(t, .inr (11, [.ref reader, .int (nI tapeLength), .int latestFault, .ref sea, .ref spareSea, .ref seaText, .ref book, .ref sentence, .ref spareSentence, .ref route, .ref meeting, .ref sighting, .ref draws, .ref history, .ref images, .ref chartBytes, .int (nI chartLengthG), .int fleetBits])), (chartBytes, .inl (ky 2, 32, .inl chartG))]) (va_A [(t, .inr (11, [.ref reader, .int (nI tapeLength), .int latestFault, .ref sea, .ref spareSea, .ref seaText, .ref book, .ref sentence, .ref spareSentence, .ref route, .ref meeting, .ref sighting, .ref draws, .ref history, .ref images, .ref chartBytes, .int (nI chartLength), .int fleetBits])), (chartBytes, .inl (ky 2, 32, .inl chartF))] sz)) (va_A [(t, .inr (11, [.ref reader, .int (nI tapeLength), .int latestFault, .ref sea, .ref spareSea, .ref seaText, .ref book, .ref sentence, .ref spareSentence, .ref route, .ref meeting, .ref sighting, .ref draws, .ref history, .ref images, .ref chartBytes, .int (nI chartLength), .int fleetBits])), (chartBytes, .inl (ky 2, 32, .inl chartF))] sz)) 0 0 (va_A [(t, .inr (11, [.ref reader, .int (nI tapeLength), .int latestFault, .ref sea, .ref spareSea, .ref seaText, .ref book, .ref sentence, .ref spareSentence, .ref route, .ref meeting, .ref sighting, .ref draws, .ref history, .ref images, .ref chartBytes, .int (nI chartLength), .int fleetBits])), (chartBytes, .inl (ky 2, 32, .inl chartF))] sz) := by
  refine Met.ofW (cc := cX11_write) (maxL := 3) (ret := none) (by decide) rfl ?_
  intro p e s m args below meth c s₁ B hml hv
  obtain ⟨rfl, hsz, hP, hK, hD0, hE⟩ := hv
  have hx := B.exec
  have hb := B.bytes
  have hr := B.returns
  have hts := atoms_spec (ws := wsX11_write) B.pre
  have hown : s.vm.findClass RX11 = some m.cls := findClass_of_methodNamed B.named
  have hlocks := B.notSynchronized
  subst hsz
  have hD := hD0.self (sz := s.heap.size)
  generalize hAe : va_A [(t, .inr (11, [.ref reader, .int (nI tapeLength), .int latestFault, .ref sea, .ref spareSea, .ref seaText, .ref book, .ref sentence, .ref spareSentence, .ref route, .ref meeting, .ref sighting, .ref draws, .ref history, .ref images, .ref chartBytes, .int (nI chartLength), .int fleetBits])), (chartBytes, .inl (ky 2, 32, .inl chartF))] s.heap.size = A at hD hE ⊢
  have hA : ∀ q : Nat, s.heap.size ≤ q → A q := fun q h => by rw [← hAe]; exact Or.inr h
  have hS : va_S A s.heap s.heap [] := va_S.rf
  have hl := lv_entry ([.ref t, .ref (adK 4)]) (n := 3) (Nat.le_of_ble_eq_true rfl)
  rw [lg_entry_eq]
  generalize (lg_sl ([.ref t, .ref (adK 4)]) ++ List.replicate (3 - (lg_sl ([.ref t, .ref (adK 4)])).length) Slot.unset).toArray = ls at hl ⊢
  have hl : lv_has ls 3 [(0, .ref t), (1, .ref (adK 4))] := hl
  refine q_name (fun Q hQ => ?_)
  generalize ([.ref t, .ref (adK 4)] : List Value).toArray = args at hts hQ ⊢
  refine lv_iconst (v := nI 0) hx hb dX11_write_0 (by decide) ?_
  refine lv_istore_n (lv' := [(2, .int (nI 0)), (0, .ref t), (1, .ref (adK 4))]) hx hb dX11_write_1 rfl hl (by decide) rfl (fun ls hl => ?_)
  have hL16 : ∀ (n17 : Nat) (k11 : Nat) (k12 : Nat) (f13 : Nat → Int32), (k11 ≤ 4) → (k12 ≤ 32) → 4 - k11 < n17 → ∀ (H : Heap) (locs : List Loc) (ls : Array Slot), va_P (dC, dI) vwCl [(t, .inr (11, [.ref reader, .int (nI tapeLength), .int latestFault, .ref sea, .ref spareSea, .ref seaText, .ref book, .ref sentence, .ref spareSentence, .ref route, .ref meeting, .ref sighting, .ref draws, .ref history, .ref images, .ref chartBytes, .int (nI k12), .int fleetBits])), (chartBytes, .inl (ky 2, 32, .inl f13))] H → va_D A [(t, .inr (11, [.ref reader, .int (nI tapeLength), .int latestFault, .ref sea, .ref spareSea, .ref seaText, .ref book, .ref sentence, .ref spareSentence, .ref route, .ref meeting, .ref sighting, .ref draws, .ref history, .ref images, .ref chartBytes, .int (nI k12), .int fleetBits])), (chartBytes, .inl (ky 2, 32, .inl f13))] → va_S A s.heap H locs → lv_has ls 3 [(2, .int (nI k11)), (0, .ref t), (1, .ref (adK 4))] → W p l e (headSpec wsX11_write ({ frames := 4, cells := 0, slots := 0, locals := 85 })).room s m args below meth c H locs 0 0 Q (F0 m 2 ls []) := by
    intro n17
    induction n17 with
    | zero => intro k11 k12 f13 _ _ h9; exact absurd h9 (Nat.not_lt_zero _)
    | succ n17 ih18 =>
      intro k11 k12 f13 j14 j15 hm19 H locs ls hP hD hS hl
      refine lv_iload_n hx hb dX11_write_2 rfl (lv_at hl 0 rfl) ?_
      refine lv_aload_n hx hb dX11_write_3 rfl (lv_at hl 2 rfl) ?_
      refine vp_callSi (W.runV (As := []) (rest := [.int (nI k11)]) ⟨hx, hb, hml, hown, hts⟩ (c_j_length4 l dC dI ky adK adV) (cwV 0 hts gX11_write_J0_length_8abf5 rfl rfl rfl (by decide +kernel) ⟨(Nat.le_of_ble_eq_true rfl), (Nat.le_of_ble_eq_true rfl)⟩) (pre_PEV hE hS hK hP [] rfl (vk_recv hE.1 (i := 4) (by decide) hS)) rfl rfl hl.1 rfl (lv_room (Nat.le_of_ble_eq_true rfl)) dX11_write_4 ⟨(Nat.le_of_ble_eq_true rfl), (Nat.le_of_ble_eq_true rfl)⟩) (fun r20 p21 => ?_)
      subst p21
      refine n_icmp_ge (x := k11) (y := 4) (tgt := 25) hx hb (by omega) (by omega) dX11_write_7 (by decide) (fun c22 => ?_) (fun c22 => ?_)
      · rw [hQ]
        exact W.vret hx hb hr (fun t9 ht9 hW9 => ⟨⟨(k12, f13), rfl, j15, by rw [ht9]; exact hP, va_K.moved hW9.alike hK, hD⟩, hS.F ht9⟩) hS.2.2 dX11_write_25
      · refine lv_aload_n hx hb dX11_write_10 rfl (lv_at hl 1 rfl) ?_
        refine lv_aload_n hx hb dX11_write_11 rfl (lv_at hl 2 rfl) ?_
        refine lv_iload_n hx hb dX11_write_12 rfl (lv_at hl 0 rfl) ?_
        refine r_call_i (wr := [(t, .inr (11, [.ref reader, .int (nI tapeLength), .int latestFault, .ref sea, .ref spareSea, .ref seaText, .ref book, .ref sentence, .ref spareSentence, .ref route, .ref meeting, .ref sighting, .ref draws, .ref history, .ref images, .ref chartBytes, .int (nI k12), .int fleetBits])), (chartBytes, .inl (ky 2, 32, .inl f13))]) (va_runV (As := [.int (nI k11)]) (rest := [.ref t]) ⟨hx, hb, hml, hown, hts⟩ (c_j_ch4 l dC dI ky H.size adK adV k11 c22) (cwV 1 hts gX11_write_J0_charAt_5068e rfl rfl rfl (by decide +kernel) ⟨(Nat.le_of_ble_eq_true rfl), (Nat.le_of_ble_eq_true rfl)⟩) (pre_UEV hE hS hA hK hP hD [] (by decide) rfl (vk_recv hE.1 (i := 4) (by decide) hS)) rfl rfl hl.1 rfl (lv_room (Nat.le_of_ble_eq_true rfl)) dX11_write_13 ⟨(Nat.le_of_ble_eq_true rfl), (Nat.le_of_ble_eq_true rfl)⟩) hP hD hS hA [] [0, 1] rfl rfl (by decide) (by decide) (fun r25 u23 H locs p24 hP hD hS => ?_)
        try dsimp only at p24
        have p26 := p24
        refine W.widen (k := 0) (n := 0) (Nat.le_of_ble_eq_true rfl) (Nat.le_of_ble_eq_true rfl) ?_
        have hP : va_P (dC, dI) vwCl [(t, .inr (11, [.ref reader, .int (nI tapeLength), .int latestFault, .ref sea, .ref spareSea, .ref seaText, .ref book, .ref sentence, .ref spareSentence, .ref route, .ref meeting, .ref sighting, .ref draws, .ref history, .ref images, .ref chartBytes, .int (nI k12), .int fleetBits])), (chartBytes, .inl (ky 2, 32, .inl f13))] H := hP
        have hD : va_D A [(t, .inr (11, [.ref reader, .int (nI tapeLength), .int latestFault, .ref sea, .ref spareSea, .ref seaText, .ref book, .ref sentence, .ref spareSentence, .ref route, .ref meeting, .ref sighting, .ref draws, .ref history, .ref images, .ref chartBytes, .int (nI k12), .int fleetBits])), (chartBytes, .inl (ky 2, 32, .inl f13))] := hD
        refine r_call_v (wr := []) (va_runV (As := [.int r25]) (rest := []) ⟨hx, hb, hml, hown, hts⟩ (c_p_writeByte l dC dI ky H.size t reader tapeLength latestFault sea spareSea seaText book sentence spareSentence route meeting sighting draws history images chartBytes k12 fleetBits f13 r25 iv_t_0 j15) (cwV 1 hts gX11_write_X11_writeByte rfl rfl rfl (by decide +kernel) ⟨(Nat.le_of_ble_eq_true rfl), (Nat.le_of_ble_eq_true rfl)⟩) (pre_UV hK hP hD [0, 1] (by decide) rfl (ci := 11) (q0 := 0) rfl rfl) rfl rfl hl.1 rfl (lv_room (Nat.le_of_ble_eq_true rfl)) dX11_write_16 ⟨(Nat.le_of_ble_eq_true rfl), (Nat.le_of_ble_eq_true rfl)⟩) hP hD hS hA [0, 1] [] rfl rfl (by decide) (by decide) (fun  u27 H locs p28 hP hD hS => ?_)
        obtain ⟨chartLengthG_29, chartG_30⟩ := u27
        try dsimp only at p28
        have p31 := p28
        refine W.widen (k := 0) (n := 0) (Nat.le_of_ble_eq_true rfl) (Nat.le_of_ble_eq_true rfl) ?_
        have hP : va_P (dC, dI) vwCl [(t, .inr (11, [.ref reader, .int (nI tapeLength), .int latestFault, .ref sea, .ref spareSea, .ref seaText, .ref book, .ref sentence, .ref spareSentence, .ref route, .ref meeting, .ref sighting, .ref draws, .ref history, .ref images, .ref chartBytes, .int (nI chartLengthG_29), .int fleetBits])), (chartBytes, .inl (ky 2, 32, .inl chartG_30))] H := hP
        have hD : va_D A [(t, .inr (11, [.ref reader, .int (nI tapeLength), .int latestFault, .ref sea, .ref spareSea, .ref seaText, .ref book, .ref sentence, .ref spareSentence, .ref route, .ref meeting, .ref sighting, .ref draws, .ref history, .ref images, .ref chartBytes, .int (nI chartLengthG_29), .int fleetBits])), (chartBytes, .inl (ky 2, 32, .inl chartG_30))] := hD
        refine lv_iinc (v := nI (k11 + 1)) (lv' := [(2, .int (nI (k11 + 1))), (0, .ref t), (1, .ref (adK 4))]) hx hb dX11_write_19 hl (k := 0) rfl (show nI k11 + nI 1 = nI (k11 + 1) from nI_add _ _) (by decide) rfl (fun ls hl => ?_)
        refine lv_goto (tgt := 2) hx hb dX11_write_22 (by decide) ?_
        exact ih18 (k11 + 1) chartLengthG_29 chartG_30 (lf_p_write4_1 k11 n17 j14 hm19 c22) p31 (lf_p_write4_2 k11 n17 j14 hm19 c22) _ _ _ hP hD hS (lv_sub hl [0, 1, 2] rfl)
  exact hL16 ((4 - 0) + 1) 0 chartLength chartF (lf_p_write4_3) iv_t_1 (Nat.lt_succ_self _) _ _ _ hP hD hS (lv_sub hl [0, 1, 2] rfl)
set_option maxRecDepth 20000 in
theorem lf_p_write5_1 (k6 : Nat) (n12 : Nat) (j9 : k6 ≤ 1) (hm14 : 1 - k6 < n12 + 1) (c17 : k6 < 1) : (k6 + 1) ≤ 1 := by
  try simp only [ia_lt, ia_le, ia_eq, ia_m1, ia_0, ia_1, ne_eq, true_and, and_true, false_and, and_false, or_false, false_or, or_true, true_or, not_true_eq_false, not_false_eq_true] at *
  all_goals omega
set_option maxRecDepth 20000 in
theorem lf_p_write5_2 (k6 : Nat) (n12 : Nat) (j9 : k6 ≤ 1) (hm14 : 1 - k6 < n12 + 1) (c17 : k6 < 1) : 1 - (k6 + 1) < n12 := by
  try simp only [ia_lt, ia_le, ia_eq, ia_m1, ia_0, ia_1, ne_eq, true_and, and_true, false_and, and_false, or_false, false_or, or_true, true_or, not_true_eq_false, not_false_eq_true] at *
  all_goals omega
set_option maxRecDepth 20000 in
theorem lf_p_write5_3   : 0 ≤ 1 := by
  try simp only [ia_lt, ia_le, ia_eq, ia_m1, ia_0, ia_1, ne_eq, true_and, and_true, false_and, and_false, or_false, false_or, or_true, true_or, not_true_eq_false, not_false_eq_true] at *
  all_goals omega
set_option maxHeartbeats 4000000 in
set_option maxRecDepth 100000 in
theorem c_p_write5 (l : Launch) (dC : Nat → ClassId) (dI : Nat → Nat → Nat) (ky : Nat → ClassId) (sz : Nat) (adK : Nat → Nat) (adV : Nat → Nat) (t : Nat) (reader : Nat) (tapeLength : Nat) (latestFault : Int32) (sea : Nat) (spareSea : Nat) (seaText : Nat) (book : Nat) (sentence : Nat) (spareSentence : Nat) (route : Nat) (meeting : Nat) (sighting : Nat) (draws : Nat) (history : Nat) (images : Nat) (chartBytes : Nat) (chartLength : Nat) (fleetBits : Int32) (chartF : Nat → Int32) (iv_t_0 : tapeLength ≤ 940) (iv_t_1 : chartLength ≤ 32) : Met l yX11_write wsX11_write ({ frames := 4, cells := 0, slots := 0, locals := 85 }) (PcUE dC dI ky adK adV [.ref t, .ref (adK 5)] [(t, .inr (11, [.ref reader, .int (nI tapeLength), .int latestFault, .ref sea, .ref spareSea, .ref seaText, .ref book, .ref sentence, .ref spareSentence, .ref route, .ref meeting, .ref sighting, .ref draws, .ref history, .ref images, .ref chartBytes, .int (nI chartLength), .int fleetBits])), (chartBytes, .inl (ky 2, 32, .inl chartF))] sz) (va_Qv (fun (u : Nat × (Nat → Int32)) => match u with | (chartLengthG, chartG) => chartLengthG ≤ 32) (BU dC dI ky (fun (u : Nat × (Nat → Int32)) => match u with | (chartLengthG, chartG) => [(t, .inr (11, [.ref reader, .int (nI tapeLength), .int latestFault, .ref sea, .ref spareSea, .ref seaText, .ref book, .ref sentence, .ref spareSentence, .ref route, .ref meeting, .ref sighting, .ref draws, .ref history, .ref images, .ref chartBytes, .int (nI chartLengthG), .int fleetBits])), (chartBytes, .inl (ky 2, 32, .inl chartG))]) (va_A [(t, .inr (11, [.ref reader, .int (nI tapeLength), .int latestFault, .ref sea, .ref spareSea, .ref seaText, .ref book, .ref sentence, .ref spareSentence, .ref route, .ref meeting, .ref sighting, .ref draws, .ref history, .ref images, .ref chartBytes, .int (nI chartLength), .int fleetBits])), (chartBytes, .inl (ky 2, 32, .inl chartF))] sz)) (va_A [(t, .inr (11, [.ref reader, .int (nI tapeLength), .int latestFault, .ref sea, .ref spareSea, .ref seaText, .ref book, .ref sentence, .ref spareSentence, .ref route, .ref meeting, .ref sighting, .ref draws, .ref history, .ref images, .ref chartBytes, .int (nI chartLength), .int fleetBits])), (chartBytes, .inl (ky 2, 32, .inl chartF))] sz)) 0 0 (va_A [(t, .inr (11, [.ref reader, .int (nI tapeLength), .int latestFault, .ref sea, .ref spareSea, .ref seaText, .ref book, .ref sentence, .ref spareSentence, .ref route, .ref meeting, .ref sighting, .ref draws, .ref history, .ref images, .ref chartBytes, .int (nI chartLength), .int fleetBits])), (chartBytes, .inl (ky 2, 32, .inl chartF))] sz) := by
  refine Met.ofW (cc := cX11_write) (maxL := 3) (ret := none) (by decide) rfl ?_
  intro p e s m args below meth c s₁ B hml hv
  obtain ⟨rfl, hsz, hP, hK, hD0, hE⟩ := hv
  have hx := B.exec
  have hb := B.bytes
  have hr := B.returns
  have hts := atoms_spec (ws := wsX11_write) B.pre
  have hown : s.vm.findClass RX11 = some m.cls := findClass_of_methodNamed B.named
  have hlocks := B.notSynchronized
  subst hsz
  have hD := hD0.self (sz := s.heap.size)
  generalize hAe : va_A [(t, .inr (11, [.ref reader, .int (nI tapeLength), .int latestFault, .ref sea, .ref spareSea, .ref seaText, .ref book, .ref sentence, .ref spareSentence, .ref route, .ref meeting, .ref sighting, .ref draws, .ref history, .ref images, .ref chartBytes, .int (nI chartLength), .int fleetBits])), (chartBytes, .inl (ky 2, 32, .inl chartF))] s.heap.size = A at hD hE ⊢
  have hA : ∀ q : Nat, s.heap.size ≤ q → A q := fun q h => by rw [← hAe]; exact Or.inr h
  have hS : va_S A s.heap s.heap [] := va_S.rf
  have hl := lv_entry ([.ref t, .ref (adK 5)]) (n := 3) (Nat.le_of_ble_eq_true rfl)
  rw [lg_entry_eq]
  generalize (lg_sl ([.ref t, .ref (adK 5)]) ++ List.replicate (3 - (lg_sl ([.ref t, .ref (adK 5)])).length) Slot.unset).toArray = ls at hl ⊢
  have hl : lv_has ls 3 [(0, .ref t), (1, .ref (adK 5))] := hl
  refine q_name (fun Q hQ => ?_)
  generalize ([.ref t, .ref (adK 5)] : List Value).toArray = args at hts hQ ⊢
  refine lv_iconst (v := nI 0) hx hb dX11_write_0 (by decide) ?_
  refine lv_istore_n (lv' := [(2, .int (nI 0)), (0, .ref t), (1, .ref (adK 5))]) hx hb dX11_write_1 rfl hl (by decide) rfl (fun ls hl => ?_)
  have hL11 : ∀ (n12 : Nat) (k6 : Nat) (k7 : Nat) (f8 : Nat → Int32), (k6 ≤ 1) → (k7 ≤ 32) → 1 - k6 < n12 → ∀ (H : Heap) (locs : List Loc) (ls : Array Slot), va_P (dC, dI) vwCl [(t, .inr (11, [.ref reader, .int (nI tapeLength), .int latestFault, .ref sea, .ref spareSea, .ref seaText, .ref book, .ref sentence, .ref spareSentence, .ref route, .ref meeting, .ref sighting, .ref draws, .ref history, .ref images, .ref chartBytes, .int (nI k7), .int fleetBits])), (chartBytes, .inl (ky 2, 32, .inl f8))] H → va_D A [(t, .inr (11, [.ref reader, .int (nI tapeLength), .int latestFault, .ref sea, .ref spareSea, .ref seaText, .ref book, .ref sentence, .ref spareSentence, .ref route, .ref meeting, .ref sighting, .ref draws, .ref history, .ref images, .ref chartBytes, .int (nI k7), .int fleetBits])), (chartBytes, .inl (ky 2, 32, .inl f8))] → va_S A s.heap H locs → lv_has ls 3 [(2, .int (nI k6)), (0, .ref t), (1, .ref (adK 5))] → W p l e (headSpec wsX11_write ({ frames := 4, cells := 0, slots := 0, locals := 85 })).room s m args below meth c H locs 0 0 Q (F0 m 2 ls []) := by
    intro n12
    induction n12 with
    | zero => intro k6 k7 f8 _ _ h9; exact absurd h9 (Nat.not_lt_zero _)
    | succ n12 ih13 =>
      intro k6 k7 f8 j9 j10 hm14 H locs ls hP hD hS hl
      refine lv_iload_n hx hb dX11_write_2 rfl (lv_at hl 0 rfl) ?_
      refine lv_aload_n hx hb dX11_write_3 rfl (lv_at hl 2 rfl) ?_
      refine vp_callSi (W.runV (As := []) (rest := [.int (nI k6)]) ⟨hx, hb, hml, hown, hts⟩ (c_j_length5 l dC dI ky adK adV) (cwV 0 hts gX11_write_J0_length_8abf5 rfl rfl rfl (by decide +kernel) ⟨(Nat.le_of_ble_eq_true rfl), (Nat.le_of_ble_eq_true rfl)⟩) (pre_PEV hE hS hK hP [] rfl (vk_recv hE.1 (i := 5) (by decide) hS)) rfl rfl hl.1 rfl (lv_room (Nat.le_of_ble_eq_true rfl)) dX11_write_4 ⟨(Nat.le_of_ble_eq_true rfl), (Nat.le_of_ble_eq_true rfl)⟩) (fun r15 p16 => ?_)
      subst p16
      refine n_icmp_ge (x := k6) (y := 1) (tgt := 25) hx hb (by omega) (by omega) dX11_write_7 (by decide) (fun c17 => ?_) (fun c17 => ?_)
      · rw [hQ]
        exact W.vret hx hb hr (fun t9 ht9 hW9 => ⟨⟨(k7, f8), rfl, j10, by rw [ht9]; exact hP, va_K.moved hW9.alike hK, hD⟩, hS.F ht9⟩) hS.2.2 dX11_write_25
      · refine lv_aload_n hx hb dX11_write_10 rfl (lv_at hl 1 rfl) ?_
        refine lv_aload_n hx hb dX11_write_11 rfl (lv_at hl 2 rfl) ?_
        refine lv_iload_n hx hb dX11_write_12 rfl (lv_at hl 0 rfl) ?_
        refine r_call_i (wr := [(t, .inr (11, [.ref reader, .int (nI tapeLength), .int latestFault, .ref sea, .ref spareSea, .ref seaText, .ref book, .ref sentence, .ref spareSentence, .ref route, .ref meeting, .ref sighting, .ref draws, .ref history, .ref images, .ref chartBytes, .int (nI k7), .int fleetBits])), (chartBytes, .inl (ky 2, 32, .inl f8))]) (va_runV (As := [.int (nI k6)]) (rest := [.ref t]) ⟨hx, hb, hml, hown, hts⟩ (c_j_ch5 l dC dI ky H.size adK adV k6 c17) (cwV 1 hts gX11_write_J0_charAt_5068e rfl rfl rfl (by decide +kernel) ⟨(Nat.le_of_ble_eq_true rfl), (Nat.le_of_ble_eq_true rfl)⟩) (pre_UEV hE hS hA hK hP hD [] (by decide) rfl (vk_recv hE.1 (i := 5) (by decide) hS)) rfl rfl hl.1 rfl (lv_room (Nat.le_of_ble_eq_true rfl)) dX11_write_13 ⟨(Nat.le_of_ble_eq_true rfl), (Nat.le_of_ble_eq_true rfl)⟩) hP hD hS hA [] [0, 1] rfl rfl (by decide) (by decide) (fun r20 u18 H locs p19 hP hD hS => ?_)
        try dsimp only at p19
        have p21 := p19
        refine W.widen (k := 0) (n := 0) (Nat.le_of_ble_eq_true rfl) (Nat.le_of_ble_eq_true rfl) ?_
        have hP : va_P (dC, dI) vwCl [(t, .inr (11, [.ref reader, .int (nI tapeLength), .int latestFault, .ref sea, .ref spareSea, .ref seaText, .ref book, .ref sentence, .ref spareSentence, .ref route, .ref meeting, .ref sighting, .ref draws, .ref history, .ref images, .ref chartBytes, .int (nI k7), .int fleetBits])), (chartBytes, .inl (ky 2, 32, .inl f8))] H := hP
        have hD : va_D A [(t, .inr (11, [.ref reader, .int (nI tapeLength), .int latestFault, .ref sea, .ref spareSea, .ref seaText, .ref book, .ref sentence, .ref spareSentence, .ref route, .ref meeting, .ref sighting, .ref draws, .ref history, .ref images, .ref chartBytes, .int (nI k7), .int fleetBits])), (chartBytes, .inl (ky 2, 32, .inl f8))] := hD
        refine r_call_v (wr := []) (va_runV (As := [.int r20]) (rest := []) ⟨hx, hb, hml, hown, hts⟩ (c_p_writeByte l dC dI ky H.size t reader tapeLength latestFault sea spareSea seaText book sentence spareSentence route meeting sighting draws history images chartBytes k7 fleetBits f8 r20 iv_t_0 j10) (cwV 1 hts gX11_write_X11_writeByte rfl rfl rfl (by decide +kernel) ⟨(Nat.le_of_ble_eq_true rfl), (Nat.le_of_ble_eq_true rfl)⟩) (pre_UV hK hP hD [0, 1] (by decide) rfl (ci := 11) (q0 := 0) rfl rfl) rfl rfl hl.1 rfl (lv_room (Nat.le_of_ble_eq_true rfl)) dX11_write_16 ⟨(Nat.le_of_ble_eq_true rfl), (Nat.le_of_ble_eq_true rfl)⟩) hP hD hS hA [0, 1] [] rfl rfl (by decide) (by decide) (fun  u22 H locs p23 hP hD hS => ?_)
        obtain ⟨chartLengthG_24, chartG_25⟩ := u22
        try dsimp only at p23
        have p26 := p23
        refine W.widen (k := 0) (n := 0) (Nat.le_of_ble_eq_true rfl) (Nat.le_of_ble_eq_true rfl) ?_
        have hP : va_P (dC, dI) vwCl [(t, .inr (11, [.ref reader, .int (nI tapeLength), .int latestFault, .ref sea, .ref spareSea, .ref seaText, .ref book, .ref sentence, .ref spareSentence, .ref route, .ref meeting, .ref sighting, .ref draws, .ref history, .ref images, .ref chartBytes, .int (nI chartLengthG_24), .int fleetBits])), (chartBytes, .inl (ky 2, 32, .inl chartG_25))] H := hP
        have hD : va_D A [(t, .inr (11, [.ref reader, .int (nI tapeLength), .int latestFault, .ref sea, .ref spareSea, .ref seaText, .ref book, .ref sentence, .ref spareSentence, .ref route, .ref meeting, .ref sighting, .ref draws, .ref history, .ref images, .ref chartBytes, .int (nI chartLengthG_24), .int fleetBits])), (chartBytes, .inl (ky 2, 32, .inl chartG_25))] := hD
        refine lv_iinc (v := nI (k6 + 1)) (lv' := [(2, .int (nI (k6 + 1))), (0, .ref t), (1, .ref (adK 5))]) hx hb dX11_write_19 hl (k := 0) rfl (show nI k6 + nI 1 = nI (k6 + 1) from nI_add _ _) (by decide) rfl (fun ls hl => ?_)
        refine lv_goto (tgt := 2) hx hb dX11_write_22 (by decide) ?_
        exact ih13 (k6 + 1) chartLengthG_24 chartG_25 (lf_p_write5_1 k6 n12 j9 hm14 c17) p26 (lf_p_write5_2 k6 n12 j9 hm14 c17) _ _ _ hP hD hS (lv_sub hl [0, 1, 2] rfl)
  exact hL11 ((1 - 0) + 1) 0 chartLength chartF (lf_p_write5_3) iv_t_1 (Nat.lt_succ_self _) _ _ _ hP hD hS (lv_sub hl [0, 1, 2] rfl)
set_option maxRecDepth 20000 in
theorem lf_p_write6_1 (k11 : Nat) (n17 : Nat) (j14 : k11 ≤ 7) (hm19 : 7 - k11 < n17 + 1) (c22 : k11 < 7) : (k11 + 1) ≤ 7 := by
  try simp only [ia_lt, ia_le, ia_eq, ia_m1, ia_0, ia_1, ne_eq, true_and, and_true, false_and, and_false, or_false, false_or, or_true, true_or, not_true_eq_false, not_false_eq_true] at *
  all_goals omega
set_option maxRecDepth 20000 in
theorem lf_p_write6_2 (k11 : Nat) (n17 : Nat) (j14 : k11 ≤ 7) (hm19 : 7 - k11 < n17 + 1) (c22 : k11 < 7) : 7 - (k11 + 1) < n17 := by
  try simp only [ia_lt, ia_le, ia_eq, ia_m1, ia_0, ia_1, ne_eq, true_and, and_true, false_and, and_false, or_false, false_or, or_true, true_or, not_true_eq_false, not_false_eq_true] at *
  all_goals omega
set_option maxRecDepth 20000 in
theorem lf_p_write6_3   : 0 ≤ 7 := by
  try simp only [ia_lt, ia_le, ia_eq, ia_m1, ia_0, ia_1, ne_eq, true_and, and_true, false_and, and_false, or_false, false_or, or_true, true_or, not_true_eq_false, not_false_eq_true] at *
  all_goals omega
set_option maxHeartbeats 4000000 in
set_option maxRecDepth 100000 in
theorem c_p_write6 (l : Launch) (dC : Nat → ClassId) (dI : Nat → Nat → Nat) (ky : Nat → ClassId) (sz : Nat) (adK : Nat → Nat) (adV : Nat → Nat) (t : Nat) (reader : Nat) (tapeLength : Nat) (latestFault : Int32) (sea : Nat) (spareSea : Nat) (seaText : Nat) (book : Nat) (sentence : Nat) (spareSentence : Nat) (route : Nat) (meeting : Nat) (sighting : Nat) (draws : Nat) (history : Nat) (images : Nat) (chartBytes : Nat) (chartLength : Nat) (fleetBits : Int32) (chartF : Nat → Int32) (iv_t_0 : tapeLength ≤ 940) (iv_t_1 : chartLength ≤ 32) : Met l yX11_write wsX11_write ({ frames := 4, cells := 0, slots := 0, locals := 85 }) (PcUE dC dI ky adK adV [.ref t, .ref (adK 6)] [(t, .inr (11, [.ref reader, .int (nI tapeLength), .int latestFault, .ref sea, .ref spareSea, .ref seaText, .ref book, .ref sentence, .ref spareSentence, .ref route, .ref meeting, .ref sighting, .ref draws, .ref history, .ref images, .ref chartBytes, .int (nI chartLength), .int fleetBits])), (chartBytes, .inl (ky 2, 32, .inl chartF))] sz) (va_Qv (fun (u : Nat × (Nat → Int32)) => match u with | (chartLengthG, chartG) => chartLengthG ≤ 32) (BU dC dI ky (fun (u : Nat × (Nat → Int32)) => match u with | (chartLengthG, chartG) => [(t, .inr (11, [.ref reader, .int (nI tapeLength), .int latestFault, .ref sea, .ref spareSea, .ref seaText, .ref book, .ref sentence, .ref spareSentence, .ref route, .ref meeting, .ref sighting, .ref draws, .ref history, .ref images, .ref chartBytes, .int (nI chartLengthG), .int fleetBits])), (chartBytes, .inl (ky 2, 32, .inl chartG))]) (va_A [(t, .inr (11, [.ref reader, .int (nI tapeLength), .int latestFault, .ref sea, .ref spareSea, .ref seaText, .ref book, .ref sentence, .ref spareSentence, .ref route, .ref meeting, .ref sighting, .ref draws, .ref history, .ref images, .ref chartBytes, .int (nI chartLength), .int fleetBits])), (chartBytes, .inl (ky 2, 32, .inl chartF))] sz)) (va_A [(t, .inr (11, [.ref reader, .int (nI tapeLength), .int latestFault, .ref sea, .ref spareSea, .ref seaText, .ref book, .ref sentence, .ref spareSentence, .ref route, .ref meeting, .ref sighting, .ref draws, .ref history, .ref images, .ref chartBytes, .int (nI chartLength), .int fleetBits])), (chartBytes, .inl (ky 2, 32, .inl chartF))] sz)) 0 0 (va_A [(t, .inr (11, [.ref reader, .int (nI tapeLength), .int latestFault, .ref sea, .ref spareSea, .ref seaText, .ref book, .ref sentence, .ref spareSentence, .ref route, .ref meeting, .ref sighting, .ref draws, .ref history, .ref images, .ref chartBytes, .int (nI chartLength), .int fleetBits])), (chartBytes, .inl (ky 2, 32, .inl chartF))] sz) := by
  refine Met.ofW (cc := cX11_write) (maxL := 3) (ret := none) (by decide) rfl ?_
  intro p e s m args below meth c s₁ B hml hv
  obtain ⟨rfl, hsz, hP, hK, hD0, hE⟩ := hv
  have hx := B.exec
  have hb := B.bytes
  have hr := B.returns
  have hts := atoms_spec (ws := wsX11_write) B.pre
  have hown : s.vm.findClass RX11 = some m.cls := findClass_of_methodNamed B.named
  have hlocks := B.notSynchronized
  subst hsz
  have hD := hD0.self (sz := s.heap.size)
  generalize hAe : va_A [(t, .inr (11, [.ref reader, .int (nI tapeLength), .int latestFault, .ref sea, .ref spareSea, .ref seaText, .ref book, .ref sentence, .ref spareSentence, .ref route, .ref meeting, .ref sighting, .ref draws, .ref history, .ref images, .ref chartBytes, .int (nI chartLength), .int fleetBits])), (chartBytes, .inl (ky 2, 32, .inl chartF))] s.heap.size = A at hD hE ⊢
  have hA : ∀ q : Nat, s.heap.size ≤ q → A q := fun q h => by rw [← hAe]; exact Or.inr h
  have hS : va_S A s.heap s.heap [] := va_S.rf
  have hl := lv_entry ([.ref t, .ref (adK 6)]) (n := 3) (Nat.le_of_ble_eq_true rfl)
  rw [lg_entry_eq]
  generalize (lg_sl ([.ref t, .ref (adK 6)]) ++ List.replicate (3 - (lg_sl ([.ref t, .ref (adK 6)])).length) Slot.unset).toArray = ls at hl ⊢
  have hl : lv_has ls 3 [(0, .ref t), (1, .ref (adK 6))] := hl
  refine q_name (fun Q hQ => ?_)
  generalize ([.ref t, .ref (adK 6)] : List Value).toArray = args at hts hQ ⊢
  refine lv_iconst (v := nI 0) hx hb dX11_write_0 (by decide) ?_
  refine lv_istore_n (lv' := [(2, .int (nI 0)), (0, .ref t), (1, .ref (adK 6))]) hx hb dX11_write_1 rfl hl (by decide) rfl (fun ls hl => ?_)
  have hL16 : ∀ (n17 : Nat) (k11 : Nat) (k12 : Nat) (f13 : Nat → Int32), (k11 ≤ 7) → (k12 ≤ 32) → 7 - k11 < n17 → ∀ (H : Heap) (locs : List Loc) (ls : Array Slot), va_P (dC, dI) vwCl [(t, .inr (11, [.ref reader, .int (nI tapeLength), .int latestFault, .ref sea, .ref spareSea, .ref seaText, .ref book, .ref sentence, .ref spareSentence, .ref route, .ref meeting, .ref sighting, .ref draws, .ref history, .ref images, .ref chartBytes, .int (nI k12), .int fleetBits])), (chartBytes, .inl (ky 2, 32, .inl f13))] H → va_D A [(t, .inr (11, [.ref reader, .int (nI tapeLength), .int latestFault, .ref sea, .ref spareSea, .ref seaText, .ref book, .ref sentence, .ref spareSentence, .ref route, .ref meeting, .ref sighting, .ref draws, .ref history, .ref images, .ref chartBytes, .int (nI k12), .int fleetBits])), (chartBytes, .inl (ky 2, 32, .inl f13))] → va_S A s.heap H locs → lv_has ls 3 [(2, .int (nI k11)), (0, .ref t), (1, .ref (adK 6))] → W p l e (headSpec wsX11_write ({ frames := 4, cells := 0, slots := 0, locals := 85 })).room s m args below meth c H locs 0 0 Q (F0 m 2 ls []) := by
    intro n17
    induction n17 with
    | zero => intro k11 k12 f13 _ _ h9; exact absurd h9 (Nat.not_lt_zero _)
    | succ n17 ih18 =>
      intro k11 k12 f13 j14 j15 hm19 H locs ls hP hD hS hl
      refine lv_iload_n hx hb dX11_write_2 rfl (lv_at hl 0 rfl) ?_
      refine lv_aload_n hx hb dX11_write_3 rfl (lv_at hl 2 rfl) ?_
      refine vp_callSi (W.runV (As := []) (rest := [.int (nI k11)]) ⟨hx, hb, hml, hown, hts⟩ (c_j_length6 l dC dI ky adK adV) (cwV 0 hts gX11_write_J0_length_8abf5 rfl rfl rfl (by decide +kernel) ⟨(Nat.le_of_ble_eq_true rfl), (Nat.le_of_ble_eq_true rfl)⟩) (pre_PEV hE hS hK hP [] rfl (vk_recv hE.1 (i := 6) (by decide) hS)) rfl rfl hl.1 rfl (lv_room (Nat.le_of_ble_eq_true rfl)) dX11_write_4 ⟨(Nat.le_of_ble_eq_true rfl), (Nat.le_of_ble_eq_true rfl)⟩) (fun r20 p21 => ?_)
      subst p21
      refine n_icmp_ge (x := k11) (y := 7) (tgt := 25) hx hb (by omega) (by omega) dX11_write_7 (by decide) (fun c22 => ?_) (fun c22 => ?_)
      · rw [hQ]
        exact W.vret hx hb hr (fun t9 ht9 hW9 => ⟨⟨(k12, f13), rfl, j15, by rw [ht9]; exact hP, va_K.moved hW9.alike hK, hD⟩, hS.F ht9⟩) hS.2.2 dX11_write_25
      · refine lv_aload_n hx hb dX11_write_10 rfl (lv_at hl 1 rfl) ?_
        refine lv_aload_n hx hb dX11_write_11 rfl (lv_at hl 2 rfl) ?_
        refine lv_iload_n hx hb dX11_write_12 rfl (lv_at hl 0 rfl) ?_
        refine r_call_i (wr := [(t, .inr (11, [.ref reader, .int (nI tapeLength), .int latestFault, .ref sea, .ref spareSea, .ref seaText, .ref book, .ref sentence, .ref spareSentence, .ref route, .ref meeting, .ref sighting, .ref draws, .ref history, .ref images, .ref chartBytes, .int (nI k12), .int fleetBits])), (chartBytes, .inl (ky 2, 32, .inl f13))]) (va_runV (As := [.int (nI k11)]) (rest := [.ref t]) ⟨hx, hb, hml, hown, hts⟩ (c_j_ch6 l dC dI ky H.size adK adV k11 c22) (cwV 1 hts gX11_write_J0_charAt_5068e rfl rfl rfl (by decide +kernel) ⟨(Nat.le_of_ble_eq_true rfl), (Nat.le_of_ble_eq_true rfl)⟩) (pre_UEV hE hS hA hK hP hD [] (by decide) rfl (vk_recv hE.1 (i := 6) (by decide) hS)) rfl rfl hl.1 rfl (lv_room (Nat.le_of_ble_eq_true rfl)) dX11_write_13 ⟨(Nat.le_of_ble_eq_true rfl), (Nat.le_of_ble_eq_true rfl)⟩) hP hD hS hA [] [0, 1] rfl rfl (by decide) (by decide) (fun r25 u23 H locs p24 hP hD hS => ?_)
        try dsimp only at p24
        have p26 := p24
        refine W.widen (k := 0) (n := 0) (Nat.le_of_ble_eq_true rfl) (Nat.le_of_ble_eq_true rfl) ?_
        have hP : va_P (dC, dI) vwCl [(t, .inr (11, [.ref reader, .int (nI tapeLength), .int latestFault, .ref sea, .ref spareSea, .ref seaText, .ref book, .ref sentence, .ref spareSentence, .ref route, .ref meeting, .ref sighting, .ref draws, .ref history, .ref images, .ref chartBytes, .int (nI k12), .int fleetBits])), (chartBytes, .inl (ky 2, 32, .inl f13))] H := hP
        have hD : va_D A [(t, .inr (11, [.ref reader, .int (nI tapeLength), .int latestFault, .ref sea, .ref spareSea, .ref seaText, .ref book, .ref sentence, .ref spareSentence, .ref route, .ref meeting, .ref sighting, .ref draws, .ref history, .ref images, .ref chartBytes, .int (nI k12), .int fleetBits])), (chartBytes, .inl (ky 2, 32, .inl f13))] := hD
        refine r_call_v (wr := []) (va_runV (As := [.int r25]) (rest := []) ⟨hx, hb, hml, hown, hts⟩ (c_p_writeByte l dC dI ky H.size t reader tapeLength latestFault sea spareSea seaText book sentence spareSentence route meeting sighting draws history images chartBytes k12 fleetBits f13 r25 iv_t_0 j15) (cwV 1 hts gX11_write_X11_writeByte rfl rfl rfl (by decide +kernel) ⟨(Nat.le_of_ble_eq_true rfl), (Nat.le_of_ble_eq_true rfl)⟩) (pre_UV hK hP hD [0, 1] (by decide) rfl (ci := 11) (q0 := 0) rfl rfl) rfl rfl hl.1 rfl (lv_room (Nat.le_of_ble_eq_true rfl)) dX11_write_16 ⟨(Nat.le_of_ble_eq_true rfl), (Nat.le_of_ble_eq_true rfl)⟩) hP hD hS hA [0, 1] [] rfl rfl (by decide) (by decide) (fun  u27 H locs p28 hP hD hS => ?_)
        obtain ⟨chartLengthG_29, chartG_30⟩ := u27
        try dsimp only at p28
        have p31 := p28
        refine W.widen (k := 0) (n := 0) (Nat.le_of_ble_eq_true rfl) (Nat.le_of_ble_eq_true rfl) ?_
        have hP : va_P (dC, dI) vwCl [(t, .inr (11, [.ref reader, .int (nI tapeLength), .int latestFault, .ref sea, .ref spareSea, .ref seaText, .ref book, .ref sentence, .ref spareSentence, .ref route, .ref meeting, .ref sighting, .ref draws, .ref history, .ref images, .ref chartBytes, .int (nI chartLengthG_29), .int fleetBits])), (chartBytes, .inl (ky 2, 32, .inl chartG_30))] H := hP
        have hD : va_D A [(t, .inr (11, [.ref reader, .int (nI tapeLength), .int latestFault, .ref sea, .ref spareSea, .ref seaText, .ref book, .ref sentence, .ref spareSentence, .ref route, .ref meeting, .ref sighting, .ref draws, .ref history, .ref images, .ref chartBytes, .int (nI chartLengthG_29), .int fleetBits])), (chartBytes, .inl (ky 2, 32, .inl chartG_30))] := hD
        refine lv_iinc (v := nI (k11 + 1)) (lv' := [(2, .int (nI (k11 + 1))), (0, .ref t), (1, .ref (adK 6))]) hx hb dX11_write_19 hl (k := 0) rfl (show nI k11 + nI 1 = nI (k11 + 1) from nI_add _ _) (by decide) rfl (fun ls hl => ?_)
        refine lv_goto (tgt := 2) hx hb dX11_write_22 (by decide) ?_
        exact ih18 (k11 + 1) chartLengthG_29 chartG_30 (lf_p_write6_1 k11 n17 j14 hm19 c22) p31 (lf_p_write6_2 k11 n17 j14 hm19 c22) _ _ _ hP hD hS (lv_sub hl [0, 1, 2] rfl)
  exact hL16 ((7 - 0) + 1) 0 chartLength chartF (lf_p_write6_3) iv_t_1 (Nat.lt_succ_self _) _ _ _ hP hD hS (lv_sub hl [0, 1, 2] rfl)
set_option maxRecDepth 20000 in
theorem lf_p_chart_1 (boats : Nat) (x : Int32) (iv_sea_5 : boats ≤ 6) (t3 : 0 ≤ x.toInt) (t4 : x.toInt < boats) : 0 ≤ x.toInt ∧ x.toInt < ((6 : Nat) : Int) := by
  have b_x := ia_b x
  try simp only [ia_lt, ia_le, ia_eq, ia_m1, ia_0, ia_1, ne_eq, true_and, and_true, false_and, and_false, or_false, false_or, or_true, true_or, not_true_eq_false, not_false_eq_true] at *
  all_goals omega
set_option maxRecDepth 20000 in
theorem lf_p_chart_2   : 0 ≤ 32 := by
  try simp only [ia_lt, ia_le, ia_eq, ia_m1, ia_0, ia_1, ne_eq, true_and, and_true, false_and, and_false, or_false, false_or, or_true, true_or, not_true_eq_false, not_false_eq_true] at *
  all_goals omega
set_option maxHeartbeats 4000000 in
set_option maxRecDepth 100000 in
theorem c_p_chart (l : Launch) (dC : Nat → ClassId) (dI : Nat → Nat → Nat) (ky : Nat → ClassId) (sz : Nat) (adK : Nat → Nat) (adV : Nat → Nat) (t : Nat) (reader : Nat) (tapeLength : Nat) (latestFault : Int32) (sea : Nat) (spareSea : Nat) (seaText : Nat) (book : Nat) (sentence : Nat) (spareSentence : Nat) (route : Nat) (meeting : Nat) (sighting : Nat) (draws : Nat) (history : Nat) (images : Nat) (chartBytes : Nat) (chartLength : Nat) (fleetBits : Int32) (chartF : Nat → Int32) (wide : Nat) (high : Nat) (heat : Int32) (cools : Int32) (skinHeat : Int32) (today : Int32) (stirs : Int32) (steps : Int32) (lumps : Nat) (boats : Nat) (thickness : Nat) (lumpNames : Nat) (lumpCells : Nat) (boatNames : Nat) (boatCells : Nat) (loads : Nat) (spoons : Nat) (spoonsLeft : Nat) (depths : Nat) (boatNamesF : Nat → Int64) (boatCellsF : Nat → Int32) (depthsF : Nat → Int32) (x : Int32) (iv_t_0 : tapeLength ≤ 940) (iv_t_1 : chartLength ≤ 32) (iv_sea_0 : 2 ≤ wide) (iv_sea_1 : wide ≤ 6) (iv_sea_2 : 2 ≤ high) (iv_sea_3 : high ≤ 6) (iv_sea_4 : lumps ≤ 6) (iv_sea_5 : boats ≤ 6) : Met l yX11_chart wsX11_chart ({ frames := 5, cells := 0, slots := 0, locals := 107 }) (PcUE dC dI ky adK adV [.ref t, .int x] [(t, .inr (11, [.ref reader, .int (nI tapeLength), .int latestFault, .ref sea, .ref spareSea, .ref seaText, .ref book, .ref sentence, .ref spareSentence, .ref route, .ref meeting, .ref sighting, .ref draws, .ref history, .ref images, .ref chartBytes, .int (nI chartLength), .int fleetBits])), (chartBytes, .inl (ky 2, 32, .inl chartF)), (sea, .inr (7, [.int (nI wide), .int (nI high), .int heat, .int cools, .int skinHeat, .int today, .int stirs, .int steps, .int (nI lumps), .int (nI boats), .ref thickness, .ref lumpNames, .ref lumpCells, .ref boatNames, .ref boatCells, .ref loads, .ref spoons, .ref spoonsLeft, .ref depths])), (boatNames, .inl (ky 1, 6, .inr (.inl boatNamesF))), (boatCells, .inl (ky 0, 6, .inl boatCellsF)), (depths, .inl (ky 0, 6, .inl depthsF))] sz) (va_Qi (fun (r : Int32) (u : Nat × (Nat → Int32)) => match u with | (chartLengthG, chartG) => chartLengthG ≤ 32) (BU dC dI ky (fun (u : Nat × (Nat → Int32)) => match u with | (chartLengthG, chartG) => [(t, .inr (11, [.ref reader, .int (nI tapeLength), .int latestFault, .ref sea, .ref spareSea, .ref seaText, .ref book, .ref sentence, .ref spareSentence, .ref route, .ref meeting, .ref sighting, .ref draws, .ref history, .ref images, .ref chartBytes, .int (nI chartLengthG), .int fleetBits])), (chartBytes, .inl (ky 2, 32, .inl chartG)), (sea, .inr (7, [.int (nI wide), .int (nI high), .int heat, .int cools, .int skinHeat, .int today, .int stirs, .int steps, .int (nI lumps), .int (nI boats), .ref thickness, .ref lumpNames, .ref lumpCells, .ref boatNames, .ref boatCells, .ref loads, .ref spoons, .ref spoonsLeft, .ref depths])), (boatNames, .inl (ky 1, 6, .inr (.inl boatNamesF))), (boatCells, .inl (ky 0, 6, .inl boatCellsF)), (depths, .inl (ky 0, 6, .inl depthsF))]) (va_A [(t, .inr (11, [.ref reader, .int (nI tapeLength), .int latestFault, .ref sea, .ref spareSea, .ref seaText, .ref book, .ref sentence, .ref spareSentence, .ref route, .ref meeting, .ref sighting, .ref draws, .ref history, .ref images, .ref chartBytes, .int (nI chartLength), .int fleetBits])), (chartBytes, .inl (ky 2, 32, .inl chartF)), (sea, .inr (7, [.int (nI wide), .int (nI high), .int heat, .int cools, .int skinHeat, .int today, .int stirs, .int steps, .int (nI lumps), .int (nI boats), .ref thickness, .ref lumpNames, .ref lumpCells, .ref boatNames, .ref boatCells, .ref loads, .ref spoons, .ref spoonsLeft, .ref depths])), (boatNames, .inl (ky 1, 6, .inr (.inl boatNamesF))), (boatCells, .inl (ky 0, 6, .inl boatCellsF)), (depths, .inl (ky 0, 6, .inl depthsF))] sz)) (va_A [(t, .inr (11, [.ref reader, .int (nI tapeLength), .int latestFault, .ref sea, .ref spareSea, .ref seaText, .ref book, .ref sentence, .ref spareSentence, .ref route, .ref meeting, .ref sighting, .ref draws, .ref history, .ref images, .ref chartBytes, .int (nI chartLength), .int fleetBits])), (chartBytes, .inl (ky 2, 32, .inl chartF)), (sea, .inr (7, [.int (nI wide), .int (nI high), .int heat, .int cools, .int skinHeat, .int today, .int stirs, .int steps, .int (nI lumps), .int (nI boats), .ref thickness, .ref lumpNames, .ref lumpCells, .ref boatNames, .ref boatCells, .ref loads, .ref spoons, .ref spoonsLeft, .ref depths])), (boatNames, .inl (ky 1, 6, .inr (.inl boatNamesF))), (boatCells, .inl (ky 0, 6, .inl boatCellsF)), (depths, .inl (ky 0, 6, .inl depthsF))] sz)) 0 0 (va_A [(t, .inr (11, [.ref reader, .int (nI tapeLength), .int latestFault, .ref sea, .ref spareSea, .ref seaText, .ref book, .ref sentence, .ref spareSentence, .ref route, .ref meeting, .ref sighting, .ref draws, .ref history, .ref images, .ref chartBytes, .int (nI chartLength), .int fleetBits])), (chartBytes, .inl (ky 2, 32, .inl chartF)), (sea, .inr (7, [.int (nI wide), .int (nI high), .int heat, .int cools, .int skinHeat, .int today, .int stirs, .int steps, .int (nI lumps), .int (nI boats), .ref thickness, .ref lumpNames, .ref lumpCells, .ref boatNames, .ref boatCells, .ref loads, .ref spoons, .ref spoonsLeft, .ref depths])), (boatNames, .inl (ky 1, 6, .inr (.inl boatNamesF))), (boatCells, .inl (ky 0, 6, .inl boatCellsF)), (depths, .inl (ky 0, 6, .inl depthsF))] sz) := by
  refine Met.ofW (cc := cX11_chart) (maxL := 2) (ret := (some .int)) (by decide) rfl ?_
  intro p e s m args below meth c s₁ B hml hv
  obtain ⟨rfl, hsz, hP, hK, hD0, hE⟩ := hv
  have hx := B.exec
  have hb := B.bytes
  have hr := B.returns
  have hts := atoms_spec (ws := wsX11_chart) B.pre
  have hown : s.vm.findClass RX11 = some m.cls := findClass_of_methodNamed B.named
  have hlocks := B.notSynchronized
  have hin7 : ∀ w ∈ u_ws RX7 TX7 19, w ∈ wsX11_chart := by decide +kernel
  have hin11 : ∀ w ∈ u_ws RX11 TX11 18, w ∈ wsX11_chart := by decide +kernel
  subst hsz
  have hD := hD0.self (sz := s.heap.size)
  generalize hAe : va_A [(t, .inr (11, [.ref reader, .int (nI tapeLength), .int latestFault, .ref sea, .ref spareSea, .ref seaText, .ref book, .ref sentence, .ref spareSentence, .ref route, .ref meeting, .ref sighting, .ref draws, .ref history, .ref images, .ref chartBytes, .int (nI chartLength), .int fleetBits])), (chartBytes, .inl (ky 2, 32, .inl chartF)), (sea, .inr (7, [.int (nI wide), .int (nI high), .int heat, .int cools, .int skinHeat, .int today, .int stirs, .int steps, .int (nI lumps), .int (nI boats), .ref thickness, .ref lumpNames, .ref lumpCells, .ref boatNames, .ref boatCells, .ref loads, .ref spoons, .ref spoonsLeft, .ref depths])), (boatNames, .inl (ky 1, 6, .inr (.inl boatNamesF))), (boatCells, .inl (ky 0, 6, .inl boatCellsF)), (depths, .inl (ky 0, 6, .inl depthsF))] s.heap.size = A at hD hE ⊢
  have hA : ∀ q : Nat, s.heap.size ≤ q → A q := fun q h => by rw [← hAe]; exact Or.inr h
  have hS : va_S A s.heap s.heap [] := va_S.rf
  have hl := lv_entry ([.ref t, .int x]) (n := 2) (Nat.le_of_ble_eq_true rfl)
  rw [lg_entry_eq]
  generalize (lg_sl ([.ref t, .int x]) ++ List.replicate (2 - (lg_sl ([.ref t, .int x])).length) Slot.unset).toArray = ls at hl ⊢
  have hl : lv_has ls 2 [(0, .ref t), (1, .int x)] := hl
  refine q_name (fun Q hQ => ?_)
  generalize ([.ref t, .int x] : List Value).toArray = args at hts hQ ⊢
  refine lv_aload_n hx hb dX11_chart_0 rfl (lv_at hl 0 rfl) ?_
  refine va_get (D := (dC, dI)) (ci := 11) (v := .ref sea) (C := RX11) (T := TX11) (N := 18) hx hb hts hin11 hown hK hP 0 rfl rfl 3 (by decide) (hts (.fieldLink RX11 26 "PorridgeSea" "sea" "LPorridgeSea$Sea;") (List.mem_of_getElem? (i := 1) rfl)) (fun _ h9 => h9) rfl dX11_chart_1 ?_
  refine lv_iload_n hx hb dX11_chart_4 rfl (lv_at hl 1 rfl) ?_
  refine vp_callSi (W.runV (As := [.int x]) (rest := []) ⟨hx, hb, hml, hown, hts⟩ (c_s_isBoat l dC dI ky sea wide high heat cools skinHeat today stirs steps lumps boats thickness lumpNames lumpCells boatNames boatCells loads spoons spoonsLeft depths x iv_sea_0 iv_sea_1 iv_sea_2 iv_sea_3 iv_sea_4 iv_sea_5) (cwV 1 hts gX11_chart_X7_isBoat rfl rfl rfl (by decide +kernel) ⟨(Nat.le_of_ble_eq_true rfl), (Nat.le_of_ble_eq_true rfl)⟩) (pre_PV hK hP [2] rfl (ci := 7) (q0 := 2) rfl rfl) rfl rfl hl.1 rfl (lv_room (Nat.le_of_ble_eq_true rfl)) dX11_chart_5 ⟨(Nat.le_of_ble_eq_true rfl), (Nat.le_of_ble_eq_true rfl)⟩) (fun r1 p2 => ?_)
  rcases p2 with ⟨rfl, t3, t4⟩ | ⟨rfl, t5⟩
  · refine lv_if_ne (tgt := 13) hx hb dX11_chart_8 (by decide) (fun c6 => ?_) (fun c6 => absurd c6 (by decide))
    refine lv_aload_n hx hb dX11_chart_13 rfl (lv_at hl 0 rfl) ?_
    refine lv_iconst (v := nI 0) hx hb dX11_chart_14 (by decide) ?_
    refine va_put (D := (dC, dI)) (ci := 11) (v := .int (nI 0)) (ty := .int) (C := RX11) (T := TX11) (N := 18) hx hb hts hin11 tyX11 tyX11_ok nmX11 hown hK hP hD hS 0 rfl rfl 16 (by decide) (hts (.fieldLink RX11 103 "PorridgeSea" "chartLength" "I") (List.mem_of_getElem? (i := 2) rfl)) (fun _ h9 => h9) rfl (by decide +kernel) rfl rfl (Nat.le_of_ble_eq_true rfl) dX11_chart_15 (fun H locs hP hD hS => ?_)
    have hP : va_P (dC, dI) vwCl [(t, .inr (11, [.ref reader, .int (nI tapeLength), .int latestFault, .ref sea, .ref spareSea, .ref seaText, .ref book, .ref sentence, .ref spareSentence, .ref route, .ref meeting, .ref sighting, .ref draws, .ref history, .ref images, .ref chartBytes, .int (nI 0), .int fleetBits])), (chartBytes, .inl (ky 2, 32, .inl chartF)), (sea, .inr (7, [.int (nI wide), .int (nI high), .int heat, .int cools, .int skinHeat, .int today, .int stirs, .int steps, .int (nI lumps), .int (nI boats), .ref thickness, .ref lumpNames, .ref lumpCells, .ref boatNames, .ref boatCells, .ref loads, .ref spoons, .ref spoonsLeft, .ref depths])), (boatNames, .inl (ky 1, 6, .inr (.inl boatNamesF))), (boatCells, .inl (ky 0, 6, .inl boatCellsF)), (depths, .inl (ky 0, 6, .inl depthsF))] H := hP
    have hD : va_D A [(t, .inr (11, [.ref reader, .int (nI tapeLength), .int latestFault, .ref sea, .ref spareSea, .ref seaText, .ref book, .ref sentence, .ref spareSentence, .ref route, .ref meeting, .ref sighting, .ref draws, .ref history, .ref images, .ref chartBytes, .int (nI 0), .int fleetBits])), (chartBytes, .inl (ky 2, 32, .inl chartF)), (sea, .inr (7, [.int (nI wide), .int (nI high), .int heat, .int cools, .int skinHeat, .int today, .int stirs, .int steps, .int (nI lumps), .int (nI boats), .ref thickness, .ref lumpNames, .ref lumpCells, .ref boatNames, .ref boatCells, .ref loads, .ref spoons, .ref spoonsLeft, .ref depths])), (boatNames, .inl (ky 1, 6, .inr (.inl boatNamesF))), (boatCells, .inl (ky 0, 6, .inl boatCellsF)), (depths, .inl (ky 0, 6, .inl depthsF))] := hD
    refine lv_aload_n hx hb dX11_chart_18 rfl (lv_at hl 0 rfl) ?_
    refine lv_aload_n hx hb dX11_chart_19 rfl (lv_at hl 0 rfl) ?_
    refine va_get (D := (dC, dI)) (ci := 11) (v := .ref sea) (C := RX11) (T := TX11) (N := 18) hx hb hts hin11 hown hK hP 0 rfl rfl 3 (by decide) (hts (.fieldLink RX11 26 "PorridgeSea" "sea" "LPorridgeSea$Sea;") (List.mem_of_getElem? (i := 1) rfl)) (fun _ h9 => h9) rfl dX11_chart_20 ?_
    refine va_get (D := (dC, dI)) (ci := 7) (v := .ref boatNames) (C := RX7) (T := TX7) (N := 19) hx hb hts hin7 hown hK hP 2 rfl rfl 13 (by decide) (hts (.fieldLink RX11 306 "PorridgeSea$Sea" "boatNames" "[J") (List.mem_of_getElem? (i := 3) rfl)) (fun _ h9 => h9) rfl dX11_chart_23 ?_
    refine lv_iload_n hx hb dX11_chart_26 rfl (lv_at hl 1 rfl) ?_
    obtain ⟨n7, h8, e9⟩ := nat_of x 6 (by decide) (lf_p_chart_1 boats x iv_sea_5 t3 t4)
    rw [e9]
    obtain ⟨y10, e11⟩ : ∃ z9, z9 = boatNamesF n7 := ⟨_, rfl⟩
    refine r_lald hx hb hK hP 3 rfl n7 (by omega) (by decide) y10 e11.symm dX11_chart_27 ?_
    refine r_call_v (wr := [(sea, .inr (7, [.int (nI wide), .int (nI high), .int heat, .int cools, .int skinHeat, .int today, .int stirs, .int steps, .int (nI lumps), .int (nI boats), .ref thickness, .ref lumpNames, .ref lumpCells, .ref boatNames, .ref boatCells, .ref loads, .ref spoons, .ref spoonsLeft, .ref depths])), (boatNames, .inl (ky 1, 6, .inr (.inl boatNamesF))), (boatCells, .inl (ky 0, 6, .inl boatCellsF)), (depths, .inl (ky 0, 6, .inl depthsF))]) (va_runV (As := [.long y10]) (rest := []) ⟨hx, hb, hml, hown, hts⟩ (c_p_writeName l dC dI ky H.size t reader tapeLength latestFault sea spareSea seaText book sentence spareSentence route meeting sighting draws history images chartBytes 0 fleetBits chartF y10 iv_t_0 (lf_p_chart_2)) (cwV 1 hts gX11_chart_X11_writeName rfl rfl rfl (by decide +kernel) ⟨(Nat.le_of_ble_eq_true rfl), (Nat.le_of_ble_eq_true rfl)⟩) (pre_UV hK hP hD [0, 1] (by decide) rfl (ci := 11) (q0 := 0) rfl rfl) rfl rfl hl.1 rfl (lv_room (Nat.le_of_ble_eq_true rfl)) dX11_chart_28 ⟨(Nat.le_of_ble_eq_true rfl), (Nat.le_of_ble_eq_true rfl)⟩) hP hD hS hA [0, 1] [2, 3, 4, 5] rfl rfl (by decide) (by decide) (fun  u12 H locs p13 hP hD hS => ?_)
    obtain ⟨chartLengthG_14, chartG_15⟩ := u12
    try dsimp only at p13
    have p16 := p13
    refine W.widen (k := 0) (n := 0) (Nat.le_of_ble_eq_true rfl) (Nat.le_of_ble_eq_true rfl) ?_
    have hP : va_P (dC, dI) vwCl [(sea, .inr (7, [.int (nI wide), .int (nI high), .int heat, .int cools, .int skinHeat, .int today, .int stirs, .int steps, .int (nI lumps), .int (nI boats), .ref thickness, .ref lumpNames, .ref lumpCells, .ref boatNames, .ref boatCells, .ref loads, .ref spoons, .ref spoonsLeft, .ref depths])), (boatNames, .inl (ky 1, 6, .inr (.inl boatNamesF))), (boatCells, .inl (ky 0, 6, .inl boatCellsF)), (depths, .inl (ky 0, 6, .inl depthsF)), (t, .inr (11, [.ref reader, .int (nI tapeLength), .int latestFault, .ref sea, .ref spareSea, .ref seaText, .ref book, .ref sentence, .ref spareSentence, .ref route, .ref meeting, .ref sighting, .ref draws, .ref history, .ref images, .ref chartBytes, .int (nI chartLengthG_14), .int fleetBits])), (chartBytes, .inl (ky 2, 32, .inl chartG_15))] H := hP
    have hD : va_D A [(sea, .inr (7, [.int (nI wide), .int (nI high), .int heat, .int cools, .int skinHeat, .int today, .int stirs, .int steps, .int (nI lumps), .int (nI boats), .ref thickness, .ref lumpNames, .ref lumpCells, .ref boatNames, .ref boatCells, .ref loads, .ref spoons, .ref spoonsLeft, .ref depths])), (boatNames, .inl (ky 1, 6, .inr (.inl boatNamesF))), (boatCells, .inl (ky 0, 6, .inl boatCellsF)), (depths, .inl (ky 0, 6, .inl depthsF)), (t, .inr (11, [.ref reader, .int (nI tapeLength), .int latestFault, .ref sea, .ref spareSea, .ref seaText, .ref book, .ref sentence, .ref spareSentence, .ref route, .ref meeting, .ref sighting, .ref draws, .ref history, .ref images, .ref chartBytes, .int (nI chartLengthG_14), .int fleetBits])), (chartBytes, .inl (ky 2, 32, .inl chartG_15))] := hD
    refine lv_aload_n hx hb dX11_chart_31 rfl (lv_at hl 0 rfl) ?_
    refine va_get (D := (dC, dI)) (ci := 11) (v := .ref sea) (C := RX11) (T := TX11) (N := 18) hx hb hts hin11 hown hK hP 4 rfl rfl 3 (by decide) (hts (.fieldLink RX11 26 "PorridgeSea" "sea" "LPorridgeSea$Sea;") (List.mem_of_getElem? (i := 1) rfl)) (fun _ h9 => h9) rfl dX11_chart_32 ?_
    refine lv_iload_n hx hb dX11_chart_35 rfl (lv_at hl 1 rfl) ?_
    refine vp_callSi (W.runV (As := [.int x]) (rest := []) ⟨hx, hb, hml, hown, hts⟩ (c_s_isEaten l dC dI ky sea wide high heat cools skinHeat today stirs steps lumps boats thickness lumpNames lumpCells boatNames boatCells loads spoons spoonsLeft depths depthsF x iv_sea_0 iv_sea_1 iv_sea_2 iv_sea_3 iv_sea_4 iv_sea_5) (cwV 1 hts gX11_chart_X7_isEaten rfl rfl rfl (by decide +kernel) ⟨(Nat.le_of_ble_eq_true rfl), (Nat.le_of_ble_eq_true rfl)⟩) (pre_PV hK hP [0, 3] rfl (ci := 7) (q0 := 0) rfl rfl) rfl rfl hl.1 rfl (lv_room (Nat.le_of_ble_eq_true rfl)) dX11_chart_36 ⟨(Nat.le_of_ble_eq_true rfl), (Nat.le_of_ble_eq_true rfl)⟩) (fun r17 p18 => ?_)
    rcases p18 with ⟨rfl, t19, t20⟩ | ⟨rfl, t21⟩
    · refine lv_if_eq (tgt := 54) hx hb dX11_chart_39 (by decide) (fun c22 => absurd c22 (by decide)) (fun c22 => ?_)
      refine lv_aload_n hx hb dX11_chart_42 rfl (lv_at hl 0 rfl) ?_
      refine r_ldcSW hx hb hown (hE.2.2.2.2.2.2.1) dX11_chart_43 ?_
      refine r_call_v (wr := [(sea, .inr (7, [.int (nI wide), .int (nI high), .int heat, .int cools, .int skinHeat, .int today, .int stirs, .int steps, .int (nI lumps), .int (nI boats), .ref thickness, .ref lumpNames, .ref lumpCells, .ref boatNames, .ref boatCells, .ref loads, .ref spoons, .ref spoonsLeft, .ref depths])), (boatNames, .inl (ky 1, 6, .inr (.inl boatNamesF))), (boatCells, .inl (ky 0, 6, .inl boatCellsF)), (depths, .inl (ky 0, 6, .inl depthsF))]) (va_runV (As := [.ref (adK 3)]) (rest := []) ⟨hx, hb, hml, hown, hts⟩ (c_p_write3 l dC dI ky H.size adK adV t reader tapeLength latestFault sea spareSea seaText book sentence spareSentence route meeting sighting draws history images chartBytes chartLengthG_14 fleetBits chartG_15 iv_t_0 p16) (cwV 1 hts gX11_chart_X11_write rfl rfl rfl (by decide +kernel) ⟨(Nat.le_of_ble_eq_true rfl), (Nat.le_of_ble_eq_true rfl)⟩) (pre_UEV hE hS hA hK hP hD [4, 5] (by decide) rfl (va_recv hK hP (ci := 11) (q0 := 4) rfl rfl)) rfl rfl hl.1 rfl (lv_room (Nat.le_of_ble_eq_true rfl)) dX11_chart_46 ⟨(Nat.le_of_ble_eq_true rfl), (Nat.le_of_ble_eq_true rfl)⟩) hP hD hS hA [4, 5] [0, 1, 2, 3] rfl rfl (by decide) (by decide) (fun  u23 H locs p24 hP hD hS => ?_)
      obtain ⟨chartLengthG_25, chartG_26⟩ := u23
      try dsimp only at p24
      have p27 := p24
      refine W.widen (k := 0) (n := 0) (Nat.le_of_ble_eq_true rfl) (Nat.le_of_ble_eq_true rfl) ?_
      have hP : va_P (dC, dI) vwCl [(sea, .inr (7, [.int (nI wide), .int (nI high), .int heat, .int cools, .int skinHeat, .int today, .int stirs, .int steps, .int (nI lumps), .int (nI boats), .ref thickness, .ref lumpNames, .ref lumpCells, .ref boatNames, .ref boatCells, .ref loads, .ref spoons, .ref spoonsLeft, .ref depths])), (boatNames, .inl (ky 1, 6, .inr (.inl boatNamesF))), (boatCells, .inl (ky 0, 6, .inl boatCellsF)), (depths, .inl (ky 0, 6, .inl depthsF)), (t, .inr (11, [.ref reader, .int (nI tapeLength), .int latestFault, .ref sea, .ref spareSea, .ref seaText, .ref book, .ref sentence, .ref spareSentence, .ref route, .ref meeting, .ref sighting, .ref draws, .ref history, .ref images, .ref chartBytes, .int (nI chartLengthG_25), .int fleetBits])), (chartBytes, .inl (ky 2, 32, .inl chartG_26))] H := hP
      have hD : va_D A [(sea, .inr (7, [.int (nI wide), .int (nI high), .int heat, .int cools, .int skinHeat, .int today, .int stirs, .int steps, .int (nI lumps), .int (nI boats), .ref thickness, .ref lumpNames, .ref lumpCells, .ref boatNames, .ref boatCells, .ref loads, .ref spoons, .ref spoonsLeft, .ref depths])), (boatNames, .inl (ky 1, 6, .inr (.inl boatNamesF))), (boatCells, .inl (ky 0, 6, .inl boatCellsF)), (depths, .inl (ky 0, 6, .inl depthsF)), (t, .inr (11, [.ref reader, .int (nI tapeLength), .int latestFault, .ref sea, .ref spareSea, .ref seaText, .ref book, .ref sentence, .ref spareSentence, .ref route, .ref meeting, .ref sighting, .ref draws, .ref history, .ref images, .ref chartBytes, .int (nI chartLengthG_25), .int fleetBits])), (chartBytes, .inl (ky 2, 32, .inl chartG_26))] := hD
      refine lv_aload_n hx hb dX11_chart_49 rfl (lv_at hl 0 rfl) ?_
      refine va_get (D := (dC, dI)) (ci := 11) (v := .int (nI chartLengthG_25)) (C := RX11) (T := TX11) (N := 18) hx hb hts hin11 hown hK hP 4 rfl rfl 16 (by decide) (hts (.fieldLink RX11 103 "PorridgeSea" "chartLength" "I") (List.mem_of_getElem? (i := 2) rfl)) (fun _ h9 => h9) rfl dX11_chart_50 ?_
      rw [hQ]
      have hP9 := hP.sub (ws' := [(t, .inr (11, [.ref reader, .int (nI tapeLength), .int latestFault, .ref sea, .ref spareSea, .ref seaText, .ref book, .ref sentence, .ref spareSentence, .ref route, .ref meeting, .ref sighting, .ref draws, .ref history, .ref images, .ref chartBytes, .int (nI chartLengthG_25), .int fleetBits])), (chartBytes, .inl (ky 2, 32, .inl chartG_26)), (sea, .inr (7, [.int (nI wide), .int (nI high), .int heat, .int cools, .int skinHeat, .int today, .int stirs, .int steps, .int (nI lumps), .int (nI boats), .ref thickness, .ref lumpNames, .ref lumpCells, .ref boatNames, .ref boatCells, .ref loads, .ref spoons, .ref spoonsLeft, .ref depths])), (boatNames, .inl (ky 1, 6, .inr (.inl boatNamesF))), (boatCells, .inl (ky 0, 6, .inl boatCellsF)), (depths, .inl (ky 0, 6, .inl depthsF))]) [4, 5, 0, 1, 2, 3] rfl
      have hD9 := hD.sub (ws' := [(t, .inr (11, [.ref reader, .int (nI tapeLength), .int latestFault, .ref sea, .ref spareSea, .ref seaText, .ref book, .ref sentence, .ref spareSentence, .ref route, .ref meeting, .ref sighting, .ref draws, .ref history, .ref images, .ref chartBytes, .int (nI chartLengthG_25), .int fleetBits])), (chartBytes, .inl (ky 2, 32, .inl chartG_26)), (sea, .inr (7, [.int (nI wide), .int (nI high), .int heat, .int cools, .int skinHeat, .int today, .int stirs, .int steps, .int (nI lumps), .int (nI boats), .ref thickness, .ref lumpNames, .ref lumpCells, .ref boatNames, .ref boatCells, .ref loads, .ref spoons, .ref spoonsLeft, .ref depths])), (boatNames, .inl (ky 1, 6, .inr (.inl boatNamesF))), (boatCells, .inl (ky 0, 6, .inl boatCellsF)), (depths, .inl (ky 0, 6, .inl depthsF))]) [4, 5, 0, 1, 2, 3] (by decide) rfl
      exact W.iret (v := nI chartLengthG_25) hx hb hr (fun t9 ht9 hW9 => ⟨⟨nI chartLengthG_25, (chartLengthG_25, chartG_26), rfl, p27, by rw [ht9]; exact hP9, va_K.moved hW9.alike hK, hD9⟩, hS.F ht9⟩) hS.2.2 dX11_chart_53
    · refine lv_if_eq (tgt := 54) hx hb dX11_chart_39 (by decide) (fun c28 => ?_) (fun c28 => absurd (by decide) c28)
      refine lv_aload_n hx hb dX11_chart_54 rfl (lv_at hl 0 rfl) ?_
      refine r_ldcSW hx hb hown (hE.2.2.2.2.2.2.2.1) dX11_chart_55 ?_
      refine r_call_v (wr := [(sea, .inr (7, [.int (nI wide), .int (nI high), .int heat, .int cools, .int skinHeat, .int today, .int stirs, .int steps, .int (nI lumps), .int (nI boats), .ref thickness, .ref lumpNames, .ref lumpCells, .ref boatNames, .ref boatCells, .ref loads, .ref spoons, .ref spoonsLeft, .ref depths])), (boatNames, .inl (ky 1, 6, .inr (.inl boatNamesF))), (boatCells, .inl (ky 0, 6, .inl boatCellsF)), (depths, .inl (ky 0, 6, .inl depthsF))]) (va_runV (As := [.ref (adK 4)]) (rest := []) ⟨hx, hb, hml, hown, hts⟩ (c_p_write4 l dC dI ky H.size adK adV t reader tapeLength latestFault sea spareSea seaText book sentence spareSentence route meeting sighting draws history images chartBytes chartLengthG_14 fleetBits chartG_15 iv_t_0 p16) (cwV 1 hts gX11_chart_X11_write rfl rfl rfl (by decide +kernel) ⟨(Nat.le_of_ble_eq_true rfl), (Nat.le_of_ble_eq_true rfl)⟩) (pre_UEV hE hS hA hK hP hD [4, 5] (by decide) rfl (va_recv hK hP (ci := 11) (q0 := 4) rfl rfl)) rfl rfl hl.1 rfl (lv_room (Nat.le_of_ble_eq_true rfl)) dX11_chart_58 ⟨(Nat.le_of_ble_eq_true rfl), (Nat.le_of_ble_eq_true rfl)⟩) hP hD hS hA [4, 5] [0, 1, 2, 3] rfl rfl (by decide) (by decide) (fun  u29 H locs p30 hP hD hS => ?_)
      obtain ⟨chartLengthG_31, chartG_32⟩ := u29
      try dsimp only at p30
      have p33 := p30
      refine W.widen (k := 0) (n := 0) (Nat.le_of_ble_eq_true rfl) (Nat.le_of_ble_eq_true rfl) ?_
      have hP : va_P (dC, dI) vwCl [(sea, .inr (7, [.int (nI wide), .int (nI high), .int heat, .int cools, .int skinHeat, .int today, .int stirs, .int steps, .int (nI lumps), .int (nI boats), .ref thickness, .ref lumpNames, .ref lumpCells, .ref boatNames, .ref boatCells, .ref loads, .ref spoons, .ref spoonsLeft, .ref depths])), (boatNames, .inl (ky 1, 6, .inr (.inl boatNamesF))), (boatCells, .inl (ky 0, 6, .inl boatCellsF)), (depths, .inl (ky 0, 6, .inl depthsF)), (t, .inr (11, [.ref reader, .int (nI tapeLength), .int latestFault, .ref sea, .ref spareSea, .ref seaText, .ref book, .ref sentence, .ref spareSentence, .ref route, .ref meeting, .ref sighting, .ref draws, .ref history, .ref images, .ref chartBytes, .int (nI chartLengthG_31), .int fleetBits])), (chartBytes, .inl (ky 2, 32, .inl chartG_32))] H := hP
      have hD : va_D A [(sea, .inr (7, [.int (nI wide), .int (nI high), .int heat, .int cools, .int skinHeat, .int today, .int stirs, .int steps, .int (nI lumps), .int (nI boats), .ref thickness, .ref lumpNames, .ref lumpCells, .ref boatNames, .ref boatCells, .ref loads, .ref spoons, .ref spoonsLeft, .ref depths])), (boatNames, .inl (ky 1, 6, .inr (.inl boatNamesF))), (boatCells, .inl (ky 0, 6, .inl boatCellsF)), (depths, .inl (ky 0, 6, .inl depthsF)), (t, .inr (11, [.ref reader, .int (nI tapeLength), .int latestFault, .ref sea, .ref spareSea, .ref seaText, .ref book, .ref sentence, .ref spareSentence, .ref route, .ref meeting, .ref sighting, .ref draws, .ref history, .ref images, .ref chartBytes, .int (nI chartLengthG_31), .int fleetBits])), (chartBytes, .inl (ky 2, 32, .inl chartG_32))] := hD
      refine lv_aload_n hx hb dX11_chart_61 rfl (lv_at hl 0 rfl) ?_
      refine lv_aload_n hx hb dX11_chart_62 rfl (lv_at hl 0 rfl) ?_
      refine va_get (D := (dC, dI)) (ci := 11) (v := .ref sea) (C := RX11) (T := TX11) (N := 18) hx hb hts hin11 hown hK hP 4 rfl rfl 3 (by decide) (hts (.fieldLink RX11 26 "PorridgeSea" "sea" "LPorridgeSea$Sea;") (List.mem_of_getElem? (i := 1) rfl)) (fun _ h9 => h9) rfl dX11_chart_63 ?_
      refine va_get (D := (dC, dI)) (ci := 7) (v := .ref boatCells) (C := RX7) (T := TX7) (N := 19) hx hb hts hin7 hown hK hP 0 rfl rfl 14 (by decide) (hts (.fieldLink RX11 321 "PorridgeSea$Sea" "boatCells" "[I") (List.mem_of_getElem? (i := 4) rfl)) (fun _ h9 => h9) rfl dX11_chart_66 ?_
      refine lv_iload_n hx hb dX11_chart_69 rfl (lv_at hl 1 rfl) ?_
      rw [e9]
      obtain ⟨y34, e35⟩ : ∃ z9, z9 = boatCellsF n7 := ⟨_, rfl⟩
      refine r_iald hx hb hK hP 2 rfl n7 (by omega) (by decide) y34 e35.symm dX11_chart_70 ?_
      refine lv_bipush (v := nI 6) hx hb dX11_chart_71 (by decide) ?_
      refine lv_irem hx hb dX11_chart_73 (by decide) ?_
      refine lv_topi (fun y36 e37 => ?_)
      refine r_call_v (wr := [(sea, .inr (7, [.int (nI wide), .int (nI high), .int heat, .int cools, .int skinHeat, .int today, .int stirs, .int steps, .int (nI lumps), .int (nI boats), .ref thickness, .ref lumpNames, .ref lumpCells, .ref boatNames, .ref boatCells, .ref loads, .ref spoons, .ref spoonsLeft, .ref depths])), (boatNames, .inl (ky 1, 6, .inr (.inl boatNamesF))), (boatCells, .inl (ky 0, 6, .inl boatCellsF)), (depths, .inl (ky 0, 6, .inl depthsF))]) (va_runV (As := [.int y36]) (rest := []) ⟨hx, hb, hml, hown, hts⟩ (c_p_writeDigit l dC dI ky H.size t reader tapeLength latestFault sea spareSea seaText book sentence spareSentence route meeting sighting draws history images chartBytes chartLengthG_31 fleetBits chartG_32 y36 iv_t_0 p33) (cwV 1 hts gX11_chart_X11_writeDigit rfl rfl rfl (by decide +kernel) ⟨(Nat.le_of_ble_eq_true rfl), (Nat.le_of_ble_eq_true rfl)⟩) (pre_UV hK hP hD [4, 5] (by decide) rfl (ci := 11) (q0 := 4) rfl rfl) rfl rfl hl.1 rfl (lv_room (Nat.le_of_ble_eq_true rfl)) dX11_chart_74 ⟨(Nat.le_of_ble_eq_true rfl), (Nat.le_of_ble_eq_true rfl)⟩) hP hD hS hA [4, 5] [0, 1, 2, 3] rfl rfl (by decide) (by decide) (fun  u38 H locs p39 hP hD hS => ?_)
      obtain ⟨chartLengthG_40, chartG_41⟩ := u38
      try dsimp only at p39
      have p42 := p39
      refine W.widen (k := 0) (n := 0) (Nat.le_of_ble_eq_true rfl) (Nat.le_of_ble_eq_true rfl) ?_
      have hP : va_P (dC, dI) vwCl [(sea, .inr (7, [.int (nI wide), .int (nI high), .int heat, .int cools, .int skinHeat, .int today, .int stirs, .int steps, .int (nI lumps), .int (nI boats), .ref thickness, .ref lumpNames, .ref lumpCells, .ref boatNames, .ref boatCells, .ref loads, .ref spoons, .ref spoonsLeft, .ref depths])), (boatNames, .inl (ky 1, 6, .inr (.inl boatNamesF))), (boatCells, .inl (ky 0, 6, .inl boatCellsF)), (depths, .inl (ky 0, 6, .inl depthsF)), (t, .inr (11, [.ref reader, .int (nI tapeLength), .int latestFault, .ref sea, .ref spareSea, .ref seaText, .ref book, .ref sentence, .ref spareSentence, .ref route, .ref meeting, .ref sighting, .ref draws, .ref history, .ref images, .ref chartBytes, .int (nI chartLengthG_40), .int fleetBits])), (chartBytes, .inl (ky 2, 32, .inl chartG_41))] H := hP
      have hD : va_D A [(sea, .inr (7, [.int (nI wide), .int (nI high), .int heat, .int cools, .int skinHeat, .int today, .int stirs, .int steps, .int (nI lumps), .int (nI boats), .ref thickness, .ref lumpNames, .ref lumpCells, .ref boatNames, .ref boatCells, .ref loads, .ref spoons, .ref spoonsLeft, .ref depths])), (boatNames, .inl (ky 1, 6, .inr (.inl boatNamesF))), (boatCells, .inl (ky 0, 6, .inl boatCellsF)), (depths, .inl (ky 0, 6, .inl depthsF)), (t, .inr (11, [.ref reader, .int (nI tapeLength), .int latestFault, .ref sea, .ref spareSea, .ref seaText, .ref book, .ref sentence, .ref spareSentence, .ref route, .ref meeting, .ref sighting, .ref draws, .ref history, .ref images, .ref chartBytes, .int (nI chartLengthG_40), .int fleetBits])), (chartBytes, .inl (ky 2, 32, .inl chartG_41))] := hD
      refine lv_aload_n hx hb dX11_chart_77 rfl (lv_at hl 0 rfl) ?_
      refine r_ldcSW hx hb hown (hE.2.2.2.2.2.2.2.2.1) dX11_chart_78 ?_
      refine r_call_v (wr := [(sea, .inr (7, [.int (nI wide), .int (nI high), .int heat, .int cools, .int skinHeat, .int today, .int stirs, .int steps, .int (nI lumps), .int (nI boats), .ref thickness, .ref lumpNames, .ref lumpCells, .ref boatNames, .ref boatCells, .ref loads, .ref spoons, .ref spoonsLeft, .ref depths])), (boatNames, .inl (ky 1, 6, .inr (.inl boatNamesF))), (boatCells, .inl (ky 0, 6, .inl boatCellsF)), (depths, .inl (ky 0, 6, .inl depthsF))]) (va_runV (As := [.ref (adK 5)]) (rest := []) ⟨hx, hb, hml, hown, hts⟩ (c_p_write5 l dC dI ky H.size adK adV t reader tapeLength latestFault sea spareSea seaText book sentence spareSentence route meeting sighting draws history images chartBytes chartLengthG_40 fleetBits chartG_41 iv_t_0 p42) (cwV 1 hts gX11_chart_X11_write rfl rfl rfl (by decide +kernel) ⟨(Nat.le_of_ble_eq_true rfl), (Nat.le_of_ble_eq_true rfl)⟩) (pre_UEV hE hS hA hK hP hD [4, 5] (by decide) rfl (va_recv hK hP (ci := 11) (q0 := 4) rfl rfl)) rfl rfl hl.1 rfl (lv_room (Nat.le_of_ble_eq_true rfl)) dX11_chart_81 ⟨(Nat.le_of_ble_eq_true rfl), (Nat.le_of_ble_eq_true rfl)⟩) hP hD hS hA [4, 5] [0, 1, 2, 3] rfl rfl (by decide) (by decide) (fun  u43 H locs p44 hP hD hS => ?_)
      obtain ⟨chartLengthG_45, chartG_46⟩ := u43
      try dsimp only at p44
      have p47 := p44
      refine W.widen (k := 0) (n := 0) (Nat.le_of_ble_eq_true rfl) (Nat.le_of_ble_eq_true rfl) ?_
      have hP : va_P (dC, dI) vwCl [(sea, .inr (7, [.int (nI wide), .int (nI high), .int heat, .int cools, .int skinHeat, .int today, .int stirs, .int steps, .int (nI lumps), .int (nI boats), .ref thickness, .ref lumpNames, .ref lumpCells, .ref boatNames, .ref boatCells, .ref loads, .ref spoons, .ref spoonsLeft, .ref depths])), (boatNames, .inl (ky 1, 6, .inr (.inl boatNamesF))), (boatCells, .inl (ky 0, 6, .inl boatCellsF)), (depths, .inl (ky 0, 6, .inl depthsF)), (t, .inr (11, [.ref reader, .int (nI tapeLength), .int latestFault, .ref sea, .ref spareSea, .ref seaText, .ref book, .ref sentence, .ref spareSentence, .ref route, .ref meeting, .ref sighting, .ref draws, .ref history, .ref images, .ref chartBytes, .int (nI chartLengthG_45), .int fleetBits])), (chartBytes, .inl (ky 2, 32, .inl chartG_46))] H := hP
      have hD : va_D A [(sea, .inr (7, [.int (nI wide), .int (nI high), .int heat, .int cools, .int skinHeat, .int today, .int stirs, .int steps, .int (nI lumps), .int (nI boats), .ref thickness, .ref lumpNames, .ref lumpCells, .ref boatNames, .ref boatCells, .ref loads, .ref spoons, .ref spoonsLeft, .ref depths])), (boatNames, .inl (ky 1, 6, .inr (.inl boatNamesF))), (boatCells, .inl (ky 0, 6, .inl boatCellsF)), (depths, .inl (ky 0, 6, .inl depthsF)), (t, .inr (11, [.ref reader, .int (nI tapeLength), .int latestFault, .ref sea, .ref spareSea, .ref seaText, .ref book, .ref sentence, .ref spareSentence, .ref route, .ref meeting, .ref sighting, .ref draws, .ref history, .ref images, .ref chartBytes, .int (nI chartLengthG_45), .int fleetBits])), (chartBytes, .inl (ky 2, 32, .inl chartG_46))] := hD
      refine lv_aload_n hx hb dX11_chart_84 rfl (lv_at hl 0 rfl) ?_
      refine lv_aload_n hx hb dX11_chart_85 rfl (lv_at hl 0 rfl) ?_
      refine va_get (D := (dC, dI)) (ci := 11) (v := .ref sea) (C := RX11) (T := TX11) (N := 18) hx hb hts hin11 hown hK hP 4 rfl rfl 3 (by decide) (hts (.fieldLink RX11 26 "PorridgeSea" "sea" "LPorridgeSea$Sea;") (List.mem_of_getElem? (i := 1) rfl)) (fun _ h9 => h9) rfl dX11_chart_86 ?_
      refine va_get (D := (dC, dI)) (ci := 7) (v := .ref boatCells) (C := RX7) (T := TX7) (N := 19) hx hb hts hin7 hown hK hP 0 rfl rfl 14 (by decide) (hts (.fieldLink RX11 321 "PorridgeSea$Sea" "boatCells" "[I") (List.mem_of_getElem? (i := 4) rfl)) (fun _ h9 => h9) rfl dX11_chart_89 ?_
      refine lv_iload_n hx hb dX11_chart_92 rfl (lv_at hl 1 rfl) ?_
      rw [e9]
      obtain ⟨y48, e49⟩ : ∃ z9, z9 = boatCellsF n7 := ⟨_, rfl⟩
      refine r_iald hx hb hK hP 2 rfl n7 (by omega) (by decide) y48 e49.symm dX11_chart_93 ?_
      refine lv_bipush (v := nI 6) hx hb dX11_chart_94 (by decide) ?_
      refine lv_idiv hx hb dX11_chart_96 (by decide) ?_
      refine lv_topi (fun y50 e51 => ?_)
      refine r_call_v (wr := [(sea, .inr (7, [.int (nI wide), .int (nI high), .int heat, .int cools, .int skinHeat, .int today, .int stirs, .int steps, .int (nI lumps), .int (nI boats), .ref thickness, .ref lumpNames, .ref lumpCells, .ref boatNames, .ref boatCells, .ref loads, .ref spoons, .ref spoonsLeft, .ref depths])), (boatNames, .inl (ky 1, 6, .inr (.inl boatNamesF))), (boatCells, .inl (ky 0, 6, .inl boatCellsF)), (depths, .inl (ky 0, 6, .inl depthsF))]) (va_runV (As := [.int y50]) (rest := []) ⟨hx, hb, hml, hown, hts⟩ (c_p_writeDigit l dC dI ky H.size t reader tapeLength latestFault sea spareSea seaText book sentence spareSentence route meeting sighting draws history images chartBytes chartLengthG_45 fleetBits chartG_46 y50 iv_t_0 p47) (cwV 1 hts gX11_chart_X11_writeDigit rfl rfl rfl (by decide +kernel) ⟨(Nat.le_of_ble_eq_true rfl), (Nat.le_of_ble_eq_true rfl)⟩) (pre_UV hK hP hD [4, 5] (by decide) rfl (ci := 11) (q0 := 4) rfl rfl) rfl rfl hl.1 rfl (lv_room (Nat.le_of_ble_eq_true rfl)) dX11_chart_97 ⟨(Nat.le_of_ble_eq_true rfl), (Nat.le_of_ble_eq_true rfl)⟩) hP hD hS hA [4, 5] [0, 1, 2, 3] rfl rfl (by decide) (by decide) (fun  u52 H locs p53 hP hD hS => ?_)
      obtain ⟨chartLengthG_54, chartG_55⟩ := u52
      try dsimp only at p53
      have p56 := p53
      refine W.widen (k := 0) (n := 0) (Nat.le_of_ble_eq_true rfl) (Nat.le_of_ble_eq_true rfl) ?_
      have hP : va_P (dC, dI) vwCl [(sea, .inr (7, [.int (nI wide), .int (nI high), .int heat, .int cools, .int skinHeat, .int today, .int stirs, .int steps, .int (nI lumps), .int (nI boats), .ref thickness, .ref lumpNames, .ref lumpCells, .ref boatNames, .ref boatCells, .ref loads, .ref spoons, .ref spoonsLeft, .ref depths])), (boatNames, .inl (ky 1, 6, .inr (.inl boatNamesF))), (boatCells, .inl (ky 0, 6, .inl boatCellsF)), (depths, .inl (ky 0, 6, .inl depthsF)), (t, .inr (11, [.ref reader, .int (nI tapeLength), .int latestFault, .ref sea, .ref spareSea, .ref seaText, .ref book, .ref sentence, .ref spareSentence, .ref route, .ref meeting, .ref sighting, .ref draws, .ref history, .ref images, .ref chartBytes, .int (nI chartLengthG_54), .int fleetBits])), (chartBytes, .inl (ky 2, 32, .inl chartG_55))] H := hP
      have hD : va_D A [(sea, .inr (7, [.int (nI wide), .int (nI high), .int heat, .int cools, .int skinHeat, .int today, .int stirs, .int steps, .int (nI lumps), .int (nI boats), .ref thickness, .ref lumpNames, .ref lumpCells, .ref boatNames, .ref boatCells, .ref loads, .ref spoons, .ref spoonsLeft, .ref depths])), (boatNames, .inl (ky 1, 6, .inr (.inl boatNamesF))), (boatCells, .inl (ky 0, 6, .inl boatCellsF)), (depths, .inl (ky 0, 6, .inl depthsF)), (t, .inr (11, [.ref reader, .int (nI tapeLength), .int latestFault, .ref sea, .ref spareSea, .ref seaText, .ref book, .ref sentence, .ref spareSentence, .ref route, .ref meeting, .ref sighting, .ref draws, .ref history, .ref images, .ref chartBytes, .int (nI chartLengthG_54), .int fleetBits])), (chartBytes, .inl (ky 2, 32, .inl chartG_55))] := hD
      refine lv_aload_n hx hb dX11_chart_100 rfl (lv_at hl 0 rfl) ?_
      refine va_get (D := (dC, dI)) (ci := 11) (v := .ref sea) (C := RX11) (T := TX11) (N := 18) hx hb hts hin11 hown hK hP 4 rfl rfl 3 (by decide) (hts (.fieldLink RX11 26 "PorridgeSea" "sea" "LPorridgeSea$Sea;") (List.mem_of_getElem? (i := 1) rfl)) (fun _ h9 => h9) rfl dX11_chart_101 ?_
      refine va_get (D := (dC, dI)) (ci := 7) (v := .ref depths) (C := RX7) (T := TX7) (N := 19) hx hb hts hin7 hown hK hP 0 rfl rfl 18 (by decide) (hts (.fieldLink RX11 329 "PorridgeSea$Sea" "depths" "[I") (List.mem_of_getElem? (i := 5) rfl)) (fun _ h9 => h9) rfl dX11_chart_104 ?_
      refine lv_iload_n hx hb dX11_chart_107 rfl (lv_at hl 1 rfl) ?_
      rw [e9]
      obtain ⟨y57, e58⟩ : ∃ z9, z9 = depthsF n7 := ⟨_, rfl⟩
      refine r_iald hx hb hK hP 3 rfl n7 (by omega) (by decide) y57 e58.symm dX11_chart_108 ?_
      refine lv_if_le (tgt := 132) hx hb dX11_chart_109 (by decide) (fun c59 => ?_) (fun c59 => ?_)
      · refine lv_aload_n hx hb dX11_chart_132 rfl (lv_at hl 0 rfl) ?_
        refine va_get (D := (dC, dI)) (ci := 11) (v := .int (nI chartLengthG_54)) (C := RX11) (T := TX11) (N := 18) hx hb hts hin11 hown hK hP 4 rfl rfl 16 (by decide) (hts (.fieldLink RX11 103 "PorridgeSea" "chartLength" "I") (List.mem_of_getElem? (i := 2) rfl)) (fun _ h9 => h9) rfl dX11_chart_133 ?_
        rw [hQ]
        have hP9 := hP.sub (ws' := [(t, .inr (11, [.ref reader, .int (nI tapeLength), .int latestFault, .ref sea, .ref spareSea, .ref seaText, .ref book, .ref sentence, .ref spareSentence, .ref route, .ref meeting, .ref sighting, .ref draws, .ref history, .ref images, .ref chartBytes, .int (nI chartLengthG_54), .int fleetBits])), (chartBytes, .inl (ky 2, 32, .inl chartG_55)), (sea, .inr (7, [.int (nI wide), .int (nI high), .int heat, .int cools, .int skinHeat, .int today, .int stirs, .int steps, .int (nI lumps), .int (nI boats), .ref thickness, .ref lumpNames, .ref lumpCells, .ref boatNames, .ref boatCells, .ref loads, .ref spoons, .ref spoonsLeft, .ref depths])), (boatNames, .inl (ky 1, 6, .inr (.inl boatNamesF))), (boatCells, .inl (ky 0, 6, .inl boatCellsF)), (depths, .inl (ky 0, 6, .inl depthsF))]) [4, 5, 0, 1, 2, 3] rfl
        have hD9 := hD.sub (ws' := [(t, .inr (11, [.ref reader, .int (nI tapeLength), .int latestFault, .ref sea, .ref spareSea, .ref seaText, .ref book, .ref sentence, .ref spareSentence, .ref route, .ref meeting, .ref sighting, .ref draws, .ref history, .ref images, .ref chartBytes, .int (nI chartLengthG_54), .int fleetBits])), (chartBytes, .inl (ky 2, 32, .inl chartG_55)), (sea, .inr (7, [.int (nI wide), .int (nI high), .int heat, .int cools, .int skinHeat, .int today, .int stirs, .int steps, .int (nI lumps), .int (nI boats), .ref thickness, .ref lumpNames, .ref lumpCells, .ref boatNames, .ref boatCells, .ref loads, .ref spoons, .ref spoonsLeft, .ref depths])), (boatNames, .inl (ky 1, 6, .inr (.inl boatNamesF))), (boatCells, .inl (ky 0, 6, .inl boatCellsF)), (depths, .inl (ky 0, 6, .inl depthsF))]) [4, 5, 0, 1, 2, 3] (by decide) rfl
        exact W.iret (v := nI chartLengthG_54) hx hb hr (fun t9 ht9 hW9 => ⟨⟨nI chartLengthG_54, (chartLengthG_54, chartG_55), rfl, p56, by rw [ht9]; exact hP9, va_K.moved hW9.alike hK, hD9⟩, hS.F ht9⟩) hS.2.2 dX11_chart_136
      · refine lv_aload_n hx hb dX11_chart_112 rfl (lv_at hl 0 rfl) ?_
        refine r_ldcSW hx hb hown (hE.2.2.2.2.2.2.2.2.2) dX11_chart_113 ?_
        refine r_call_v (wr := [(sea, .inr (7, [.int (nI wide), .int (nI high), .int heat, .int cools, .int skinHeat, .int today, .int stirs, .int steps, .int (nI lumps), .int (nI boats), .ref thickness, .ref lumpNames, .ref lumpCells, .ref boatNames, .ref boatCells, .ref loads, .ref spoons, .ref spoonsLeft, .ref depths])), (boatNames, .inl (ky 1, 6, .inr (.inl boatNamesF))), (boatCells, .inl (ky 0, 6, .inl boatCellsF)), (depths, .inl (ky 0, 6, .inl depthsF))]) (va_runV (As := [.ref (adK 6)]) (rest := []) ⟨hx, hb, hml, hown, hts⟩ (c_p_write6 l dC dI ky H.size adK adV t reader tapeLength latestFault sea spareSea seaText book sentence spareSentence route meeting sighting draws history images chartBytes chartLengthG_54 fleetBits chartG_55 iv_t_0 p56) (cwV 1 hts gX11_chart_X11_write rfl rfl rfl (by decide +kernel) ⟨(Nat.le_of_ble_eq_true rfl), (Nat.le_of_ble_eq_true rfl)⟩) (pre_UEV hE hS hA hK hP hD [4, 5] (by decide) rfl (va_recv hK hP (ci := 11) (q0 := 4) rfl rfl)) rfl rfl hl.1 rfl (lv_room (Nat.le_of_ble_eq_true rfl)) dX11_chart_116 ⟨(Nat.le_of_ble_eq_true rfl), (Nat.le_of_ble_eq_true rfl)⟩) hP hD hS hA [4, 5] [0, 1, 2, 3] rfl rfl (by decide) (by decide) (fun  u60 H locs p61 hP hD hS => ?_)
        obtain ⟨chartLengthG_62, chartG_63⟩ := u60
        try dsimp only at p61
        have p64 := p61
        refine W.widen (k := 0) (n := 0) (Nat.le_of_ble_eq_true rfl) (Nat.le_of_ble_eq_true rfl) ?_
        have hP : va_P (dC, dI) vwCl [(sea, .inr (7, [.int (nI wide), .int (nI high), .int heat, .int cools, .int skinHeat, .int today, .int stirs, .int steps, .int (nI lumps), .int (nI boats), .ref thickness, .ref lumpNames, .ref lumpCells, .ref boatNames, .ref boatCells, .ref loads, .ref spoons, .ref spoonsLeft, .ref depths])), (boatNames, .inl (ky 1, 6, .inr (.inl boatNamesF))), (boatCells, .inl (ky 0, 6, .inl boatCellsF)), (depths, .inl (ky 0, 6, .inl depthsF)), (t, .inr (11, [.ref reader, .int (nI tapeLength), .int latestFault, .ref sea, .ref spareSea, .ref seaText, .ref book, .ref sentence, .ref spareSentence, .ref route, .ref meeting, .ref sighting, .ref draws, .ref history, .ref images, .ref chartBytes, .int (nI chartLengthG_62), .int fleetBits])), (chartBytes, .inl (ky 2, 32, .inl chartG_63))] H := hP
        have hD : va_D A [(sea, .inr (7, [.int (nI wide), .int (nI high), .int heat, .int cools, .int skinHeat, .int today, .int stirs, .int steps, .int (nI lumps), .int (nI boats), .ref thickness, .ref lumpNames, .ref lumpCells, .ref boatNames, .ref boatCells, .ref loads, .ref spoons, .ref spoonsLeft, .ref depths])), (boatNames, .inl (ky 1, 6, .inr (.inl boatNamesF))), (boatCells, .inl (ky 0, 6, .inl boatCellsF)), (depths, .inl (ky 0, 6, .inl depthsF)), (t, .inr (11, [.ref reader, .int (nI tapeLength), .int latestFault, .ref sea, .ref spareSea, .ref seaText, .ref book, .ref sentence, .ref spareSentence, .ref route, .ref meeting, .ref sighting, .ref draws, .ref history, .ref images, .ref chartBytes, .int (nI chartLengthG_62), .int fleetBits])), (chartBytes, .inl (ky 2, 32, .inl chartG_63))] := hD
        refine lv_aload_n hx hb dX11_chart_119 rfl (lv_at hl 0 rfl) ?_
        refine lv_aload_n hx hb dX11_chart_120 rfl (lv_at hl 0 rfl) ?_
        refine va_get (D := (dC, dI)) (ci := 11) (v := .ref sea) (C := RX11) (T := TX11) (N := 18) hx hb hts hin11 hown hK hP 4 rfl rfl 3 (by decide) (hts (.fieldLink RX11 26 "PorridgeSea" "sea" "LPorridgeSea$Sea;") (List.mem_of_getElem? (i := 1) rfl)) (fun _ h9 => h9) rfl dX11_chart_121 ?_
        refine va_get (D := (dC, dI)) (ci := 7) (v := .ref depths) (C := RX7) (T := TX7) (N := 19) hx hb hts hin7 hown hK hP 0 rfl rfl 18 (by decide) (hts (.fieldLink RX11 329 "PorridgeSea$Sea" "depths" "[I") (List.mem_of_getElem? (i := 5) rfl)) (fun _ h9 => h9) rfl dX11_chart_124 ?_
        refine lv_iload_n hx hb dX11_chart_127 rfl (lv_at hl 1 rfl) ?_
        rw [e9]
        obtain ⟨y65, e66⟩ : ∃ z9, z9 = depthsF n7 := ⟨_, rfl⟩
        refine r_iald hx hb hK hP 3 rfl n7 (by omega) (by decide) y65 e66.symm dX11_chart_128 ?_
        refine r_call_v (wr := [(sea, .inr (7, [.int (nI wide), .int (nI high), .int heat, .int cools, .int skinHeat, .int today, .int stirs, .int steps, .int (nI lumps), .int (nI boats), .ref thickness, .ref lumpNames, .ref lumpCells, .ref boatNames, .ref boatCells, .ref loads, .ref spoons, .ref spoonsLeft, .ref depths])), (boatNames, .inl (ky 1, 6, .inr (.inl boatNamesF))), (boatCells, .inl (ky 0, 6, .inl boatCellsF)), (depths, .inl (ky 0, 6, .inl depthsF))]) (va_runV (As := [.int y65]) (rest := []) ⟨hx, hb, hml, hown, hts⟩ (c_p_writeDigit l dC dI ky H.size t reader tapeLength latestFault sea spareSea seaText book sentence spareSentence route meeting sighting draws history images chartBytes chartLengthG_62 fleetBits chartG_63 y65 iv_t_0 p64) (cwV 1 hts gX11_chart_X11_writeDigit rfl rfl rfl (by decide +kernel) ⟨(Nat.le_of_ble_eq_true rfl), (Nat.le_of_ble_eq_true rfl)⟩) (pre_UV hK hP hD [4, 5] (by decide) rfl (ci := 11) (q0 := 4) rfl rfl) rfl rfl hl.1 rfl (lv_room (Nat.le_of_ble_eq_true rfl)) dX11_chart_129 ⟨(Nat.le_of_ble_eq_true rfl), (Nat.le_of_ble_eq_true rfl)⟩) hP hD hS hA [4, 5] [0, 1, 2, 3] rfl rfl (by decide) (by decide) (fun  u67 H locs p68 hP hD hS => ?_)
        obtain ⟨chartLengthG_69, chartG_70⟩ := u67
        try dsimp only at p68
        have p71 := p68
        refine W.widen (k := 0) (n := 0) (Nat.le_of_ble_eq_true rfl) (Nat.le_of_ble_eq_true rfl) ?_
        have hP : va_P (dC, dI) vwCl [(sea, .inr (7, [.int (nI wide), .int (nI high), .int heat, .int cools, .int skinHeat, .int today, .int stirs, .int steps, .int (nI lumps), .int (nI boats), .ref thickness, .ref lumpNames, .ref lumpCells, .ref boatNames, .ref boatCells, .ref loads, .ref spoons, .ref spoonsLeft, .ref depths])), (boatNames, .inl (ky 1, 6, .inr (.inl boatNamesF))), (boatCells, .inl (ky 0, 6, .inl boatCellsF)), (depths, .inl (ky 0, 6, .inl depthsF)), (t, .inr (11, [.ref reader, .int (nI tapeLength), .int latestFault, .ref sea, .ref spareSea, .ref seaText, .ref book, .ref sentence, .ref spareSentence, .ref route, .ref meeting, .ref sighting, .ref draws, .ref history, .ref images, .ref chartBytes, .int (nI chartLengthG_69), .int fleetBits])), (chartBytes, .inl (ky 2, 32, .inl chartG_70))] H := hP
        have hD : va_D A [(sea, .inr (7, [.int (nI wide), .int (nI high), .int heat, .int cools, .int skinHeat, .int today, .int stirs, .int steps, .int (nI lumps), .int (nI boats), .ref thickness, .ref lumpNames, .ref lumpCells, .ref boatNames, .ref boatCells, .ref loads, .ref spoons, .ref spoonsLeft, .ref depths])), (boatNames, .inl (ky 1, 6, .inr (.inl boatNamesF))), (boatCells, .inl (ky 0, 6, .inl boatCellsF)), (depths, .inl (ky 0, 6, .inl depthsF)), (t, .inr (11, [.ref reader, .int (nI tapeLength), .int latestFault, .ref sea, .ref spareSea, .ref seaText, .ref book, .ref sentence, .ref spareSentence, .ref route, .ref meeting, .ref sighting, .ref draws, .ref history, .ref images, .ref chartBytes, .int (nI chartLengthG_69), .int fleetBits])), (chartBytes, .inl (ky 2, 32, .inl chartG_70))] := hD
        refine lv_aload_n hx hb dX11_chart_132 rfl (lv_at hl 0 rfl) ?_
        refine va_get (D := (dC, dI)) (ci := 11) (v := .int (nI chartLengthG_69)) (C := RX11) (T := TX11) (N := 18) hx hb hts hin11 hown hK hP 4 rfl rfl 16 (by decide) (hts (.fieldLink RX11 103 "PorridgeSea" "chartLength" "I") (List.mem_of_getElem? (i := 2) rfl)) (fun _ h9 => h9) rfl dX11_chart_133 ?_
        rw [hQ]
        have hP9 := hP.sub (ws' := [(t, .inr (11, [.ref reader, .int (nI tapeLength), .int latestFault, .ref sea, .ref spareSea, .ref seaText, .ref book, .ref sentence, .ref spareSentence, .ref route, .ref meeting, .ref sighting, .ref draws, .ref history, .ref images, .ref chartBytes, .int (nI chartLengthG_69), .int fleetBits])), (chartBytes, .inl (ky 2, 32, .inl chartG_70)), (sea, .inr (7, [.int (nI wide), .int (nI high), .int heat, .int cools, .int skinHeat, .int today, .int stirs, .int steps, .int (nI lumps), .int (nI boats), .ref thickness, .ref lumpNames, .ref lumpCells, .ref boatNames, .ref boatCells, .ref loads, .ref spoons, .ref spoonsLeft, .ref depths])), (boatNames, .inl (ky 1, 6, .inr (.inl boatNamesF))), (boatCells, .inl (ky 0, 6, .inl boatCellsF)), (depths, .inl (ky 0, 6, .inl depthsF))]) [4, 5, 0, 1, 2, 3] rfl
        have hD9 := hD.sub (ws' := [(t, .inr (11, [.ref reader, .int (nI tapeLength), .int latestFault, .ref sea, .ref spareSea, .ref seaText, .ref book, .ref sentence, .ref spareSentence, .ref route, .ref meeting, .ref sighting, .ref draws, .ref history, .ref images, .ref chartBytes, .int (nI chartLengthG_69), .int fleetBits])), (chartBytes, .inl (ky 2, 32, .inl chartG_70)), (sea, .inr (7, [.int (nI wide), .int (nI high), .int heat, .int cools, .int skinHeat, .int today, .int stirs, .int steps, .int (nI lumps), .int (nI boats), .ref thickness, .ref lumpNames, .ref lumpCells, .ref boatNames, .ref boatCells, .ref loads, .ref spoons, .ref spoonsLeft, .ref depths])), (boatNames, .inl (ky 1, 6, .inr (.inl boatNamesF))), (boatCells, .inl (ky 0, 6, .inl boatCellsF)), (depths, .inl (ky 0, 6, .inl depthsF))]) [4, 5, 0, 1, 2, 3] (by decide) rfl
        exact W.iret (v := nI chartLengthG_69) hx hb hr (fun t9 ht9 hW9 => ⟨⟨nI chartLengthG_69, (chartLengthG_69, chartG_70), rfl, p71, by rw [ht9]; exact hP9, va_K.moved hW9.alike hK, hD9⟩, hS.F ht9⟩) hS.2.2 dX11_chart_136
  · refine lv_if_ne (tgt := 13) hx hb dX11_chart_8 (by decide) (fun c72 => absurd c72 (by decide)) (fun c72 => ?_)
    refine lv_iconst (v := (-1 : Int32)) hx hb dX11_chart_11 (by decide) ?_
    rw [hQ]
    exact W.iret (v := (-1 : Int32)) hx hb hr (fun t9 ht9 hW9 => ⟨⟨(-1 : Int32), (chartLength, chartF), rfl, iv_t_1, by rw [ht9]; exact hP, va_K.moved hW9.alike hK, hD⟩, hS.F ht9⟩) hS.2.2 dX11_chart_12
set_option maxRecDepth 20000 in
theorem lf_p_byteAt_1 (chartLength : Nat) (x : Int32) (iv_t_1 : chartLength ≤ 32) (c1 : ¬ x < 0) (c2 : ¬ nI chartLength ≤ x) : 0 ≤ x.toInt ∧ x.toInt < ((32 : Nat) : Int) := by
  have b_x := ia_b x
  try have k_0 := ia_n chartLength (by first | decide | omega)
  try simp only [ia_lt, ia_le, ia_eq, ia_m1, ia_0, ia_1, ne_eq, true_and, and_true, false_and, and_false, or_false, false_or, or_true, true_or, not_true_eq_false, not_false_eq_true] at *
  all_goals omega
set_option maxHeartbeats 4000000 in
set_option maxRecDepth 100000 in
theorem c_p_byteAt (l : Launch) (dC : Nat → ClassId) (dI : Nat → Nat → Nat) (ky : Nat → ClassId) (t : Nat) (reader : Nat) (tapeLength : Nat) (latestFault : Int32) (sea : Nat) (spareSea : Nat) (seaText : Nat) (book : Nat) (sentence : Nat) (spareSentence : Nat) (route : Nat) (meeting : Nat) (sighting : Nat) (draws : Nat) (history : Nat) (images : Nat) (chartBytes : Nat) (chartLength : Nat) (fleetBits : Int32) (chartF : Nat → Int32) (x : Int32) (iv_t_0 : tapeLength ≤ 940) (iv_t_1 : chartLength ≤ 32) : Met l yX11_byteAt wsX11_byteAt ({ frames := 0, cells := 0, slots := 0, locals := 0 }) (PcP dC dI ky [.ref t, .int x] [(t, .inr (11, [.ref reader, .int (nI tapeLength), .int latestFault, .ref sea, .ref spareSea, .ref seaText, .ref book, .ref sentence, .ref spareSentence, .ref route, .ref meeting, .ref sighting, .ref draws, .ref history, .ref images, .ref chartBytes, .int (nI chartLength), .int fleetBits])), (chartBytes, .inl (ky 2, 32, .inl chartF))]) (vp_Si (fun r : Int32 => True)) 0 0 (fun _ => False) := by
  refine Met.ofW (cc := cX11_byteAt) (maxL := 2) (ret := (some .int)) (by decide) rfl ?_
  intro p e s m args below meth c s₁ B hml hv
  obtain ⟨rfl, hP, hK⟩ := hv
  have hx := B.exec
  have hb := B.bytes
  have hr := B.returns
  have hts := atoms_spec (ws := wsX11_byteAt) B.pre
  have hown : s.vm.findClass RX11 = some m.cls := findClass_of_methodNamed B.named
  have hlocks := B.notSynchronized
  have hin11 : ∀ w ∈ u_ws RX11 TX11 18, w ∈ wsX11_byteAt := by decide +kernel
  have hl := lv_entry ([.ref t, .int x]) (n := 2) (Nat.le_of_ble_eq_true rfl)
  rw [lg_entry_eq]
  generalize (lg_sl ([.ref t, .int x]) ++ List.replicate (2 - (lg_sl ([.ref t, .int x])).length) Slot.unset).toArray = ls at hl ⊢
  have hl : lv_has ls 2 [(0, .ref t), (1, .int x)] := hl
  refine q_name (fun Q hQ => ?_)
  generalize ([.ref t, .int x] : List Value).toArray = args at hts hQ ⊢
  refine lv_iload_n hx hb dX11_byteAt_0 rfl (lv_at hl 1 rfl) ?_
  refine lv_if_lt (tgt := 25) hx hb dX11_byteAt_1 (by decide) (fun c1 => ?_) (fun c1 => ?_)
  · refine lv_iconst (v := (-1 : Int32)) hx hb dX11_byteAt_25 (by decide) ?_
    rw [hQ]
    exact W.iret (v := (-1 : Int32)) hx hb hr (fun t9 ht9 hW9 => ⟨(-1 : Int32), rfl, trivial, ht9⟩) (fun _ h => absurd h List.not_mem_nil) dX11_byteAt_26
  · refine lv_iload_n hx hb dX11_byteAt_4 rfl (lv_at hl 1 rfl) ?_
    refine lv_aload_n hx hb dX11_byteAt_5 rfl (lv_at hl 0 rfl) ?_
    refine va_get (D := (dC, dI)) (ci := 11) (v := .int (nI chartLength)) (C := RX11) (T := TX11) (N := 18) hx hb hts hin11 hown hK hP 0 rfl rfl 16 (by decide) (hts (.fieldLink RX11 103 "PorridgeSea" "chartLength" "I") (List.mem_of_getElem? (i := 1) rfl)) (fun _ h9 => h9) rfl dX11_byteAt_6 ?_
    refine lv_icmp_ge (tgt := 25) hx hb dX11_byteAt_9 (by decide) (fun c2 => ?_) (fun c2 => ?_)
    · refine lv_iconst (v := (-1 : Int32)) hx hb dX11_byteAt_25 (by decide) ?_
      rw [hQ]
      exact W.iret (v := (-1 : Int32)) hx hb hr (fun t9 ht9 hW9 => ⟨(-1 : Int32), rfl, trivial, ht9⟩) (fun _ h => absurd h List.not_mem_nil) dX11_byteAt_26
    · refine lv_aload_n hx hb dX11_byteAt_12 rfl (lv_at hl 0 rfl) ?_
      refine va_get (D := (dC, dI)) (ci := 11) (v := .ref chartBytes) (C := RX11) (T := TX11) (N := 18) hx hb hts hin11 hown hK hP 0 rfl rfl 15 (by decide) (hts (.fieldLink RX11 99 "PorridgeSea" "chartBytes" "[B") (List.mem_of_getElem? (i := 2) rfl)) (fun _ h9 => h9) rfl dX11_byteAt_13 ?_
      refine lv_iload_n hx hb dX11_byteAt_16 rfl (lv_at hl 1 rfl) ?_
      obtain ⟨n3, h4, e5⟩ := nat_of x 32 (by decide) (lf_p_byteAt_1 chartLength x iv_t_1 c1 c2)
      rw [e5]
      obtain ⟨y6, e7⟩ : ∃ z9, z9 = chartF n3 := ⟨_, rfl⟩
      refine r_bald hx hb hK hP 1 rfl n3 (by omega) (by decide) y6 e7.symm dX11_byteAt_17 ?_
      refine lv_sipush (v := nI 255) hx hb dX11_byteAt_18 (by decide) ?_
      refine lv_iand hx hb dX11_byteAt_21 ?_
      refine lv_topi (fun y8 e9 => ?_)
      refine lv_goto (tgt := 26) hx hb dX11_byteAt_22 (by decide) ?_
      rw [hQ]
      exact W.iret (v := y8) hx hb hr (fun t9 ht9 hW9 => ⟨y8, rfl, trivial, ht9⟩) (fun _ h => absurd h List.not_mem_nil) dX11_byteAt_26
