theorem dX12_drawsLine_0 : decode cX12_drawsLine 0 = .ok (.aload_n 0, 1) := by decide +kernel
theorem dX12_drawsLine_1 : decode cX12_drawsLine 1 = .ok (.iconst 3, 1) := by decide +kernel
theorem dX12_drawsLine_2 : decode cX12_drawsLine 2 = .ok (.invokevirtual 380, 3) := by decide +kernel
theorem dX12_drawsLine_5 : decode cX12_drawsLine 5 = .ok (.ifCond .eq 4, 3) := by decide +kernel
theorem dX12_drawsLine_9 : decode cX12_drawsLine 9 = .ok (.aload_n 0, 1) := by decide +kernel
theorem dX12_drawsLine_10 : decode cX12_drawsLine 10 = .ok (.iconst 2, 1) := by decide +kernel
theorem dX12_drawsLine_11 : decode cX12_drawsLine 11 = .ok (.invokevirtual 380, 3) := by decide +kernel
theorem dX12_drawsLine_14 : decode cX12_drawsLine 14 = .ok (.istore_n 1, 1) := by decide +kernel
theorem dX12_drawsLine_15 : decode cX12_drawsLine 15 = .ok (.aload_n 0, 1) := by decide +kernel
theorem dX12_drawsLine_16 : decode cX12_drawsLine 16 = .ok (.aload_n 0, 1) := by decide +kernel
theorem dX12_drawsLine_17 : decode cX12_drawsLine 17 = .ok (.getfield 98, 3) := by decide +kernel
theorem dX12_drawsLine_20 : decode cX12_drawsLine 20 = .ok (.iload_n 1, 1) := by decide +kernel
theorem dX12_drawsLine_21 : decode cX12_drawsLine 21 = .ok (.iconst 1, 1) := by decide +kernel
theorem dX12_drawsLine_22 : decode cX12_drawsLine 22 = .ok (.if_icmp .ne 7, 3) := by decide +kernel
theorem dX12_drawsLine_29 : decode cX12_drawsLine 29 = .ok (.iconst 1, 1) := by decide +kernel
theorem dX12_drawsLine_30 : decode cX12_drawsLine 30 = .ok (.iaload, 1) := by decide +kernel
theorem dX12_drawsLine_31 : decode cX12_drawsLine 31 = .ok (.invokevirtual 380, 3) := by decide +kernel
theorem dX12_drawsLine_34 : decode cX12_drawsLine 34 = .ok (.istore_n 2, 1) := by decide +kernel
theorem dX12_drawsLine_35 : decode cX12_drawsLine 35 = .ok (.aload_n 0, 1) := by decide +kernel
theorem dX12_drawsLine_36 : decode cX12_drawsLine 36 = .ok (.iconst 2, 1) := by decide +kernel
theorem dX12_drawsLine_37 : decode cX12_drawsLine 37 = .ok (.invokevirtual 380, 3) := by decide +kernel
theorem dX12_drawsLine_40 : decode cX12_drawsLine 40 = .ok (.istore_n 3, 1) := by decide +kernel
theorem dX12_drawsLine_41 : decode cX12_drawsLine 41 = .ok (.aload_n 0, 1) := by decide +kernel
theorem dX12_drawsLine_42 : decode cX12_drawsLine 42 = .ok (.invokevirtual 240, 3) := by decide +kernel
theorem dX12_drawsLine_45 : decode cX12_drawsLine 45 = .ok (.ifCond .ne 13, 3) := by decide +kernel
theorem dX12_drawsLine_58 : decode cX12_drawsLine 58 = .ok (.return_, 1) := by decide +kernel
theorem dX12_drawsLine_48 : decode cX12_drawsLine 48 = .ok (.aload_n 0, 1) := by decide +kernel
theorem dX12_drawsLine_49 : decode cX12_drawsLine 49 = .ok (.iload_n 1, 1) := by decide +kernel
theorem dX12_drawsLine_50 : decode cX12_drawsLine 50 = .ok (.iload_n 2, 1) := by decide +kernel
theorem dX12_drawsLine_51 : decode cX12_drawsLine 51 = .ok (.iload_n 3, 1) := by decide +kernel
theorem dX12_drawsLine_52 : decode cX12_drawsLine 52 = .ok (.invokestatic 302, 3) := by decide +kernel
theorem dX12_drawsLine_55 : decode cX12_drawsLine 55 = .ok (.invokevirtual 285, 3) := by decide +kernel
theorem dX12_drawsLine_25 : decode cX12_drawsLine 25 = .ok (.iconst 0, 1) := by decide +kernel
theorem dX12_drawsLine_26 : decode cX12_drawsLine 26 = .ok (.goto 4, 3) := by decide +kernel
theorem dX12_drawsLine_8 : decode cX12_drawsLine 8 = .ok (.return_, 1) := by decide +kernel
theorem dX12_drawsFor_0 : decode cX12_drawsFor 0 = .ok (.aload_n 0, 1) := by decide +kernel
theorem dX12_drawsFor_1 : decode cX12_drawsFor 1 = .ok (.iconst 5, 1) := by decide +kernel
theorem dX12_drawsFor_2 : decode cX12_drawsFor 2 = .ok (.invokevirtual 380, 3) := by decide +kernel
theorem dX12_drawsFor_5 : decode cX12_drawsFor 5 = .ok (.istore_n 2, 1) := by decide +kernel
theorem dX12_drawsFor_6 : decode cX12_drawsFor 6 = .ok (.iload_n 2, 1) := by decide +kernel
theorem dX12_drawsFor_7 : decode cX12_drawsFor 7 = .ok (.iconst 4, 1) := by decide +kernel
theorem dX12_drawsFor_8 : decode cX12_drawsFor 8 = .ok (.if_icmp .ge 20, 3) := by decide +kernel
theorem dX12_drawsFor_28 : decode cX12_drawsFor 28 = .ok (.return_, 1) := by decide +kernel
theorem dX12_drawsFor_11 : decode cX12_drawsFor 11 = .ok (.aload_n 0, 1) := by decide +kernel
theorem dX12_drawsFor_12 : decode cX12_drawsFor 12 = .ok (.iconst 1, 1) := by decide +kernel
theorem dX12_drawsFor_13 : decode cX12_drawsFor 13 = .ok (.iload_n 1, 1) := by decide +kernel
theorem dX12_drawsFor_14 : decode cX12_drawsFor 14 = .ok (.iload_n 2, 1) := by decide +kernel
theorem dX12_drawsFor_15 : decode cX12_drawsFor 15 = .ok (.invokevirtual 291, 3) := by decide +kernel
theorem dX12_drawsFor_18 : decode cX12_drawsFor 18 = .ok (.ifCond .ne 10, 3) := by decide +kernel
theorem dX12_drawsFor_21 : decode cX12_drawsFor 21 = .ok (.aload_n 0, 1) := by decide +kernel
theorem dX12_drawsFor_22 : decode cX12_drawsFor 22 = .ok (.iconst 1, 1) := by decide +kernel
theorem dX12_drawsFor_23 : decode cX12_drawsFor 23 = .ok (.iload_n 1, 1) := by decide +kernel
theorem dX12_drawsFor_24 : decode cX12_drawsFor 24 = .ok (.iload_n 2, 1) := by decide +kernel
theorem dX12_drawsFor_25 : decode cX12_drawsFor 25 = .ok (.invokevirtual 298, 3) := by decide +kernel
theorem dX12_drawDays_0 : decode cX12_drawDays 0 = .ok (.aload_n 0, 1) := by decide +kernel
theorem dX12_drawDays_1 : decode cX12_drawDays 1 = .ok (.iload_n 2, 1) := by decide +kernel
theorem dX12_drawDays_2 : decode cX12_drawDays 2 = .ok (.putfield 376, 3) := by decide +kernel
theorem dX12_drawDays_5 : decode cX12_drawDays 5 = .ok (.iload_n 1, 1) := by decide +kernel
theorem dX12_drawDays_6 : decode cX12_drawDays 6 = .ok (.sipush 400, 3) := by decide +kernel
theorem dX12_drawDays_9 : decode cX12_drawDays 9 = .ok (.aload_n 0, 1) := by decide +kernel
theorem dX12_drawDays_10 : decode cX12_drawDays 10 = .ok (.getfield 98, 3) := by decide +kernel
theorem dX12_drawDays_13 : decode cX12_drawDays 13 = .ok (.bipush 67, 2) := by decide +kernel
theorem dX12_drawDays_15 : decode cX12_drawDays 15 = .ok (.iaload, 1) := by decide +kernel
theorem dX12_drawDays_16 : decode cX12_drawDays 16 = .ok (.isub, 1) := by decide +kernel
theorem dX12_drawDays_17 : decode cX12_drawDays 17 = .ok (.invokestatic 288, 3) := by decide +kernel
theorem dX12_drawDays_20 : decode cX12_drawDays 20 = .ok (.istore_n 3, 1) := by decide +kernel
theorem dX12_drawDays_21 : decode cX12_drawDays 21 = .ok (.iconst 0, 1) := by decide +kernel
theorem dX12_drawDays_22 : decode cX12_drawDays 22 = .ok (.istore 4, 2) := by decide +kernel
theorem dX12_drawDays_24 : decode cX12_drawDays 24 = .ok (.iload 4, 2) := by decide +kernel
theorem dX12_drawDays_26 : decode cX12_drawDays 26 = .ok (.iload_n 3, 1) := by decide +kernel
theorem dX12_drawDays_27 : decode cX12_drawDays 27 = .ok (.if_icmp .ge 52, 3) := by decide +kernel
theorem dX12_drawDays_79 : decode cX12_drawDays 79 = .ok (.iload_n 3, 1) := by decide +kernel
theorem dX12_drawDays_80 : decode cX12_drawDays 80 = .ok (.ireturn, 1) := by decide +kernel
theorem dX12_drawDays_30 : decode cX12_drawDays 30 = .ok (.aload_n 0, 1) := by decide +kernel
theorem dX12_drawDays_31 : decode cX12_drawDays 31 = .ok (.invokevirtual 383, 3) := by decide +kernel
theorem dX12_drawDays_34 : decode cX12_drawDays 34 = .ok (.iconst 0, 1) := by decide +kernel
theorem dX12_drawDays_35 : decode cX12_drawDays 35 = .ok (.istore 5, 2) := by decide +kernel
theorem dX12_drawDays_37 : decode cX12_drawDays 37 = .ok (.iload 5, 2) := by decide +kernel
theorem dX12_drawDays_39 : decode cX12_drawDays 39 = .ok (.aload_n 0, 1) := by decide +kernel
theorem dX12_drawDays_40 : decode cX12_drawDays 40 = .ok (.getfield 98, 3) := by decide +kernel
theorem dX12_drawDays_43 : decode cX12_drawDays 43 = .ok (.iconst 3, 1) := by decide +kernel
theorem dX12_drawDays_44 : decode cX12_drawDays 44 = .ok (.iaload, 1) := by decide +kernel
theorem dX12_drawDays_45 : decode cX12_drawDays 45 = .ok (.if_icmp .ge 24, 3) := by decide +kernel
theorem dX12_drawDays_69 : decode cX12_drawDays 69 = .ok (.aload_n 0, 1) := by decide +kernel
theorem dX12_drawDays_70 : decode cX12_drawDays 70 = .ok (.invokevirtual 309, 3) := by decide +kernel
theorem dX12_drawDays_73 : decode cX12_drawDays 73 = .ok (.iinc 4 1, 3) := by decide +kernel
theorem dX12_drawDays_76 : decode cX12_drawDays 76 = .ok (.goto (-52), 3) := by decide +kernel
theorem dX12_drawDays_48 : decode cX12_drawDays 48 = .ok (.aload_n 0, 1) := by decide +kernel
theorem dX12_drawDays_49 : decode cX12_drawDays 49 = .ok (.iload 5, 2) := by decide +kernel
theorem dX12_drawDays_51 : decode cX12_drawDays 51 = .ok (.invokevirtual 246, 3) := by decide +kernel
theorem dX12_drawDays_54 : decode cX12_drawDays 54 = .ok (.ifCond .ne 9, 3) := by decide +kernel
theorem dX12_drawDays_63 : decode cX12_drawDays 63 = .ok (.iinc 5 1, 3) := by decide +kernel
theorem dX12_drawDays_66 : decode cX12_drawDays 66 = .ok (.goto (-29), 3) := by decide +kernel
theorem dX12_drawDays_57 : decode cX12_drawDays 57 = .ok (.aload_n 0, 1) := by decide +kernel
theorem dX12_drawDays_58 : decode cX12_drawDays 58 = .ok (.iload 5, 2) := by decide +kernel
theorem dX12_drawDays_60 : decode cX12_drawDays 60 = .ok (.invokevirtual 386, 3) := by decide +kernel
theorem dX12_drawn_0 : decode cX12_drawn 0 = .ok (.aload_n 0, 1) := by decide +kernel
theorem dX12_drawn_1 : decode cX12_drawn 1 = .ok (.iconst 0, 1) := by decide +kernel
theorem dX12_drawn_2 : decode cX12_drawn 2 = .ok (.putfield 1, 3) := by decide +kernel
theorem dX12_drawn_5 : decode cX12_drawn 5 = .ok (.iload_n 1, 1) := by decide +kernel
theorem dX12_drawn_6 : decode cX12_drawn 6 = .ok (.iconst 1, 1) := by decide +kernel
theorem dX12_drawn_7 : decode cX12_drawn 7 = .ok (.bipush 60, 2) := by decide +kernel
theorem dX12_drawn_9 : decode cX12_drawn 9 = .ok (.invokestatic 75, 3) := by decide +kernel
theorem dX12_drawn_12 : decode cX12_drawn 12 = .ok (.ifCond .ne 5, 3) := by decide +kernel
theorem dX12_drawn_17 : decode cX12_drawn 17 = .ok (.aload_n 0, 1) := by decide +kernel
theorem dX12_drawn_18 : decode cX12_drawn 18 = .ok (.getfield 98, 3) := by decide +kernel
theorem dX12_drawn_21 : decode cX12_drawn 21 = .ok (.bipush 67, 2) := by decide +kernel
theorem dX12_drawn_23 : decode cX12_drawn 23 = .ok (.iaload, 1) := by decide +kernel
theorem dX12_drawn_24 : decode cX12_drawn 24 = .ok (.sipush 400, 3) := by decide +kernel
theorem dX12_drawn_27 : decode cX12_drawn 27 = .ok (.if_icmp .ne 5, 3) := by decide +kernel
theorem dX12_drawn_32 : decode cX12_drawn 32 = .ok (.aload_n 0, 1) := by decide +kernel
theorem dX12_drawn_33 : decode cX12_drawn 33 = .ok (.invokevirtual 295, 3) := by decide +kernel
theorem dX12_drawn_36 : decode cX12_drawn 36 = .ok (.aload_n 0, 1) := by decide +kernel
theorem dX12_drawn_37 : decode cX12_drawn 37 = .ok (.iload_n 1, 1) := by decide +kernel
theorem dX12_drawn_38 : decode cX12_drawn 38 = .ok (.iload_n 2, 1) := by decide +kernel
theorem dX12_drawn_39 : decode cX12_drawn 39 = .ok (.invokevirtual 389, 3) := by decide +kernel
theorem dX12_drawn_42 : decode cX12_drawn 42 = .ok (.ireturn, 1) := by decide +kernel
theorem dX12_drawn_30 : decode cX12_drawn 30 = .ok (.iconst 0, 1) := by decide +kernel
theorem dX12_drawn_31 : decode cX12_drawn 31 = .ok (.ireturn, 1) := by decide +kernel
theorem dX12_drawn_15 : decode cX12_drawn 15 = .ok (.iconst (-1), 1) := by decide +kernel
theorem dX12_drawn_16 : decode cX12_drawn 16 = .ok (.ireturn, 1) := by decide +kernel
theorem dX12_odds_0 : decode cX12_odds 0 = .ok (.aload_n 0, 1) := by decide +kernel
theorem dX12_odds_1 : decode cX12_odds 1 = .ok (.iconst 0, 1) := by decide +kernel
theorem dX12_odds_2 : decode cX12_odds 2 = .ok (.putfield 1, 3) := by decide +kernel
theorem dX12_odds_5 : decode cX12_odds 5 = .ok (.aload_n 0, 1) := by decide +kernel
theorem dX12_odds_6 : decode cX12_odds 6 = .ok (.iload_n 1, 1) := by decide +kernel
theorem dX12_odds_7 : decode cX12_odds 7 = .ok (.invokevirtual 260, 3) := by decide +kernel
theorem dX12_odds_10 : decode cX12_odds 10 = .ok (.ifCond .eq 13, 3) := by decide +kernel
theorem dX12_odds_13 : decode cX12_odds 13 = .ok (.iload_n 2, 1) := by decide +kernel
theorem dX12_odds_14 : decode cX12_odds 14 = .ok (.iconst 1, 1) := by decide +kernel
theorem dX12_odds_15 : decode cX12_odds 15 = .ok (.bipush 30, 2) := by decide +kernel
theorem dX12_odds_17 : decode cX12_odds 17 = .ok (.invokestatic 75, 3) := by decide +kernel
theorem dX12_odds_20 : decode cX12_odds 20 = .ok (.ifCond .ne 5, 3) := by decide +kernel
theorem dX12_odds_25 : decode cX12_odds 25 = .ok (.aload_n 0, 1) := by decide +kernel
theorem dX12_odds_26 : decode cX12_odds 26 = .ok (.invokevirtual 392, 3) := by decide +kernel
theorem dX12_odds_29 : decode cX12_odds 29 = .ok (.iconst 0, 1) := by decide +kernel
theorem dX12_odds_30 : decode cX12_odds 30 = .ok (.istore 4, 2) := by decide +kernel
theorem dX12_odds_32 : decode cX12_odds 32 = .ok (.iconst 0, 1) := by decide +kernel
theorem dX12_odds_33 : decode cX12_odds 33 = .ok (.istore 5, 2) := by decide +kernel
theorem dX12_odds_35 : decode cX12_odds 35 = .ok (.iload 5, 2) := by decide +kernel
theorem dX12_odds_37 : decode cX12_odds 37 = .ok (.iload_n 2, 1) := by decide +kernel
theorem dX12_odds_38 : decode cX12_odds 38 = .ok (.if_icmp .ge 35, 3) := by decide +kernel
theorem dX12_odds_73 : decode cX12_odds 73 = .ok (.iload 4, 2) := by decide +kernel
theorem dX12_odds_75 : decode cX12_odds 75 = .ok (.ireturn, 1) := by decide +kernel
theorem dX12_odds_41 : decode cX12_odds 41 = .ok (.aload_n 0, 1) := by decide +kernel
theorem dX12_odds_42 : decode cX12_odds 42 = .ok (.bipush 20, 2) := by decide +kernel
theorem dX12_odds_44 : decode cX12_odds 44 = .ok (.iload_n 3, 1) := by decide +kernel
theorem dX12_odds_45 : decode cX12_odds 45 = .ok (.iload 5, 2) := by decide +kernel
theorem dX12_odds_47 : decode cX12_odds 47 = .ok (.iadd, 1) := by decide +kernel
theorem dX12_odds_48 : decode cX12_odds 48 = .ok (.invokevirtual 389, 3) := by decide +kernel
theorem dX12_odds_51 : decode cX12_odds 51 = .ok (.pop, 1) := by decide +kernel
theorem dX12_odds_52 : decode cX12_odds 52 = .ok (.aload_n 0, 1) := by decide +kernel
theorem dX12_odds_53 : decode cX12_odds 53 = .ok (.iload_n 1, 1) := by decide +kernel
theorem dX12_odds_54 : decode cX12_odds 54 = .ok (.invokevirtual 246, 3) := by decide +kernel
theorem dX12_odds_57 : decode cX12_odds 57 = .ok (.ifCond .eq 6, 3) := by decide +kernel
theorem dX12_odds_63 : decode cX12_odds 63 = .ok (.aload_n 0, 1) := by decide +kernel
theorem dX12_odds_64 : decode cX12_odds 64 = .ok (.invokevirtual 395, 3) := by decide +kernel
theorem dX12_odds_67 : decode cX12_odds 67 = .ok (.iinc 5 1, 3) := by decide +kernel
theorem dX12_odds_70 : decode cX12_odds 70 = .ok (.goto (-35), 3) := by decide +kernel
theorem dX12_odds_60 : decode cX12_odds 60 = .ok (.iinc 4 1, 3) := by decide +kernel
theorem dX12_odds_23 : decode cX12_odds 23 = .ok (.iconst (-1), 1) := by decide +kernel
theorem dX12_odds_24 : decode cX12_odds 24 = .ok (.ireturn, 1) := by decide +kernel
set_option maxRecDepth 100000 in
theorem ggX12_drawsLine_X12_draw : GoodIn wsX12_drawsLine wsX12_draw := goodIn_r _ [6, 7, 8, 33, 34, 35, 36, 37, 38, 39, 40, 41, 42, 43, 44, 45, 46, 47, 48, 49, 50, 51, 52, 53, 54, 55, 56, 57, 58, 59, 60, 61, 62, 63, 64, 65, 66, 67, 68, 69, 70, 71, 72, 73, 74, 75, 76, 77, 78, 79, 80, 81, 82, 83, 84] rfl (by decide +kernel)
set_option maxRecDepth 100000 in
theorem ggX12_drawsLine_X12_hasSkin : GoodIn wsX12_drawsLine wsX12_hasSkin := goodIn_r _ [12, 1, 33, 34, 35, 36, 37, 38, 39, 40, 41, 42, 43, 44, 45, 46, 47, 48, 49, 50, 51, 52, 53, 54, 55, 56, 57, 58, 59, 60, 61, 62, 63, 64, 65, 66, 67, 68, 69, 70, 71, 72, 73, 74, 75, 76, 77, 78, 79, 80, 81, 82, 83, 84] rfl (by decide +kernel)
set_option maxRecDepth 100000 in
theorem ggX12_drawsLine_X12_lineOf : GoodIn wsX12_drawsLine wsX12_lineOf := goodIn_r _ [15] rfl (by decide +kernel)
set_option maxRecDepth 100000 in
theorem ggX12_drawsLine_X12_doStir : GoodIn wsX12_drawsLine wsX12_doStir := goodIn_r _ [19, 20, 1, 21, 22, 23, 5, 24, 25, 26, 27, 28, 29, 30, 31, 32, 33, 34, 35, 36, 37, 38, 39, 40, 41, 42, 43, 44, 45, 46, 47, 48, 49, 50, 51, 52, 53, 54, 55, 56, 57, 58, 59, 60, 61, 62, 63, 64, 65, 66, 67, 68, 69, 70, 71, 72, 73, 74, 75, 76, 77, 78, 79, 80, 81, 82, 83, 84] rfl (by decide +kernel)
set_option maxRecDepth 100000 in
theorem ggX12_drawsFor_X12_draw : GoodIn wsX12_drawsFor wsX12_draw := goodIn_r _ [5, 6, 7, 56, 57, 58, 59, 60, 61, 62, 63, 64, 65, 66, 67, 68, 69, 70, 71, 72, 73, 74, 75, 76, 77, 78, 79, 80, 81, 82, 83, 84, 85, 86, 87, 88, 89, 90, 91, 92, 93, 94, 95, 96, 97, 98, 99, 100, 101, 102, 103, 104, 105, 106, 107] rfl (by decide +kernel)
set_option maxRecDepth 100000 in
theorem ggX12_drawsFor_X12_why : GoodIn wsX12_drawsFor wsX12_why := goodIn_r _ [11, 12, 13, 14, 15, 4, 16, 17, 18, 19, 20, 21, 22, 23, 24, 25, 26, 27, 28, 29, 30, 31, 32, 33, 34, 35, 56, 57, 58, 59, 60, 61, 62, 63, 64, 65, 66, 67, 68, 69, 70, 71, 72, 73, 74, 75, 76, 77, 78, 79, 80, 81, 82, 83, 84, 85, 86, 87, 88, 89, 90, 91, 92, 93, 94, 95, 96, 97, 98, 99, 100, 101, 102, 103, 104, 105, 106, 107] rfl (by decide +kernel)
set_option maxRecDepth 100000 in
theorem ggX12_drawsFor_X12_live : GoodIn wsX12_drawsFor wsX12_live := goodIn_r _ [39, 12, 40, 41, 42, 4, 43, 44, 45, 46, 47, 48, 49, 50, 51, 52, 17, 18, 19, 20, 21, 22, 23, 24, 25, 26, 27, 28, 29, 30, 31, 32, 33, 34, 35, 13, 14, 15, 16, 53, 54, 55, 56, 57, 58, 59, 60, 61, 62, 63, 64, 65, 66, 67, 68, 69, 70, 71, 72, 73, 74, 75, 76, 77, 78, 79, 80, 81, 82, 83, 84, 85, 86, 87, 88, 89, 90, 91, 92, 93, 94, 95, 96, 97, 98, 99, 100, 101, 102, 103, 104, 105, 106, 107] rfl (by decide +kernel)
set_option maxRecDepth 100000 in
theorem ggX12_drawDays_X12_least : GoodIn wsX12_drawDays wsX12_least := goodIn_r _ [6] rfl (by decide +kernel)
set_option maxRecDepth 100000 in
theorem ggX12_drawDays_X12_drawsLine : GoodIn wsX12_drawDays wsX12_drawsLine := goodIn_r _ [10, 2, 11, 12, 13, 5, 14, 1, 15, 16, 17, 18, 19, 20, 21, 22, 23, 24, 25, 26, 27, 28, 29, 30, 31, 32, 33, 34, 35, 36, 37, 38, 39, 83, 84, 85, 86, 87, 88, 89, 90, 91, 92, 93, 94, 95, 96, 97, 98, 99, 100, 101, 102, 103, 104, 105, 106, 107, 108, 109, 110, 111, 112, 113, 114, 115, 116, 117, 118, 119, 120, 121, 122, 123, 124, 125, 126, 127, 128, 129, 130, 131, 132, 133, 134] rfl (by decide +kernel)
set_option maxRecDepth 100000 in
theorem ggX12_drawDays_X12_oneDay : GoodIn wsX12_drawDays wsX12_oneDay := goodIn_r _ [70, 2, 71, 72, 73, 5, 74, 36, 37, 38, 39, 75, 76, 77, 78, 16, 17, 18, 19, 79, 80, 81, 82, 3, 4, 6, 83, 84, 85, 86, 87, 88, 89, 90, 91, 92, 93, 94, 95, 96, 97, 98, 99, 100, 101, 102, 103, 104, 105, 106, 107, 108, 109, 110, 111, 112, 113, 114, 115, 116, 117, 118, 119, 120, 121, 122, 123, 124, 125, 126, 127, 128, 129, 130, 131, 132, 133, 134] rfl (by decide +kernel)
set_option maxRecDepth 100000 in
theorem ggX12_drawDays_X12_isEaten : GoodIn wsX12_drawDays wsX12_isEaten := goodIn_r _ [39, 2, 83, 84, 85, 86, 87, 88, 89, 90, 91, 92, 93, 94, 95, 96, 97, 98, 99, 100, 101, 102, 103, 104, 105, 106, 107, 108, 109, 110, 111, 112, 113, 114, 115, 116, 117, 118, 119, 120, 121, 122, 123, 124, 125, 126, 127, 128, 129, 130, 131, 132, 133, 134] rfl (by decide +kernel)
set_option maxRecDepth 100000 in
theorem ggX12_drawDays_X12_drawsFor : GoodIn wsX12_drawDays wsX12_drawsFor := goodIn_r _ [43, 11, 12, 13, 5, 14, 1, 15, 44, 45, 46, 47, 2, 16, 17, 18, 19, 36, 37, 38, 39, 48, 49, 50, 51, 52, 53, 54, 55, 56, 57, 58, 59, 60, 61, 62, 63, 64, 65, 66, 23, 24, 25, 26, 27, 28, 29, 30, 31, 32, 33, 34, 35, 3, 4, 6, 83, 84, 85, 86, 87, 88, 89, 90, 91, 92, 93, 94, 95, 96, 97, 98, 99, 100, 101, 102, 103, 104, 105, 106, 107, 108, 109, 110, 111, 112, 113, 114, 115, 116, 117, 118, 119, 120, 121, 122, 123, 124, 125, 126, 127, 128, 129, 130, 131, 132, 133, 134] rfl (by decide +kernel)
set_option maxRecDepth 100000 in
theorem ggX12_drawn_X12_isIn : GoodIn wsX12_drawn wsX12_isIn := goodIn_r _ [6] rfl (by decide +kernel)
set_option maxRecDepth 100000 in
theorem ggX12_drawn_X12_snap : GoodIn wsX12_drawn wsX12_snap := goodIn_r _ [10, 11, 12, 2, 94, 95, 96, 97, 98, 99, 100, 101, 102, 103, 104, 105, 106, 107, 108, 109, 110, 111, 112, 113, 114, 115, 116, 117, 118, 119, 120, 121, 122, 123, 124, 125, 126, 127, 128, 129, 130, 131, 132, 133, 134, 135, 136, 137, 138, 139, 140, 141, 142, 143, 144, 145] rfl (by decide +kernel)
set_option maxRecDepth 100000 in
theorem ggX12_drawn_X12_drawDays : GoodIn wsX12_drawn wsX12_drawDays := goodIn_r _ [16, 17, 2, 18, 19, 5, 20, 21, 22, 23, 24, 25, 26, 27, 28, 29, 30, 31, 32, 33, 34, 35, 36, 37, 38, 39, 40, 41, 42, 43, 44, 45, 46, 47, 48, 49, 50, 51, 52, 53, 54, 55, 56, 57, 58, 59, 60, 61, 62, 63, 64, 65, 66, 67, 68, 69, 3, 4, 6, 70, 71, 72, 73, 74, 75, 76, 77, 78, 79, 80, 81, 82, 83, 84, 85, 86, 87, 88, 89, 90, 91, 92, 93, 94, 95, 96, 97, 98, 99, 100, 101, 102, 103, 104, 105, 106, 107, 108, 109, 110, 111, 112, 113, 114, 115, 116, 117, 118, 119, 120, 121, 122, 123, 124, 125, 126, 127, 128, 129, 130, 131, 132, 133, 134, 135, 136, 137, 138, 139, 140, 141, 142, 143, 144, 145] rfl (by decide +kernel)
set_option maxRecDepth 100000 in
theorem ggX12_odds_X12_isBoat : GoodIn wsX12_odds wsX12_isBoat := goodIn_r _ [6, 7, 8, 9, 5, 10, 101, 102, 103, 104, 105, 106, 107, 108, 109, 110, 111, 112, 113, 114, 115, 116, 117, 118, 119, 120, 121, 122, 123, 124, 125, 126, 127, 128, 129, 130, 131, 132, 133, 134, 135, 136, 137, 138, 139, 140, 141, 142, 143, 144, 145, 146, 147, 148, 149, 150, 151, 152] rfl (by decide +kernel)
set_option maxRecDepth 100000 in
theorem ggX12_odds_X12_isIn : GoodIn wsX12_odds wsX12_isIn := goodIn_r _ [10] rfl (by decide +kernel)
set_option maxRecDepth 100000 in
theorem ggX12_odds_X12_layAside : GoodIn wsX12_odds wsX12_layAside := goodIn_r _ [14, 15, 7, 101, 102, 103, 104, 105, 106, 107, 108, 109, 110, 111, 112, 113, 114, 115, 116, 117, 118, 119, 120, 121, 122, 123, 124, 125, 126, 127, 128, 129, 130, 131, 132, 133, 134, 135, 136, 137, 138, 139, 140, 141, 142, 143, 144, 145, 146, 147, 148, 149, 150, 151, 152] rfl (by decide +kernel)
set_option maxRecDepth 100000 in
theorem ggX12_odds_X12_drawDays : GoodIn wsX12_odds wsX12_drawDays := goodIn_r _ [19, 20, 7, 21, 22, 5, 23, 24, 25, 26, 27, 28, 29, 30, 31, 32, 33, 34, 35, 36, 37, 38, 39, 40, 41, 42, 43, 44, 45, 46, 47, 48, 49, 50, 51, 52, 53, 54, 55, 56, 57, 58, 59, 60, 61, 62, 63, 64, 65, 66, 67, 68, 69, 70, 71, 72, 8, 9, 10, 73, 74, 75, 76, 77, 78, 79, 80, 81, 82, 83, 84, 85, 86, 87, 88, 89, 90, 91, 92, 93, 94, 95, 96, 101, 102, 103, 104, 105, 106, 107, 108, 109, 110, 111, 112, 113, 114, 115, 116, 117, 118, 119, 120, 121, 122, 123, 124, 125, 126, 127, 128, 129, 130, 131, 132, 133, 134, 135, 136, 137, 138, 139, 140, 141, 142, 143, 144, 145, 146, 147, 148, 149, 150, 151, 152] rfl (by decide +kernel)
set_option maxRecDepth 100000 in
theorem ggX12_odds_X12_isEaten : GoodIn wsX12_odds wsX12_isEaten := goodIn_r _ [56, 7, 101, 102, 103, 104, 105, 106, 107, 108, 109, 110, 111, 112, 113, 114, 115, 116, 117, 118, 119, 120, 121, 122, 123, 124, 125, 126, 127, 128, 129, 130, 131, 132, 133, 134, 135, 136, 137, 138, 139, 140, 141, 142, 143, 144, 145, 146, 147, 148, 149, 150, 151, 152] rfl (by decide +kernel)
set_option maxRecDepth 100000 in
theorem ggX12_odds_X12_takeBack : GoodIn wsX12_odds wsX12_takeBack := goodIn_r _ [100, 7, 15, 101, 102, 103, 104, 105, 106, 107, 108, 109, 110, 111, 112, 113, 114, 115, 116, 117, 118, 119, 120, 121, 122, 123, 124, 125, 126, 127, 128, 129, 130, 131, 132, 133, 134, 135, 136, 137, 138, 139, 140, 141, 142, 143, 144, 145, 146, 147, 148, 149, 150, 151, 152] rfl (by decide +kernel)
set_option maxRecDepth 100000 in
theorem gX12_drawsLine_X12_draw : GoodIn wsX12_drawsLine (wsV RX12 380 RX12 yX12_draw wsX12_draw) := goodIn_app (goodIn_of _ (by decide +kernel)) ggX12_drawsLine_X12_draw
set_option maxRecDepth 100000 in
theorem gX12_drawsLine_X12_hasSkin : GoodIn wsX12_drawsLine (wsV RX12 240 RX12 yX12_hasSkin wsX12_hasSkin) := goodIn_app (goodIn_of _ (by decide +kernel)) ggX12_drawsLine_X12_hasSkin
set_option maxRecDepth 100000 in
theorem gX12_drawsLine_X12_lineOf : GoodIn wsX12_drawsLine (va_wsS RX12 302 yX12_lineOf wsX12_lineOf) := goodIn_app (goodIn_of _ (by decide +kernel)) ggX12_drawsLine_X12_lineOf
set_option maxRecDepth 100000 in
theorem gX12_drawsLine_X12_doStir : GoodIn wsX12_drawsLine (wsV RX12 285 RX12 yX12_doStir wsX12_doStir) := goodIn_app (goodIn_of _ (by decide +kernel)) ggX12_drawsLine_X12_doStir
set_option maxRecDepth 100000 in
theorem gX12_drawsFor_X12_draw : GoodIn wsX12_drawsFor (wsV RX12 380 RX12 yX12_draw wsX12_draw) := goodIn_app (goodIn_of _ (by decide +kernel)) ggX12_drawsFor_X12_draw
set_option maxRecDepth 100000 in
theorem gX12_drawsFor_X12_why : GoodIn wsX12_drawsFor (wsV RX12 291 RX12 yX12_why wsX12_why) := goodIn_app (goodIn_of _ (by decide +kernel)) ggX12_drawsFor_X12_why
set_option maxRecDepth 100000 in
theorem gX12_drawsFor_X12_live : GoodIn wsX12_drawsFor (wsV RX12 298 RX12 yX12_live wsX12_live) := goodIn_app (goodIn_of _ (by decide +kernel)) ggX12_drawsFor_X12_live
set_option maxRecDepth 100000 in
theorem gX12_drawDays_X12_least : GoodIn wsX12_drawDays (va_wsS RX12 288 yX12_least wsX12_least) := goodIn_app (goodIn_of _ (by decide +kernel)) ggX12_drawDays_X12_least
set_option maxRecDepth 100000 in
theorem gX12_drawDays_X12_drawsLine : GoodIn wsX12_drawDays (wsV RX12 383 RX12 yX12_drawsLine wsX12_drawsLine) := goodIn_app (goodIn_of _ (by decide +kernel)) ggX12_drawDays_X12_drawsLine
set_option maxRecDepth 100000 in
theorem gX12_drawDays_X12_oneDay : GoodIn wsX12_drawDays (wsV RX12 309 RX12 yX12_oneDay wsX12_oneDay) := goodIn_app (goodIn_of _ (by decide +kernel)) ggX12_drawDays_X12_oneDay
set_option maxRecDepth 100000 in
theorem gX12_drawDays_X12_isEaten : GoodIn wsX12_drawDays (wsV RX12 246 RX12 yX12_isEaten wsX12_isEaten) := goodIn_app (goodIn_of _ (by decide +kernel)) ggX12_drawDays_X12_isEaten
set_option maxRecDepth 100000 in
theorem gX12_drawDays_X12_drawsFor : GoodIn wsX12_drawDays (wsV RX12 386 RX12 yX12_drawsFor wsX12_drawsFor) := goodIn_app (goodIn_of _ (by decide +kernel)) ggX12_drawDays_X12_drawsFor
set_option maxRecDepth 100000 in
theorem gX12_drawn_X12_isIn : GoodIn wsX12_drawn (va_wsS RX12 75 yX12_isIn wsX12_isIn) := goodIn_app (goodIn_of _ (by decide +kernel)) ggX12_drawn_X12_isIn
set_option maxRecDepth 100000 in
theorem gX12_drawn_X12_snap : GoodIn wsX12_drawn (wsV RX12 295 RX12 yX12_snap wsX12_snap) := goodIn_app (goodIn_of _ (by decide +kernel)) ggX12_drawn_X12_snap
set_option maxRecDepth 100000 in
theorem gX12_drawn_X12_drawDays : GoodIn wsX12_drawn (wsV RX12 389 RX12 yX12_drawDays wsX12_drawDays) := goodIn_app (goodIn_of _ (by decide +kernel)) ggX12_drawn_X12_drawDays
set_option maxRecDepth 100000 in
theorem gX12_odds_X12_isBoat : GoodIn wsX12_odds (wsV RX12 260 RX12 yX12_isBoat wsX12_isBoat) := goodIn_app (goodIn_of _ (by decide +kernel)) ggX12_odds_X12_isBoat
set_option maxRecDepth 100000 in
theorem gX12_odds_X12_isIn : GoodIn wsX12_odds (va_wsS RX12 75 yX12_isIn wsX12_isIn) := goodIn_app (goodIn_of _ (by decide +kernel)) ggX12_odds_X12_isIn
set_option maxRecDepth 100000 in
theorem gX12_odds_X12_layAside : GoodIn wsX12_odds (wsV RX12 392 RX12 yX12_layAside wsX12_layAside) := goodIn_app (goodIn_of _ (by decide +kernel)) ggX12_odds_X12_layAside
set_option maxRecDepth 100000 in
theorem gX12_odds_X12_drawDays : GoodIn wsX12_odds (wsV RX12 389 RX12 yX12_drawDays wsX12_drawDays) := goodIn_app (goodIn_of _ (by decide +kernel)) ggX12_odds_X12_drawDays
set_option maxRecDepth 100000 in
theorem gX12_odds_X12_isEaten : GoodIn wsX12_odds (wsV RX12 246 RX12 yX12_isEaten wsX12_isEaten) := goodIn_app (goodIn_of _ (by decide +kernel)) ggX12_odds_X12_isEaten
set_option maxRecDepth 100000 in
theorem gX12_odds_X12_takeBack : GoodIn wsX12_odds (wsV RX12 395 RX12 yX12_takeBack wsX12_takeBack) := goodIn_app (goodIn_of _ (by decide +kernel)) ggX12_odds_X12_takeBack
set_option maxRecDepth 20000 in
theorem lf_x_drawN_1 (nq : Nat) (m5 : Nat) (hn0 : 0 < nq) (hn6 : nq ≤ 6) (h6 : m5 < 16777216) (f8 : m5 % nq < nq) : (m5 % nq) < nq := by
  try simp only [ia_lt, ia_le, ia_eq, ia_m1, ia_0, ia_1, ne_eq, true_and, and_true, false_and, and_false, or_false, false_or, or_true, true_or, not_true_eq_false, not_false_eq_true] at *
  all_goals omega
set_option maxHeartbeats 4000000 in
set_option maxRecDepth 100000 in
theorem c_x_drawN (l : Launch) (dC : Nat → ClassId) (dI : Nat → Nat → Nat) (ky : Nat → ClassId) (sz : Nat) (o : Nat) (kthrown : Int32) (ktape : Nat) (ktaped : Nat) (ksize : Nat) (klimit : Nat) (kto : Nat) (kfrom : Nat) (kkind : Int32) (knumber : Int32) (ksign : Int32) (kfault : Int32) (kplace : Int32) (kword : Int64) (ktold : Int32) (know : Nat) (kread : Nat) (kkept : Nat) (ksnaps : Nat) (kaside : Nat) (kname : Nat) (kreadName : Nat) (kkeptName : Nat) (kisKept : Nat) (konces : Nat) (ksnapMany : Nat) (khasCells : Int32) (kpoured : Nat) (kfar : Nat) (ksides : Nat) (ksideMany : Nat) (kwayDays : Int32) (khasWay : Int32) (klines : Nat) (kmet : Nat) (kmetMany : Nat) (ksunk : Nat) (ktrying : Nat) (ksunkMany : Nat) (ksending : Int32) (kfleets : Int32) (ktext : Nat) (ktexts : Nat) (kseed : Int32) (kline : Nat) (kwritten : Nat) (klineMany : Nat) (khasWritten : Int32) (knode : Nat) (knodes : Nat) (konesMany : Nat) (kwithin : Nat) (ktop : Nat) (nq : Nat) (iv_ko_0 : ktaped ≤ 940) (iv_ko_1 : ksize ≤ 940) (iv_ko_2 : klimit ≤ 900) (iv_ko_3 : kto ≤ ksize) (iv_ko_4 : kfrom ≤ 940) (iv_ko_5 : ksnapMany ≤ 8) (iv_ko_6 : ksideMany ≤ 36) (iv_ko_7 : kmetMany ≤ 3) (iv_ko_8 : ksunkMany ≤ 36) (iv_ko_9 : ktexts ≤ 64) (iv_ko_10 : klineMany ≤ 40) (iv_ko_11 : knodes ≤ 60) (iv_ko_12 : konesMany ≤ 20) (iv_ko_13 : kwithin ≤ 8) (iv_ko_14 : ktop ≤ 59) (hn0 : 0 < nq) (hn6 : nq ≤ 6) : Met l yX12_draw wsX12_draw ({ frames := 0, cells := 0, slots := 0, locals := 0 }) (PcU dC dI ky [.ref o, .int (nI nq)] [(o, .inr (12, [.int kthrown, .ref ktape, .int (nI ktaped), .int (nI ksize), .int (nI klimit), .int (nI kto), .int (nI kfrom), .int kkind, .int knumber, .int ksign, .int kfault, .int kplace, .long kword, .int ktold, .ref know, .ref kread, .ref kkept, .ref ksnaps, .ref kaside, .ref kname, .ref kreadName, .ref kkeptName, .ref kisKept, .ref konces, .int (nI ksnapMany), .int khasCells, .ref kpoured, .ref kfar, .ref ksides, .int (nI ksideMany), .int kwayDays, .int khasWay, .ref klines, .ref kmet, .int (nI kmetMany), .ref ksunk, .ref ktrying, .int (nI ksunkMany), .int ksending, .int kfleets, .ref ktext, .int (nI ktexts), .int kseed, .ref kline, .ref kwritten, .int (nI klineMany), .int khasWritten, .ref knode, .int (nI knodes), .int (nI konesMany), .int (nI kwithin), .int (nI ktop)]))] sz) (va_Qi (fun (r : Int32) (kseedG : Int32) => ∃ k9 : Nat, (k9 < nq) ∧ r = nI k9) (BU dC dI ky (fun (kseedG : Int32) => [(o, .inr (12, [.int kthrown, .ref ktape, .int (nI ktaped), .int (nI ksize), .int (nI klimit), .int (nI kto), .int (nI kfrom), .int kkind, .int knumber, .int ksign, .int kfault, .int kplace, .long kword, .int ktold, .ref know, .ref kread, .ref kkept, .ref ksnaps, .ref kaside, .ref kname, .ref kreadName, .ref kkeptName, .ref kisKept, .ref konces, .int (nI ksnapMany), .int khasCells, .ref kpoured, .ref kfar, .ref ksides, .int (nI ksideMany), .int kwayDays, .int khasWay, .ref klines, .ref kmet, .int (nI kmetMany), .ref ksunk, .ref ktrying, .int (nI ksunkMany), .int ksending, .int kfleets, .ref ktext, .int (nI ktexts), .int kseedG, .ref kline, .ref kwritten, .int (nI klineMany), .int khasWritten, .ref knode, .int (nI knodes), .int (nI konesMany), .int (nI kwithin), .int (nI ktop)]))]) (va_A [(o, .inr (12, [.int kthrown, .ref ktape, .int (nI ktaped), .int (nI ksize), .int (nI klimit), .int (nI kto), .int (nI kfrom), .int kkind, .int knumber, .int ksign, .int kfault, .int kplace, .long kword, .int ktold, .ref know, .ref kread, .ref kkept, .ref ksnaps, .ref kaside, .ref kname, .ref kreadName, .ref kkeptName, .ref kisKept, .ref konces, .int (nI ksnapMany), .int khasCells, .ref kpoured, .ref kfar, .ref ksides, .int (nI ksideMany), .int kwayDays, .int khasWay, .ref klines, .ref kmet, .int (nI kmetMany), .ref ksunk, .ref ktrying, .int (nI ksunkMany), .int ksending, .int kfleets, .ref ktext, .int (nI ktexts), .int kseed, .ref kline, .ref kwritten, .int (nI klineMany), .int khasWritten, .ref knode, .int (nI knodes), .int (nI konesMany), .int (nI kwithin), .int (nI ktop)]))] sz)) (va_A [(o, .inr (12, [.int kthrown, .ref ktape, .int (nI ktaped), .int (nI ksize), .int (nI klimit), .int (nI kto), .int (nI kfrom), .int kkind, .int knumber, .int ksign, .int kfault, .int kplace, .long kword, .int ktold, .ref know, .ref kread, .ref kkept, .ref ksnaps, .ref kaside, .ref kname, .ref kreadName, .ref kkeptName, .ref kisKept, .ref konces, .int (nI ksnapMany), .int khasCells, .ref kpoured, .ref kfar, .ref ksides, .int (nI ksideMany), .int kwayDays, .int khasWay, .ref klines, .ref kmet, .int (nI kmetMany), .ref ksunk, .ref ktrying, .int (nI ksunkMany), .int ksending, .int kfleets, .ref ktext, .int (nI ktexts), .int kseed, .ref kline, .ref kwritten, .int (nI klineMany), .int khasWritten, .ref knode, .int (nI knodes), .int (nI konesMany), .int (nI kwithin), .int (nI ktop)]))] sz)) 0 0 (va_A [(o, .inr (12, [.int kthrown, .ref ktape, .int (nI ktaped), .int (nI ksize), .int (nI klimit), .int (nI kto), .int (nI kfrom), .int kkind, .int knumber, .int ksign, .int kfault, .int kplace, .long kword, .int ktold, .ref know, .ref kread, .ref kkept, .ref ksnaps, .ref kaside, .ref kname, .ref kreadName, .ref kkeptName, .ref kisKept, .ref konces, .int (nI ksnapMany), .int khasCells, .ref kpoured, .ref kfar, .ref ksides, .int (nI ksideMany), .int kwayDays, .int khasWay, .ref klines, .ref kmet, .int (nI kmetMany), .ref ksunk, .ref ktrying, .int (nI ksunkMany), .int ksending, .int kfleets, .ref ktext, .int (nI ktexts), .int kseed, .ref kline, .ref kwritten, .int (nI klineMany), .int khasWritten, .ref knode, .int (nI knodes), .int (nI konesMany), .int (nI kwithin), .int (nI ktop)]))] sz) := by
  refine Met.ofW (cc := cX12_draw) (maxL := 2) (ret := (some .int)) (by decide) rfl ?_
  intro p e s m args below meth c s₁ B hml hv
  obtain ⟨rfl, hsz, hP, hK, hD0⟩ := hv
  have hx := B.exec
  have hb := B.bytes
  have hr := B.returns
  have hts := atoms_spec (ws := wsX12_draw) B.pre
  have hown : s.vm.findClass RX12 = some m.cls := findClass_of_methodNamed B.named
  have hlocks := B.notSynchronized
  have hin12 : ∀ w ∈ u_ws RX12 TX12 52, w ∈ wsX12_draw := by decide +kernel
  subst hsz
  have hD := hD0.self (sz := s.heap.size)
  generalize hAe : va_A [(o, .inr (12, [.int kthrown, .ref ktape, .int (nI ktaped), .int (nI ksize), .int (nI klimit), .int (nI kto), .int (nI kfrom), .int kkind, .int knumber, .int ksign, .int kfault, .int kplace, .long kword, .int ktold, .ref know, .ref kread, .ref kkept, .ref ksnaps, .ref kaside, .ref kname, .ref kreadName, .ref kkeptName, .ref kisKept, .ref konces, .int (nI ksnapMany), .int khasCells, .ref kpoured, .ref kfar, .ref ksides, .int (nI ksideMany), .int kwayDays, .int khasWay, .ref klines, .ref kmet, .int (nI kmetMany), .ref ksunk, .ref ktrying, .int (nI ksunkMany), .int ksending, .int kfleets, .ref ktext, .int (nI ktexts), .int kseed, .ref kline, .ref kwritten, .int (nI klineMany), .int khasWritten, .ref knode, .int (nI knodes), .int (nI konesMany), .int (nI kwithin), .int (nI ktop)]))] s.heap.size = A at hD ⊢
  have hA : ∀ q : Nat, s.heap.size ≤ q → A q := fun q h => by rw [← hAe]; exact Or.inr h
  have hS : va_S A s.heap s.heap [] := va_S.rf
  have hl := lv_entry ([.ref o, .int (nI nq)]) (n := 2) (Nat.le_of_ble_eq_true rfl)
  rw [lg_entry_eq]
  generalize (lg_sl ([.ref o, .int (nI nq)]) ++ List.replicate (2 - (lg_sl ([.ref o, .int (nI nq)])).length) Slot.unset).toArray = ls at hl ⊢
  have hl : lv_has ls 2 [(0, .ref o), (1, .int (nI nq))] := hl
  refine q_name (fun Q hQ => ?_)
  generalize ([.ref o, .int (nI nq)] : List Value).toArray = args at hts hQ ⊢
  refine lv_aload_n hx hb dX12_draw_0 rfl (lv_at hl 0 rfl) ?_
  refine lv_aload_n hx hb dX12_draw_1 rfl (lv_at hl 0 rfl) ?_
  refine va_get (D := (dC, dI)) (ci := 12) (v := .int kseed) (C := RX12) (T := TX12) (N := 52) hx hb hts hin12 hown hK hP 0 rfl rfl 42 (by decide) (hts (.fieldLink RX12 376 "PorridgeSeaModel" "seed" "I") (List.mem_of_getElem? (i := 1) rfl)) (fun _ h9 => h9) rfl dX12_draw_2 ?_
  refine lv_ldcw (v := nI 1103515245) hx hb hown (hts (.constant RX12 379 (nI 1103515245)) (List.mem_of_getElem? (i := 2) rfl)) dX12_draw_5 ?_
  refine lv_imul hx hb dX12_draw_8 ?_
  refine lv_topi (fun y1 e2 => ?_)
  refine lv_sipush (v := nI 12345) hx hb dX12_draw_9 (by decide) ?_
  refine lv_iadd hx hb dX12_draw_12 ?_
  refine lv_topi (fun y3 e4 => ?_)
  refine va_put (D := (dC, dI)) (ci := 12) (v := .int y3) (ty := .int) (C := RX12) (T := TX12) (N := 52) hx hb hts hin12 tyX12 tyX12_ok nmX12 hown hK hP hD hS 0 rfl rfl 42 (by decide) (hts (.fieldLink RX12 376 "PorridgeSeaModel" "seed" "I") (List.mem_of_getElem? (i := 1) rfl)) (fun _ h9 => h9) rfl (by decide +kernel) rfl rfl (Nat.le_of_ble_eq_true rfl) dX12_draw_13 (fun H locs hP hD hS => ?_)
  have hP : va_P (dC, dI) vwCl [(o, .inr (12, [.int kthrown, .ref ktape, .int (nI ktaped), .int (nI ksize), .int (nI klimit), .int (nI kto), .int (nI kfrom), .int kkind, .int knumber, .int ksign, .int kfault, .int kplace, .long kword, .int ktold, .ref know, .ref kread, .ref kkept, .ref ksnaps, .ref kaside, .ref kname, .ref kreadName, .ref kkeptName, .ref kisKept, .ref konces, .int (nI ksnapMany), .int khasCells, .ref kpoured, .ref kfar, .ref ksides, .int (nI ksideMany), .int kwayDays, .int khasWay, .ref klines, .ref kmet, .int (nI kmetMany), .ref ksunk, .ref ktrying, .int (nI ksunkMany), .int ksending, .int kfleets, .ref ktext, .int (nI ktexts), .int y3, .ref kline, .ref kwritten, .int (nI klineMany), .int khasWritten, .ref knode, .int (nI knodes), .int (nI konesMany), .int (nI kwithin), .int (nI ktop)]))] H := hP
  have hD : va_D A [(o, .inr (12, [.int kthrown, .ref ktape, .int (nI ktaped), .int (nI ksize), .int (nI klimit), .int (nI kto), .int (nI kfrom), .int kkind, .int knumber, .int ksign, .int kfault, .int kplace, .long kword, .int ktold, .ref know, .ref kread, .ref kkept, .ref ksnaps, .ref kaside, .ref kname, .ref kreadName, .ref kkeptName, .ref kisKept, .ref konces, .int (nI ksnapMany), .int khasCells, .ref kpoured, .ref kfar, .ref ksides, .int (nI ksideMany), .int kwayDays, .int khasWay, .ref klines, .ref kmet, .int (nI kmetMany), .ref ksunk, .ref ktrying, .int (nI ksunkMany), .int ksending, .int kfleets, .ref ktext, .int (nI ktexts), .int y3, .ref kline, .ref kwritten, .int (nI klineMany), .int khasWritten, .ref knode, .int (nI knodes), .int (nI konesMany), .int (nI kwithin), .int (nI ktop)]))] := hD
  refine lv_aload_n hx hb dX12_draw_16 rfl (lv_at hl 0 rfl) ?_
  refine va_get (D := (dC, dI)) (ci := 12) (v := .int y3) (C := RX12) (T := TX12) (N := 52) hx hb hts hin12 hown hK hP 0 rfl rfl 42 (by decide) (hts (.fieldLink RX12 376 "PorridgeSeaModel" "seed" "I") (List.mem_of_getElem? (i := 1) rfl)) (fun _ h9 => h9) rfl dX12_draw_17 ?_
  refine lv_bipush (v := nI 8) hx hb dX12_draw_20 (by decide) ?_
  refine lv_iushr hx hb dX12_draw_22 rfl ?_
  obtain ⟨m5, h6, e7⟩ := ush8 y3
  refine r_ti (nI m5) e7 ?_
  refine lv_iload_n hx hb dX12_draw_23 rfl (lv_at hl 1 rfl) ?_
  refine lv_irem hx hb dX12_draw_24 (nI_ne0 (by omega) (by omega)) ?_
  refine r_ti (nI (m5 % nq)) (pk_rem (by omega) (by omega) (by omega)) ?_
  have f8 : m5 % nq < nq := Nat.mod_lt _ (by omega)
  rw [hQ]
  exact W.iret (v := nI (m5 % nq)) hx hb hr (fun t9 ht9 hW9 => ⟨⟨nI (m5 % nq), y3, rfl, ⟨(m5 % nq), (lf_x_drawN_1 nq m5 hn0 hn6 h6 f8), rfl⟩, by rw [ht9]; exact hP, va_K.moved hW9.alike hK, hD⟩, hS.F ht9⟩) hS.2.2 dX12_draw_25
