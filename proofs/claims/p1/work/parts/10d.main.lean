theorem dX11_undo_0 : decode cX11_undo 0 = .ok (.aload_n 0, 1) := by decide +kernel
theorem dX11_undo_1 : decode cX11_undo 1 = .ok (.getfield 88, 3) := by decide +kernel
theorem dX11_undo_4 : decode cX11_undo 4 = .ok (.aload_n 0, 1) := by decide +kernel
theorem dX11_undo_5 : decode cX11_undo 5 = .ok (.getfield 26, 3) := by decide +kernel
theorem dX11_undo_8 : decode cX11_undo 8 = .ok (.invokevirtual 257, 3) := by decide +kernel
theorem dX11_undo_11 : decode cX11_undo 11 = .ok (.ireturn, 1) := by decide +kernel
theorem dX11_skin_0 : decode cX11_skin 0 = .ok (.aload_n 0, 1) := by decide +kernel
theorem dX11_skin_1 : decode cX11_skin 1 = .ok (.getfield 26, 3) := by decide +kernel
theorem dX11_skin_4 : decode cX11_skin 4 = .ok (.invokevirtual 177, 3) := by decide +kernel
theorem dX11_skin_7 : decode cX11_skin 7 = .ok (.ifCond .eq 5, 3) := by decide +kernel
theorem dX11_skin_12 : decode cX11_skin 12 = .ok (.aload_n 0, 1) := by decide +kernel
theorem dX11_skin_13 : decode cX11_skin 13 = .ok (.getfield 26, 3) := by decide +kernel
theorem dX11_skin_16 : decode cX11_skin 16 = .ok (.getfield 209, 3) := by decide +kernel
theorem dX11_skin_19 : decode cX11_skin 19 = .ok (.iconst 1, 1) := by decide +kernel
theorem dX11_skin_20 : decode cX11_skin 20 = .ok (.if_icmp .ge 5, 3) := by decide +kernel
theorem dX11_skin_25 : decode cX11_skin 25 = .ok (.aload_n 0, 1) := by decide +kernel
theorem dX11_skin_26 : decode cX11_skin 26 = .ok (.getfield 26, 3) := by decide +kernel
theorem dX11_skin_29 : decode cX11_skin 29 = .ok (.getfield 174, 3) := by decide +kernel
theorem dX11_skin_32 : decode cX11_skin 32 = .ok (.aload_n 0, 1) := by decide +kernel
theorem dX11_skin_33 : decode cX11_skin 33 = .ok (.getfield 26, 3) := by decide +kernel
theorem dX11_skin_36 : decode cX11_skin 36 = .ok (.getfield 212, 3) := by decide +kernel
theorem dX11_skin_39 : decode cX11_skin 39 = .ok (.isub, 1) := by decide +kernel
theorem dX11_skin_40 : decode cX11_skin 40 = .ok (.aload_n 0, 1) := by decide +kernel
theorem dX11_skin_41 : decode cX11_skin 41 = .ok (.getfield 26, 3) := by decide +kernel
theorem dX11_skin_44 : decode cX11_skin 44 = .ok (.getfield 209, 3) := by decide +kernel
theorem dX11_skin_47 : decode cX11_skin 47 = .ok (.iadd, 1) := by decide +kernel
theorem dX11_skin_48 : decode cX11_skin 48 = .ok (.iconst 1, 1) := by decide +kernel
theorem dX11_skin_49 : decode cX11_skin 49 = .ok (.isub, 1) := by decide +kernel
theorem dX11_skin_50 : decode cX11_skin 50 = .ok (.aload_n 0, 1) := by decide +kernel
theorem dX11_skin_51 : decode cX11_skin 51 = .ok (.getfield 26, 3) := by decide +kernel
theorem dX11_skin_54 : decode cX11_skin 54 = .ok (.getfield 209, 3) := by decide +kernel
theorem dX11_skin_57 : decode cX11_skin 57 = .ok (.idiv, 1) := by decide +kernel
theorem dX11_skin_58 : decode cX11_skin 58 = .ok (.istore_n 1, 1) := by decide +kernel
theorem dX11_skin_59 : decode cX11_skin 59 = .ok (.iload_n 1, 1) := by decide +kernel
theorem dX11_skin_60 : decode cX11_skin 60 = .ok (.aload_n 0, 1) := by decide +kernel
theorem dX11_skin_61 : decode cX11_skin 61 = .ok (.getfield 26, 3) := by decide +kernel
theorem dX11_skin_64 : decode cX11_skin 64 = .ok (.invokevirtual 248, 3) := by decide +kernel
theorem dX11_skin_67 : decode cX11_skin 67 = .ok (.if_icmp .gt 7, 3) := by decide +kernel
theorem dX11_skin_70 : decode cX11_skin 70 = .ok (.iload_n 1, 1) := by decide +kernel
theorem dX11_skin_71 : decode cX11_skin 71 = .ok (.goto 4, 3) := by decide +kernel
theorem dX11_skin_75 : decode cX11_skin 75 = .ok (.ireturn, 1) := by decide +kernel
theorem dX11_skin_10 : decode cX11_skin 10 = .ok (.iconst 0, 1) := by decide +kernel
theorem dX11_skin_11 : decode cX11_skin 11 = .ok (.ireturn, 1) := by decide +kernel
theorem dX11_way_0 : decode cX11_way 0 = .ok (.aload_n 0, 1) := by decide +kernel
theorem dX11_way_1 : decode cX11_way 1 = .ok (.getfield 60, 3) := by decide +kernel
theorem dX11_way_4 : decode cX11_way 4 = .ok (.aload_n 0, 1) := by decide +kernel
theorem dX11_way_5 : decode cX11_way 5 = .ok (.getfield 26, 3) := by decide +kernel
theorem dX11_way_8 : decode cX11_way 8 = .ok (.iload_n 1, 1) := by decide +kernel
theorem dX11_way_9 : decode cX11_way 9 = .ok (.iload_n 2, 1) := by decide +kernel
theorem dX11_way_10 : decode cX11_way 10 = .ok (.invokevirtual 264, 3) := by decide +kernel
theorem dX11_way_13 : decode cX11_way 13 = .ok (.ireturn, 1) := by decide +kernel
theorem dX11_wayAt_0 : decode cX11_wayAt 0 = .ok (.aload_n 0, 1) := by decide +kernel
theorem dX11_wayAt_1 : decode cX11_wayAt 1 = .ok (.getfield 60, 3) := by decide +kernel
theorem dX11_wayAt_4 : decode cX11_wayAt 4 = .ok (.iload_n 1, 1) := by decide +kernel
theorem dX11_wayAt_5 : decode cX11_wayAt 5 = .ok (.invokevirtual 267, 3) := by decide +kernel
theorem dX11_wayAt_8 : decode cX11_wayAt 8 = .ok (.ireturn, 1) := by decide +kernel
theorem dX11_wayDays_0 : decode cX11_wayDays 0 = .ok (.aload_n 0, 1) := by decide +kernel
theorem dX11_wayDays_1 : decode cX11_wayDays 1 = .ok (.getfield 60, 3) := by decide +kernel
theorem dX11_wayDays_4 : decode cX11_wayDays 4 = .ok (.getfield 270, 3) := by decide +kernel
theorem dX11_wayDays_7 : decode cX11_wayDays 7 = .ok (.ireturn, 1) := by decide +kernel
theorem dX11_meet_0 : decode cX11_meet 0 = .ok (.aload_n 0, 1) := by decide +kernel
theorem dX11_meet_1 : decode cX11_meet 1 = .ok (.getfield 67, 3) := by decide +kernel
theorem dX11_meet_4 : decode cX11_meet 4 = .ok (.aload_n 0, 1) := by decide +kernel
theorem dX11_meet_5 : decode cX11_meet 5 = .ok (.getfield 26, 3) := by decide +kernel
theorem dX11_meet_8 : decode cX11_meet 8 = .ok (.iload_n 1, 1) := by decide +kernel
theorem dX11_meet_9 : decode cX11_meet 9 = .ok (.iload_n 2, 1) := by decide +kernel
theorem dX11_meet_10 : decode cX11_meet 10 = .ok (.invokevirtual 273, 3) := by decide +kernel
theorem dX11_meet_13 : decode cX11_meet 13 = .ok (.ireturn, 1) := by decide +kernel
theorem dX11_meetAt_0 : decode cX11_meetAt 0 = .ok (.aload_n 0, 1) := by decide +kernel
theorem dX11_meetAt_1 : decode cX11_meetAt 1 = .ok (.getfield 67, 3) := by decide +kernel
theorem dX11_meetAt_4 : decode cX11_meetAt 4 = .ok (.iload_n 1, 1) := by decide +kernel
theorem dX11_meetAt_5 : decode cX11_meetAt 5 = .ok (.iload_n 2, 1) := by decide +kernel
theorem dX11_meetAt_6 : decode cX11_meetAt 6 = .ok (.invokevirtual 274, 3) := by decide +kernel
theorem dX11_meetAt_9 : decode cX11_meetAt 9 = .ok (.ireturn, 1) := by decide +kernel
theorem dX11_sunk_0 : decode cX11_sunk 0 = .ok (.aload_n 0, 1) := by decide +kernel
theorem dX11_sunk_1 : decode cX11_sunk 1 = .ok (.getfield 16, 3) := by decide +kernel
theorem dX11_sunk_4 : decode cX11_sunk 4 = .ok (.istore_n 1, 1) := by decide +kernel
theorem dX11_sunk_5 : decode cX11_sunk 5 = .ok (.aload_n 0, 1) := by decide +kernel
theorem dX11_sunk_6 : decode cX11_sunk 6 = .ok (.iconst 0, 1) := by decide +kernel
theorem dX11_sunk_7 : decode cX11_sunk 7 = .ok (.putfield 16, 3) := by decide +kernel
theorem dX11_sunk_10 : decode cX11_sunk 10 = .ok (.aload_n 0, 1) := by decide +kernel
theorem dX11_sunk_11 : decode cX11_sunk 11 = .ok (.getfield 74, 3) := by decide +kernel
theorem dX11_sunk_14 : decode cX11_sunk 14 = .ok (.aload_n 0, 1) := by decide +kernel
theorem dX11_sunk_15 : decode cX11_sunk 15 = .ok (.getfield 26, 3) := by decide +kernel
theorem dX11_sunk_18 : decode cX11_sunk 18 = .ok (.aload_n 0, 1) := by decide +kernel
theorem dX11_sunk_19 : decode cX11_sunk 19 = .ok (.getfield 10, 3) := by decide +kernel
theorem dX11_sunk_22 : decode cX11_sunk 22 = .ok (.getfield 113, 3) := by decide +kernel
theorem dX11_sunk_25 : decode cX11_sunk 25 = .ok (.iload_n 1, 1) := by decide +kernel
theorem dX11_sunk_26 : decode cX11_sunk 26 = .ok (.invokevirtual 277, 3) := by decide +kernel
theorem dX11_sunk_29 : decode cX11_sunk 29 = .ok (.ireturn, 1) := by decide +kernel
theorem dX11_sunkAt_0 : decode cX11_sunkAt 0 = .ok (.aload_n 0, 1) := by decide +kernel
theorem dX11_sunkAt_1 : decode cX11_sunkAt 1 = .ok (.getfield 74, 3) := by decide +kernel
theorem dX11_sunkAt_4 : decode cX11_sunkAt 4 = .ok (.iload_n 1, 1) := by decide +kernel
theorem dX11_sunkAt_5 : decode cX11_sunkAt 5 = .ok (.invokevirtual 281, 3) := by decide +kernel
theorem dX11_sunkAt_8 : decode cX11_sunkAt 8 = .ok (.ireturn, 1) := by decide +kernel
theorem dX11_send_0 : decode cX11_send 0 = .ok (.aload_n 0, 1) := by decide +kernel
theorem dX11_send_1 : decode cX11_send 1 = .ok (.getfield 74, 3) := by decide +kernel
theorem dX11_send_4 : decode cX11_send 4 = .ok (.getfield 284, 3) := by decide +kernel
theorem dX11_send_7 : decode cX11_send 7 = .ok (.ireturn, 1) := by decide +kernel
theorem dX11_land_0 : decode cX11_land 0 = .ok (.aload_n 0, 1) := by decide +kernel
theorem dX11_land_1 : decode cX11_land 1 = .ok (.getfield 26, 3) := by decide +kernel
theorem dX11_land_4 : decode cX11_land 4 = .ok (.iload_n 1, 1) := by decide +kernel
theorem dX11_land_5 : decode cX11_land 5 = .ok (.invokevirtual 149, 3) := by decide +kernel
theorem dX11_land_8 : decode cX11_land 8 = .ok (.ifCond .eq 14, 3) := by decide +kernel
theorem dX11_land_22 : decode cX11_land 22 = .ok (.iconst (-1), 1) := by decide +kernel
theorem dX11_land_23 : decode cX11_land 23 = .ok (.ireturn, 1) := by decide +kernel
theorem dX11_fleet_0 : decode cX11_fleet 0 = .ok (.iload_n 1, 1) := by decide +kernel
theorem dX11_fleet_1 : decode cX11_fleet 1 = .ok (.iconst 1, 1) := by decide +kernel
theorem dX11_fleet_2 : decode cX11_fleet 2 = .ok (.if_icmp .lt 9, 3) := by decide +kernel
theorem dX11_fleet_11 : decode cX11_fleet 11 = .ok (.iconst (-1), 1) := by decide +kernel
theorem dX11_fleet_12 : decode cX11_fleet 12 = .ok (.ireturn, 1) := by decide +kernel
theorem dX11_fleet_5 : decode cX11_fleet 5 = .ok (.iload_n 1, 1) := by decide +kernel
theorem dX11_fleet_6 : decode cX11_fleet 6 = .ok (.bipush 54, 2) := by decide +kernel
theorem dX11_fleet_8 : decode cX11_fleet 8 = .ok (.if_icmp .le 5, 3) := by decide +kernel
theorem dX11_fleet_13 : decode cX11_fleet 13 = .ok (.aload_n 0, 1) := by decide +kernel
theorem dX11_fleet_14 : decode cX11_fleet 14 = .ok (.getfield 26, 3) := by decide +kernel
theorem dX11_fleet_17 : decode cX11_fleet 17 = .ok (.invokevirtual 181, 3) := by decide +kernel
theorem dX11_fleet_20 : decode cX11_fleet 20 = .ok (.istore_n 2, 1) := by decide +kernel
theorem dX11_fleet_21 : decode cX11_fleet 21 = .ok (.iconst 0, 1) := by decide +kernel
theorem dX11_fleet_22 : decode cX11_fleet 22 = .ok (.istore_n 3, 1) := by decide +kernel
theorem dX11_fleet_23 : decode cX11_fleet 23 = .ok (.iconst 1, 1) := by decide +kernel
theorem dX11_fleet_24 : decode cX11_fleet 24 = .ok (.istore 4, 2) := by decide +kernel
theorem dX11_fleet_26 : decode cX11_fleet 26 = .ok (.iload 4, 2) := by decide +kernel
theorem dX11_fleet_28 : decode cX11_fleet 28 = .ok (.iconst 1, 1) := by decide +kernel
theorem dX11_fleet_29 : decode cX11_fleet 29 = .ok (.aload_n 0, 1) := by decide +kernel
theorem dX11_fleet_30 : decode cX11_fleet 30 = .ok (.getfield 26, 3) := by decide +kernel
theorem dX11_fleet_33 : decode cX11_fleet 33 = .ok (.getfield 206, 3) := by decide +kernel
theorem dX11_fleet_36 : decode cX11_fleet 36 = .ok (.ishl, 1) := by decide +kernel
theorem dX11_fleet_37 : decode cX11_fleet 37 = .ok (.if_icmp .ge 60, 3) := by decide +kernel
theorem dX11_fleet_97 : decode cX11_fleet 97 = .ok (.iload_n 3, 1) := by decide +kernel
theorem dX11_fleet_98 : decode cX11_fleet 98 = .ok (.ifCond .ne 5, 3) := by decide +kernel
theorem dX11_fleet_101 : decode cX11_fleet 101 = .ok (.iconst (-1), 1) := by decide +kernel
theorem dX11_fleet_102 : decode cX11_fleet 102 = .ok (.ireturn, 1) := by decide +kernel
theorem dX11_fleets_0 : decode cX11_fleets 0 = .ok (.aload_n 0, 1) := by decide +kernel
theorem dX11_fleets_1 : decode cX11_fleets 1 = .ok (.getfield 106, 3) := by decide +kernel
theorem dX11_fleets_4 : decode cX11_fleets 4 = .ok (.ireturn, 1) := by decide +kernel
theorem dX11_odds_0 : decode cX11_odds 0 = .ok (.aload_n 0, 1) := by decide +kernel
theorem dX11_odds_1 : decode cX11_odds 1 = .ok (.getfield 26, 3) := by decide +kernel
theorem dX11_odds_4 : decode cX11_odds 4 = .ok (.iload_n 1, 1) := by decide +kernel
theorem dX11_odds_5 : decode cX11_odds 5 = .ok (.invokevirtual 157, 3) := by decide +kernel
theorem dX11_odds_8 : decode cX11_odds 8 = .ok (.ifCond .eq 14, 3) := by decide +kernel
theorem dX11_odds_22 : decode cX11_odds 22 = .ok (.iconst (-1), 1) := by decide +kernel
theorem dX11_odds_23 : decode cX11_odds 23 = .ok (.ireturn, 1) := by decide +kernel
theorem dX11_chart_0 : decode cX11_chart 0 = .ok (.aload_n 0, 1) := by decide +kernel
theorem dX11_chart_1 : decode cX11_chart 1 = .ok (.getfield 26, 3) := by decide +kernel
theorem dX11_chart_4 : decode cX11_chart 4 = .ok (.iload_n 1, 1) := by decide +kernel
theorem dX11_chart_5 : decode cX11_chart 5 = .ok (.invokevirtual 157, 3) := by decide +kernel
theorem dX11_chart_8 : decode cX11_chart 8 = .ok (.ifCond .ne 5, 3) := by decide +kernel
theorem dX11_chart_11 : decode cX11_chart 11 = .ok (.iconst (-1), 1) := by decide +kernel
theorem dX11_chart_12 : decode cX11_chart 12 = .ok (.ireturn, 1) := by decide +kernel
theorem dX11_byteAt_0 : decode cX11_byteAt 0 = .ok (.iload_n 1, 1) := by decide +kernel
theorem dX11_byteAt_1 : decode cX11_byteAt 1 = .ok (.ifCond .lt 24, 3) := by decide +kernel
theorem dX11_byteAt_25 : decode cX11_byteAt 25 = .ok (.iconst (-1), 1) := by decide +kernel
theorem dX11_byteAt_26 : decode cX11_byteAt 26 = .ok (.ireturn, 1) := by decide +kernel
theorem dX11_byteAt_4 : decode cX11_byteAt 4 = .ok (.iload_n 1, 1) := by decide +kernel
theorem dX11_byteAt_5 : decode cX11_byteAt 5 = .ok (.aload_n 0, 1) := by decide +kernel
theorem dX11_byteAt_6 : decode cX11_byteAt 6 = .ok (.getfield 103, 3) := by decide +kernel
theorem dX11_byteAt_9 : decode cX11_byteAt 9 = .ok (.if_icmp .ge 16, 3) := by decide +kernel
theorem dX11_told_0 : decode cX11_told 0 = .ok (.aload_n 0, 1) := by decide +kernel
theorem dX11_told_1 : decode cX11_told 1 = .ok (.getfield 43, 3) := by decide +kernel
theorem dX11_told_4 : decode cX11_told 4 = .ok (.iload_n 1, 1) := by decide +kernel
theorem dX11_told_5 : decode cX11_told 5 = .ok (.invokevirtual 352, 3) := by decide +kernel
theorem dX11_told_8 : decode cX11_told 8 = .ok (.ireturn, 1) := by decide +kernel
theorem dX11_said_0 : decode cX11_said 0 = .ok (.aload_n 0, 1) := by decide +kernel
theorem dX11_said_1 : decode cX11_said 1 = .ok (.getfield 50, 3) := by decide +kernel
theorem dX11_said_4 : decode cX11_said 4 = .ok (.invokevirtual 362, 3) := by decide +kernel
theorem dX11_said_7 : decode cX11_said 7 = .ok (.ifCond .ne 5, 3) := by decide +kernel
theorem dX11_said_10 : decode cX11_said 10 = .ok (.iconst (-1), 1) := by decide +kernel
theorem dX11_said_11 : decode cX11_said 11 = .ok (.ireturn, 1) := by decide +kernel
set_option maxRecDepth 20000 in
theorem ggX11_undo_X2_takeBack : GoodIn wsX11_undo wsX2_takeBack := goodIn_r _ [7, 8, 9, 10, 11, 12, 13, 14, 15, 16, 17, 18, 19, 20, 21, 22, 23, 24, 25, 26, 27, 28, 29, 30, 31, 32, 33, 34, 35, 36, 37, 56, 57, 58, 59, 60, 61, 62, 63, 64, 65, 66, 67, 68, 69, 70, 71, 72, 73, 74, 75, 76, 77] (by decide +kernel) (by decide +kernel)
set_option maxRecDepth 20000 in
theorem ggX11_skin_X7_hasSkin : GoodIn wsX11_skin wsX7_hasSkin := goodIn_r _ [9, 10, 11, 35, 36, 37, 38, 39, 40, 41, 42, 43, 44, 45, 46, 47, 48, 49, 50, 51, 52, 53] (by decide +kernel) (by decide +kernel)
set_option maxRecDepth 20000 in
theorem ggX11_skin_X7_daysLeft : GoodIn wsX11_skin wsX7_daysLeft := goodIn_r _ [15, 16, 35, 36, 37, 38, 39, 40, 41, 42, 43, 44, 45, 46, 47, 48, 49, 50, 51, 52, 53] (by decide +kernel) (by decide +kernel)
set_option maxRecDepth 20000 in
theorem ggX11_way_X6_find : GoodIn wsX11_way wsX6_find := goodIn_r _ [7, 8, 9, 10, 11, 12, 13, 14, 15, 16, 17, 18, 19, 20, 21, 22, 23, 24, 25, 26, 27, 28, 29, 30, 31, 6, 32, 33, 34, 35, 36, 37, 38, 39, 40, 41, 42, 43, 44, 45, 46, 47, 48, 49, 50, 51, 52, 53, 54, 55, 56, 57, 58, 59, 60, 61, 62, 63, 64, 65, 66, 67, 68, 69, 70, 71, 72, 73, 74, 75, 76, 77, 78, 79, 80, 81, 82, 83, 102, 103, 104, 105, 106, 107, 108, 109, 110, 111, 112, 113, 114, 115, 116, 117, 118, 119, 120, 121, 122, 123, 124] (by decide +kernel) (by decide +kernel)
set_option maxRecDepth 20000 in
theorem ggX11_wayAt_X6_sideAt : GoodIn wsX11_wayAt wsX6_sideAt := goodIn_r _ [6, 7, 8, 27, 28, 29, 30] (by decide +kernel) (by decide +kernel)
set_option maxRecDepth 20000 in
theorem ggX11_meet_X4_find : GoodIn wsX11_meet wsX4_find := goodIn_r _ [7, 8, 9, 10, 11, 12, 13, 14, 15, 16, 17, 18, 19, 20, 21, 22, 23, 24, 25, 26, 27, 28, 29, 30, 31, 32, 33, 34, 35, 36, 6, 37, 38, 39, 40, 41, 42, 43, 44, 45, 46, 47, 48, 49, 50, 51, 52, 53, 54, 55, 56, 57, 58, 59, 60, 61, 62, 63, 82, 83, 84, 85, 86, 87, 88, 89, 90, 91, 92, 93, 94, 95, 96, 97, 98, 99, 100, 101, 102, 103] (by decide +kernel) (by decide +kernel)
set_option maxRecDepth 20000 in
theorem ggX11_meetAt_X4_stirAt : GoodIn wsX11_meetAt wsX4_stirAt := goodIn_r _ [6, 7, 8, 9, 10, 5, 11, 12, 13, 14, 33, 34, 35] (by decide +kernel) (by decide +kernel)
set_option maxRecDepth 20000 in
theorem ggX11_sunk_X10_look : GoodIn wsX11_sunk wsX10_look := goodIn_r _ [10, 11, 12, 13, 14, 9, 15, 16, 17, 18, 19, 20, 21, 22, 23, 24, 25, 26, 27, 28, 29, 30, 31, 32, 33, 34, 35, 36, 37, 38, 39, 40, 41, 42, 43, 44, 45, 46, 47, 48, 49, 50, 51, 52, 53, 54, 55, 56, 57, 58, 59, 60, 61, 62, 63, 64, 65, 66, 67, 68, 69, 70, 71, 72, 73, 103, 104, 105, 106, 107, 108, 109, 110, 111, 112, 113, 114, 115, 116, 117, 118, 119, 120, 121, 122, 123] (by decide +kernel) (by decide +kernel)
set_option maxRecDepth 20000 in
theorem ggX11_sunkAt_X10_cellAt : GoodIn wsX11_sunkAt wsX10_cellAt := goodIn_r _ [6, 7, 26, 27] (by decide +kernel) (by decide +kernel)
set_option maxRecDepth 20000 in
theorem ggX11_land_X7_isLump : GoodIn wsX11_land wsX7_isLump := goodIn_r _ [6, 7, 42, 43, 44, 45, 46, 47, 48, 49, 50, 51, 52, 53, 54, 55, 56, 57, 58, 59, 60] (by decide +kernel) (by decide +kernel)
set_option maxRecDepth 20000 in
theorem ggX11_fleet_X7_eatenBits : GoodIn wsX11_fleet wsX7_eatenBits := goodIn_r _ [8, 9, 10, 11, 12, 7, 13, 14, 15, 16, 17, 18, 49, 50, 51, 52, 53, 54, 55, 56, 57, 58, 59, 60, 61, 62, 63, 64, 65, 66, 67] (by decide +kernel) (by decide +kernel)
set_option maxRecDepth 20000 in
theorem ggX11_odds_X7_isBoat : GoodIn wsX11_odds wsX7_isBoat := goodIn_r _ [8, 9, 160, 161, 162, 163, 164, 165, 166, 167, 168, 169, 170, 171, 172, 173, 174, 175, 176, 177, 178] (by decide +kernel) (by decide +kernel)
set_option maxRecDepth 20000 in
theorem ggX11_chart_X7_isBoat : GoodIn wsX11_chart wsX7_isBoat := goodIn_r _ [10, 11, 103, 104, 105, 106, 107, 108, 109, 110, 111, 112, 113, 114, 115, 116, 117, 118, 119, 120, 121] (by decide +kernel) (by decide +kernel)
set_option maxRecDepth 20000 in
theorem ggX11_told_X0_factThen : GoodIn wsX11_told wsX0_factThen := goodIn_r _ [6, 7, 8, 9, 10, 11, 30, 31, 32, 33, 34, 35, 36] (by decide +kernel) (by decide +kernel)
set_option maxRecDepth 20000 in
theorem ggX11_said_X9_isThere : GoodIn wsX11_said wsX9_isThere := goodIn_r _ [8, 9, 115, 116, 117] (by decide +kernel) (by decide +kernel)
set_option maxRecDepth 20000 in
theorem gX11_undo_X2_takeBack : GoodIn wsX11_undo (wsV RX11 257 RX2 yX2_takeBack wsX2_takeBack) := goodIn_app (goodIn_of _ (by decide +kernel)) ggX11_undo_X2_takeBack
set_option maxRecDepth 20000 in
theorem gX11_skin_X7_hasSkin : GoodIn wsX11_skin (wsV RX11 177 RX7 yX7_hasSkin wsX7_hasSkin) := goodIn_app (goodIn_of _ (by decide +kernel)) ggX11_skin_X7_hasSkin
set_option maxRecDepth 20000 in
theorem gX11_skin_X7_daysLeft : GoodIn wsX11_skin (wsV RX11 248 RX7 yX7_daysLeft wsX7_daysLeft) := goodIn_app (goodIn_of _ (by decide +kernel)) ggX11_skin_X7_daysLeft
set_option maxRecDepth 20000 in
theorem gX11_way_X6_find : GoodIn wsX11_way (wsV RX11 264 RX6 yX6_find wsX6_find) := goodIn_app (goodIn_of _ (by decide +kernel)) ggX11_way_X6_find
set_option maxRecDepth 20000 in
theorem gX11_wayAt_X6_sideAt : GoodIn wsX11_wayAt (wsV RX11 267 RX6 yX6_sideAt wsX6_sideAt) := goodIn_app (goodIn_of _ (by decide +kernel)) ggX11_wayAt_X6_sideAt
set_option maxRecDepth 20000 in
theorem gX11_meet_X4_find : GoodIn wsX11_meet (wsV RX11 273 RX4 yX4_find wsX4_find) := goodIn_app (goodIn_of _ (by decide +kernel)) ggX11_meet_X4_find
set_option maxRecDepth 20000 in
theorem gX11_meetAt_X4_stirAt : GoodIn wsX11_meetAt (wsV RX11 274 RX4 yX4_stirAt wsX4_stirAt) := goodIn_app (goodIn_of _ (by decide +kernel)) ggX11_meetAt_X4_stirAt
set_option maxRecDepth 20000 in
theorem gX11_sunk_X10_look : GoodIn wsX11_sunk (wsV RX11 277 RX10 yX10_look wsX10_look) := goodIn_app (goodIn_of _ (by decide +kernel)) ggX11_sunk_X10_look
set_option maxRecDepth 20000 in
theorem gX11_sunkAt_X10_cellAt : GoodIn wsX11_sunkAt (wsV RX11 281 RX10 yX10_cellAt wsX10_cellAt) := goodIn_app (goodIn_of _ (by decide +kernel)) ggX11_sunkAt_X10_cellAt
set_option maxRecDepth 20000 in
theorem gX11_land_X7_isLump : GoodIn wsX11_land (wsV RX11 149 RX7 yX7_isLump wsX7_isLump) := goodIn_app (goodIn_of _ (by decide +kernel)) ggX11_land_X7_isLump
set_option maxRecDepth 20000 in
theorem gX11_fleet_X7_eatenBits : GoodIn wsX11_fleet (wsV RX11 181 RX7 yX7_eatenBits wsX7_eatenBits) := goodIn_app (goodIn_of _ (by decide +kernel)) ggX11_fleet_X7_eatenBits
set_option maxRecDepth 20000 in
theorem gX11_odds_X7_isBoat : GoodIn wsX11_odds (wsV RX11 157 RX7 yX7_isBoat wsX7_isBoat) := goodIn_app (goodIn_of _ (by decide +kernel)) ggX11_odds_X7_isBoat
set_option maxRecDepth 20000 in
theorem gX11_chart_X7_isBoat : GoodIn wsX11_chart (wsV RX11 157 RX7 yX7_isBoat wsX7_isBoat) := goodIn_app (goodIn_of _ (by decide +kernel)) ggX11_chart_X7_isBoat
set_option maxRecDepth 20000 in
theorem gX11_told_X0_factThen : GoodIn wsX11_told (wsV RX11 352 RX0 yX0_factThen wsX0_factThen) := goodIn_app (goodIn_of _ (by decide +kernel)) ggX11_told_X0_factThen
set_option maxRecDepth 20000 in
theorem gX11_said_X9_isThere : GoodIn wsX11_said (wsV RX11 362 RX9 yX9_isThere wsX9_isThere) := goodIn_app (goodIn_of _ (by decide +kernel)) ggX11_said_X9_isThere
set_option maxHeartbeats 4000000 in
set_option maxRecDepth 100000 in
theorem c_undo (l : Launch) (dC : Nat → ClassId) (dI : Nat → Nat → Nat) (ky : Nat → ClassId) (sz : Nat) (t : Nat) (reader : Nat) (sea : Nat) (spareSea : Nat) (seaText : Nat) (book : Nat) (sentence : Nat) (spareSentence : Nat) (route : Nat) (meeting : Nat) (sighting : Nat) (draws : Nat) (history : Nat) (images : Nat) (chartBytes : Nat) (hring : Nat) (hnext : Int32)  : Met l yX11_undo wsX11_undo ({ frames := 1, cells := 0, slots := 0, locals := 21 }) (PcU dC dI ky [.ref t] [(t, .inr (11, [.ref reader, .int (nI 0), .int (nI 0), .ref sea, .ref spareSea, .ref seaText, .ref book, .ref sentence, .ref spareSentence, .ref route, .ref meeting, .ref sighting, .ref draws, .ref history, .ref images, .ref chartBytes, .int (nI 0), .int (-1 : Int32)])), (history, .inr (2, [.ref hring, .int hnext, .int (nI 0)]))] sz) (va_Qi (fun (r : Int32) (_ : Unit) => r = (-1 : Int32)) (BU dC dI ky (fun (_ : Unit) => []) (va_A [(t, .inr (11, [.ref reader, .int (nI 0), .int (nI 0), .ref sea, .ref spareSea, .ref seaText, .ref book, .ref sentence, .ref spareSentence, .ref route, .ref meeting, .ref sighting, .ref draws, .ref history, .ref images, .ref chartBytes, .int (nI 0), .int (-1 : Int32)])), (history, .inr (2, [.ref hring, .int hnext, .int (nI 0)]))] sz)) (va_A [(t, .inr (11, [.ref reader, .int (nI 0), .int (nI 0), .ref sea, .ref spareSea, .ref seaText, .ref book, .ref sentence, .ref spareSentence, .ref route, .ref meeting, .ref sighting, .ref draws, .ref history, .ref images, .ref chartBytes, .int (nI 0), .int (-1 : Int32)])), (history, .inr (2, [.ref hring, .int hnext, .int (nI 0)]))] sz)) 0 0 (va_A [(t, .inr (11, [.ref reader, .int (nI 0), .int (nI 0), .ref sea, .ref spareSea, .ref seaText, .ref book, .ref sentence, .ref spareSentence, .ref route, .ref meeting, .ref sighting, .ref draws, .ref history, .ref images, .ref chartBytes, .int (nI 0), .int (-1 : Int32)])), (history, .inr (2, [.ref hring, .int hnext, .int (nI 0)]))] sz) := by
  refine Met.ofW (cc := cX11_undo) (maxL := 1) (ret := (some .int)) (by decide) rfl ?_
  intro p e s m args below meth c s₁ B hml hv
  obtain ⟨rfl, hsz, hP, hK, hD0⟩ := hv
  have hx := B.exec
  have hb := B.bytes
  have hr := B.returns
  have hts := atoms_spec (ws := wsX11_undo) B.pre
  have hown : s.vm.findClass RX11 = some m.cls := findClass_of_methodNamed B.named
  have hlocks := B.notSynchronized
  have hin11 : ∀ w ∈ u_ws RX11 TX11 18, w ∈ wsX11_undo := by decide +kernel
  subst hsz
  have hD := hD0.self (sz := s.heap.size)
  generalize hAe : va_A [(t, .inr (11, [.ref reader, .int (nI 0), .int (nI 0), .ref sea, .ref spareSea, .ref seaText, .ref book, .ref sentence, .ref spareSentence, .ref route, .ref meeting, .ref sighting, .ref draws, .ref history, .ref images, .ref chartBytes, .int (nI 0), .int (-1 : Int32)])), (history, .inr (2, [.ref hring, .int hnext, .int (nI 0)]))] s.heap.size = A at hD ⊢
  have hA : ∀ q : Nat, s.heap.size ≤ q → A q := fun q h => by rw [← hAe]; exact Or.inr h
  have hS : va_S A s.heap s.heap [] := va_S.rf
  have hP : va_P (dC, dI) vwCl [(t, .inr (11, [.ref reader, .int (nI 0), .int (nI 0), .ref sea, .ref spareSea, .ref seaText, .ref book, .ref sentence, .ref spareSentence, .ref route, .ref meeting, .ref sighting, .ref draws, .ref history, .ref images, .ref chartBytes, .int (nI 0), .int (-1 : Int32)])), (history, .inr (2, [.ref hring, .int hnext, .int (nI 0)]))] s.heap := hP
  have hl := lv_entry ([.ref t]) (n := 1) (Nat.le_of_ble_eq_true rfl)
  rw [lg_entry_eq]
  generalize (lg_sl ([.ref t]) ++ List.replicate (1 - (lg_sl ([.ref t])).length) Slot.unset).toArray = ls at hl ⊢
  have hl : lv_has ls 1 [(0, .ref t)] := hl
  have hH0 : True := trivial
  refine lv_aload_n hx hb dX11_undo_0 rfl (lv_at hl 0 rfl) ?_
  refine va_get (D := (dC, dI)) (ci := 11) (v := .ref history) (C := RX11) (T := TX11) (N := 18) hx hb hts hin11 hown hK hP 0 rfl rfl 13 (by decide) (hts (.fieldLink RX11 88 "PorridgeSea" "history" "LPorridgeSea$History;") (List.mem_of_getElem? (i := 1) rfl)) (fun _ h9 => h9) rfl dX11_undo_1 ?_
  refine lv_aload_n hx hb dX11_undo_4 rfl (lv_at hl 0 rfl) ?_
  refine va_get (D := (dC, dI)) (ci := 11) (v := .ref sea) (C := RX11) (T := TX11) (N := 18) hx hb hts hin11 hown hK hP 0 rfl rfl 3 (by decide) (hts (.fieldLink RX11 26 "PorridgeSea" "sea" "LPorridgeSea$Sea;") (List.mem_of_getElem? (i := 2) rfl)) (fun _ h9 => h9) rfl dX11_undo_5 ?_
  refine r_call_i (wr := [(t, .inr (11, [.ref reader, .int (nI 0), .int (nI 0), .ref sea, .ref spareSea, .ref seaText, .ref book, .ref sentence, .ref spareSentence, .ref route, .ref meeting, .ref sighting, .ref draws, .ref history, .ref images, .ref chartBytes, .int (nI 0), .int (-1 : Int32)]))]) (va_runV (As := [.ref sea]) (rest := []) ⟨hx, hb, hml, hown, hts⟩ (c_takeBack0 l dC dI ky s.heap.size history sea hring hnext) (cwV 1 hts gX11_undo_X2_takeBack rfl rfl rfl (by decide +kernel) ⟨(Nat.le_of_ble_eq_true rfl), (Nat.le_of_ble_eq_true rfl)⟩) (pre_UV hK hP hD [1] (by decide) rfl (ci := 2) (q0 := 1) rfl rfl) rfl rfl hl.1 rfl (lv_room (Nat.le_of_ble_eq_true rfl)) dX11_undo_8 ⟨(Nat.le_of_ble_eq_true rfl), (Nat.le_of_ble_eq_true rfl)⟩) hP hD hS hA [1] [0] rfl rfl (by decide) (by decide) (fun r3 u1 H locs p2 hP hD hS => ?_)
  try dsimp only at p2
  have p4 := p2
  refine W.widen (k := 0) (n := 0) (Nat.le_of_ble_eq_true rfl) (Nat.le_of_ble_eq_true rfl) ?_
  have hP : va_P (dC, dI) vwCl [(t, .inr (11, [.ref reader, .int (nI 0), .int (nI 0), .ref sea, .ref spareSea, .ref seaText, .ref book, .ref sentence, .ref spareSentence, .ref route, .ref meeting, .ref sighting, .ref draws, .ref history, .ref images, .ref chartBytes, .int (nI 0), .int (-1 : Int32)]))] H := hP
  have hD : va_D A [(t, .inr (11, [.ref reader, .int (nI 0), .int (nI 0), .ref sea, .ref spareSea, .ref seaText, .ref book, .ref sentence, .ref spareSentence, .ref route, .ref meeting, .ref sighting, .ref draws, .ref history, .ref images, .ref chartBytes, .int (nI 0), .int (-1 : Int32)]))] := hD
  subst p4
  have hP9 := hP.sub (ws' := []) [] rfl
  have hD9 := hD.sub (ws' := []) [] (by decide) rfl
  refine W.widen (k := 0) (n := 0) (Nat.le_of_ble_eq_true rfl) (Nat.le_of_ble_eq_true rfl) ?_
  exact W.iret (v := (-1 : Int32)) hx hb hr (fun t9 ht9 hW9 => ⟨⟨(-1 : Int32), (), rfl, rfl, by rw [ht9]; exact hP9, va_K.moved hW9.alike hK, hD9⟩, hS.F ht9⟩) hS.2.2 dX11_undo_11
set_option maxRecDepth 20000 in
theorem lf_skin_1 (t : Nat) (reader : Nat) (sea : Nat) (spareSea : Nat) (seaText : Nat) (book : Nat) (sentence : Nat) (spareSentence : Nat) (route : Nat) (meeting : Nat) (sighting : Nat) (draws : Nat) (history : Nat) (images : Nat) (chartBytes : Nat) (thickness : Nat) (lumpNames : Nat) (lumpCells : Nat) (boatNames : Nat) (boatCells : Nat) (loads : Nat) (spoons : Nat) (spoonsLeft : Nat) (depths : Nat) (r1 : Int32) (p2 : (r1 = nI 1 ∧ (nI 10).toInt ≤ (nI 3).toInt) ∨ (r1 = nI 0 ∧ (nI 3).toInt < (nI 10).toInt)) (c3 : ¬ r1 = 0) : (nI 0) = nI 7 := by
  have k_0 := ia_n 1 (by decide)
  have k_1 := ia_n 10 (by decide)
  have k_2 := ia_n 3 (by decide)
  have k_3 := ia_n 0 (by decide)
  have k_4 := ia_n 7 (by decide)
  simp only [ia_lt, ia_le, ia_eq, ia_m1, ia_0, ia_1, ne_eq, true_and, and_true, false_and, and_false, or_false, false_or, or_true, true_or, not_true_eq_false, not_false_eq_true] at *
  all_goals omega
set_option maxHeartbeats 4000000 in
set_option maxRecDepth 100000 in
theorem c_skin (l : Launch) (dC : Nat → ClassId) (dI : Nat → Nat → Nat) (ky : Nat → ClassId) (t : Nat) (reader : Nat) (sea : Nat) (spareSea : Nat) (seaText : Nat) (book : Nat) (sentence : Nat) (spareSentence : Nat) (route : Nat) (meeting : Nat) (sighting : Nat) (draws : Nat) (history : Nat) (images : Nat) (chartBytes : Nat) (thickness : Nat) (lumpNames : Nat) (lumpCells : Nat) (boatNames : Nat) (boatCells : Nat) (loads : Nat) (spoons : Nat) (spoonsLeft : Nat) (depths : Nat)  : Met l yX11_skin wsX11_skin ({ frames := 1, cells := 0, slots := 0, locals := 20 }) (PcP dC dI ky [.ref t] [(t, .inr (11, [.ref reader, .int (nI 0), .int (nI 0), .ref sea, .ref spareSea, .ref seaText, .ref book, .ref sentence, .ref spareSentence, .ref route, .ref meeting, .ref sighting, .ref draws, .ref history, .ref images, .ref chartBytes, .int (nI 0), .int (-1 : Int32)])), (sea, .inr (7, [.int (nI 4), .int (nI 4), .int (nI 10), .int (nI 1), .int (nI 3), .int (nI 0), .int (nI 0), .int (nI 0), .int (nI 0), .int (nI 0), .ref thickness, .ref lumpNames, .ref lumpCells, .ref boatNames, .ref boatCells, .ref loads, .ref spoons, .ref spoonsLeft, .ref depths]))]) (vp_Si (fun r : Int32 => r = nI 7)) 0 0 (fun _ => False) := by
  refine Met.ofW (cc := cX11_skin) (maxL := 2) (ret := (some .int)) (by decide) rfl ?_
  intro p e s m args below meth c s₁ B hml hv
  obtain ⟨rfl, hP, hK⟩ := hv
  have hx := B.exec
  have hb := B.bytes
  have hr := B.returns
  have hts := atoms_spec (ws := wsX11_skin) B.pre
  have hown : s.vm.findClass RX11 = some m.cls := findClass_of_methodNamed B.named
  have hlocks := B.notSynchronized
  have hin7 : ∀ w ∈ u_ws RX7 TX7 19, w ∈ wsX11_skin := by decide +kernel
  have hin11 : ∀ w ∈ u_ws RX11 TX11 18, w ∈ wsX11_skin := by decide +kernel
  have hl := lv_entry ([.ref t]) (n := 2) (Nat.le_of_ble_eq_true rfl)
  rw [lg_entry_eq]
  generalize (lg_sl ([.ref t]) ++ List.replicate (2 - (lg_sl ([.ref t])).length) Slot.unset).toArray = ls at hl ⊢
  have hl : lv_has ls 2 [(0, .ref t)] := hl
  refine lv_aload_n hx hb dX11_skin_0 rfl (lv_at hl 0 rfl) ?_
  refine va_get (D := (dC, dI)) (ci := 11) (v := .ref sea) (C := RX11) (T := TX11) (N := 18) hx hb hts hin11 hown hK hP 0 rfl rfl 3 (by decide) (hts (.fieldLink RX11 26 "PorridgeSea" "sea" "LPorridgeSea$Sea;") (List.mem_of_getElem? (i := 1) rfl)) (fun _ h9 => h9) rfl dX11_skin_1 ?_
  refine vp_callSi (W.runV (As := []) (rest := []) ⟨hx, hb, hml, hown, hts⟩ (c_hasSkin l dC dI ky sea (nI 4) (nI 4) (nI 10) (nI 1) (nI 3) (nI 0) (nI 0) (nI 0) (nI 0) (nI 0) thickness lumpNames lumpCells boatNames boatCells loads spoons spoonsLeft depths) (cwV 0 hts gX11_skin_X7_hasSkin rfl rfl rfl (by decide +kernel) ⟨(Nat.le_of_ble_eq_true rfl), (Nat.le_of_ble_eq_true rfl)⟩) (pre_PV hK hP [1] rfl (ci := 7) (q0 := 1) rfl rfl) rfl rfl hl.1 rfl (lv_room (Nat.le_of_ble_eq_true rfl)) dX11_skin_4 ⟨(Nat.le_of_ble_eq_true rfl), (Nat.le_of_ble_eq_true rfl)⟩) (fun r1 p2 => ?_)
  refine lv_if_eq (tgt := 12) hx hb dX11_skin_7 (by decide) (fun c3 => ?_) (fun c3 => ?_)
  · refine lv_aload_n hx hb dX11_skin_12 rfl (lv_at hl 0 rfl) ?_
    refine va_get (D := (dC, dI)) (ci := 11) (v := .ref sea) (C := RX11) (T := TX11) (N := 18) hx hb hts hin11 hown hK hP 0 rfl rfl 3 (by decide) (hts (.fieldLink RX11 26 "PorridgeSea" "sea" "LPorridgeSea$Sea;") (List.mem_of_getElem? (i := 1) rfl)) (fun _ h9 => h9) rfl dX11_skin_13 ?_
    refine va_get (D := (dC, dI)) (ci := 7) (v := .int (nI 1)) (C := RX7) (T := TX7) (N := 19) hx hb hts hin7 hown hK hP 1 rfl rfl 3 (by decide) (hts (.fieldLink RX11 209 "PorridgeSea$Sea" "cools" "I") (List.mem_of_getElem? (i := 2) rfl)) (fun _ h9 => h9) rfl dX11_skin_16 ?_
    refine lv_iconst (v := nI 1) hx hb dX11_skin_19 (by decide) ?_
    refine lv_icmp_ge (tgt := 25) hx hb dX11_skin_20 (by decide) (fun c4 => ?_) (fun c4 => absurd (by decide) c4)
    refine lv_aload_n hx hb dX11_skin_25 rfl (lv_at hl 0 rfl) ?_
    refine va_get (D := (dC, dI)) (ci := 11) (v := .ref sea) (C := RX11) (T := TX11) (N := 18) hx hb hts hin11 hown hK hP 0 rfl rfl 3 (by decide) (hts (.fieldLink RX11 26 "PorridgeSea" "sea" "LPorridgeSea$Sea;") (List.mem_of_getElem? (i := 1) rfl)) (fun _ h9 => h9) rfl dX11_skin_26 ?_
    refine va_get (D := (dC, dI)) (ci := 7) (v := .int (nI 10)) (C := RX7) (T := TX7) (N := 19) hx hb hts hin7 hown hK hP 1 rfl rfl 2 (by decide) (hts (.fieldLink RX11 174 "PorridgeSea$Sea" "heat" "I") (List.mem_of_getElem? (i := 3) rfl)) (fun _ h9 => h9) rfl dX11_skin_29 ?_
    refine lv_aload_n hx hb dX11_skin_32 rfl (lv_at hl 0 rfl) ?_
    refine va_get (D := (dC, dI)) (ci := 11) (v := .ref sea) (C := RX11) (T := TX11) (N := 18) hx hb hts hin11 hown hK hP 0 rfl rfl 3 (by decide) (hts (.fieldLink RX11 26 "PorridgeSea" "sea" "LPorridgeSea$Sea;") (List.mem_of_getElem? (i := 1) rfl)) (fun _ h9 => h9) rfl dX11_skin_33 ?_
    refine va_get (D := (dC, dI)) (ci := 7) (v := .int (nI 3)) (C := RX7) (T := TX7) (N := 19) hx hb hts hin7 hown hK hP 1 rfl rfl 4 (by decide) (hts (.fieldLink RX11 212 "PorridgeSea$Sea" "skinHeat" "I") (List.mem_of_getElem? (i := 4) rfl)) (fun _ h9 => h9) rfl dX11_skin_36 ?_
    refine lv_isub hx hb dX11_skin_39 ?_
    refine r_ti (nI 7) (by decide) ?_
    refine lv_aload_n hx hb dX11_skin_40 rfl (lv_at hl 0 rfl) ?_
    refine va_get (D := (dC, dI)) (ci := 11) (v := .ref sea) (C := RX11) (T := TX11) (N := 18) hx hb hts hin11 hown hK hP 0 rfl rfl 3 (by decide) (hts (.fieldLink RX11 26 "PorridgeSea" "sea" "LPorridgeSea$Sea;") (List.mem_of_getElem? (i := 1) rfl)) (fun _ h9 => h9) rfl dX11_skin_41 ?_
    refine va_get (D := (dC, dI)) (ci := 7) (v := .int (nI 1)) (C := RX7) (T := TX7) (N := 19) hx hb hts hin7 hown hK hP 1 rfl rfl 3 (by decide) (hts (.fieldLink RX11 209 "PorridgeSea$Sea" "cools" "I") (List.mem_of_getElem? (i := 2) rfl)) (fun _ h9 => h9) rfl dX11_skin_44 ?_
    refine lv_iadd hx hb dX11_skin_47 ?_
    refine r_ti (nI 8) (by decide) ?_
    refine lv_iconst (v := nI 1) hx hb dX11_skin_48 (by decide) ?_
    refine lv_isub hx hb dX11_skin_49 ?_
    refine r_ti (nI 7) (by decide) ?_
    refine lv_aload_n hx hb dX11_skin_50 rfl (lv_at hl 0 rfl) ?_
    refine va_get (D := (dC, dI)) (ci := 11) (v := .ref sea) (C := RX11) (T := TX11) (N := 18) hx hb hts hin11 hown hK hP 0 rfl rfl 3 (by decide) (hts (.fieldLink RX11 26 "PorridgeSea" "sea" "LPorridgeSea$Sea;") (List.mem_of_getElem? (i := 1) rfl)) (fun _ h9 => h9) rfl dX11_skin_51 ?_
    refine va_get (D := (dC, dI)) (ci := 7) (v := .int (nI 1)) (C := RX7) (T := TX7) (N := 19) hx hb hts hin7 hown hK hP 1 rfl rfl 3 (by decide) (hts (.fieldLink RX11 209 "PorridgeSea$Sea" "cools" "I") (List.mem_of_getElem? (i := 2) rfl)) (fun _ h9 => h9) rfl dX11_skin_54 ?_
    refine lv_idiv hx hb dX11_skin_57 (by decide) ?_
    refine r_ti (nI 7) (by decide) ?_
    refine lv_istore_n (lv' := [(1, .int (nI 7)), (0, .ref t)]) hx hb dX11_skin_58 rfl hl (by decide) rfl (fun ls hl => ?_)
    refine lv_iload_n hx hb dX11_skin_59 rfl (lv_at hl 0 rfl) ?_
    refine lv_aload_n hx hb dX11_skin_60 rfl (lv_at hl 1 rfl) ?_
    refine va_get (D := (dC, dI)) (ci := 11) (v := .ref sea) (C := RX11) (T := TX11) (N := 18) hx hb hts hin11 hown hK hP 0 rfl rfl 3 (by decide) (hts (.fieldLink RX11 26 "PorridgeSea" "sea" "LPorridgeSea$Sea;") (List.mem_of_getElem? (i := 1) rfl)) (fun _ h9 => h9) rfl dX11_skin_61 ?_
    refine vp_callSi (W.runV (As := []) (rest := [.int (nI 7)]) ⟨hx, hb, hml, hown, hts⟩ (c_daysLeft0 l dC dI ky sea (nI 10) (nI 1) (nI 3) (nI 0) (nI 0) thickness lumpNames lumpCells boatNames boatCells loads spoons spoonsLeft depths) (cwV 0 hts gX11_skin_X7_daysLeft rfl rfl rfl (by decide +kernel) ⟨(Nat.le_of_ble_eq_true rfl), (Nat.le_of_ble_eq_true rfl)⟩) (pre_PV hK hP [1] rfl (ci := 7) (q0 := 1) rfl rfl) rfl rfl hl.1 rfl (lv_room (Nat.le_of_ble_eq_true rfl)) dX11_skin_64 ⟨(Nat.le_of_ble_eq_true rfl), (Nat.le_of_ble_eq_true rfl)⟩) (fun r5 p6 => ?_)
    subst p6
    refine lv_icmp_gt (tgt := 74) hx hb dX11_skin_67 (by decide) (fun c7 => absurd c7 (by decide)) (fun c7 => ?_)
    refine lv_iload_n hx hb dX11_skin_70 rfl (lv_at hl 0 rfl) ?_
    refine lv_goto (tgt := 75) hx hb dX11_skin_71 (by decide) ?_
    exact W.iret (v := nI 7) hx hb hr (fun t9 ht9 hW9 => ⟨nI 7, rfl, rfl, ht9⟩) (fun _ h => absurd h List.not_mem_nil) dX11_skin_75
  · refine lv_iconst (v := nI 0) hx hb dX11_skin_10 (by decide) ?_
    exact W.iret (v := nI 0) hx hb hr (fun t9 ht9 hW9 => ⟨nI 0, rfl, (lf_skin_1 t reader sea spareSea seaText book sentence spareSentence route meeting sighting draws history images chartBytes thickness lumpNames lumpCells boatNames boatCells loads spoons spoonsLeft depths r1 p2 c3), ht9⟩) (fun _ h => absurd h List.not_mem_nil) dX11_skin_11
set_option maxHeartbeats 4000000 in
set_option maxRecDepth 100000 in
theorem c_way (l : Launch) (dC : Nat → ClassId) (dI : Nat → Nat → Nat) (ky : Nat → ClassId) (t : Nat) (reader : Nat) (sea : Nat) (spareSea : Nat) (seaText : Nat) (book : Nat) (sentence : Nat) (spareSentence : Nat) (route : Nat) (meeting : Nat) (sighting : Nat) (draws : Nat) (history : Nat) (images : Nat) (chartBytes : Nat) (thickness : Nat) (lumpNames : Nat) (lumpCells : Nat) (boatNames : Nat) (boatCells : Nat) (loads : Nat) (spoons : Nat) (spoonsLeft : Nat) (depths : Nat) (farness : Nat) (sides : Nat) (x : Int32) (y : Int32)  : Met l yX11_way wsX11_way ({ frames := 2, cells := 0, slots := 0, locals := 47 }) (PcP dC dI ky [.ref t, .int x, .int y] [(t, .inr (11, [.ref reader, .int (nI 0), .int (nI 0), .ref sea, .ref spareSea, .ref seaText, .ref book, .ref sentence, .ref spareSentence, .ref route, .ref meeting, .ref sighting, .ref draws, .ref history, .ref images, .ref chartBytes, .int (nI 0), .int (-1 : Int32)])), (sea, .inr (7, [.int (nI 4), .int (nI 4), .int (nI 10), .int (nI 1), .int (nI 3), .int (nI 0), .int (nI 0), .int (nI 0), .int (nI 0), .int (nI 0), .ref thickness, .ref lumpNames, .ref lumpCells, .ref boatNames, .ref boatCells, .ref loads, .ref spoons, .ref spoonsLeft, .ref depths])), (route, .inr (6, [.ref farness, .ref sides, .int (nI 0), .int (-1 : Int32)]))]) (vp_Si (fun r : Int32 => r = (-1 : Int32))) 0 0 (fun _ => False) := by
  refine Met.ofW (cc := cX11_way) (maxL := 3) (ret := (some .int)) (by decide) rfl ?_
  intro p e s m args below meth c s₁ B hml hv
  obtain ⟨rfl, hP, hK⟩ := hv
  have hx := B.exec
  have hb := B.bytes
  have hr := B.returns
  have hts := atoms_spec (ws := wsX11_way) B.pre
  have hown : s.vm.findClass RX11 = some m.cls := findClass_of_methodNamed B.named
  have hlocks := B.notSynchronized
  have hin11 : ∀ w ∈ u_ws RX11 TX11 18, w ∈ wsX11_way := by decide +kernel
  have hl := lv_entry ([.ref t, .int x, .int y]) (n := 3) (Nat.le_of_ble_eq_true rfl)
  rw [lg_entry_eq]
  generalize (lg_sl ([.ref t, .int x, .int y]) ++ List.replicate (3 - (lg_sl ([.ref t, .int x, .int y])).length) Slot.unset).toArray = ls at hl ⊢
  have hl : lv_has ls 3 [(0, .ref t), (1, .int x), (2, .int y)] := hl
  refine lv_aload_n hx hb dX11_way_0 rfl (lv_at hl 0 rfl) ?_
  refine va_get (D := (dC, dI)) (ci := 11) (v := .ref route) (C := RX11) (T := TX11) (N := 18) hx hb hts hin11 hown hK hP 0 rfl rfl 9 (by decide) (hts (.fieldLink RX11 60 "PorridgeSea" "route" "LPorridgeSea$Route;") (List.mem_of_getElem? (i := 1) rfl)) (fun _ h9 => h9) rfl dX11_way_1 ?_
  refine lv_aload_n hx hb dX11_way_4 rfl (lv_at hl 0 rfl) ?_
  refine va_get (D := (dC, dI)) (ci := 11) (v := .ref sea) (C := RX11) (T := TX11) (N := 18) hx hb hts hin11 hown hK hP 0 rfl rfl 3 (by decide) (hts (.fieldLink RX11 26 "PorridgeSea" "sea" "LPorridgeSea$Sea;") (List.mem_of_getElem? (i := 2) rfl)) (fun _ h9 => h9) rfl dX11_way_5 ?_
  refine lv_iload_n hx hb dX11_way_8 rfl (lv_at hl 1 rfl) ?_
  refine lv_iload_n hx hb dX11_way_9 rfl (lv_at hl 2 rfl) ?_
  refine vp_callSi (W.runV (As := [.ref sea, .int x, .int y]) (rest := []) ⟨hx, hb, hml, hown, hts⟩ (c_routeFind0 l dC dI ky route x y sea (nI 10) (nI 1) (nI 3) (nI 0) (nI 0) (nI 0) thickness lumpNames lumpCells boatNames boatCells loads spoons spoonsLeft depths) (cwV 3 hts gX11_way_X6_find rfl rfl rfl (by decide +kernel) ⟨(Nat.le_of_ble_eq_true rfl), (Nat.le_of_ble_eq_true rfl)⟩) (pre_PV hK hP [1] rfl (ci := 6) (q0 := 2) rfl rfl) rfl rfl hl.1 rfl (lv_room (Nat.le_of_ble_eq_true rfl)) dX11_way_10 ⟨(Nat.le_of_ble_eq_true rfl), (Nat.le_of_ble_eq_true rfl)⟩) (fun r1 p2 => ?_)
  subst p2
  exact W.iret (v := (-1 : Int32)) hx hb hr (fun t9 ht9 hW9 => ⟨(-1 : Int32), rfl, rfl, ht9⟩) (fun _ h => absurd h List.not_mem_nil) dX11_way_13
set_option maxHeartbeats 4000000 in
set_option maxRecDepth 100000 in
theorem c_wayAt (l : Launch) (dC : Nat → ClassId) (dI : Nat → Nat → Nat) (ky : Nat → ClassId) (t : Nat) (reader : Nat) (sea : Nat) (spareSea : Nat) (seaText : Nat) (book : Nat) (sentence : Nat) (spareSentence : Nat) (route : Nat) (meeting : Nat) (sighting : Nat) (draws : Nat) (history : Nat) (images : Nat) (chartBytes : Nat) (farness : Nat) (sides : Nat) (x : Int32)  : Met l yX11_wayAt wsX11_wayAt ({ frames := 1, cells := 0, slots := 0, locals := 21 }) (PcP dC dI ky [.ref t, .int x] [(t, .inr (11, [.ref reader, .int (nI 0), .int (nI 0), .ref sea, .ref spareSea, .ref seaText, .ref book, .ref sentence, .ref spareSentence, .ref route, .ref meeting, .ref sighting, .ref draws, .ref history, .ref images, .ref chartBytes, .int (nI 0), .int (-1 : Int32)])), (route, .inr (6, [.ref farness, .ref sides, .int (nI 0), .int (-1 : Int32)]))]) (vp_Si (fun r : Int32 => r = (-1 : Int32))) 0 0 (fun _ => False) := by
  refine Met.ofW (cc := cX11_wayAt) (maxL := 2) (ret := (some .int)) (by decide) rfl ?_
  intro p e s m args below meth c s₁ B hml hv
  obtain ⟨rfl, hP, hK⟩ := hv
  have hx := B.exec
  have hb := B.bytes
  have hr := B.returns
  have hts := atoms_spec (ws := wsX11_wayAt) B.pre
  have hown : s.vm.findClass RX11 = some m.cls := findClass_of_methodNamed B.named
  have hlocks := B.notSynchronized
  have hin11 : ∀ w ∈ u_ws RX11 TX11 18, w ∈ wsX11_wayAt := by decide +kernel
  have hl := lv_entry ([.ref t, .int x]) (n := 2) (Nat.le_of_ble_eq_true rfl)
  rw [lg_entry_eq]
  generalize (lg_sl ([.ref t, .int x]) ++ List.replicate (2 - (lg_sl ([.ref t, .int x])).length) Slot.unset).toArray = ls at hl ⊢
  have hl : lv_has ls 2 [(0, .ref t), (1, .int x)] := hl
  refine lv_aload_n hx hb dX11_wayAt_0 rfl (lv_at hl 0 rfl) ?_
  refine va_get (D := (dC, dI)) (ci := 11) (v := .ref route) (C := RX11) (T := TX11) (N := 18) hx hb hts hin11 hown hK hP 0 rfl rfl 9 (by decide) (hts (.fieldLink RX11 60 "PorridgeSea" "route" "LPorridgeSea$Route;") (List.mem_of_getElem? (i := 1) rfl)) (fun _ h9 => h9) rfl dX11_wayAt_1 ?_
  refine lv_iload_n hx hb dX11_wayAt_4 rfl (lv_at hl 1 rfl) ?_
  refine vp_callSi (W.runV (As := [.int x]) (rest := []) ⟨hx, hb, hml, hown, hts⟩ (c_sideAt0 l dC dI ky route farness sides x) (cwV 1 hts gX11_wayAt_X6_sideAt rfl rfl rfl (by decide +kernel) ⟨(Nat.le_of_ble_eq_true rfl), (Nat.le_of_ble_eq_true rfl)⟩) (pre_PV hK hP [1] rfl (ci := 6) (q0 := 1) rfl rfl) rfl rfl hl.1 rfl (lv_room (Nat.le_of_ble_eq_true rfl)) dX11_wayAt_5 ⟨(Nat.le_of_ble_eq_true rfl), (Nat.le_of_ble_eq_true rfl)⟩) (fun r1 p2 => ?_)
  subst p2
  exact W.iret (v := (-1 : Int32)) hx hb hr (fun t9 ht9 hW9 => ⟨(-1 : Int32), rfl, rfl, ht9⟩) (fun _ h => absurd h List.not_mem_nil) dX11_wayAt_8
set_option maxHeartbeats 4000000 in
set_option maxRecDepth 100000 in
theorem c_wayDays (l : Launch) (dC : Nat → ClassId) (dI : Nat → Nat → Nat) (ky : Nat → ClassId) (t : Nat) (reader : Nat) (sea : Nat) (spareSea : Nat) (seaText : Nat) (book : Nat) (sentence : Nat) (spareSentence : Nat) (route : Nat) (meeting : Nat) (sighting : Nat) (draws : Nat) (history : Nat) (images : Nat) (chartBytes : Nat) (farness : Nat) (sides : Nat)  : Met l yX11_wayDays wsX11_wayDays ({ frames := 0, cells := 0, slots := 0, locals := 0 }) (PcP dC dI ky [.ref t] [(t, .inr (11, [.ref reader, .int (nI 0), .int (nI 0), .ref sea, .ref spareSea, .ref seaText, .ref book, .ref sentence, .ref spareSentence, .ref route, .ref meeting, .ref sighting, .ref draws, .ref history, .ref images, .ref chartBytes, .int (nI 0), .int (-1 : Int32)])), (route, .inr (6, [.ref farness, .ref sides, .int (nI 0), .int (-1 : Int32)]))]) (vp_Si (fun r : Int32 => r = (-1 : Int32))) 0 0 (fun _ => False) := by
  refine Met.ofW (cc := cX11_wayDays) (maxL := 1) (ret := (some .int)) (by decide) rfl ?_
  intro p e s m args below meth c s₁ B hml hv
  obtain ⟨rfl, hP, hK⟩ := hv
  have hx := B.exec
  have hb := B.bytes
  have hr := B.returns
  have hts := atoms_spec (ws := wsX11_wayDays) B.pre
  have hown : s.vm.findClass RX11 = some m.cls := findClass_of_methodNamed B.named
  have hlocks := B.notSynchronized
  have hin6 : ∀ w ∈ u_ws RX6 TX6 4, w ∈ wsX11_wayDays := by decide +kernel
  have hin11 : ∀ w ∈ u_ws RX11 TX11 18, w ∈ wsX11_wayDays := by decide +kernel
  have hl := lv_entry ([.ref t]) (n := 1) (Nat.le_of_ble_eq_true rfl)
  rw [lg_entry_eq]
  generalize (lg_sl ([.ref t]) ++ List.replicate (1 - (lg_sl ([.ref t])).length) Slot.unset).toArray = ls at hl ⊢
  have hl : lv_has ls 1 [(0, .ref t)] := hl
  refine lv_aload_n hx hb dX11_wayDays_0 rfl (lv_at hl 0 rfl) ?_
  refine va_get (D := (dC, dI)) (ci := 11) (v := .ref route) (C := RX11) (T := TX11) (N := 18) hx hb hts hin11 hown hK hP 0 rfl rfl 9 (by decide) (hts (.fieldLink RX11 60 "PorridgeSea" "route" "LPorridgeSea$Route;") (List.mem_of_getElem? (i := 1) rfl)) (fun _ h9 => h9) rfl dX11_wayDays_1 ?_
  refine va_get (D := (dC, dI)) (ci := 6) (v := .int (-1 : Int32)) (C := RX6) (T := TX6) (N := 4) hx hb hts hin6 hown hK hP 1 rfl rfl 3 (by decide) (hts (.fieldLink RX11 270 "PorridgeSea$Route" "daysTaken" "I") (List.mem_of_getElem? (i := 2) rfl)) (fun _ h9 => h9) rfl dX11_wayDays_4 ?_
  exact W.iret (v := (-1 : Int32)) hx hb hr (fun t9 ht9 hW9 => ⟨(-1 : Int32), rfl, rfl, ht9⟩) (fun _ h => absurd h List.not_mem_nil) dX11_wayDays_7
set_option maxHeartbeats 4000000 in
set_option maxRecDepth 100000 in
theorem c_meet (l : Launch) (dC : Nat → ClassId) (dI : Nat → Nat → Nat) (ky : Nat → ClassId) (t : Nat) (reader : Nat) (sea : Nat) (spareSea : Nat) (seaText : Nat) (book : Nat) (sentence : Nat) (spareSentence : Nat) (route : Nat) (meeting : Nat) (sighting : Nat) (draws : Nat) (history : Nat) (images : Nat) (chartBytes : Nat) (thickness : Nat) (lumpNames : Nat) (lumpCells : Nat) (boatNames : Nat) (boatCells : Nat) (loads : Nat) (spoons : Nat) (spoonsLeft : Nat) (depths : Nat) (tried : Nat) (found : Nat) (x : Int32) (y : Int32)  : Met l yX11_meet wsX11_meet ({ frames := 2, cells := 0, slots := 0, locals := 45 }) (PcP dC dI ky [.ref t, .int x, .int y] [(t, .inr (11, [.ref reader, .int (nI 0), .int (nI 0), .ref sea, .ref spareSea, .ref seaText, .ref book, .ref sentence, .ref spareSentence, .ref route, .ref meeting, .ref sighting, .ref draws, .ref history, .ref images, .ref chartBytes, .int (nI 0), .int (-1 : Int32)])), (sea, .inr (7, [.int (nI 4), .int (nI 4), .int (nI 10), .int (nI 1), .int (nI 3), .int (nI 0), .int (nI 0), .int (nI 0), .int (nI 0), .int (nI 0), .ref thickness, .ref lumpNames, .ref lumpCells, .ref boatNames, .ref boatCells, .ref loads, .ref spoons, .ref spoonsLeft, .ref depths])), (meeting, .inr (4, [.ref tried, .ref found, .int (nI 0)]))]) (vp_Si (fun r : Int32 => r = (-1 : Int32))) 0 0 (fun _ => False) := by
  refine Met.ofW (cc := cX11_meet) (maxL := 3) (ret := (some .int)) (by decide) rfl ?_
  intro p e s m args below meth c s₁ B hml hv
  obtain ⟨rfl, hP, hK⟩ := hv
  have hx := B.exec
  have hb := B.bytes
  have hr := B.returns
  have hts := atoms_spec (ws := wsX11_meet) B.pre
  have hown : s.vm.findClass RX11 = some m.cls := findClass_of_methodNamed B.named
  have hlocks := B.notSynchronized
  have hin11 : ∀ w ∈ u_ws RX11 TX11 18, w ∈ wsX11_meet := by decide +kernel
  have hl := lv_entry ([.ref t, .int x, .int y]) (n := 3) (Nat.le_of_ble_eq_true rfl)
  rw [lg_entry_eq]
  generalize (lg_sl ([.ref t, .int x, .int y]) ++ List.replicate (3 - (lg_sl ([.ref t, .int x, .int y])).length) Slot.unset).toArray = ls at hl ⊢
  have hl : lv_has ls 3 [(0, .ref t), (1, .int x), (2, .int y)] := hl
  refine lv_aload_n hx hb dX11_meet_0 rfl (lv_at hl 0 rfl) ?_
  refine va_get (D := (dC, dI)) (ci := 11) (v := .ref meeting) (C := RX11) (T := TX11) (N := 18) hx hb hts hin11 hown hK hP 0 rfl rfl 10 (by decide) (hts (.fieldLink RX11 67 "PorridgeSea" "meeting" "LPorridgeSea$Meeting;") (List.mem_of_getElem? (i := 1) rfl)) (fun _ h9 => h9) rfl dX11_meet_1 ?_
  refine lv_aload_n hx hb dX11_meet_4 rfl (lv_at hl 0 rfl) ?_
  refine va_get (D := (dC, dI)) (ci := 11) (v := .ref sea) (C := RX11) (T := TX11) (N := 18) hx hb hts hin11 hown hK hP 0 rfl rfl 3 (by decide) (hts (.fieldLink RX11 26 "PorridgeSea" "sea" "LPorridgeSea$Sea;") (List.mem_of_getElem? (i := 2) rfl)) (fun _ h9 => h9) rfl dX11_meet_5 ?_
  refine lv_iload_n hx hb dX11_meet_8 rfl (lv_at hl 1 rfl) ?_
  refine lv_iload_n hx hb dX11_meet_9 rfl (lv_at hl 2 rfl) ?_
  refine vp_callSi (W.runV (As := [.ref sea, .int x, .int y]) (rest := []) ⟨hx, hb, hml, hown, hts⟩ (c_meetFind0 l dC dI ky meeting x y sea (nI 10) (nI 1) (nI 3) (nI 0) (nI 0) (nI 0) thickness lumpNames lumpCells boatNames boatCells loads spoons spoonsLeft depths) (cwV 3 hts gX11_meet_X4_find rfl rfl rfl (by decide +kernel) ⟨(Nat.le_of_ble_eq_true rfl), (Nat.le_of_ble_eq_true rfl)⟩) (pre_PV hK hP [1] rfl (ci := 4) (q0 := 2) rfl rfl) rfl rfl hl.1 rfl (lv_room (Nat.le_of_ble_eq_true rfl)) dX11_meet_10 ⟨(Nat.le_of_ble_eq_true rfl), (Nat.le_of_ble_eq_true rfl)⟩) (fun r1 p2 => ?_)
  subst p2
  exact W.iret (v := (-1 : Int32)) hx hb hr (fun t9 ht9 hW9 => ⟨(-1 : Int32), rfl, rfl, ht9⟩) (fun _ h => absurd h List.not_mem_nil) dX11_meet_13
set_option maxHeartbeats 4000000 in
set_option maxRecDepth 100000 in
theorem c_meetAt (l : Launch) (dC : Nat → ClassId) (dI : Nat → Nat → Nat) (ky : Nat → ClassId) (t : Nat) (reader : Nat) (sea : Nat) (spareSea : Nat) (seaText : Nat) (book : Nat) (sentence : Nat) (spareSentence : Nat) (route : Nat) (meeting : Nat) (sighting : Nat) (draws : Nat) (history : Nat) (images : Nat) (chartBytes : Nat) (tried : Nat) (found : Nat) (x : Int32) (y : Int32)  : Met l yX11_meetAt wsX11_meetAt ({ frames := 1, cells := 0, slots := 0, locals := 22 }) (PcP dC dI ky [.ref t, .int x, .int y] [(t, .inr (11, [.ref reader, .int (nI 0), .int (nI 0), .ref sea, .ref spareSea, .ref seaText, .ref book, .ref sentence, .ref spareSentence, .ref route, .ref meeting, .ref sighting, .ref draws, .ref history, .ref images, .ref chartBytes, .int (nI 0), .int (-1 : Int32)])), (meeting, .inr (4, [.ref tried, .ref found, .int (nI 0)]))]) (vp_Si (fun r : Int32 => r = (-1 : Int32))) 0 0 (fun _ => False) := by
  refine Met.ofW (cc := cX11_meetAt) (maxL := 3) (ret := (some .int)) (by decide) rfl ?_
  intro p e s m args below meth c s₁ B hml hv
  obtain ⟨rfl, hP, hK⟩ := hv
  have hx := B.exec
  have hb := B.bytes
  have hr := B.returns
  have hts := atoms_spec (ws := wsX11_meetAt) B.pre
  have hown : s.vm.findClass RX11 = some m.cls := findClass_of_methodNamed B.named
  have hlocks := B.notSynchronized
  have hin11 : ∀ w ∈ u_ws RX11 TX11 18, w ∈ wsX11_meetAt := by decide +kernel
  have hl := lv_entry ([.ref t, .int x, .int y]) (n := 3) (Nat.le_of_ble_eq_true rfl)
  rw [lg_entry_eq]
  generalize (lg_sl ([.ref t, .int x, .int y]) ++ List.replicate (3 - (lg_sl ([.ref t, .int x, .int y])).length) Slot.unset).toArray = ls at hl ⊢
  have hl : lv_has ls 3 [(0, .ref t), (1, .int x), (2, .int y)] := hl
  refine lv_aload_n hx hb dX11_meetAt_0 rfl (lv_at hl 0 rfl) ?_
  refine va_get (D := (dC, dI)) (ci := 11) (v := .ref meeting) (C := RX11) (T := TX11) (N := 18) hx hb hts hin11 hown hK hP 0 rfl rfl 10 (by decide) (hts (.fieldLink RX11 67 "PorridgeSea" "meeting" "LPorridgeSea$Meeting;") (List.mem_of_getElem? (i := 1) rfl)) (fun _ h9 => h9) rfl dX11_meetAt_1 ?_
  refine lv_iload_n hx hb dX11_meetAt_4 rfl (lv_at hl 1 rfl) ?_
  refine lv_iload_n hx hb dX11_meetAt_5 rfl (lv_at hl 2 rfl) ?_
  refine vp_callSi (W.runV (As := [.int x, .int y]) (rest := []) ⟨hx, hb, hml, hown, hts⟩ (c_stirAt0 l dC dI ky meeting tried found x y) (cwV 2 hts gX11_meetAt_X4_stirAt rfl rfl rfl (by decide +kernel) ⟨(Nat.le_of_ble_eq_true rfl), (Nat.le_of_ble_eq_true rfl)⟩) (pre_PV hK hP [1] rfl (ci := 4) (q0 := 1) rfl rfl) rfl rfl hl.1 rfl (lv_room (Nat.le_of_ble_eq_true rfl)) dX11_meetAt_6 ⟨(Nat.le_of_ble_eq_true rfl), (Nat.le_of_ble_eq_true rfl)⟩) (fun r1 p2 => ?_)
  subst p2
  exact W.iret (v := (-1 : Int32)) hx hb hr (fun t9 ht9 hW9 => ⟨(-1 : Int32), rfl, rfl, ht9⟩) (fun _ h => absurd h List.not_mem_nil) dX11_meetAt_9
set_option maxHeartbeats 4000000 in
set_option maxRecDepth 100000 in
theorem c_sunk (l : Launch) (dC : Nat → ClassId) (dI : Nat → Nat → Nat) (ky : Nat → ClassId) (sz : Nat) (t : Nat) (reader : Nat) (sea : Nat) (spareSea : Nat) (seaText : Nat) (book : Nat) (sentence : Nat) (spareSentence : Nat) (route : Nat) (meeting : Nat) (sighting : Nat) (draws : Nat) (history : Nat) (images : Nat) (chartBytes : Nat) (rlength : Int32) (rmostBytes : Int32) (rplace : Int32) (rkind : Int32) (rbegin : Int32) (rword : Int32) (rnumber : Int32) (rletters : Int64) (rfaultKind : Int32) (rfaultPlace : Int32) (tape : Nat)  : Met l yX11_sunk wsX11_sunk ({ frames := 2, cells := 0, slots := 0, locals := 49 }) (PcU dC dI ky [.ref t] [(t, .inr (11, [.ref reader, .int (nI 0), .int (nI 0), .ref sea, .ref spareSea, .ref seaText, .ref book, .ref sentence, .ref spareSentence, .ref route, .ref meeting, .ref sighting, .ref draws, .ref history, .ref images, .ref chartBytes, .int (nI 0), .int (-1 : Int32)])), (reader, .inr (5, [.ref tape, .int rlength, .int rmostBytes, .int rplace, .int rkind, .int rbegin, .int rword, .int rnumber, .long rletters, .int rfaultKind, .int rfaultPlace])), (sighting, .inr (10, [.long 0, .int (-1 : Int32)]))] sz) (va_Qi (fun (r : Int32) (_ : Unit) => r = (-1 : Int32)) (BU dC dI ky (fun (_ : Unit) => []) (va_A [(t, .inr (11, [.ref reader, .int (nI 0), .int (nI 0), .ref sea, .ref spareSea, .ref seaText, .ref book, .ref sentence, .ref spareSentence, .ref route, .ref meeting, .ref sighting, .ref draws, .ref history, .ref images, .ref chartBytes, .int (nI 0), .int (-1 : Int32)])), (reader, .inr (5, [.ref tape, .int rlength, .int rmostBytes, .int rplace, .int rkind, .int rbegin, .int rword, .int rnumber, .long rletters, .int rfaultKind, .int rfaultPlace])), (sighting, .inr (10, [.long 0, .int (-1 : Int32)]))] sz)) (va_A [(t, .inr (11, [.ref reader, .int (nI 0), .int (nI 0), .ref sea, .ref spareSea, .ref seaText, .ref book, .ref sentence, .ref spareSentence, .ref route, .ref meeting, .ref sighting, .ref draws, .ref history, .ref images, .ref chartBytes, .int (nI 0), .int (-1 : Int32)])), (reader, .inr (5, [.ref tape, .int rlength, .int rmostBytes, .int rplace, .int rkind, .int rbegin, .int rword, .int rnumber, .long rletters, .int rfaultKind, .int rfaultPlace])), (sighting, .inr (10, [.long 0, .int (-1 : Int32)]))] sz)) 0 0 (va_A [(t, .inr (11, [.ref reader, .int (nI 0), .int (nI 0), .ref sea, .ref spareSea, .ref seaText, .ref book, .ref sentence, .ref spareSentence, .ref route, .ref meeting, .ref sighting, .ref draws, .ref history, .ref images, .ref chartBytes, .int (nI 0), .int (-1 : Int32)])), (reader, .inr (5, [.ref tape, .int rlength, .int rmostBytes, .int rplace, .int rkind, .int rbegin, .int rword, .int rnumber, .long rletters, .int rfaultKind, .int rfaultPlace])), (sighting, .inr (10, [.long 0, .int (-1 : Int32)]))] sz) := by
  refine Met.ofW (cc := cX11_sunk) (maxL := 2) (ret := (some .int)) (by decide) rfl ?_
  intro p e s m args below meth c s₁ B hml hv
  obtain ⟨rfl, hsz, hP, hK, hD0⟩ := hv
  have hx := B.exec
  have hb := B.bytes
  have hr := B.returns
  have hts := atoms_spec (ws := wsX11_sunk) B.pre
  have hown : s.vm.findClass RX11 = some m.cls := findClass_of_methodNamed B.named
  have hlocks := B.notSynchronized
  have hin5 : ∀ w ∈ u_ws RX5 TX5 11, w ∈ wsX11_sunk := by decide +kernel
  have hin11 : ∀ w ∈ u_ws RX11 TX11 18, w ∈ wsX11_sunk := by decide +kernel
  subst hsz
  have hD := hD0.self (sz := s.heap.size)
  generalize hAe : va_A [(t, .inr (11, [.ref reader, .int (nI 0), .int (nI 0), .ref sea, .ref spareSea, .ref seaText, .ref book, .ref sentence, .ref spareSentence, .ref route, .ref meeting, .ref sighting, .ref draws, .ref history, .ref images, .ref chartBytes, .int (nI 0), .int (-1 : Int32)])), (reader, .inr (5, [.ref tape, .int rlength, .int rmostBytes, .int rplace, .int rkind, .int rbegin, .int rword, .int rnumber, .long rletters, .int rfaultKind, .int rfaultPlace])), (sighting, .inr (10, [.long 0, .int (-1 : Int32)]))] s.heap.size = A at hD ⊢
  have hA : ∀ q : Nat, s.heap.size ≤ q → A q := fun q h => by rw [← hAe]; exact Or.inr h
  have hS : va_S A s.heap s.heap [] := va_S.rf
  have hP : va_P (dC, dI) vwCl [(t, .inr (11, [.ref reader, .int (nI 0), .int (nI 0), .ref sea, .ref spareSea, .ref seaText, .ref book, .ref sentence, .ref spareSentence, .ref route, .ref meeting, .ref sighting, .ref draws, .ref history, .ref images, .ref chartBytes, .int (nI 0), .int (-1 : Int32)])), (reader, .inr (5, [.ref tape, .int rlength, .int rmostBytes, .int rplace, .int rkind, .int rbegin, .int rword, .int rnumber, .long rletters, .int rfaultKind, .int rfaultPlace])), (sighting, .inr (10, [.long 0, .int (-1 : Int32)]))] s.heap := hP
  have hl := lv_entry ([.ref t]) (n := 2) (Nat.le_of_ble_eq_true rfl)
  rw [lg_entry_eq]
  generalize (lg_sl ([.ref t]) ++ List.replicate (2 - (lg_sl ([.ref t])).length) Slot.unset).toArray = ls at hl ⊢
  have hl : lv_has ls 2 [(0, .ref t)] := hl
  have hH0 : True := trivial
  refine lv_aload_n hx hb dX11_sunk_0 rfl (lv_at hl 0 rfl) ?_
  refine va_get (D := (dC, dI)) (ci := 11) (v := .int (nI 0)) (C := RX11) (T := TX11) (N := 18) hx hb hts hin11 hown hK hP 0 rfl rfl 1 (by decide) (hts (.fieldLink RX11 16 "PorridgeSea" "tapeLength" "I") (List.mem_of_getElem? (i := 1) rfl)) (fun _ h9 => h9) rfl dX11_sunk_1 ?_
  refine lv_istore_n (lv' := [(1, .int (nI 0)), (0, .ref t)]) hx hb dX11_sunk_4 rfl hl (by decide) rfl (fun ls hl => ?_)
  refine lv_aload_n hx hb dX11_sunk_5 rfl (lv_at hl 1 rfl) ?_
  refine lv_iconst (v := nI 0) hx hb dX11_sunk_6 (by decide) ?_
  refine va_put (D := (dC, dI)) (ci := 11) (v := .int (nI 0)) (ty := .int) (C := RX11) (T := TX11) (N := 18) hx hb hts hin11 tyX11 tyX11_ok nmX11 hown hK hP hD hS 0 rfl rfl 1 (by decide) (hts (.fieldLink RX11 16 "PorridgeSea" "tapeLength" "I") (List.mem_of_getElem? (i := 1) rfl)) (fun _ h9 => h9) rfl (by decide +kernel) rfl rfl (Nat.le_of_ble_eq_true rfl) dX11_sunk_7 (fun H locs hP hD hS => ?_)
  have hP : va_P (dC, dI) vwCl [(t, .inr (11, [.ref reader, .int (nI 0), .int (nI 0), .ref sea, .ref spareSea, .ref seaText, .ref book, .ref sentence, .ref spareSentence, .ref route, .ref meeting, .ref sighting, .ref draws, .ref history, .ref images, .ref chartBytes, .int (nI 0), .int (-1 : Int32)])), (reader, .inr (5, [.ref tape, .int rlength, .int rmostBytes, .int rplace, .int rkind, .int rbegin, .int rword, .int rnumber, .long rletters, .int rfaultKind, .int rfaultPlace])), (sighting, .inr (10, [.long 0, .int (-1 : Int32)]))] H := hP
  have hD : va_D A [(t, .inr (11, [.ref reader, .int (nI 0), .int (nI 0), .ref sea, .ref spareSea, .ref seaText, .ref book, .ref sentence, .ref spareSentence, .ref route, .ref meeting, .ref sighting, .ref draws, .ref history, .ref images, .ref chartBytes, .int (nI 0), .int (-1 : Int32)])), (reader, .inr (5, [.ref tape, .int rlength, .int rmostBytes, .int rplace, .int rkind, .int rbegin, .int rword, .int rnumber, .long rletters, .int rfaultKind, .int rfaultPlace])), (sighting, .inr (10, [.long 0, .int (-1 : Int32)]))] := hD
  refine lv_aload_n hx hb dX11_sunk_10 rfl (lv_at hl 1 rfl) ?_
  refine va_get (D := (dC, dI)) (ci := 11) (v := .ref sighting) (C := RX11) (T := TX11) (N := 18) hx hb hts hin11 hown hK hP 0 rfl rfl 11 (by decide) (hts (.fieldLink RX11 74 "PorridgeSea" "sighting" "LPorridgeSea$Sighting;") (List.mem_of_getElem? (i := 2) rfl)) (fun _ h9 => h9) rfl dX11_sunk_11 ?_
  refine lv_aload_n hx hb dX11_sunk_14 rfl (lv_at hl 1 rfl) ?_
  refine va_get (D := (dC, dI)) (ci := 11) (v := .ref sea) (C := RX11) (T := TX11) (N := 18) hx hb hts hin11 hown hK hP 0 rfl rfl 3 (by decide) (hts (.fieldLink RX11 26 "PorridgeSea" "sea" "LPorridgeSea$Sea;") (List.mem_of_getElem? (i := 3) rfl)) (fun _ h9 => h9) rfl dX11_sunk_15 ?_
  refine lv_aload_n hx hb dX11_sunk_18 rfl (lv_at hl 1 rfl) ?_
  refine va_get (D := (dC, dI)) (ci := 11) (v := .ref reader) (C := RX11) (T := TX11) (N := 18) hx hb hts hin11 hown hK hP 0 rfl rfl 0 (by decide) (hts (.fieldLink RX11 10 "PorridgeSea" "reader" "LPorridgeSea$Reader;") (List.mem_of_getElem? (i := 4) rfl)) (fun _ h9 => h9) rfl dX11_sunk_19 ?_
  refine va_get (D := (dC, dI)) (ci := 5) (v := .ref tape) (C := RX5) (T := TX5) (N := 11) hx hb hts hin5 hown hK hP 1 rfl rfl 0 (by decide) (hts (.fieldLink RX11 113 "PorridgeSea$Reader" "tape" "[B") (List.mem_of_getElem? (i := 5) rfl)) (fun _ h9 => h9) rfl dX11_sunk_22 ?_
  refine lv_iload_n hx hb dX11_sunk_25 rfl (lv_at hl 0 rfl) ?_
  refine vp_callSi (W.runV (As := [.ref sea, .ref tape, .int (nI 0)]) (rest := []) ⟨hx, hb, hml, hown, hts⟩ (c_look0 l dC dI ky sighting sea tape) (cwV 3 hts gX11_sunk_X10_look rfl rfl rfl (by decide +kernel) ⟨(Nat.le_of_ble_eq_true rfl), (Nat.le_of_ble_eq_true rfl)⟩) (pre_PV hK hP [] rfl (ci := 10) (q0 := 2) rfl rfl) rfl rfl hl.1 rfl (lv_room (Nat.le_of_ble_eq_true rfl)) dX11_sunk_26 ⟨(Nat.le_of_ble_eq_true rfl), (Nat.le_of_ble_eq_true rfl)⟩) (fun r1 p2 => ?_)
  subst p2
  have hP9 := hP.sub (ws' := []) [] rfl
  have hD9 := hD.sub (ws' := []) [] (by decide) rfl
  refine W.widen (k := 0) (n := 0) (Nat.le_of_ble_eq_true rfl) (Nat.le_of_ble_eq_true rfl) ?_
  exact W.iret (v := (-1 : Int32)) hx hb hr (fun t9 ht9 hW9 => ⟨⟨(-1 : Int32), (), rfl, rfl, by rw [ht9]; exact hP9, va_K.moved hW9.alike hK, hD9⟩, hS.F ht9⟩) hS.2.2 dX11_sunk_29
set_option maxHeartbeats 4000000 in
set_option maxRecDepth 100000 in
theorem c_sunkAt (l : Launch) (dC : Nat → ClassId) (dI : Nat → Nat → Nat) (ky : Nat → ClassId) (t : Nat) (reader : Nat) (sea : Nat) (spareSea : Nat) (seaText : Nat) (book : Nat) (sentence : Nat) (spareSentence : Nat) (route : Nat) (meeting : Nat) (sighting : Nat) (draws : Nat) (history : Nat) (images : Nat) (chartBytes : Nat) (x : Int32)  : Met l yX11_sunkAt wsX11_sunkAt ({ frames := 1, cells := 0, slots := 0, locals := 23 }) (PcP dC dI ky [.ref t, .int x] [(t, .inr (11, [.ref reader, .int (nI 0), .int (nI 0), .ref sea, .ref spareSea, .ref seaText, .ref book, .ref sentence, .ref spareSentence, .ref route, .ref meeting, .ref sighting, .ref draws, .ref history, .ref images, .ref chartBytes, .int (nI 0), .int (-1 : Int32)])), (sighting, .inr (10, [.long 0, .int (-1 : Int32)]))]) (vp_Si (fun r : Int32 => r = (-1 : Int32))) 0 0 (fun _ => False) := by
  refine Met.ofW (cc := cX11_sunkAt) (maxL := 2) (ret := (some .int)) (by decide) rfl ?_
  intro p e s m args below meth c s₁ B hml hv
  obtain ⟨rfl, hP, hK⟩ := hv
  have hx := B.exec
  have hb := B.bytes
  have hr := B.returns
  have hts := atoms_spec (ws := wsX11_sunkAt) B.pre
  have hown : s.vm.findClass RX11 = some m.cls := findClass_of_methodNamed B.named
  have hlocks := B.notSynchronized
  have hin11 : ∀ w ∈ u_ws RX11 TX11 18, w ∈ wsX11_sunkAt := by decide +kernel
  have hl := lv_entry ([.ref t, .int x]) (n := 2) (Nat.le_of_ble_eq_true rfl)
  rw [lg_entry_eq]
  generalize (lg_sl ([.ref t, .int x]) ++ List.replicate (2 - (lg_sl ([.ref t, .int x])).length) Slot.unset).toArray = ls at hl ⊢
  have hl : lv_has ls 2 [(0, .ref t), (1, .int x)] := hl
  refine lv_aload_n hx hb dX11_sunkAt_0 rfl (lv_at hl 0 rfl) ?_
  refine va_get (D := (dC, dI)) (ci := 11) (v := .ref sighting) (C := RX11) (T := TX11) (N := 18) hx hb hts hin11 hown hK hP 0 rfl rfl 11 (by decide) (hts (.fieldLink RX11 74 "PorridgeSea" "sighting" "LPorridgeSea$Sighting;") (List.mem_of_getElem? (i := 1) rfl)) (fun _ h9 => h9) rfl dX11_sunkAt_1 ?_
  refine lv_iload_n hx hb dX11_sunkAt_4 rfl (lv_at hl 1 rfl) ?_
  refine vp_callSi (W.runV (As := [.int x]) (rest := []) ⟨hx, hb, hml, hown, hts⟩ (c_cellAt0 l dC dI ky sighting x) (cwV 1 hts gX11_sunkAt_X10_cellAt rfl rfl rfl (by decide +kernel) ⟨(Nat.le_of_ble_eq_true rfl), (Nat.le_of_ble_eq_true rfl)⟩) (pre_PV hK hP [1] rfl (ci := 10) (q0 := 1) rfl rfl) rfl rfl hl.1 rfl (lv_room (Nat.le_of_ble_eq_true rfl)) dX11_sunkAt_5 ⟨(Nat.le_of_ble_eq_true rfl), (Nat.le_of_ble_eq_true rfl)⟩) (fun r1 p2 => ?_)
  subst p2
  exact W.iret (v := (-1 : Int32)) hx hb hr (fun t9 ht9 hW9 => ⟨(-1 : Int32), rfl, rfl, ht9⟩) (fun _ h => absurd h List.not_mem_nil) dX11_sunkAt_8
set_option maxHeartbeats 4000000 in
set_option maxRecDepth 100000 in
theorem c_send (l : Launch) (dC : Nat → ClassId) (dI : Nat → Nat → Nat) (ky : Nat → ClassId) (t : Nat) (reader : Nat) (sea : Nat) (spareSea : Nat) (seaText : Nat) (book : Nat) (sentence : Nat) (spareSentence : Nat) (route : Nat) (meeting : Nat) (sighting : Nat) (draws : Nat) (history : Nat) (images : Nat) (chartBytes : Nat)  : Met l yX11_send wsX11_send ({ frames := 0, cells := 0, slots := 0, locals := 0 }) (PcP dC dI ky [.ref t] [(t, .inr (11, [.ref reader, .int (nI 0), .int (nI 0), .ref sea, .ref spareSea, .ref seaText, .ref book, .ref sentence, .ref spareSentence, .ref route, .ref meeting, .ref sighting, .ref draws, .ref history, .ref images, .ref chartBytes, .int (nI 0), .int (-1 : Int32)])), (sighting, .inr (10, [.long 0, .int (-1 : Int32)]))]) (vp_Si (fun r : Int32 => r = (-1 : Int32))) 0 0 (fun _ => False) := by
  refine Met.ofW (cc := cX11_send) (maxL := 1) (ret := (some .int)) (by decide) rfl ?_
  intro p e s m args below meth c s₁ B hml hv
  obtain ⟨rfl, hP, hK⟩ := hv
  have hx := B.exec
  have hb := B.bytes
  have hr := B.returns
  have hts := atoms_spec (ws := wsX11_send) B.pre
  have hown : s.vm.findClass RX11 = some m.cls := findClass_of_methodNamed B.named
  have hlocks := B.notSynchronized
  have hin10 : ∀ w ∈ u_ws RX10 TX10 2, w ∈ wsX11_send := by decide +kernel
  have hin11 : ∀ w ∈ u_ws RX11 TX11 18, w ∈ wsX11_send := by decide +kernel
  have hl := lv_entry ([.ref t]) (n := 1) (Nat.le_of_ble_eq_true rfl)
  rw [lg_entry_eq]
  generalize (lg_sl ([.ref t]) ++ List.replicate (1 - (lg_sl ([.ref t])).length) Slot.unset).toArray = ls at hl ⊢
  have hl : lv_has ls 1 [(0, .ref t)] := hl
  refine lv_aload_n hx hb dX11_send_0 rfl (lv_at hl 0 rfl) ?_
  refine va_get (D := (dC, dI)) (ci := 11) (v := .ref sighting) (C := RX11) (T := TX11) (N := 18) hx hb hts hin11 hown hK hP 0 rfl rfl 11 (by decide) (hts (.fieldLink RX11 74 "PorridgeSea" "sighting" "LPorridgeSea$Sighting;") (List.mem_of_getElem? (i := 1) rfl)) (fun _ h9 => h9) rfl dX11_send_1 ?_
  refine va_get (D := (dC, dI)) (ci := 10) (v := .int (-1 : Int32)) (C := RX10) (T := TX10) (N := 2) hx hb hts hin10 hown hK hP 1 rfl rfl 1 (by decide) (hts (.fieldLink RX11 284 "PorridgeSea$Sighting" "bestBoat" "I") (List.mem_of_getElem? (i := 2) rfl)) (fun _ h9 => h9) rfl dX11_send_4 ?_
  exact W.iret (v := (-1 : Int32)) hx hb hr (fun t9 ht9 hW9 => ⟨(-1 : Int32), rfl, rfl, ht9⟩) (fun _ h => absurd h List.not_mem_nil) dX11_send_7
set_option maxHeartbeats 4000000 in
set_option maxRecDepth 100000 in
theorem c_land (l : Launch) (dC : Nat → ClassId) (dI : Nat → Nat → Nat) (ky : Nat → ClassId) (t : Nat) (reader : Nat) (sea : Nat) (spareSea : Nat) (seaText : Nat) (book : Nat) (sentence : Nat) (spareSentence : Nat) (route : Nat) (meeting : Nat) (sighting : Nat) (draws : Nat) (history : Nat) (images : Nat) (chartBytes : Nat) (thickness : Nat) (lumpNames : Nat) (lumpCells : Nat) (boatNames : Nat) (boatCells : Nat) (loads : Nat) (spoons : Nat) (spoonsLeft : Nat) (depths : Nat) (x : Int32)  : Met l yX11_land wsX11_land ({ frames := 1, cells := 0, slots := 0, locals := 21 }) (PcP dC dI ky [.ref t, .int x] [(t, .inr (11, [.ref reader, .int (nI 0), .int (nI 0), .ref sea, .ref spareSea, .ref seaText, .ref book, .ref sentence, .ref spareSentence, .ref route, .ref meeting, .ref sighting, .ref draws, .ref history, .ref images, .ref chartBytes, .int (nI 0), .int (-1 : Int32)])), (sea, .inr (7, [.int (nI 4), .int (nI 4), .int (nI 10), .int (nI 1), .int (nI 3), .int (nI 0), .int (nI 0), .int (nI 0), .int (nI 0), .int (nI 0), .ref thickness, .ref lumpNames, .ref lumpCells, .ref boatNames, .ref boatCells, .ref loads, .ref spoons, .ref spoonsLeft, .ref depths]))]) (vp_Si (fun r : Int32 => r = (-1 : Int32))) 0 0 (fun _ => False) := by
  refine Met.ofW (cc := cX11_land) (maxL := 2) (ret := (some .int)) (by decide) rfl ?_
  intro p e s m args below meth c s₁ B hml hv
  obtain ⟨rfl, hP, hK⟩ := hv
  have hx := B.exec
  have hb := B.bytes
  have hr := B.returns
  have hts := atoms_spec (ws := wsX11_land) B.pre
  have hown : s.vm.findClass RX11 = some m.cls := findClass_of_methodNamed B.named
  have hlocks := B.notSynchronized
  have hin11 : ∀ w ∈ u_ws RX11 TX11 18, w ∈ wsX11_land := by decide +kernel
  have hl := lv_entry ([.ref t, .int x]) (n := 2) (Nat.le_of_ble_eq_true rfl)
  rw [lg_entry_eq]
  generalize (lg_sl ([.ref t, .int x]) ++ List.replicate (2 - (lg_sl ([.ref t, .int x])).length) Slot.unset).toArray = ls at hl ⊢
  have hl : lv_has ls 2 [(0, .ref t), (1, .int x)] := hl
  refine lv_aload_n hx hb dX11_land_0 rfl (lv_at hl 0 rfl) ?_
  refine va_get (D := (dC, dI)) (ci := 11) (v := .ref sea) (C := RX11) (T := TX11) (N := 18) hx hb hts hin11 hown hK hP 0 rfl rfl 3 (by decide) (hts (.fieldLink RX11 26 "PorridgeSea" "sea" "LPorridgeSea$Sea;") (List.mem_of_getElem? (i := 1) rfl)) (fun _ h9 => h9) rfl dX11_land_1 ?_
  refine lv_iload_n hx hb dX11_land_4 rfl (lv_at hl 1 rfl) ?_
  refine vp_callSi (W.runV (As := [.int x]) (rest := []) ⟨hx, hb, hml, hown, hts⟩ (c_isLump0 l dC dI ky sea (nI 10) (nI 1) (nI 3) (nI 0) (nI 0) (nI 0) thickness lumpNames lumpCells boatNames boatCells loads spoons spoonsLeft depths x) (cwV 1 hts gX11_land_X7_isLump rfl rfl rfl (by decide +kernel) ⟨(Nat.le_of_ble_eq_true rfl), (Nat.le_of_ble_eq_true rfl)⟩) (pre_PV hK hP [1] rfl (ci := 7) (q0 := 1) rfl rfl) rfl rfl hl.1 rfl (lv_room (Nat.le_of_ble_eq_true rfl)) dX11_land_5 ⟨(Nat.le_of_ble_eq_true rfl), (Nat.le_of_ble_eq_true rfl)⟩) (fun r1 p2 => ?_)
  subst p2
  refine lv_if_eq (tgt := 22) hx hb dX11_land_8 (by decide) (fun c3 => ?_) (fun c3 => absurd (by decide) c3)
  refine lv_iconst (v := (-1 : Int32)) hx hb dX11_land_22 (by decide) ?_
  exact W.iret (v := (-1 : Int32)) hx hb hr (fun t9 ht9 hW9 => ⟨(-1 : Int32), rfl, rfl, ht9⟩) (fun _ h => absurd h List.not_mem_nil) dX11_land_23
set_option maxHeartbeats 4000000 in
set_option maxRecDepth 100000 in
theorem c_fleet (l : Launch) (dC : Nat → ClassId) (dI : Nat → Nat → Nat) (ky : Nat → ClassId) (t : Nat) (reader : Nat) (sea : Nat) (spareSea : Nat) (seaText : Nat) (book : Nat) (sentence : Nat) (spareSentence : Nat) (route : Nat) (meeting : Nat) (sighting : Nat) (draws : Nat) (history : Nat) (images : Nat) (chartBytes : Nat) (thickness : Nat) (lumpNames : Nat) (lumpCells : Nat) (boatNames : Nat) (boatCells : Nat) (loads : Nat) (spoons : Nat) (spoonsLeft : Nat) (depths : Nat) (x : Int32)  : Met l yX11_fleet wsX11_fleet ({ frames := 1, cells := 0, slots := 0, locals := 22 }) (PcP dC dI ky [.ref t, .int x] [(t, .inr (11, [.ref reader, .int (nI 0), .int (nI 0), .ref sea, .ref spareSea, .ref seaText, .ref book, .ref sentence, .ref spareSentence, .ref route, .ref meeting, .ref sighting, .ref draws, .ref history, .ref images, .ref chartBytes, .int (nI 0), .int (-1 : Int32)])), (sea, .inr (7, [.int (nI 4), .int (nI 4), .int (nI 10), .int (nI 1), .int (nI 3), .int (nI 0), .int (nI 0), .int (nI 0), .int (nI 0), .int (nI 0), .ref thickness, .ref lumpNames, .ref lumpCells, .ref boatNames, .ref boatCells, .ref loads, .ref spoons, .ref spoonsLeft, .ref depths]))]) (vp_Si (fun r : Int32 => r = (-1 : Int32))) 0 0 (fun _ => False) := by
  refine Met.ofW (cc := cX11_fleet) (maxL := 6) (ret := (some .int)) (by decide) rfl ?_
  intro p e s m args below meth c s₁ B hml hv
  obtain ⟨rfl, hP, hK⟩ := hv
  have hx := B.exec
  have hb := B.bytes
  have hr := B.returns
  have hts := atoms_spec (ws := wsX11_fleet) B.pre
  have hown : s.vm.findClass RX11 = some m.cls := findClass_of_methodNamed B.named
  have hlocks := B.notSynchronized
  have hin7 : ∀ w ∈ u_ws RX7 TX7 19, w ∈ wsX11_fleet := by decide +kernel
  have hin11 : ∀ w ∈ u_ws RX11 TX11 18, w ∈ wsX11_fleet := by decide +kernel
  have hl := lv_entry ([.ref t, .int x]) (n := 6) (Nat.le_of_ble_eq_true rfl)
  rw [lg_entry_eq]
  generalize (lg_sl ([.ref t, .int x]) ++ List.replicate (6 - (lg_sl ([.ref t, .int x])).length) Slot.unset).toArray = ls at hl ⊢
  have hl : lv_has ls 6 [(0, .ref t), (1, .int x)] := hl
  refine lv_iload_n hx hb dX11_fleet_0 rfl (lv_at hl 1 rfl) ?_
  refine lv_iconst (v := nI 1) hx hb dX11_fleet_1 (by decide) ?_
  refine lv_icmp_lt (tgt := 11) hx hb dX11_fleet_2 (by decide) (fun c1 => ?_) (fun c1 => ?_)
  · refine lv_iconst (v := (-1 : Int32)) hx hb dX11_fleet_11 (by decide) ?_
    exact W.iret (v := (-1 : Int32)) hx hb hr (fun t9 ht9 hW9 => ⟨(-1 : Int32), rfl, rfl, ht9⟩) (fun _ h => absurd h List.not_mem_nil) dX11_fleet_12
  · refine lv_iload_n hx hb dX11_fleet_5 rfl (lv_at hl 1 rfl) ?_
    refine lv_bipush (v := nI 54) hx hb dX11_fleet_6 (by decide) ?_
    refine lv_icmp_le (tgt := 13) hx hb dX11_fleet_8 (by decide) (fun c2 => ?_) (fun c2 => ?_)
    · refine lv_aload_n hx hb dX11_fleet_13 rfl (lv_at hl 0 rfl) ?_
      refine va_get (D := (dC, dI)) (ci := 11) (v := .ref sea) (C := RX11) (T := TX11) (N := 18) hx hb hts hin11 hown hK hP 0 rfl rfl 3 (by decide) (hts (.fieldLink RX11 26 "PorridgeSea" "sea" "LPorridgeSea$Sea;") (List.mem_of_getElem? (i := 1) rfl)) (fun _ h9 => h9) rfl dX11_fleet_14 ?_
      refine vp_callSi (W.runV (As := []) (rest := []) ⟨hx, hb, hml, hown, hts⟩ (c_eatenBits0 l dC dI ky sea (nI 10) (nI 1) (nI 3) (nI 0) (nI 0) (nI 0) thickness lumpNames lumpCells boatNames boatCells loads spoons spoonsLeft depths) (cwV 0 hts gX11_fleet_X7_eatenBits rfl rfl rfl (by decide +kernel) ⟨(Nat.le_of_ble_eq_true rfl), (Nat.le_of_ble_eq_true rfl)⟩) (pre_PV hK hP [1] rfl (ci := 7) (q0 := 1) rfl rfl) rfl rfl hl.1 rfl (lv_room (Nat.le_of_ble_eq_true rfl)) dX11_fleet_17 ⟨(Nat.le_of_ble_eq_true rfl), (Nat.le_of_ble_eq_true rfl)⟩) (fun r3 p4 => ?_)
      subst p4
      refine lv_istore_n (lv' := [(2, .int (nI 0)), (0, .ref t), (1, .int x)]) hx hb dX11_fleet_20 rfl hl (by decide) rfl (fun ls hl => ?_)
      refine lv_iconst (v := nI 0) hx hb dX11_fleet_21 (by decide) ?_
      refine lv_istore_n (lv' := [(3, .int (nI 0)), (2, .int (nI 0)), (0, .ref t), (1, .int x)]) hx hb dX11_fleet_22 rfl hl (by decide) rfl (fun ls hl => ?_)
      refine lv_iconst (v := nI 1) hx hb dX11_fleet_23 (by decide) ?_
      refine lv_istore (lv' := [(4, .int (nI 1)), (3, .int (nI 0)), (2, .int (nI 0)), (0, .ref t), (1, .int x)]) hx hb dX11_fleet_24 hl (by decide) rfl (fun ls hl => ?_)
      refine lv_iload hx hb dX11_fleet_26 (lv_at hl 0 rfl) ?_
      refine lv_iconst (v := nI 1) hx hb dX11_fleet_28 (by decide) ?_
      refine lv_aload_n hx hb dX11_fleet_29 rfl (lv_at hl 3 rfl) ?_
      refine va_get (D := (dC, dI)) (ci := 11) (v := .ref sea) (C := RX11) (T := TX11) (N := 18) hx hb hts hin11 hown hK hP 0 rfl rfl 3 (by decide) (hts (.fieldLink RX11 26 "PorridgeSea" "sea" "LPorridgeSea$Sea;") (List.mem_of_getElem? (i := 1) rfl)) (fun _ h9 => h9) rfl dX11_fleet_30 ?_
      refine va_get (D := (dC, dI)) (ci := 7) (v := .int (nI 0)) (C := RX7) (T := TX7) (N := 19) hx hb hts hin7 hown hK hP 1 rfl rfl 9 (by decide) (hts (.fieldLink RX11 206 "PorridgeSea$Sea" "boats" "I") (List.mem_of_getElem? (i := 2) rfl)) (fun _ h9 => h9) rfl dX11_fleet_33 ?_
      refine lv_ishl hx hb dX11_fleet_36 ?_
      refine r_ti (nI 1) (by decide) ?_
      refine lv_icmp_ge (tgt := 97) hx hb dX11_fleet_37 (by decide) (fun c5 => ?_) (fun c5 => absurd (by decide) c5)
      refine lv_iload_n hx hb dX11_fleet_97 rfl (lv_at hl 1 rfl) ?_
      refine lv_if_ne (tgt := 103) hx hb dX11_fleet_98 (by decide) (fun c6 => absurd c6 (by decide)) (fun c6 => ?_)
      refine lv_iconst (v := (-1 : Int32)) hx hb dX11_fleet_101 (by decide) ?_
      exact W.iret (v := (-1 : Int32)) hx hb hr (fun t9 ht9 hW9 => ⟨(-1 : Int32), rfl, rfl, ht9⟩) (fun _ h => absurd h List.not_mem_nil) dX11_fleet_102
    · refine lv_iconst (v := (-1 : Int32)) hx hb dX11_fleet_11 (by decide) ?_
      exact W.iret (v := (-1 : Int32)) hx hb hr (fun t9 ht9 hW9 => ⟨(-1 : Int32), rfl, rfl, ht9⟩) (fun _ h => absurd h List.not_mem_nil) dX11_fleet_12
set_option maxHeartbeats 4000000 in
set_option maxRecDepth 100000 in
theorem c_fleets (l : Launch) (dC : Nat → ClassId) (dI : Nat → Nat → Nat) (ky : Nat → ClassId) (t : Nat) (reader : Nat) (sea : Nat) (spareSea : Nat) (seaText : Nat) (book : Nat) (sentence : Nat) (spareSentence : Nat) (route : Nat) (meeting : Nat) (sighting : Nat) (draws : Nat) (history : Nat) (images : Nat) (chartBytes : Nat)  : Met l yX11_fleets wsX11_fleets ({ frames := 0, cells := 0, slots := 0, locals := 0 }) (PcP dC dI ky [.ref t] [(t, .inr (11, [.ref reader, .int (nI 0), .int (nI 0), .ref sea, .ref spareSea, .ref seaText, .ref book, .ref sentence, .ref spareSentence, .ref route, .ref meeting, .ref sighting, .ref draws, .ref history, .ref images, .ref chartBytes, .int (nI 0), .int (-1 : Int32)]))]) (vp_Si (fun r : Int32 => r = (-1 : Int32))) 0 0 (fun _ => False) := by
  refine Met.ofW (cc := cX11_fleets) (maxL := 1) (ret := (some .int)) (by decide) rfl ?_
  intro p e s m args below meth c s₁ B hml hv
  obtain ⟨rfl, hP, hK⟩ := hv
  have hx := B.exec
  have hb := B.bytes
  have hr := B.returns
  have hts := atoms_spec (ws := wsX11_fleets) B.pre
  have hown : s.vm.findClass RX11 = some m.cls := findClass_of_methodNamed B.named
  have hlocks := B.notSynchronized
  have hin11 : ∀ w ∈ u_ws RX11 TX11 18, w ∈ wsX11_fleets := by decide +kernel
  have hl := lv_entry ([.ref t]) (n := 1) (Nat.le_of_ble_eq_true rfl)
  rw [lg_entry_eq]
  generalize (lg_sl ([.ref t]) ++ List.replicate (1 - (lg_sl ([.ref t])).length) Slot.unset).toArray = ls at hl ⊢
  have hl : lv_has ls 1 [(0, .ref t)] := hl
  refine lv_aload_n hx hb dX11_fleets_0 rfl (lv_at hl 0 rfl) ?_
  refine va_get (D := (dC, dI)) (ci := 11) (v := .int (-1 : Int32)) (C := RX11) (T := TX11) (N := 18) hx hb hts hin11 hown hK hP 0 rfl rfl 17 (by decide) (hts (.fieldLink RX11 106 "PorridgeSea" "fleetBits" "I") (List.mem_of_getElem? (i := 1) rfl)) (fun _ h9 => h9) rfl dX11_fleets_1 ?_
  exact W.iret (v := (-1 : Int32)) hx hb hr (fun t9 ht9 hW9 => ⟨(-1 : Int32), rfl, rfl, ht9⟩) (fun _ h => absurd h List.not_mem_nil) dX11_fleets_4
set_option maxHeartbeats 4000000 in
set_option maxRecDepth 100000 in
theorem c_odds (l : Launch) (dC : Nat → ClassId) (dI : Nat → Nat → Nat) (ky : Nat → ClassId) (t : Nat) (reader : Nat) (sea : Nat) (spareSea : Nat) (seaText : Nat) (book : Nat) (sentence : Nat) (spareSentence : Nat) (route : Nat) (meeting : Nat) (sighting : Nat) (draws : Nat) (history : Nat) (images : Nat) (chartBytes : Nat) (thickness : Nat) (lumpNames : Nat) (lumpCells : Nat) (boatNames : Nat) (boatCells : Nat) (loads : Nat) (spoons : Nat) (spoonsLeft : Nat) (depths : Nat) (x : Int32) (y : Int32) (n : Int32)  : Met l yX11_odds wsX11_odds ({ frames := 1, cells := 0, slots := 0, locals := 21 }) (PcP dC dI ky [.ref t, .int x, .int y, .int n] [(t, .inr (11, [.ref reader, .int (nI 0), .int (nI 0), .ref sea, .ref spareSea, .ref seaText, .ref book, .ref sentence, .ref spareSentence, .ref route, .ref meeting, .ref sighting, .ref draws, .ref history, .ref images, .ref chartBytes, .int (nI 0), .int (-1 : Int32)])), (sea, .inr (7, [.int (nI 4), .int (nI 4), .int (nI 10), .int (nI 1), .int (nI 3), .int (nI 0), .int (nI 0), .int (nI 0), .int (nI 0), .int (nI 0), .ref thickness, .ref lumpNames, .ref lumpCells, .ref boatNames, .ref boatCells, .ref loads, .ref spoons, .ref spoonsLeft, .ref depths]))]) (vp_Si (fun r : Int32 => r = (-1 : Int32))) 0 0 (fun _ => False) := by
  refine Met.ofW (cc := cX11_odds) (maxL := 6) (ret := (some .int)) (by decide) rfl ?_
  intro p e s m args below meth c s₁ B hml hv
  obtain ⟨rfl, hP, hK⟩ := hv
  have hx := B.exec
  have hb := B.bytes
  have hr := B.returns
  have hts := atoms_spec (ws := wsX11_odds) B.pre
  have hown : s.vm.findClass RX11 = some m.cls := findClass_of_methodNamed B.named
  have hlocks := B.notSynchronized
  have hin11 : ∀ w ∈ u_ws RX11 TX11 18, w ∈ wsX11_odds := by decide +kernel
  have hl := lv_entry ([.ref t, .int x, .int y, .int n]) (n := 6) (Nat.le_of_ble_eq_true rfl)
  rw [lg_entry_eq]
  generalize (lg_sl ([.ref t, .int x, .int y, .int n]) ++ List.replicate (6 - (lg_sl ([.ref t, .int x, .int y, .int n])).length) Slot.unset).toArray = ls at hl ⊢
  have hl : lv_has ls 6 [(0, .ref t), (1, .int x), (2, .int y), (3, .int n)] := hl
  refine lv_aload_n hx hb dX11_odds_0 rfl (lv_at hl 0 rfl) ?_
  refine va_get (D := (dC, dI)) (ci := 11) (v := .ref sea) (C := RX11) (T := TX11) (N := 18) hx hb hts hin11 hown hK hP 0 rfl rfl 3 (by decide) (hts (.fieldLink RX11 26 "PorridgeSea" "sea" "LPorridgeSea$Sea;") (List.mem_of_getElem? (i := 1) rfl)) (fun _ h9 => h9) rfl dX11_odds_1 ?_
  refine lv_iload_n hx hb dX11_odds_4 rfl (lv_at hl 1 rfl) ?_
  refine vp_callSi (W.runV (As := [.int x]) (rest := []) ⟨hx, hb, hml, hown, hts⟩ (c_isBoat0 l dC dI ky sea (nI 10) (nI 1) (nI 3) (nI 0) (nI 0) (nI 0) thickness lumpNames lumpCells boatNames boatCells loads spoons spoonsLeft depths x) (cwV 1 hts gX11_odds_X7_isBoat rfl rfl rfl (by decide +kernel) ⟨(Nat.le_of_ble_eq_true rfl), (Nat.le_of_ble_eq_true rfl)⟩) (pre_PV hK hP [1] rfl (ci := 7) (q0 := 1) rfl rfl) rfl rfl hl.1 rfl (lv_room (Nat.le_of_ble_eq_true rfl)) dX11_odds_5 ⟨(Nat.le_of_ble_eq_true rfl), (Nat.le_of_ble_eq_true rfl)⟩) (fun r1 p2 => ?_)
  subst p2
  refine lv_if_eq (tgt := 22) hx hb dX11_odds_8 (by decide) (fun c3 => ?_) (fun c3 => absurd (by decide) c3)
  refine lv_iconst (v := (-1 : Int32)) hx hb dX11_odds_22 (by decide) ?_
  exact W.iret (v := (-1 : Int32)) hx hb hr (fun t9 ht9 hW9 => ⟨(-1 : Int32), rfl, rfl, ht9⟩) (fun _ h => absurd h List.not_mem_nil) dX11_odds_23
set_option maxHeartbeats 4000000 in
set_option maxRecDepth 100000 in
theorem c_chart (l : Launch) (dC : Nat → ClassId) (dI : Nat → Nat → Nat) (ky : Nat → ClassId) (t : Nat) (reader : Nat) (sea : Nat) (spareSea : Nat) (seaText : Nat) (book : Nat) (sentence : Nat) (spareSentence : Nat) (route : Nat) (meeting : Nat) (sighting : Nat) (draws : Nat) (history : Nat) (images : Nat) (chartBytes : Nat) (thickness : Nat) (lumpNames : Nat) (lumpCells : Nat) (boatNames : Nat) (boatCells : Nat) (loads : Nat) (spoons : Nat) (spoonsLeft : Nat) (depths : Nat) (x : Int32)  : Met l yX11_chart wsX11_chart ({ frames := 1, cells := 0, slots := 0, locals := 21 }) (PcP dC dI ky [.ref t, .int x] [(t, .inr (11, [.ref reader, .int (nI 0), .int (nI 0), .ref sea, .ref spareSea, .ref seaText, .ref book, .ref sentence, .ref spareSentence, .ref route, .ref meeting, .ref sighting, .ref draws, .ref history, .ref images, .ref chartBytes, .int (nI 0), .int (-1 : Int32)])), (sea, .inr (7, [.int (nI 4), .int (nI 4), .int (nI 10), .int (nI 1), .int (nI 3), .int (nI 0), .int (nI 0), .int (nI 0), .int (nI 0), .int (nI 0), .ref thickness, .ref lumpNames, .ref lumpCells, .ref boatNames, .ref boatCells, .ref loads, .ref spoons, .ref spoonsLeft, .ref depths]))]) (vp_Si (fun r : Int32 => r = (-1 : Int32))) 0 0 (fun _ => False) := by
  refine Met.ofW (cc := cX11_chart) (maxL := 2) (ret := (some .int)) (by decide) rfl ?_
  intro p e s m args below meth c s₁ B hml hv
  obtain ⟨rfl, hP, hK⟩ := hv
  have hx := B.exec
  have hb := B.bytes
  have hr := B.returns
  have hts := atoms_spec (ws := wsX11_chart) B.pre
  have hown : s.vm.findClass RX11 = some m.cls := findClass_of_methodNamed B.named
  have hlocks := B.notSynchronized
  have hin11 : ∀ w ∈ u_ws RX11 TX11 18, w ∈ wsX11_chart := by decide +kernel
  have hl := lv_entry ([.ref t, .int x]) (n := 2) (Nat.le_of_ble_eq_true rfl)
  rw [lg_entry_eq]
  generalize (lg_sl ([.ref t, .int x]) ++ List.replicate (2 - (lg_sl ([.ref t, .int x])).length) Slot.unset).toArray = ls at hl ⊢
  have hl : lv_has ls 2 [(0, .ref t), (1, .int x)] := hl
  refine lv_aload_n hx hb dX11_chart_0 rfl (lv_at hl 0 rfl) ?_
  refine va_get (D := (dC, dI)) (ci := 11) (v := .ref sea) (C := RX11) (T := TX11) (N := 18) hx hb hts hin11 hown hK hP 0 rfl rfl 3 (by decide) (hts (.fieldLink RX11 26 "PorridgeSea" "sea" "LPorridgeSea$Sea;") (List.mem_of_getElem? (i := 1) rfl)) (fun _ h9 => h9) rfl dX11_chart_1 ?_
  refine lv_iload_n hx hb dX11_chart_4 rfl (lv_at hl 1 rfl) ?_
  refine vp_callSi (W.runV (As := [.int x]) (rest := []) ⟨hx, hb, hml, hown, hts⟩ (c_isBoat0 l dC dI ky sea (nI 10) (nI 1) (nI 3) (nI 0) (nI 0) (nI 0) thickness lumpNames lumpCells boatNames boatCells loads spoons spoonsLeft depths x) (cwV 1 hts gX11_chart_X7_isBoat rfl rfl rfl (by decide +kernel) ⟨(Nat.le_of_ble_eq_true rfl), (Nat.le_of_ble_eq_true rfl)⟩) (pre_PV hK hP [1] rfl (ci := 7) (q0 := 1) rfl rfl) rfl rfl hl.1 rfl (lv_room (Nat.le_of_ble_eq_true rfl)) dX11_chart_5 ⟨(Nat.le_of_ble_eq_true rfl), (Nat.le_of_ble_eq_true rfl)⟩) (fun r1 p2 => ?_)
  subst p2
  refine lv_if_ne (tgt := 13) hx hb dX11_chart_8 (by decide) (fun c3 => absurd c3 (by decide)) (fun c3 => ?_)
  refine lv_iconst (v := (-1 : Int32)) hx hb dX11_chart_11 (by decide) ?_
  exact W.iret (v := (-1 : Int32)) hx hb hr (fun t9 ht9 hW9 => ⟨(-1 : Int32), rfl, rfl, ht9⟩) (fun _ h => absurd h List.not_mem_nil) dX11_chart_12
set_option maxRecDepth 20000 in
theorem lf_byteAt_1 (t : Nat) (reader : Nat) (sea : Nat) (spareSea : Nat) (seaText : Nat) (book : Nat) (sentence : Nat) (spareSentence : Nat) (route : Nat) (meeting : Nat) (sighting : Nat) (draws : Nat) (history : Nat) (images : Nat) (chartBytes : Nat) (x : Int32) (c1 : ¬ x < 0) (c2 : ¬ nI 0 ≤ x) : False := by
  have k_0 := ia_n 0 (by decide)
  simp only [ia_lt, ia_le, ia_eq, ia_m1, ia_0, ia_1, ne_eq, true_and, and_true, false_and, and_false, or_false, false_or, or_true, true_or, not_true_eq_false, not_false_eq_true] at *
  all_goals omega
set_option maxHeartbeats 4000000 in
set_option maxRecDepth 100000 in
theorem c_byteAt (l : Launch) (dC : Nat → ClassId) (dI : Nat → Nat → Nat) (ky : Nat → ClassId) (t : Nat) (reader : Nat) (sea : Nat) (spareSea : Nat) (seaText : Nat) (book : Nat) (sentence : Nat) (spareSentence : Nat) (route : Nat) (meeting : Nat) (sighting : Nat) (draws : Nat) (history : Nat) (images : Nat) (chartBytes : Nat) (x : Int32)  : Met l yX11_byteAt wsX11_byteAt ({ frames := 0, cells := 0, slots := 0, locals := 0 }) (PcP dC dI ky [.ref t, .int x] [(t, .inr (11, [.ref reader, .int (nI 0), .int (nI 0), .ref sea, .ref spareSea, .ref seaText, .ref book, .ref sentence, .ref spareSentence, .ref route, .ref meeting, .ref sighting, .ref draws, .ref history, .ref images, .ref chartBytes, .int (nI 0), .int (-1 : Int32)]))]) (vp_Si (fun r : Int32 => r = (-1 : Int32))) 0 0 (fun _ => False) := by
  refine Met.ofW (cc := cX11_byteAt) (maxL := 2) (ret := (some .int)) (by decide) rfl ?_
  intro p e s m args below meth c s₁ B hml hv
  obtain ⟨rfl, hP, hK⟩ := hv
  have hx := B.exec
  have hb := B.bytes
  have hr := B.returns
  have hts := atoms_spec (ws := wsX11_byteAt) B.pre
  have hown : s.vm.findClass RX11 = some m.cls := findClass_of_methodNamed B.named
  have hlocks := B.notSynchronized
  have hin11 : ∀ w ∈ u_ws RX11 TX11 18, w ∈ wsX11_byteAt := by decide +kernel
  have hl := lv_entry ([.ref t, .int x]) (n := 2) (Nat.le_of_ble_eq_true rfl)
  rw [lg_entry_eq]
  generalize (lg_sl ([.ref t, .int x]) ++ List.replicate (2 - (lg_sl ([.ref t, .int x])).length) Slot.unset).toArray = ls at hl ⊢
  have hl : lv_has ls 2 [(0, .ref t), (1, .int x)] := hl
  refine lv_iload_n hx hb dX11_byteAt_0 rfl (lv_at hl 1 rfl) ?_
  refine lv_if_lt (tgt := 25) hx hb dX11_byteAt_1 (by decide) (fun c1 => ?_) (fun c1 => ?_)
  · refine lv_iconst (v := (-1 : Int32)) hx hb dX11_byteAt_25 (by decide) ?_
    exact W.iret (v := (-1 : Int32)) hx hb hr (fun t9 ht9 hW9 => ⟨(-1 : Int32), rfl, rfl, ht9⟩) (fun _ h => absurd h List.not_mem_nil) dX11_byteAt_26
  · refine lv_iload_n hx hb dX11_byteAt_4 rfl (lv_at hl 1 rfl) ?_
    refine lv_aload_n hx hb dX11_byteAt_5 rfl (lv_at hl 0 rfl) ?_
    refine va_get (D := (dC, dI)) (ci := 11) (v := .int (nI 0)) (C := RX11) (T := TX11) (N := 18) hx hb hts hin11 hown hK hP 0 rfl rfl 16 (by decide) (hts (.fieldLink RX11 103 "PorridgeSea" "chartLength" "I") (List.mem_of_getElem? (i := 1) rfl)) (fun _ h9 => h9) rfl dX11_byteAt_6 ?_
    refine lv_icmp_ge (tgt := 25) hx hb dX11_byteAt_9 (by decide) (fun c2 => ?_) (fun c2 => ?_)
    · refine lv_iconst (v := (-1 : Int32)) hx hb dX11_byteAt_25 (by decide) ?_
      exact W.iret (v := (-1 : Int32)) hx hb hr (fun t9 ht9 hW9 => ⟨(-1 : Int32), rfl, rfl, ht9⟩) (fun _ h => absurd h List.not_mem_nil) dX11_byteAt_26
    · exact ((lf_byteAt_1 t reader sea spareSea seaText book sentence spareSentence route meeting sighting draws history images chartBytes x c1 c2)).elim
set_option maxHeartbeats 4000000 in
set_option maxRecDepth 100000 in
theorem c_told (l : Launch) (dC : Nat → ClassId) (dI : Nat → Nat → Nat) (ky : Nat → ClassId) (t : Nat) (reader : Nat) (sea : Nat) (spareSea : Nat) (seaText : Nat) (book : Nat) (sentence : Nat) (spareSentence : Nat) (route : Nat) (meeting : Nat) (sighting : Nat) (draws : Nat) (history : Nat) (images : Nat) (chartBytes : Nat) (lines : Nat) (x : Int32)  : Met l yX11_told wsX11_told ({ frames := 1, cells := 0, slots := 0, locals := 21 }) (PcP dC dI ky [.ref t, .int x] [(t, .inr (11, [.ref reader, .int (nI 0), .int (nI 0), .ref sea, .ref spareSea, .ref seaText, .ref book, .ref sentence, .ref spareSentence, .ref route, .ref meeting, .ref sighting, .ref draws, .ref history, .ref images, .ref chartBytes, .int (nI 0), .int (-1 : Int32)])), (book, .inr (0, [.ref lines, .int (nI 0), .int (nI 0), .int (nI 0), .int (nI 0), .int (nI 0), .int (nI 0)]))]) (vp_Si (fun r : Int32 => r = (-1 : Int32))) 0 0 (fun _ => False) := by
  refine Met.ofW (cc := cX11_told) (maxL := 2) (ret := (some .int)) (by decide) rfl ?_
  intro p e s m args below meth c s₁ B hml hv
  obtain ⟨rfl, hP, hK⟩ := hv
  have hx := B.exec
  have hb := B.bytes
  have hr := B.returns
  have hts := atoms_spec (ws := wsX11_told) B.pre
  have hown : s.vm.findClass RX11 = some m.cls := findClass_of_methodNamed B.named
  have hlocks := B.notSynchronized
  have hin11 : ∀ w ∈ u_ws RX11 TX11 18, w ∈ wsX11_told := by decide +kernel
  have hl := lv_entry ([.ref t, .int x]) (n := 2) (Nat.le_of_ble_eq_true rfl)
  rw [lg_entry_eq]
  generalize (lg_sl ([.ref t, .int x]) ++ List.replicate (2 - (lg_sl ([.ref t, .int x])).length) Slot.unset).toArray = ls at hl ⊢
  have hl : lv_has ls 2 [(0, .ref t), (1, .int x)] := hl
  refine lv_aload_n hx hb dX11_told_0 rfl (lv_at hl 0 rfl) ?_
  refine va_get (D := (dC, dI)) (ci := 11) (v := .ref book) (C := RX11) (T := TX11) (N := 18) hx hb hts hin11 hown hK hP 0 rfl rfl 6 (by decide) (hts (.fieldLink RX11 43 "PorridgeSea" "book" "LPorridgeSea$Book;") (List.mem_of_getElem? (i := 1) rfl)) (fun _ h9 => h9) rfl dX11_told_1 ?_
  refine lv_iload_n hx hb dX11_told_4 rfl (lv_at hl 1 rfl) ?_
  refine vp_callSi (W.runV (As := [.int x]) (rest := []) ⟨hx, hb, hml, hown, hts⟩ (c_factThen0 l dC dI ky book lines x) (cwV 1 hts gX11_told_X0_factThen rfl rfl rfl (by decide +kernel) ⟨(Nat.le_of_ble_eq_true rfl), (Nat.le_of_ble_eq_true rfl)⟩) (pre_PV hK hP [1] rfl (ci := 0) (q0 := 1) rfl rfl) rfl rfl hl.1 rfl (lv_room (Nat.le_of_ble_eq_true rfl)) dX11_told_5 ⟨(Nat.le_of_ble_eq_true rfl), (Nat.le_of_ble_eq_true rfl)⟩) (fun r1 p2 => ?_)
  subst p2
  exact W.iret (v := (-1 : Int32)) hx hb hr (fun t9 ht9 hW9 => ⟨(-1 : Int32), rfl, rfl, ht9⟩) (fun _ h => absurd h List.not_mem_nil) dX11_told_8
set_option maxHeartbeats 4000000 in
set_option maxRecDepth 100000 in
theorem c_said (l : Launch) (dC : Nat → ClassId) (dI : Nat → Nat → Nat) (ky : Nat → ClassId) (t : Nat) (reader : Nat) (sea : Nat) (spareSea : Nat) (seaText : Nat) (book : Nat) (sentence : Nat) (spareSentence : Nat) (route : Nat) (meeting : Nat) (sighting : Nat) (draws : Nat) (history : Nat) (images : Nat) (chartBytes : Nat) (ncodes : Nat) (x : Int32)  : Met l yX11_said wsX11_said ({ frames := 1, cells := 0, slots := 0, locals := 20 }) (PcP dC dI ky [.ref t, .int x] [(t, .inr (11, [.ref reader, .int (nI 0), .int (nI 0), .ref sea, .ref spareSea, .ref seaText, .ref book, .ref sentence, .ref spareSentence, .ref route, .ref meeting, .ref sighting, .ref draws, .ref history, .ref images, .ref chartBytes, .int (nI 0), .int (-1 : Int32)])), (sentence, .inr (9, [.ref ncodes, .int (nI 0), .int (nI 0)]))]) (vp_Si (fun r : Int32 => r = (-1 : Int32))) 0 0 (fun _ => False) := by
  refine Met.ofW (cc := cX11_said) (maxL := 4) (ret := (some .int)) (by decide) rfl ?_
  intro p e s m args below meth c s₁ B hml hv
  obtain ⟨rfl, hP, hK⟩ := hv
  have hx := B.exec
  have hb := B.bytes
  have hr := B.returns
  have hts := atoms_spec (ws := wsX11_said) B.pre
  have hown : s.vm.findClass RX11 = some m.cls := findClass_of_methodNamed B.named
  have hlocks := B.notSynchronized
  have hin11 : ∀ w ∈ u_ws RX11 TX11 18, w ∈ wsX11_said := by decide +kernel
  have hl := lv_entry ([.ref t, .int x]) (n := 4) (Nat.le_of_ble_eq_true rfl)
  rw [lg_entry_eq]
  generalize (lg_sl ([.ref t, .int x]) ++ List.replicate (4 - (lg_sl ([.ref t, .int x])).length) Slot.unset).toArray = ls at hl ⊢
  have hl : lv_has ls 4 [(0, .ref t), (1, .int x)] := hl
  refine lv_aload_n hx hb dX11_said_0 rfl (lv_at hl 0 rfl) ?_
  refine va_get (D := (dC, dI)) (ci := 11) (v := .ref sentence) (C := RX11) (T := TX11) (N := 18) hx hb hts hin11 hown hK hP 0 rfl rfl 7 (by decide) (hts (.fieldLink RX11 50 "PorridgeSea" "sentence" "LPorridgeSea$Sentence;") (List.mem_of_getElem? (i := 1) rfl)) (fun _ h9 => h9) rfl dX11_said_1 ?_
  refine vp_callSi (W.runV (As := []) (rest := []) ⟨hx, hb, hml, hown, hts⟩ (c_isThere0 l dC dI ky sentence ncodes) (cwV 0 hts gX11_said_X9_isThere rfl rfl rfl (by decide +kernel) ⟨(Nat.le_of_ble_eq_true rfl), (Nat.le_of_ble_eq_true rfl)⟩) (pre_PV hK hP [1] rfl (ci := 9) (q0 := 1) rfl rfl) rfl rfl hl.1 rfl (lv_room (Nat.le_of_ble_eq_true rfl)) dX11_said_4 ⟨(Nat.le_of_ble_eq_true rfl), (Nat.le_of_ble_eq_true rfl)⟩) (fun r1 p2 => ?_)
  subst p2
  refine lv_if_ne (tgt := 12) hx hb dX11_said_7 (by decide) (fun c3 => absurd c3 (by decide)) (fun c3 => ?_)
  refine lv_iconst (v := (-1 : Int32)) hx hb dX11_said_10 (by decide) ?_
  exact W.iret (v := (-1 : Int32)) hx hb hr (fun t9 ht9 hW9 => ⟨(-1 : Int32), rfl, rfl, ht9⟩) (fun _ h => absurd h List.not_mem_nil) dX11_said_11
