theorem dX11_drawn_0 : decode cX11_drawn 0 = .ok (.iload_n 1, 1) := by decide +kernel
theorem dX11_drawn_1 : decode cX11_drawn 1 = .ok (.iconst 1, 1) := by decide +kernel
theorem dX11_drawn_2 : decode cX11_drawn 2 = .ok (.if_icmp .lt 9, 3) := by decide +kernel
theorem dX11_drawn_11 : decode cX11_drawn 11 = .ok (.iconst (-1), 1) := by decide +kernel
theorem dX11_drawn_12 : decode cX11_drawn 12 = .ok (.ireturn, 1) := by decide +kernel
theorem dX11_drawn_5 : decode cX11_drawn 5 = .ok (.iload_n 1, 1) := by decide +kernel
theorem dX11_drawn_6 : decode cX11_drawn 6 = .ok (.bipush 60, 2) := by decide +kernel
theorem dX11_drawn_8 : decode cX11_drawn 8 = .ok (.if_icmp .le 5, 3) := by decide +kernel
theorem dX11_drawn_13 : decode cX11_drawn 13 = .ok (.aload_n 0, 1) := by decide +kernel
theorem dX11_drawn_14 : decode cX11_drawn 14 = .ok (.getfield 26, 3) := by decide +kernel
theorem dX11_drawn_17 : decode cX11_drawn 17 = .ok (.invokevirtual 248, 3) := by decide +kernel
theorem dX11_drawn_20 : decode cX11_drawn 20 = .ok (.ifCond .ne 5, 3) := by decide +kernel
theorem dX11_drawn_25 : decode cX11_drawn 25 = .ok (.aload_n 0, 1) := by decide +kernel
theorem dX11_drawn_26 : decode cX11_drawn 26 = .ok (.getfield 88, 3) := by decide +kernel
theorem dX11_drawn_29 : decode cX11_drawn 29 = .ok (.aload_n 0, 1) := by decide +kernel
theorem dX11_drawn_30 : decode cX11_drawn 30 = .ok (.getfield 26, 3) := by decide +kernel
theorem dX11_drawn_33 : decode cX11_drawn 33 = .ok (.invokevirtual 219, 3) := by decide +kernel
theorem dX11_drawn_36 : decode cX11_drawn 36 = .ok (.aload_n 0, 1) := by decide +kernel
theorem dX11_drawn_37 : decode cX11_drawn 37 = .ok (.getfield 81, 3) := by decide +kernel
theorem dX11_drawn_40 : decode cX11_drawn 40 = .ok (.aload_n 0, 1) := by decide +kernel
theorem dX11_drawn_41 : decode cX11_drawn 41 = .ok (.getfield 26, 3) := by decide +kernel
theorem dX11_drawn_44 : decode cX11_drawn 44 = .ok (.iload_n 1, 1) := by decide +kernel
theorem dX11_drawn_45 : decode cX11_drawn 45 = .ok (.iload_n 2, 1) := by decide +kernel
theorem dX11_drawn_46 : decode cX11_drawn 46 = .ok (.invokevirtual 254, 3) := by decide +kernel
theorem dX11_drawn_49 : decode cX11_drawn 49 = .ok (.ireturn, 1) := by decide +kernel
theorem dX11_drawn_23 : decode cX11_drawn 23 = .ok (.iconst 0, 1) := by decide +kernel
theorem dX11_drawn_24 : decode cX11_drawn 24 = .ok (.ireturn, 1) := by decide +kernel
theorem dX11_undo_0 : decode cX11_undo 0 = .ok (.aload_n 0, 1) := by decide +kernel
theorem dX11_undo_1 : decode cX11_undo 1 = .ok (.getfield 88, 3) := by decide +kernel
theorem dX11_undo_4 : decode cX11_undo 4 = .ok (.aload_n 0, 1) := by decide +kernel
theorem dX11_undo_5 : decode cX11_undo 5 = .ok (.getfield 26, 3) := by decide +kernel
theorem dX11_undo_8 : decode cX11_undo 8 = .ok (.invokevirtual 257, 3) := by decide +kernel
theorem dX11_undo_11 : decode cX11_undo 11 = .ok (.ireturn, 1) := by decide +kernel
theorem dX11_cost_0 : decode cX11_cost 0 = .ok (.aload_n 0, 1) := by decide +kernel
theorem dX11_cost_1 : decode cX11_cost 1 = .ok (.getfield 26, 3) := by decide +kernel
theorem dX11_cost_4 : decode cX11_cost 4 = .ok (.iload_n 1, 1) := by decide +kernel
theorem dX11_cost_5 : decode cX11_cost 5 = .ok (.iload_n 2, 1) := by decide +kernel
theorem dX11_cost_6 : decode cX11_cost 6 = .ok (.invokevirtual 141, 3) := by decide +kernel
theorem dX11_cost_9 : decode cX11_cost 9 = .ok (.ifCond .eq 19, 3) := by decide +kernel
theorem dX11_cost_12 : decode cX11_cost 12 = .ok (.aload_n 0, 1) := by decide +kernel
theorem dX11_cost_13 : decode cX11_cost 13 = .ok (.getfield 26, 3) := by decide +kernel
theorem dX11_cost_16 : decode cX11_cost 16 = .ok (.bipush 6, 2) := by decide +kernel
theorem dX11_cost_18 : decode cX11_cost 18 = .ok (.iload_n 2, 1) := by decide +kernel
theorem dX11_cost_19 : decode cX11_cost 19 = .ok (.imul, 1) := by decide +kernel
theorem dX11_cost_20 : decode cX11_cost 20 = .ok (.iload_n 1, 1) := by decide +kernel
theorem dX11_cost_21 : decode cX11_cost 21 = .ok (.iadd, 1) := by decide +kernel
theorem dX11_cost_22 : decode cX11_cost 22 = .ok (.invokevirtual 261, 3) := by decide +kernel
theorem dX11_cost_25 : decode cX11_cost 25 = .ok (.goto 4, 3) := by decide +kernel
theorem dX11_cost_29 : decode cX11_cost 29 = .ok (.ireturn, 1) := by decide +kernel
theorem dX11_cost_28 : decode cX11_cost 28 = .ok (.iconst (-1), 1) := by decide +kernel
theorem dX11_skin_0 : decode cX11_skin 0 = .ok (.aload_n 0, 1) := by decide +kernel
theorem dX11_skin_1 : decode cX11_skin 1 = .ok (.getfield 26, 3) := by decide +kernel
theorem dX11_skin_4 : decode cX11_skin 4 = .ok (.invokevirtual 177, 3) := by decide +kernel
theorem dX11_skin_7 : decode cX11_skin 7 = .ok (.ifCond .eq 5, 3) := by decide +kernel
theorem dX11_skin_12 : decode cX11_skin 12 = .ok (.aload_n 0, 1) := by decide +kernel
theorem dX11_skin_13 : decode cX11_skin 13 = .ok (.getfield 26, 3) := by decide +kernel
theorem dX11_skin_16 : decode cX11_skin 16 = .ok (.getfield 209, 3) := by decide +kernel
theorem dX11_skin_19 : decode cX11_skin 19 = .ok (.iconst 1, 1) := by decide +kernel
theorem dX11_skin_20 : decode cX11_skin 20 = .ok (.if_icmp .ge 5, 3) := by decide +kernel
theorem dX11_skin_25 : decode cX11_skin 25 = .ok (.aload_n 0, 1) := by decide +kernel
theorem dX11_skin_26 : decode cX11_skin 26 = .ok (.getfield 26, 3) := by decide +kernel
theorem dX11_skin_29 : decode cX11_skin 29 = .ok (.getfield 174, 3) := by decide +kernel
theorem dX11_skin_32 : decode cX11_skin 32 = .ok (.aload_n 0, 1) := by decide +kernel
theorem dX11_skin_33 : decode cX11_skin 33 = .ok (.getfield 26, 3) := by decide +kernel
theorem dX11_skin_36 : decode cX11_skin 36 = .ok (.getfield 212, 3) := by decide +kernel
theorem dX11_skin_39 : decode cX11_skin 39 = .ok (.isub, 1) := by decide +kernel
theorem dX11_skin_40 : decode cX11_skin 40 = .ok (.aload_n 0, 1) := by decide +kernel
theorem dX11_skin_41 : decode cX11_skin 41 = .ok (.getfield 26, 3) := by decide +kernel
theorem dX11_skin_44 : decode cX11_skin 44 = .ok (.getfield 209, 3) := by decide +kernel
theorem dX11_skin_47 : decode cX11_skin 47 = .ok (.iadd, 1) := by decide +kernel
theorem dX11_skin_48 : decode cX11_skin 48 = .ok (.iconst 1, 1) := by decide +kernel
theorem dX11_skin_49 : decode cX11_skin 49 = .ok (.isub, 1) := by decide +kernel
theorem dX11_skin_50 : decode cX11_skin 50 = .ok (.aload_n 0, 1) := by decide +kernel
theorem dX11_skin_51 : decode cX11_skin 51 = .ok (.getfield 26, 3) := by decide +kernel
theorem dX11_skin_54 : decode cX11_skin 54 = .ok (.getfield 209, 3) := by decide +kernel
theorem dX11_skin_57 : decode cX11_skin 57 = .ok (.idiv, 1) := by decide +kernel
theorem dX11_skin_58 : decode cX11_skin 58 = .ok (.istore_n 1, 1) := by decide +kernel
theorem dX11_skin_59 : decode cX11_skin 59 = .ok (.iload_n 1, 1) := by decide +kernel
theorem dX11_skin_60 : decode cX11_skin 60 = .ok (.aload_n 0, 1) := by decide +kernel
theorem dX11_skin_61 : decode cX11_skin 61 = .ok (.getfield 26, 3) := by decide +kernel
theorem dX11_skin_64 : decode cX11_skin 64 = .ok (.invokevirtual 248, 3) := by decide +kernel
theorem dX11_skin_67 : decode cX11_skin 67 = .ok (.if_icmp .gt 7, 3) := by decide +kernel
theorem dX11_skin_74 : decode cX11_skin 74 = .ok (.iconst (-1), 1) := by decide +kernel
theorem dX11_skin_75 : decode cX11_skin 75 = .ok (.ireturn, 1) := by decide +kernel
theorem dX11_skin_70 : decode cX11_skin 70 = .ok (.iload_n 1, 1) := by decide +kernel
theorem dX11_skin_71 : decode cX11_skin 71 = .ok (.goto 4, 3) := by decide +kernel
theorem dX11_skin_23 : decode cX11_skin 23 = .ok (.iconst (-1), 1) := by decide +kernel
theorem dX11_skin_24 : decode cX11_skin 24 = .ok (.ireturn, 1) := by decide +kernel
theorem dX11_skin_10 : decode cX11_skin 10 = .ok (.iconst 0, 1) := by decide +kernel
theorem dX11_skin_11 : decode cX11_skin 11 = .ok (.ireturn, 1) := by decide +kernel
theorem dX11_way_0 : decode cX11_way 0 = .ok (.aload_n 0, 1) := by decide +kernel
theorem dX11_way_1 : decode cX11_way 1 = .ok (.getfield 60, 3) := by decide +kernel
theorem dX11_way_4 : decode cX11_way 4 = .ok (.aload_n 0, 1) := by decide +kernel
theorem dX11_way_5 : decode cX11_way 5 = .ok (.getfield 26, 3) := by decide +kernel
theorem dX11_way_8 : decode cX11_way 8 = .ok (.iload_n 1, 1) := by decide +kernel
theorem dX11_way_9 : decode cX11_way 9 = .ok (.iload_n 2, 1) := by decide +kernel
theorem dX11_way_10 : decode cX11_way 10 = .ok (.invokevirtual 264, 3) := by decide +kernel
theorem dX11_way_13 : decode cX11_way 13 = .ok (.ireturn, 1) := by decide +kernel
theorem dX11_wayAt_0 : decode cX11_wayAt 0 = .ok (.aload_n 0, 1) := by decide +kernel
theorem dX11_wayAt_1 : decode cX11_wayAt 1 = .ok (.getfield 60, 3) := by decide +kernel
theorem dX11_wayAt_4 : decode cX11_wayAt 4 = .ok (.iload_n 1, 1) := by decide +kernel
theorem dX11_wayAt_5 : decode cX11_wayAt 5 = .ok (.invokevirtual 267, 3) := by decide +kernel
theorem dX11_wayAt_8 : decode cX11_wayAt 8 = .ok (.ireturn, 1) := by decide +kernel
theorem dX11_wayDays_0 : decode cX11_wayDays 0 = .ok (.aload_n 0, 1) := by decide +kernel
theorem dX11_wayDays_1 : decode cX11_wayDays 1 = .ok (.getfield 60, 3) := by decide +kernel
theorem dX11_wayDays_4 : decode cX11_wayDays 4 = .ok (.getfield 270, 3) := by decide +kernel
theorem dX11_wayDays_7 : decode cX11_wayDays 7 = .ok (.ireturn, 1) := by decide +kernel
theorem dX11_meet_0 : decode cX11_meet 0 = .ok (.aload_n 0, 1) := by decide +kernel
theorem dX11_meet_1 : decode cX11_meet 1 = .ok (.getfield 67, 3) := by decide +kernel
theorem dX11_meet_4 : decode cX11_meet 4 = .ok (.aload_n 0, 1) := by decide +kernel
theorem dX11_meet_5 : decode cX11_meet 5 = .ok (.getfield 26, 3) := by decide +kernel
theorem dX11_meet_8 : decode cX11_meet 8 = .ok (.iload_n 1, 1) := by decide +kernel
theorem dX11_meet_9 : decode cX11_meet 9 = .ok (.iload_n 2, 1) := by decide +kernel
theorem dX11_meet_10 : decode cX11_meet 10 = .ok (.invokevirtual 273, 3) := by decide +kernel
theorem dX11_meet_13 : decode cX11_meet 13 = .ok (.ireturn, 1) := by decide +kernel
theorem dX11_meetAt_0 : decode cX11_meetAt 0 = .ok (.aload_n 0, 1) := by decide +kernel
theorem dX11_meetAt_1 : decode cX11_meetAt 1 = .ok (.getfield 67, 3) := by decide +kernel
theorem dX11_meetAt_4 : decode cX11_meetAt 4 = .ok (.iload_n 1, 1) := by decide +kernel
theorem dX11_meetAt_5 : decode cX11_meetAt 5 = .ok (.iload_n 2, 1) := by decide +kernel
theorem dX11_meetAt_6 : decode cX11_meetAt 6 = .ok (.invokevirtual 274, 3) := by decide +kernel
theorem dX11_meetAt_9 : decode cX11_meetAt 9 = .ok (.ireturn, 1) := by decide +kernel
theorem dX11_sunk_0 : decode cX11_sunk 0 = .ok (.aload_n 0, 1) := by decide +kernel
theorem dX11_sunk_1 : decode cX11_sunk 1 = .ok (.getfield 16, 3) := by decide +kernel
theorem dX11_sunk_4 : decode cX11_sunk 4 = .ok (.istore_n 1, 1) := by decide +kernel
theorem dX11_sunk_5 : decode cX11_sunk 5 = .ok (.aload_n 0, 1) := by decide +kernel
theorem dX11_sunk_6 : decode cX11_sunk 6 = .ok (.iconst 0, 1) := by decide +kernel
theorem dX11_sunk_7 : decode cX11_sunk 7 = .ok (.putfield 16, 3) := by decide +kernel
theorem dX11_sunk_10 : decode cX11_sunk 10 = .ok (.aload_n 0, 1) := by decide +kernel
theorem dX11_sunk_11 : decode cX11_sunk 11 = .ok (.getfield 74, 3) := by decide +kernel
theorem dX11_sunk_14 : decode cX11_sunk 14 = .ok (.aload_n 0, 1) := by decide +kernel
theorem dX11_sunk_15 : decode cX11_sunk 15 = .ok (.getfield 26, 3) := by decide +kernel
theorem dX11_sunk_18 : decode cX11_sunk 18 = .ok (.aload_n 0, 1) := by decide +kernel
theorem dX11_sunk_19 : decode cX11_sunk 19 = .ok (.getfield 10, 3) := by decide +kernel
theorem dX11_sunk_22 : decode cX11_sunk 22 = .ok (.getfield 113, 3) := by decide +kernel
theorem dX11_sunk_25 : decode cX11_sunk 25 = .ok (.iload_n 1, 1) := by decide +kernel
theorem dX11_sunk_26 : decode cX11_sunk 26 = .ok (.invokevirtual 277, 3) := by decide +kernel
theorem dX11_sunk_29 : decode cX11_sunk 29 = .ok (.ireturn, 1) := by decide +kernel
theorem dX11_sunkAt_0 : decode cX11_sunkAt 0 = .ok (.aload_n 0, 1) := by decide +kernel
theorem dX11_sunkAt_1 : decode cX11_sunkAt 1 = .ok (.getfield 74, 3) := by decide +kernel
theorem dX11_sunkAt_4 : decode cX11_sunkAt 4 = .ok (.iload_n 1, 1) := by decide +kernel
theorem dX11_sunkAt_5 : decode cX11_sunkAt 5 = .ok (.invokevirtual 281, 3) := by decide +kernel
theorem dX11_sunkAt_8 : decode cX11_sunkAt 8 = .ok (.ireturn, 1) := by decide +kernel
theorem dX11_send_0 : decode cX11_send 0 = .ok (.aload_n 0, 1) := by decide +kernel
theorem dX11_send_1 : decode cX11_send 1 = .ok (.getfield 74, 3) := by decide +kernel
theorem dX11_send_4 : decode cX11_send 4 = .ok (.getfield 284, 3) := by decide +kernel
theorem dX11_send_7 : decode cX11_send 7 = .ok (.ireturn, 1) := by decide +kernel
theorem dX11_land_0 : decode cX11_land 0 = .ok (.aload_n 0, 1) := by decide +kernel
theorem dX11_land_1 : decode cX11_land 1 = .ok (.getfield 26, 3) := by decide +kernel
theorem dX11_land_4 : decode cX11_land 4 = .ok (.iload_n 1, 1) := by decide +kernel
theorem dX11_land_5 : decode cX11_land 5 = .ok (.invokevirtual 149, 3) := by decide +kernel
theorem dX11_land_8 : decode cX11_land 8 = .ok (.ifCond .eq 14, 3) := by decide +kernel
theorem dX11_land_11 : decode cX11_land 11 = .ok (.aload_n 0, 1) := by decide +kernel
theorem dX11_land_12 : decode cX11_land 12 = .ok (.getfield 26, 3) := by decide +kernel
theorem dX11_land_15 : decode cX11_land 15 = .ok (.iload_n 1, 1) := by decide +kernel
theorem dX11_land_16 : decode cX11_land 16 = .ok (.invokevirtual 287, 3) := by decide +kernel
theorem dX11_land_19 : decode cX11_land 19 = .ok (.goto 4, 3) := by decide +kernel
theorem dX11_land_23 : decode cX11_land 23 = .ok (.ireturn, 1) := by decide +kernel
theorem dX11_land_22 : decode cX11_land 22 = .ok (.iconst (-1), 1) := by decide +kernel
set_option maxRecDepth 100000 in
theorem ggX11_drawn_X7_daysLeft : GoodIn wsX11_drawn wsX7_daysLeft := goodIn_r _ [8, 9, 168, 169, 170, 171, 172, 173, 174, 175, 176, 177, 178, 179, 180, 181, 182, 183, 184, 185, 186] rfl (by decide +kernel)
set_option maxRecDepth 100000 in
theorem ggX11_drawn_X2_keep : GoodIn wsX11_drawn wsX2_keep := goodIn_r _ [14, 15, 16, 17, 18, 19, 20, 21, 22, 23, 7, 24, 25, 26, 27, 28, 29, 9, 30, 31, 32, 33, 34, 35, 36, 37, 38, 39, 40, 41, 42, 43, 44, 45, 46, 187, 188, 189, 168, 169, 170, 171, 172, 173, 174, 175, 176, 177, 178, 179, 180, 181, 182, 183, 184, 185, 186] rfl (by decide +kernel)
set_option maxRecDepth 100000 in
theorem ggX11_drawn_X1_passDays : GoodIn wsX11_drawn wsX1_passDays := goodIn_r _ [51, 52, 53, 19, 20, 21, 54, 5, 6, 7, 8, 9, 55, 56, 57, 50, 58, 59, 60, 61, 62, 63, 64, 65, 66, 67, 68, 69, 70, 71, 72, 73, 25, 26, 74, 75, 76, 77, 27, 29, 78, 79, 80, 81, 32, 40, 33, 42, 30, 82, 83, 84, 85, 34, 86, 87, 88, 89, 90, 91, 92, 93, 94, 95, 96, 46, 97, 98, 99, 100, 101, 102, 103, 104, 105, 106, 107, 108, 109, 110, 45, 111, 112, 113, 114, 115, 116, 117, 118, 119, 120, 121, 122, 123, 124, 125, 126, 127, 128, 129, 130, 31, 131, 132, 133, 134, 44, 28, 135, 136, 137, 138, 139, 140, 141, 142, 143, 144, 145, 43, 146, 147, 148, 149, 190, 168, 169, 170, 171, 172, 173, 174, 175, 176, 177, 178, 179, 180, 181, 182, 183, 184, 185, 186] rfl (by decide +kernel)
set_option maxRecDepth 100000 in
theorem ggX11_undo_X2_takeBack : GoodIn wsX11_undo wsX2_takeBack := goodIn_r _ [7, 8, 9, 10, 11, 12, 13, 14, 15, 16, 17, 18, 19, 20, 21, 22, 23, 24, 25, 26, 27, 28, 29, 30, 31, 32, 33, 34, 35, 36, 37, 56, 57, 58, 59, 60, 61, 62, 63, 64, 65, 66, 67, 68, 69, 70, 71, 72, 73, 74, 75, 76, 77] rfl (by decide +kernel)
set_option maxRecDepth 100000 in
theorem ggX11_cost_X7_isCell : GoodIn wsX11_cost wsX7_isCell := goodIn_r _ [6, 7, 8, 42, 43, 44, 45, 46, 47, 48, 49, 50, 51, 52, 53, 54, 55, 56, 57, 58, 59, 60] rfl (by decide +kernel)
set_option maxRecDepth 100000 in
theorem ggX11_cost_X7_stepCost : GoodIn wsX11_cost wsX7_stepCost := goodIn_r _ [12, 13, 14, 15, 5, 16, 17, 18, 19, 20, 21, 22, 23, 42, 43, 44, 45, 46, 47, 48, 49, 50, 51, 52, 53, 54, 55, 56, 57, 58, 59, 60] rfl (by decide +kernel)
set_option maxRecDepth 100000 in
theorem ggX11_skin_X7_hasSkin : GoodIn wsX11_skin wsX7_hasSkin := goodIn_r _ [9, 10, 11, 35, 36, 37, 38, 39, 40, 41, 42, 43, 44, 45, 46, 47, 48, 49, 50, 51, 52, 53] rfl (by decide +kernel)
set_option maxRecDepth 100000 in
theorem ggX11_skin_X7_daysLeft : GoodIn wsX11_skin wsX7_daysLeft := goodIn_r _ [15, 16, 35, 36, 37, 38, 39, 40, 41, 42, 43, 44, 45, 46, 47, 48, 49, 50, 51, 52, 53] rfl (by decide +kernel)
set_option maxRecDepth 100000 in
theorem ggX11_way_X6_find : GoodIn wsX11_way wsX6_find := goodIn_r _ [7, 8, 9, 10, 11, 12, 13, 14, 15, 16, 17, 18, 19, 20, 21, 22, 23, 24, 25, 26, 27, 28, 29, 30, 31, 6, 32, 33, 34, 35, 36, 37, 38, 39, 40, 41, 42, 43, 44, 45, 46, 47, 48, 49, 50, 51, 52, 53, 54, 55, 56, 57, 58, 59, 60, 61, 62, 63, 64, 65, 66, 67, 68, 69, 70, 71, 72, 73, 74, 75, 76, 77, 78, 79, 80, 81, 82, 83, 102, 103, 104, 105, 106, 107, 108, 109, 110, 111, 112, 113, 114, 115, 116, 117, 118, 119, 120, 121, 122, 123, 124] rfl (by decide +kernel)
set_option maxRecDepth 100000 in
theorem ggX11_wayAt_X6_sideAt : GoodIn wsX11_wayAt wsX6_sideAt := goodIn_r _ [6, 7, 8, 27, 28, 29, 30] rfl (by decide +kernel)
set_option maxRecDepth 100000 in
theorem ggX11_meet_X4_find : GoodIn wsX11_meet wsX4_find := goodIn_r _ [7, 8, 9, 10, 11, 12, 13, 14, 15, 16, 17, 18, 19, 20, 21, 22, 23, 24, 25, 26, 27, 28, 29, 30, 31, 32, 33, 34, 35, 36, 6, 37, 38, 39, 40, 41, 42, 43, 44, 45, 46, 47, 48, 49, 50, 51, 52, 53, 54, 55, 56, 57, 58, 59, 60, 61, 62, 63, 82, 83, 84, 85, 86, 87, 88, 89, 90, 91, 92, 93, 94, 95, 96, 97, 98, 99, 100, 101, 102, 103] rfl (by decide +kernel)
set_option maxRecDepth 100000 in
theorem ggX11_meetAt_X4_stirAt : GoodIn wsX11_meetAt wsX4_stirAt := goodIn_r _ [6, 7, 8, 9, 10, 5, 11, 12, 13, 14, 33, 34, 35] rfl (by decide +kernel)
set_option maxRecDepth 100000 in
theorem ggX11_sunk_X10_look : GoodIn wsX11_sunk wsX10_look := goodIn_r _ [10, 11, 12, 13, 14, 9, 15, 16, 17, 18, 19, 20, 21, 22, 23, 24, 25, 26, 27, 28, 29, 30, 31, 32, 33, 34, 35, 36, 37, 38, 39, 40, 41, 42, 43, 44, 45, 46, 47, 48, 49, 50, 51, 52, 53, 54, 55, 56, 57, 58, 59, 60, 61, 62, 63, 64, 65, 66, 67, 68, 69, 70, 71, 72, 73, 103, 104, 105, 106, 107, 108, 109, 110, 111, 112, 113, 114, 115, 116, 117, 118, 119, 120, 121, 122, 123] rfl (by decide +kernel)
set_option maxRecDepth 100000 in
theorem ggX11_sunkAt_X10_cellAt : GoodIn wsX11_sunkAt wsX10_cellAt := goodIn_r _ [6, 7, 26, 27] rfl (by decide +kernel)
set_option maxRecDepth 100000 in
theorem ggX11_land_X7_isLump : GoodIn wsX11_land wsX7_isLump := goodIn_r _ [6, 7, 42, 43, 44, 45, 46, 47, 48, 49, 50, 51, 52, 53, 54, 55, 56, 57, 58, 59, 60] rfl (by decide +kernel)
set_option maxRecDepth 100000 in
theorem ggX11_land_X7_landBits : GoodIn wsX11_land wsX7_landBits := goodIn_r _ [11, 7, 12, 13, 14, 5, 15, 16, 17, 18, 19, 20, 21, 22, 23, 42, 43, 44, 45, 46, 47, 48, 49, 50, 51, 52, 53, 54, 55, 56, 57, 58, 59, 60] rfl (by decide +kernel)
set_option maxRecDepth 100000 in
theorem gX11_drawn_X7_daysLeft : GoodIn wsX11_drawn (wsV RX11 248 RX7 yX7_daysLeft wsX7_daysLeft) := goodIn_app (goodIn_of _ (by decide +kernel)) ggX11_drawn_X7_daysLeft
set_option maxRecDepth 100000 in
theorem gX11_drawn_X2_keep : GoodIn wsX11_drawn (wsV RX11 219 RX2 yX2_keep wsX2_keep) := goodIn_app (goodIn_of _ (by decide +kernel)) ggX11_drawn_X2_keep
set_option maxRecDepth 100000 in
theorem gX11_drawn_X1_passDays : GoodIn wsX11_drawn (wsV RX11 254 RX1 yX1_passDays wsX1_passDays) := goodIn_app (goodIn_of _ (by decide +kernel)) ggX11_drawn_X1_passDays
set_option maxRecDepth 100000 in
theorem gX11_undo_X2_takeBack : GoodIn wsX11_undo (wsV RX11 257 RX2 yX2_takeBack wsX2_takeBack) := goodIn_app (goodIn_of _ (by decide +kernel)) ggX11_undo_X2_takeBack
set_option maxRecDepth 100000 in
theorem gX11_cost_X7_isCell : GoodIn wsX11_cost (wsV RX11 141 RX7 yX7_isCell wsX7_isCell) := goodIn_app (goodIn_of _ (by decide +kernel)) ggX11_cost_X7_isCell
set_option maxRecDepth 100000 in
theorem gX11_cost_X7_stepCost : GoodIn wsX11_cost (wsV RX11 261 RX7 yX7_stepCost wsX7_stepCost) := goodIn_app (goodIn_of _ (by decide +kernel)) ggX11_cost_X7_stepCost
set_option maxRecDepth 100000 in
theorem gX11_skin_X7_hasSkin : GoodIn wsX11_skin (wsV RX11 177 RX7 yX7_hasSkin wsX7_hasSkin) := goodIn_app (goodIn_of _ (by decide +kernel)) ggX11_skin_X7_hasSkin
set_option maxRecDepth 100000 in
theorem gX11_skin_X7_daysLeft : GoodIn wsX11_skin (wsV RX11 248 RX7 yX7_daysLeft wsX7_daysLeft) := goodIn_app (goodIn_of _ (by decide +kernel)) ggX11_skin_X7_daysLeft
set_option maxRecDepth 100000 in
theorem gX11_way_X6_find : GoodIn wsX11_way (wsV RX11 264 RX6 yX6_find wsX6_find) := goodIn_app (goodIn_of _ (by decide +kernel)) ggX11_way_X6_find
set_option maxRecDepth 100000 in
theorem gX11_wayAt_X6_sideAt : GoodIn wsX11_wayAt (wsV RX11 267 RX6 yX6_sideAt wsX6_sideAt) := goodIn_app (goodIn_of _ (by decide +kernel)) ggX11_wayAt_X6_sideAt
set_option maxRecDepth 100000 in
theorem gX11_meet_X4_find : GoodIn wsX11_meet (wsV RX11 273 RX4 yX4_find wsX4_find) := goodIn_app (goodIn_of _ (by decide +kernel)) ggX11_meet_X4_find
set_option maxRecDepth 100000 in
theorem gX11_meetAt_X4_stirAt : GoodIn wsX11_meetAt (wsV RX11 274 RX4 yX4_stirAt wsX4_stirAt) := goodIn_app (goodIn_of _ (by decide +kernel)) ggX11_meetAt_X4_stirAt
set_option maxRecDepth 100000 in
theorem gX11_sunk_X10_look : GoodIn wsX11_sunk (wsV RX11 277 RX10 yX10_look wsX10_look) := goodIn_app (goodIn_of _ (by decide +kernel)) ggX11_sunk_X10_look
set_option maxRecDepth 100000 in
theorem gX11_sunkAt_X10_cellAt : GoodIn wsX11_sunkAt (wsV RX11 281 RX10 yX10_cellAt wsX10_cellAt) := goodIn_app (goodIn_of _ (by decide +kernel)) ggX11_sunkAt_X10_cellAt
set_option maxRecDepth 100000 in
theorem gX11_land_X7_isLump : GoodIn wsX11_land (wsV RX11 149 RX7 yX7_isLump wsX7_isLump) := goodIn_app (goodIn_of _ (by decide +kernel)) ggX11_land_X7_isLump
set_option maxRecDepth 100000 in
theorem gX11_land_X7_landBits : GoodIn wsX11_land (wsV RX11 287 RX7 yX7_landBits wsX7_landBits) := goodIn_app (goodIn_of _ (by decide +kernel)) ggX11_land_X7_landBits
set_option maxRecDepth 20000 in
theorem lf_p_undo0_1   : (-1 : Int32) = (-1 : Int32) := by
  try simp only [ia_lt, ia_le, ia_eq, ia_m1, ia_0, ia_1, ne_eq, true_and, and_true, false_and, and_false, or_false, false_or, or_true, true_or, not_true_eq_false, not_false_eq_true] at *
  all_goals omega
set_option maxHeartbeats 4000000 in
set_option maxRecDepth 100000 in
theorem c_p_undo0 (l : Launch) (dC : Nat → ClassId) (dI : Nat → Nat → Nat) (ky : Nat → ClassId) (t : Nat) (reader : Nat) (tapeLength : Nat) (latestFault : Int32) (sea : Nat) (spareSea : Nat) (seaText : Nat) (book : Nat) (sentence : Nat) (spareSentence : Nat) (route : Nat) (meeting : Nat) (sighting : Nat) (draws : Nat) (history : Nat) (images : Nat) (chartBytes : Nat) (chartLength : Nat) (fleetBits : Int32) (hring : Nat) (hnext : Nat) (hkept : Int32) (iv_t_0 : tapeLength ≤ 940) (iv_t_1 : chartLength ≤ 32) (iv_hhistory_0 : hnext < 8) (hk0 : hkept = 0) : Met l yX11_undo wsX11_undo ({ frames := 1, cells := 0, slots := 0, locals := 21 }) (PcP dC dI ky [.ref t] [(t, .inr (11, [.ref reader, .int (nI tapeLength), .int latestFault, .ref sea, .ref spareSea, .ref seaText, .ref book, .ref sentence, .ref spareSentence, .ref route, .ref meeting, .ref sighting, .ref draws, .ref history, .ref images, .ref chartBytes, .int (nI chartLength), .int fleetBits])), (history, .inr (2, [.ref hring, .int (nI hnext), .int hkept]))]) (vp_Si (fun r : Int32 => r = (-1 : Int32))) 0 0 (fun _ => False) := by
  refine Met.ofW (cc := cX11_undo) (maxL := 1) (ret := (some .int)) (by decide) rfl ?_
  intro p e s m args below meth c s₁ B hml hv
  obtain ⟨rfl, hP, hK⟩ := hv
  have hx := B.exec
  have hb := B.bytes
  have hr := B.returns
  have hts := atoms_spec (ws := wsX11_undo) B.pre
  have hown : s.vm.findClass RX11 = some m.cls := findClass_of_methodNamed B.named
  have hlocks := B.notSynchronized
  have hin11 : ∀ w ∈ u_ws RX11 TX11 18, w ∈ wsX11_undo := by decide +kernel
  have hl := lv_entry ([.ref t]) (n := 1) (Nat.le_of_ble_eq_true rfl)
  rw [lg_entry_eq]
  generalize (lg_sl ([.ref t]) ++ List.replicate (1 - (lg_sl ([.ref t])).length) Slot.unset).toArray = ls at hl ⊢
  have hl : lv_has ls 1 [(0, .ref t)] := hl
  refine q_name (fun Q hQ => ?_)
  generalize ([.ref t] : List Value).toArray = args at hts hQ ⊢
  refine lv_aload_n hx hb dX11_undo_0 rfl (lv_at hl 0 rfl) ?_
  refine va_get (D := (dC, dI)) (ci := 11) (v := .ref history) (C := RX11) (T := TX11) (N := 18) hx hb hts hin11 hown hK hP 0 rfl rfl 13 (by decide) (hts (.fieldLink RX11 88 "PorridgeSea" "history" "LPorridgeSea$History;") (List.mem_of_getElem? (i := 1) rfl)) (fun _ h9 => h9) rfl dX11_undo_1 ?_
  refine lv_aload_n hx hb dX11_undo_4 rfl (lv_at hl 0 rfl) ?_
  refine va_get (D := (dC, dI)) (ci := 11) (v := .ref sea) (C := RX11) (T := TX11) (N := 18) hx hb hts hin11 hown hK hP 0 rfl rfl 3 (by decide) (hts (.fieldLink RX11 26 "PorridgeSea" "sea" "LPorridgeSea$Sea;") (List.mem_of_getElem? (i := 2) rfl)) (fun _ h9 => h9) rfl dX11_undo_5 ?_
  refine vp_callSi (W.runV (As := [.ref sea]) (rest := []) ⟨hx, hb, hml, hown, hts⟩ (c_h_takeBack0 l dC dI ky history hring hnext hkept sea iv_hhistory_0 hk0) (cwV 1 hts gX11_undo_X2_takeBack rfl rfl rfl (by decide +kernel) ⟨(Nat.le_of_ble_eq_true rfl), (Nat.le_of_ble_eq_true rfl)⟩) (pre_PV hK hP [1] rfl (ci := 2) (q0 := 1) rfl rfl) rfl rfl hl.1 rfl (lv_room (Nat.le_of_ble_eq_true rfl)) dX11_undo_8 ⟨(Nat.le_of_ble_eq_true rfl), (Nat.le_of_ble_eq_true rfl)⟩) (fun r1 p2 => ?_)
  subst p2
  rw [hQ]
  exact W.iret (v := (-1 : Int32)) hx hb hr (fun t9 ht9 hW9 => ⟨(-1 : Int32), rfl, (lf_p_undo0_1), ht9⟩) (fun _ h => absurd h List.not_mem_nil) dX11_undo_11
set_option maxRecDepth 20000 in
theorem lf_p_cost_1 (high : Nat) (y : Int32) (iv_sea_2 : 2 ≤ high) (iv_sea_3 : high ≤ 6) (t5 : 0 ≤ y.toInt) (t6 : y.toInt < high) : 0 ≤ y.toInt ∧ y.toInt < ((6 : Nat) : Int) := by
  have b_y := ia_b y
  try simp only [ia_lt, ia_le, ia_eq, ia_m1, ia_0, ia_1, ne_eq, true_and, and_true, false_and, and_false, or_false, false_or, or_true, true_or, not_true_eq_false, not_false_eq_true] at *
  all_goals omega
set_option maxRecDepth 20000 in
theorem lf_p_cost_2 (wide : Nat) (x : Int32) (iv_sea_0 : 2 ≤ wide) (iv_sea_1 : wide ≤ 6) (t3 : 0 ≤ x.toInt) (t4 : x.toInt < wide) : 0 ≤ x.toInt ∧ x.toInt < ((6 : Nat) : Int) := by
  have b_x := ia_b x
  try simp only [ia_lt, ia_le, ia_eq, ia_m1, ia_0, ia_1, ne_eq, true_and, and_true, false_and, and_false, or_false, false_or, or_true, true_or, not_true_eq_false, not_false_eq_true] at *
  all_goals omega
set_option maxHeartbeats 4000000 in
set_option maxRecDepth 100000 in
theorem c_p_cost (l : Launch) (dC : Nat → ClassId) (dI : Nat → Nat → Nat) (ky : Nat → ClassId) (t : Nat) (reader : Nat) (tapeLength : Nat) (latestFault : Int32) (sea : Nat) (spareSea : Nat) (seaText : Nat) (book : Nat) (sentence : Nat) (spareSentence : Nat) (route : Nat) (meeting : Nat) (sighting : Nat) (draws : Nat) (history : Nat) (images : Nat) (chartBytes : Nat) (chartLength : Nat) (fleetBits : Int32) (wide : Nat) (high : Nat) (heat : Int32) (cools : Int32) (skinHeat : Int32) (today : Int32) (stirs : Int32) (steps : Int32) (lumps : Nat) (boats : Nat) (thickness : Nat) (lumpNames : Nat) (lumpCells : Nat) (boatNames : Nat) (boatCells : Nat) (loads : Nat) (spoons : Nat) (spoonsLeft : Nat) (depths : Nat) (thicknessF : Nat → Int32) (x : Int32) (y : Int32) (iv_t_0 : tapeLength ≤ 940) (iv_t_1 : chartLength ≤ 32) (iv_sea_0 : 2 ≤ wide) (iv_sea_1 : wide ≤ 6) (iv_sea_2 : 2 ≤ high) (iv_sea_3 : high ≤ 6) (iv_sea_4 : lumps ≤ 6) (iv_sea_5 : boats ≤ 6) : Met l yX11_cost wsX11_cost ({ frames := 2, cells := 0, slots := 0, locals := 42 }) (PcP dC dI ky [.ref t, .int x, .int y] [(t, .inr (11, [.ref reader, .int (nI tapeLength), .int latestFault, .ref sea, .ref spareSea, .ref seaText, .ref book, .ref sentence, .ref spareSentence, .ref route, .ref meeting, .ref sighting, .ref draws, .ref history, .ref images, .ref chartBytes, .int (nI chartLength), .int fleetBits])), (sea, .inr (7, [.int (nI wide), .int (nI high), .int heat, .int cools, .int skinHeat, .int today, .int stirs, .int steps, .int (nI lumps), .int (nI boats), .ref thickness, .ref lumpNames, .ref lumpCells, .ref boatNames, .ref boatCells, .ref loads, .ref spoons, .ref spoonsLeft, .ref depths])), (thickness, .inl (ky 0, 36, .inl thicknessF))]) (vp_Si (fun r : Int32 => True)) 0 0 (fun _ => False) := by
  refine Met.ofW (cc := cX11_cost) (maxL := 3) (ret := (some .int)) (by decide) rfl ?_
  intro p e s m args below meth c s₁ B hml hv
  obtain ⟨rfl, hP, hK⟩ := hv
  have hx := B.exec
  have hb := B.bytes
  have hr := B.returns
  have hts := atoms_spec (ws := wsX11_cost) B.pre
  have hown : s.vm.findClass RX11 = some m.cls := findClass_of_methodNamed B.named
  have hlocks := B.notSynchronized
  have hin11 : ∀ w ∈ u_ws RX11 TX11 18, w ∈ wsX11_cost := by decide +kernel
  have hl := lv_entry ([.ref t, .int x, .int y]) (n := 3) (Nat.le_of_ble_eq_true rfl)
  rw [lg_entry_eq]
  generalize (lg_sl ([.ref t, .int x, .int y]) ++ List.replicate (3 - (lg_sl ([.ref t, .int x, .int y])).length) Slot.unset).toArray = ls at hl ⊢
  have hl : lv_has ls 3 [(0, .ref t), (1, .int x), (2, .int y)] := hl
  refine q_name (fun Q hQ => ?_)
  generalize ([.ref t, .int x, .int y] : List Value).toArray = args at hts hQ ⊢
  refine lv_aload_n hx hb dX11_cost_0 rfl (lv_at hl 0 rfl) ?_
  refine va_get (D := (dC, dI)) (ci := 11) (v := .ref sea) (C := RX11) (T := TX11) (N := 18) hx hb hts hin11 hown hK hP 0 rfl rfl 3 (by decide) (hts (.fieldLink RX11 26 "PorridgeSea" "sea" "LPorridgeSea$Sea;") (List.mem_of_getElem? (i := 1) rfl)) (fun _ h9 => h9) rfl dX11_cost_1 ?_
  refine lv_iload_n hx hb dX11_cost_4 rfl (lv_at hl 1 rfl) ?_
  refine lv_iload_n hx hb dX11_cost_5 rfl (lv_at hl 2 rfl) ?_
  refine vp_callSi (W.runV (As := [.int x, .int y]) (rest := []) ⟨hx, hb, hml, hown, hts⟩ (c_s_isCell l dC dI ky sea wide high heat cools skinHeat today stirs steps lumps boats thickness lumpNames lumpCells boatNames boatCells loads spoons spoonsLeft depths x y iv_sea_0 iv_sea_1 iv_sea_2 iv_sea_3 iv_sea_4 iv_sea_5) (cwV 2 hts gX11_cost_X7_isCell rfl rfl rfl (by decide +kernel) ⟨(Nat.le_of_ble_eq_true rfl), (Nat.le_of_ble_eq_true rfl)⟩) (pre_PV hK hP [1] rfl (ci := 7) (q0 := 1) rfl rfl) rfl rfl hl.1 rfl (lv_room (Nat.le_of_ble_eq_true rfl)) dX11_cost_6 ⟨(Nat.le_of_ble_eq_true rfl), (Nat.le_of_ble_eq_true rfl)⟩) (fun r1 p2 => ?_)
  rcases p2 with ⟨rfl, t3, t4, t5, t6⟩ | ⟨rfl, t7⟩
  · refine lv_if_eq (tgt := 28) hx hb dX11_cost_9 (by decide) (fun c8 => absurd c8 (by decide)) (fun c8 => ?_)
    refine lv_aload_n hx hb dX11_cost_12 rfl (lv_at hl 0 rfl) ?_
    refine va_get (D := (dC, dI)) (ci := 11) (v := .ref sea) (C := RX11) (T := TX11) (N := 18) hx hb hts hin11 hown hK hP 0 rfl rfl 3 (by decide) (hts (.fieldLink RX11 26 "PorridgeSea" "sea" "LPorridgeSea$Sea;") (List.mem_of_getElem? (i := 1) rfl)) (fun _ h9 => h9) rfl dX11_cost_13 ?_
    refine lv_bipush (v := nI 6) hx hb dX11_cost_16 (by decide) ?_
    refine lv_iload_n hx hb dX11_cost_18 rfl (lv_at hl 2 rfl) ?_
    obtain ⟨n9, h10, e11⟩ := nat_of y 6 (by decide) (lf_p_cost_1 high y iv_sea_2 iv_sea_3 t5 t6)
    rw [e11]
    refine lv_imul hx hb dX11_cost_19 ?_
    refine r_ti (nI (6 * n9)) (pk_mul _ _) ?_
    refine lv_iload_n hx hb dX11_cost_20 rfl (lv_at hl 1 rfl) ?_
    obtain ⟨n12, h13, e14⟩ := nat_of x 6 (by decide) (lf_p_cost_2 wide x iv_sea_0 iv_sea_1 t3 t4)
    rw [e14]
    refine lv_iadd hx hb dX11_cost_21 ?_
    refine r_ti (nI ((6 * n9) + n12)) (nI_add _ _) ?_
    refine vp_callSi (W.runV (As := [.int (nI ((6 * n9) + n12))]) (rest := []) ⟨hx, hb, hml, hown, hts⟩ (c_s_stepCost l dC dI ky sea wide high heat cools skinHeat today stirs steps lumps boats thickness lumpNames lumpCells boatNames boatCells loads spoons spoonsLeft depths thicknessF (nI ((6 * n9) + n12)) iv_sea_0 iv_sea_1 iv_sea_2 iv_sea_3 iv_sea_4 iv_sea_5) (cwV 1 hts gX11_cost_X7_stepCost rfl rfl rfl (by decide +kernel) ⟨(Nat.le_of_ble_eq_true rfl), (Nat.le_of_ble_eq_true rfl)⟩) (pre_PV hK hP [1, 2] rfl (ci := 7) (q0 := 1) rfl rfl) rfl rfl hl.1 rfl (lv_room (Nat.le_of_ble_eq_true rfl)) dX11_cost_22 ⟨(Nat.le_of_ble_eq_true rfl), (Nat.le_of_ble_eq_true rfl)⟩) (fun r15 p16 => ?_)
    refine lv_goto (tgt := 29) hx hb dX11_cost_25 (by decide) ?_
    rw [hQ]
    exact W.iret (v := r15) hx hb hr (fun t9 ht9 hW9 => ⟨r15, rfl, trivial, ht9⟩) (fun _ h => absurd h List.not_mem_nil) dX11_cost_29
  · refine lv_if_eq (tgt := 28) hx hb dX11_cost_9 (by decide) (fun c17 => ?_) (fun c17 => absurd (by decide) c17)
    refine lv_iconst (v := (-1 : Int32)) hx hb dX11_cost_28 (by decide) ?_
    rw [hQ]
    exact W.iret (v := (-1 : Int32)) hx hb hr (fun t9 ht9 hW9 => ⟨(-1 : Int32), rfl, trivial, ht9⟩) (fun _ h => absurd h List.not_mem_nil) dX11_cost_29
set_option maxRecDepth 20000 in
theorem lf_p_skin_1 (heat : Int32) (cools : Int32) (skinHeat : Int32) (y5 : Int32) (y7 : Int32) (y9 : Int32) (c4 : nI 1 ≤ cools) (e6 : y5 = heat - skinHeat) (e8 : y7 = y5 + cools) (e10 : y9 = y7 - (nI 1)) : ¬ cools = 0 := by
  have b_heat := ia_b heat
  have b_cools := ia_b cools
  have b_skinHeat := ia_b skinHeat
  have b_y5 := ia_b y5
  have b_y7 := ia_b y7
  have b_y9 := ia_b y9
  try have k_0 := ia_n 1 (by first | decide | omega)
  try simp only [ia_lt, ia_le, ia_eq, ia_m1, ia_0, ia_1, ne_eq, true_and, and_true, false_and, and_false, or_false, false_or, or_true, true_or, not_true_eq_false, not_false_eq_true] at *
  all_goals omega
set_option maxHeartbeats 4000000 in
set_option maxRecDepth 100000 in
theorem c_p_skin (l : Launch) (dC : Nat → ClassId) (dI : Nat → Nat → Nat) (ky : Nat → ClassId) (t : Nat) (reader : Nat) (tapeLength : Nat) (latestFault : Int32) (sea : Nat) (spareSea : Nat) (seaText : Nat) (book : Nat) (sentence : Nat) (spareSentence : Nat) (route : Nat) (meeting : Nat) (sighting : Nat) (draws : Nat) (history : Nat) (images : Nat) (chartBytes : Nat) (chartLength : Nat) (fleetBits : Int32) (wide : Nat) (high : Nat) (heat : Int32) (cools : Int32) (skinHeat : Int32) (today : Int32) (stirs : Int32) (steps : Int32) (lumps : Nat) (boats : Nat) (thickness : Nat) (lumpNames : Nat) (lumpCells : Nat) (boatNames : Nat) (boatCells : Nat) (loads : Nat) (spoons : Nat) (spoonsLeft : Nat) (depths : Nat) (iv_t_0 : tapeLength ≤ 940) (iv_t_1 : chartLength ≤ 32) (iv_sea_0 : 2 ≤ wide) (iv_sea_1 : wide ≤ 6) (iv_sea_2 : 2 ≤ high) (iv_sea_3 : high ≤ 6) (iv_sea_4 : lumps ≤ 6) (iv_sea_5 : boats ≤ 6) : Met l yX11_skin wsX11_skin ({ frames := 1, cells := 0, slots := 0, locals := 20 }) (PcP dC dI ky [.ref t] [(t, .inr (11, [.ref reader, .int (nI tapeLength), .int latestFault, .ref sea, .ref spareSea, .ref seaText, .ref book, .ref sentence, .ref spareSentence, .ref route, .ref meeting, .ref sighting, .ref draws, .ref history, .ref images, .ref chartBytes, .int (nI chartLength), .int fleetBits])), (sea, .inr (7, [.int (nI wide), .int (nI high), .int heat, .int cools, .int skinHeat, .int today, .int stirs, .int steps, .int (nI lumps), .int (nI boats), .ref thickness, .ref lumpNames, .ref lumpCells, .ref boatNames, .ref boatCells, .ref loads, .ref spoons, .ref spoonsLeft, .ref depths]))]) (vp_Si (fun r : Int32 => True)) 0 0 (fun _ => False) := by
  refine Met.ofW (cc := cX11_skin) (maxL := 2) (ret := (some .int)) (by decide) rfl ?_
  intro p e s m args below meth c s₁ B hml hv
  obtain ⟨rfl, hP, hK⟩ := hv
  have hx := B.exec
  have hb := B.bytes
  have hr := B.returns
  have hts := atoms_spec (ws := wsX11_skin) B.pre
  have hown : s.vm.findClass RX11 = some m.cls := findClass_of_methodNamed B.named
  have hlocks := B.notSynchronized
  have hin7 : ∀ w ∈ u_ws RX7 TX7 19, w ∈ wsX11_skin := by decide +kernel
  have hin11 : ∀ w ∈ u_ws RX11 TX11 18, w ∈ wsX11_skin := by decide +kernel
  have hl := lv_entry ([.ref t]) (n := 2) (Nat.le_of_ble_eq_true rfl)
  rw [lg_entry_eq]
  generalize (lg_sl ([.ref t]) ++ List.replicate (2 - (lg_sl ([.ref t])).length) Slot.unset).toArray = ls at hl ⊢
  have hl : lv_has ls 2 [(0, .ref t)] := hl
  refine q_name (fun Q hQ => ?_)
  generalize ([.ref t] : List Value).toArray = args at hts hQ ⊢
  refine lv_aload_n hx hb dX11_skin_0 rfl (lv_at hl 0 rfl) ?_
  refine va_get (D := (dC, dI)) (ci := 11) (v := .ref sea) (C := RX11) (T := TX11) (N := 18) hx hb hts hin11 hown hK hP 0 rfl rfl 3 (by decide) (hts (.fieldLink RX11 26 "PorridgeSea" "sea" "LPorridgeSea$Sea;") (List.mem_of_getElem? (i := 1) rfl)) (fun _ h9 => h9) rfl dX11_skin_1 ?_
  refine vp_callSi (W.runV (As := []) (rest := []) ⟨hx, hb, hml, hown, hts⟩ (c_s_hasSkin l dC dI ky sea wide high heat cools skinHeat today stirs steps lumps boats thickness lumpNames lumpCells boatNames boatCells loads spoons spoonsLeft depths iv_sea_0 iv_sea_1 iv_sea_2 iv_sea_3 iv_sea_4 iv_sea_5) (cwV 0 hts gX11_skin_X7_hasSkin rfl rfl rfl (by decide +kernel) ⟨(Nat.le_of_ble_eq_true rfl), (Nat.le_of_ble_eq_true rfl)⟩) (pre_PV hK hP [1] rfl (ci := 7) (q0 := 1) rfl rfl) rfl rfl hl.1 rfl (lv_room (Nat.le_of_ble_eq_true rfl)) dX11_skin_4 ⟨(Nat.le_of_ble_eq_true rfl), (Nat.le_of_ble_eq_true rfl)⟩) (fun r1 p2 => ?_)
  refine lv_if_eq (tgt := 12) hx hb dX11_skin_7 (by decide) (fun c3 => ?_) (fun c3 => ?_)
  · refine lv_aload_n hx hb dX11_skin_12 rfl (lv_at hl 0 rfl) ?_
    refine va_get (D := (dC, dI)) (ci := 11) (v := .ref sea) (C := RX11) (T := TX11) (N := 18) hx hb hts hin11 hown hK hP 0 rfl rfl 3 (by decide) (hts (.fieldLink RX11 26 "PorridgeSea" "sea" "LPorridgeSea$Sea;") (List.mem_of_getElem? (i := 1) rfl)) (fun _ h9 => h9) rfl dX11_skin_13 ?_
    refine va_get (D := (dC, dI)) (ci := 7) (v := .int cools) (C := RX7) (T := TX7) (N := 19) hx hb hts hin7 hown hK hP 1 rfl rfl 3 (by decide) (hts (.fieldLink RX11 209 "PorridgeSea$Sea" "cools" "I") (List.mem_of_getElem? (i := 2) rfl)) (fun _ h9 => h9) rfl dX11_skin_16 ?_
    refine lv_iconst (v := nI 1) hx hb dX11_skin_19 (by decide) ?_
    refine lv_icmp_ge (tgt := 25) hx hb dX11_skin_20 (by decide) (fun c4 => ?_) (fun c4 => ?_)
    · refine lv_aload_n hx hb dX11_skin_25 rfl (lv_at hl 0 rfl) ?_
      refine va_get (D := (dC, dI)) (ci := 11) (v := .ref sea) (C := RX11) (T := TX11) (N := 18) hx hb hts hin11 hown hK hP 0 rfl rfl 3 (by decide) (hts (.fieldLink RX11 26 "PorridgeSea" "sea" "LPorridgeSea$Sea;") (List.mem_of_getElem? (i := 1) rfl)) (fun _ h9 => h9) rfl dX11_skin_26 ?_
      refine va_get (D := (dC, dI)) (ci := 7) (v := .int heat) (C := RX7) (T := TX7) (N := 19) hx hb hts hin7 hown hK hP 1 rfl rfl 2 (by decide) (hts (.fieldLink RX11 174 "PorridgeSea$Sea" "heat" "I") (List.mem_of_getElem? (i := 3) rfl)) (fun _ h9 => h9) rfl dX11_skin_29 ?_
      refine lv_aload_n hx hb dX11_skin_32 rfl (lv_at hl 0 rfl) ?_
      refine va_get (D := (dC, dI)) (ci := 11) (v := .ref sea) (C := RX11) (T := TX11) (N := 18) hx hb hts hin11 hown hK hP 0 rfl rfl 3 (by decide) (hts (.fieldLink RX11 26 "PorridgeSea" "sea" "LPorridgeSea$Sea;") (List.mem_of_getElem? (i := 1) rfl)) (fun _ h9 => h9) rfl dX11_skin_33 ?_
      refine va_get (D := (dC, dI)) (ci := 7) (v := .int skinHeat) (C := RX7) (T := TX7) (N := 19) hx hb hts hin7 hown hK hP 1 rfl rfl 4 (by decide) (hts (.fieldLink RX11 212 "PorridgeSea$Sea" "skinHeat" "I") (List.mem_of_getElem? (i := 4) rfl)) (fun _ h9 => h9) rfl dX11_skin_36 ?_
      refine lv_isub hx hb dX11_skin_39 ?_
      refine lv_topi (fun y5 e6 => ?_)
      refine lv_aload_n hx hb dX11_skin_40 rfl (lv_at hl 0 rfl) ?_
      refine va_get (D := (dC, dI)) (ci := 11) (v := .ref sea) (C := RX11) (T := TX11) (N := 18) hx hb hts hin11 hown hK hP 0 rfl rfl 3 (by decide) (hts (.fieldLink RX11 26 "PorridgeSea" "sea" "LPorridgeSea$Sea;") (List.mem_of_getElem? (i := 1) rfl)) (fun _ h9 => h9) rfl dX11_skin_41 ?_
      refine va_get (D := (dC, dI)) (ci := 7) (v := .int cools) (C := RX7) (T := TX7) (N := 19) hx hb hts hin7 hown hK hP 1 rfl rfl 3 (by decide) (hts (.fieldLink RX11 209 "PorridgeSea$Sea" "cools" "I") (List.mem_of_getElem? (i := 2) rfl)) (fun _ h9 => h9) rfl dX11_skin_44 ?_
      refine lv_iadd hx hb dX11_skin_47 ?_
      refine lv_topi (fun y7 e8 => ?_)
      refine lv_iconst (v := nI 1) hx hb dX11_skin_48 (by decide) ?_
      refine lv_isub hx hb dX11_skin_49 ?_
      refine lv_topi (fun y9 e10 => ?_)
      refine lv_aload_n hx hb dX11_skin_50 rfl (lv_at hl 0 rfl) ?_
      refine va_get (D := (dC, dI)) (ci := 11) (v := .ref sea) (C := RX11) (T := TX11) (N := 18) hx hb hts hin11 hown hK hP 0 rfl rfl 3 (by decide) (hts (.fieldLink RX11 26 "PorridgeSea" "sea" "LPorridgeSea$Sea;") (List.mem_of_getElem? (i := 1) rfl)) (fun _ h9 => h9) rfl dX11_skin_51 ?_
      refine va_get (D := (dC, dI)) (ci := 7) (v := .int cools) (C := RX7) (T := TX7) (N := 19) hx hb hts hin7 hown hK hP 1 rfl rfl 3 (by decide) (hts (.fieldLink RX11 209 "PorridgeSea$Sea" "cools" "I") (List.mem_of_getElem? (i := 2) rfl)) (fun _ h9 => h9) rfl dX11_skin_54 ?_
      refine lv_idiv hx hb dX11_skin_57 (lf_p_skin_1 heat cools skinHeat y5 y7 y9 c4 e6 e8 e10) ?_
      refine lv_topi (fun y11 e12 => ?_)
      refine lv_istore_n (lv' := [(1, .int y11), (0, .ref t)]) hx hb dX11_skin_58 rfl hl (by decide) rfl (fun ls hl => ?_)
      refine lv_iload_n hx hb dX11_skin_59 rfl (lv_at hl 0 rfl) ?_
      refine lv_aload_n hx hb dX11_skin_60 rfl (lv_at hl 1 rfl) ?_
      refine va_get (D := (dC, dI)) (ci := 11) (v := .ref sea) (C := RX11) (T := TX11) (N := 18) hx hb hts hin11 hown hK hP 0 rfl rfl 3 (by decide) (hts (.fieldLink RX11 26 "PorridgeSea" "sea" "LPorridgeSea$Sea;") (List.mem_of_getElem? (i := 1) rfl)) (fun _ h9 => h9) rfl dX11_skin_61 ?_
      refine vp_callSi (W.runV (As := []) (rest := [.int y11]) ⟨hx, hb, hml, hown, hts⟩ (c_s_daysLeft l dC dI ky sea wide high heat cools skinHeat today stirs steps lumps boats thickness lumpNames lumpCells boatNames boatCells loads spoons spoonsLeft depths iv_sea_0 iv_sea_1 iv_sea_2 iv_sea_3 iv_sea_4 iv_sea_5) (cwV 0 hts gX11_skin_X7_daysLeft rfl rfl rfl (by decide +kernel) ⟨(Nat.le_of_ble_eq_true rfl), (Nat.le_of_ble_eq_true rfl)⟩) (pre_PV hK hP [1] rfl (ci := 7) (q0 := 1) rfl rfl) rfl rfl hl.1 rfl (lv_room (Nat.le_of_ble_eq_true rfl)) dX11_skin_64 ⟨(Nat.le_of_ble_eq_true rfl), (Nat.le_of_ble_eq_true rfl)⟩) (fun r13 p14 => ?_)
      refine lv_icmp_gt (tgt := 74) hx hb dX11_skin_67 (by decide) (fun c15 => ?_) (fun c15 => ?_)
      · refine lv_iconst (v := (-1 : Int32)) hx hb dX11_skin_74 (by decide) ?_
        rw [hQ]
        exact W.iret (v := (-1 : Int32)) hx hb hr (fun t9 ht9 hW9 => ⟨(-1 : Int32), rfl, trivial, ht9⟩) (fun _ h => absurd h List.not_mem_nil) dX11_skin_75
      · refine lv_iload_n hx hb dX11_skin_70 rfl (lv_at hl 0 rfl) ?_
        refine lv_goto (tgt := 75) hx hb dX11_skin_71 (by decide) ?_
        rw [hQ]
        exact W.iret (v := y11) hx hb hr (fun t9 ht9 hW9 => ⟨y11, rfl, trivial, ht9⟩) (fun _ h => absurd h List.not_mem_nil) dX11_skin_75
    · refine lv_iconst (v := (-1 : Int32)) hx hb dX11_skin_23 (by decide) ?_
      rw [hQ]
      exact W.iret (v := (-1 : Int32)) hx hb hr (fun t9 ht9 hW9 => ⟨(-1 : Int32), rfl, trivial, ht9⟩) (fun _ h => absurd h List.not_mem_nil) dX11_skin_24
  · refine lv_iconst (v := nI 0) hx hb dX11_skin_10 (by decide) ?_
    rw [hQ]
    exact W.iret (v := nI 0) hx hb hr (fun t9 ht9 hW9 => ⟨nI 0, rfl, trivial, ht9⟩) (fun _ h => absurd h List.not_mem_nil) dX11_skin_11
set_option maxHeartbeats 4000000 in
set_option maxRecDepth 100000 in
theorem c_p_way (l : Launch) (dC : Nat → ClassId) (dI : Nat → Nat → Nat) (ky : Nat → ClassId) (sz : Nat) (t : Nat) (reader : Nat) (tapeLength : Nat) (latestFault : Int32) (sea : Nat) (spareSea : Nat) (seaText : Nat) (book : Nat) (sentence : Nat) (spareSentence : Nat) (route : Nat) (meeting : Nat) (sighting : Nat) (draws : Nat) (history : Nat) (images : Nat) (chartBytes : Nat) (chartLength : Nat) (fleetBits : Int32) (ofarness : Nat) (osides : Nat) (ostepCount : Nat) (odaysTaken : Int32) (ofarnessF : Nat → Int32) (osidesF : Nat → Int32) (wide : Nat) (high : Nat) (heat : Int32) (cools : Int32) (skinHeat : Int32) (today : Int32) (stirs : Int32) (steps : Int32) (lumps : Nat) (boats : Nat) (thickness : Nat) (lumpNames : Nat) (lumpCells : Nat) (boatNames : Nat) (boatCells : Nat) (loads : Nat) (spoons : Nat) (spoonsLeft : Nat) (depths : Nat) (thicknessF : Nat → Int32) (lumpCellsF : Nat → Int32) (boatCellsF : Nat → Int32) (spoonsF : Nat → Int32) (depthsF : Nat → Int32) (x : Int32) (y : Int32) (iv_t_0 : tapeLength ≤ 940) (iv_t_1 : chartLength ≤ 32) (iv_oroute_0 : ostepCount ≤ 36) (iv_sea_0 : 2 ≤ wide) (iv_sea_1 : wide ≤ 6) (iv_sea_2 : 2 ≤ high) (iv_sea_3 : high ≤ 6) (iv_sea_4 : lumps ≤ 6) (iv_sea_5 : boats ≤ 6) : Met l yX11_way wsX11_way ({ frames := 6, cells := 0, slots := 0, locals := 150 }) (PcU dC dI ky [.ref t, .int x, .int y] [(t, .inr (11, [.ref reader, .int (nI tapeLength), .int latestFault, .ref sea, .ref spareSea, .ref seaText, .ref book, .ref sentence, .ref spareSentence, .ref route, .ref meeting, .ref sighting, .ref draws, .ref history, .ref images, .ref chartBytes, .int (nI chartLength), .int fleetBits])), (route, .inr (6, [.ref ofarness, .ref osides, .int (nI ostepCount), .int odaysTaken])), (ofarness, .inl (ky 0, 36, .inl ofarnessF)), (osides, .inl (ky 0, 36, .inl osidesF)), (sea, .inr (7, [.int (nI wide), .int (nI high), .int heat, .int cools, .int skinHeat, .int today, .int stirs, .int steps, .int (nI lumps), .int (nI boats), .ref thickness, .ref lumpNames, .ref lumpCells, .ref boatNames, .ref boatCells, .ref loads, .ref spoons, .ref spoonsLeft, .ref depths])), (thickness, .inl (ky 0, 36, .inl thicknessF)), (lumpCells, .inl (ky 0, 6, .inl lumpCellsF)), (boatCells, .inl (ky 0, 6, .inl boatCellsF)), (spoons, .inl (ky 0, 6, .inl spoonsF)), (depths, .inl (ky 0, 6, .inl depthsF))] sz) (va_Qi (fun (r : Int32) (u : Nat × Int32 × (Nat → Int32) × (Nat → Int32)) => match u with | (ostepCountG, odaysTakenG, ofarnessG, osidesG) => ostepCountG ≤ 36) (BU dC dI ky (fun (u : Nat × Int32 × (Nat → Int32) × (Nat → Int32)) => match u with | (ostepCountG, odaysTakenG, ofarnessG, osidesG) => [(t, .inr (11, [.ref reader, .int (nI tapeLength), .int latestFault, .ref sea, .ref spareSea, .ref seaText, .ref book, .ref sentence, .ref spareSentence, .ref route, .ref meeting, .ref sighting, .ref draws, .ref history, .ref images, .ref chartBytes, .int (nI chartLength), .int fleetBits])), (route, .inr (6, [.ref ofarness, .ref osides, .int (nI ostepCountG), .int odaysTakenG])), (ofarness, .inl (ky 0, 36, .inl ofarnessG)), (osides, .inl (ky 0, 36, .inl osidesG)), (sea, .inr (7, [.int (nI wide), .int (nI high), .int heat, .int cools, .int skinHeat, .int today, .int stirs, .int steps, .int (nI lumps), .int (nI boats), .ref thickness, .ref lumpNames, .ref lumpCells, .ref boatNames, .ref boatCells, .ref loads, .ref spoons, .ref spoonsLeft, .ref depths])), (thickness, .inl (ky 0, 36, .inl thicknessF)), (lumpCells, .inl (ky 0, 6, .inl lumpCellsF)), (boatCells, .inl (ky 0, 6, .inl boatCellsF)), (spoons, .inl (ky 0, 6, .inl spoonsF)), (depths, .inl (ky 0, 6, .inl depthsF))]) (va_A [(t, .inr (11, [.ref reader, .int (nI tapeLength), .int latestFault, .ref sea, .ref spareSea, .ref seaText, .ref book, .ref sentence, .ref spareSentence, .ref route, .ref meeting, .ref sighting, .ref draws, .ref history, .ref images, .ref chartBytes, .int (nI chartLength), .int fleetBits])), (route, .inr (6, [.ref ofarness, .ref osides, .int (nI ostepCount), .int odaysTaken])), (ofarness, .inl (ky 0, 36, .inl ofarnessF)), (osides, .inl (ky 0, 36, .inl osidesF)), (sea, .inr (7, [.int (nI wide), .int (nI high), .int heat, .int cools, .int skinHeat, .int today, .int stirs, .int steps, .int (nI lumps), .int (nI boats), .ref thickness, .ref lumpNames, .ref lumpCells, .ref boatNames, .ref boatCells, .ref loads, .ref spoons, .ref spoonsLeft, .ref depths])), (thickness, .inl (ky 0, 36, .inl thicknessF)), (lumpCells, .inl (ky 0, 6, .inl lumpCellsF)), (boatCells, .inl (ky 0, 6, .inl boatCellsF)), (spoons, .inl (ky 0, 6, .inl spoonsF)), (depths, .inl (ky 0, 6, .inl depthsF))] sz)) (va_A [(t, .inr (11, [.ref reader, .int (nI tapeLength), .int latestFault, .ref sea, .ref spareSea, .ref seaText, .ref book, .ref sentence, .ref spareSentence, .ref route, .ref meeting, .ref sighting, .ref draws, .ref history, .ref images, .ref chartBytes, .int (nI chartLength), .int fleetBits])), (route, .inr (6, [.ref ofarness, .ref osides, .int (nI ostepCount), .int odaysTaken])), (ofarness, .inl (ky 0, 36, .inl ofarnessF)), (osides, .inl (ky 0, 36, .inl osidesF)), (sea, .inr (7, [.int (nI wide), .int (nI high), .int heat, .int cools, .int skinHeat, .int today, .int stirs, .int steps, .int (nI lumps), .int (nI boats), .ref thickness, .ref lumpNames, .ref lumpCells, .ref boatNames, .ref boatCells, .ref loads, .ref spoons, .ref spoonsLeft, .ref depths])), (thickness, .inl (ky 0, 36, .inl thicknessF)), (lumpCells, .inl (ky 0, 6, .inl lumpCellsF)), (boatCells, .inl (ky 0, 6, .inl boatCellsF)), (spoons, .inl (ky 0, 6, .inl spoonsF)), (depths, .inl (ky 0, 6, .inl depthsF))] sz)) 0 0 (va_A [(t, .inr (11, [.ref reader, .int (nI tapeLength), .int latestFault, .ref sea, .ref spareSea, .ref seaText, .ref book, .ref sentence, .ref spareSentence, .ref route, .ref meeting, .ref sighting, .ref draws, .ref history, .ref images, .ref chartBytes, .int (nI chartLength), .int fleetBits])), (route, .inr (6, [.ref ofarness, .ref osides, .int (nI ostepCount), .int odaysTaken])), (ofarness, .inl (ky 0, 36, .inl ofarnessF)), (osides, .inl (ky 0, 36, .inl osidesF)), (sea, .inr (7, [.int (nI wide), .int (nI high), .int heat, .int cools, .int skinHeat, .int today, .int stirs, .int steps, .int (nI lumps), .int (nI boats), .ref thickness, .ref lumpNames, .ref lumpCells, .ref boatNames, .ref boatCells, .ref loads, .ref spoons, .ref spoonsLeft, .ref depths])), (thickness, .inl (ky 0, 36, .inl thicknessF)), (lumpCells, .inl (ky 0, 6, .inl lumpCellsF)), (boatCells, .inl (ky 0, 6, .inl boatCellsF)), (spoons, .inl (ky 0, 6, .inl spoonsF)), (depths, .inl (ky 0, 6, .inl depthsF))] sz) := by
  refine Met.ofW (cc := cX11_way) (maxL := 3) (ret := (some .int)) (by decide) rfl ?_
  intro p e s m args below meth c s₁ B hml hv
  obtain ⟨rfl, hsz, hP, hK, hD0⟩ := hv
  have hx := B.exec
  have hb := B.bytes
  have hr := B.returns
  have hts := atoms_spec (ws := wsX11_way) B.pre
  have hown : s.vm.findClass RX11 = some m.cls := findClass_of_methodNamed B.named
  have hlocks := B.notSynchronized
  have hin11 : ∀ w ∈ u_ws RX11 TX11 18, w ∈ wsX11_way := by decide +kernel
  subst hsz
  have hD := hD0.self (sz := s.heap.size)
  generalize hAe : va_A [(t, .inr (11, [.ref reader, .int (nI tapeLength), .int latestFault, .ref sea, .ref spareSea, .ref seaText, .ref book, .ref sentence, .ref spareSentence, .ref route, .ref meeting, .ref sighting, .ref draws, .ref history, .ref images, .ref chartBytes, .int (nI chartLength), .int fleetBits])), (route, .inr (6, [.ref ofarness, .ref osides, .int (nI ostepCount), .int odaysTaken])), (ofarness, .inl (ky 0, 36, .inl ofarnessF)), (osides, .inl (ky 0, 36, .inl osidesF)), (sea, .inr (7, [.int (nI wide), .int (nI high), .int heat, .int cools, .int skinHeat, .int today, .int stirs, .int steps, .int (nI lumps), .int (nI boats), .ref thickness, .ref lumpNames, .ref lumpCells, .ref boatNames, .ref boatCells, .ref loads, .ref spoons, .ref spoonsLeft, .ref depths])), (thickness, .inl (ky 0, 36, .inl thicknessF)), (lumpCells, .inl (ky 0, 6, .inl lumpCellsF)), (boatCells, .inl (ky 0, 6, .inl boatCellsF)), (spoons, .inl (ky 0, 6, .inl spoonsF)), (depths, .inl (ky 0, 6, .inl depthsF))] s.heap.size = A at hD ⊢
  have hA : ∀ q : Nat, s.heap.size ≤ q → A q := fun q h => by rw [← hAe]; exact Or.inr h
  have hS : va_S A s.heap s.heap [] := va_S.rf
  have hl := lv_entry ([.ref t, .int x, .int y]) (n := 3) (Nat.le_of_ble_eq_true rfl)
  rw [lg_entry_eq]
  generalize (lg_sl ([.ref t, .int x, .int y]) ++ List.replicate (3 - (lg_sl ([.ref t, .int x, .int y])).length) Slot.unset).toArray = ls at hl ⊢
  have hl : lv_has ls 3 [(0, .ref t), (1, .int x), (2, .int y)] := hl
  refine q_name (fun Q hQ => ?_)
  generalize ([.ref t, .int x, .int y] : List Value).toArray = args at hts hQ ⊢
  refine lv_aload_n hx hb dX11_way_0 rfl (lv_at hl 0 rfl) ?_
  refine va_get (D := (dC, dI)) (ci := 11) (v := .ref route) (C := RX11) (T := TX11) (N := 18) hx hb hts hin11 hown hK hP 0 rfl rfl 9 (by decide) (hts (.fieldLink RX11 60 "PorridgeSea" "route" "LPorridgeSea$Route;") (List.mem_of_getElem? (i := 1) rfl)) (fun _ h9 => h9) rfl dX11_way_1 ?_
  refine lv_aload_n hx hb dX11_way_4 rfl (lv_at hl 0 rfl) ?_
  refine va_get (D := (dC, dI)) (ci := 11) (v := .ref sea) (C := RX11) (T := TX11) (N := 18) hx hb hts hin11 hown hK hP 0 rfl rfl 3 (by decide) (hts (.fieldLink RX11 26 "PorridgeSea" "sea" "LPorridgeSea$Sea;") (List.mem_of_getElem? (i := 2) rfl)) (fun _ h9 => h9) rfl dX11_way_5 ?_
  refine lv_iload_n hx hb dX11_way_8 rfl (lv_at hl 1 rfl) ?_
  refine lv_iload_n hx hb dX11_way_9 rfl (lv_at hl 2 rfl) ?_
  refine r_call_i (wr := [(t, .inr (11, [.ref reader, .int (nI tapeLength), .int latestFault, .ref sea, .ref spareSea, .ref seaText, .ref book, .ref sentence, .ref spareSentence, .ref route, .ref meeting, .ref sighting, .ref draws, .ref history, .ref images, .ref chartBytes, .int (nI chartLength), .int fleetBits]))]) (va_runV (As := [.ref sea, .int x, .int y]) (rest := []) ⟨hx, hb, hml, hown, hts⟩ (c_o_find l dC dI ky s.heap.size route ofarness osides ostepCount odaysTaken ofarnessF osidesF sea wide high heat cools skinHeat today stirs steps lumps boats thickness lumpNames lumpCells boatNames boatCells loads spoons spoonsLeft depths thicknessF lumpCellsF boatCellsF spoonsF depthsF x y iv_oroute_0 iv_sea_0 iv_sea_1 iv_sea_2 iv_sea_3 iv_sea_4 iv_sea_5) (cwV 3 hts gX11_way_X6_find rfl rfl rfl (by decide +kernel) ⟨(Nat.le_of_ble_eq_true rfl), (Nat.le_of_ble_eq_true rfl)⟩) (pre_UV hK hP hD [1, 2, 3, 4, 5, 6, 7, 8, 9] (by decide) rfl (ci := 6) (q0 := 1) rfl rfl) rfl rfl hl.1 rfl (lv_room (Nat.le_of_ble_eq_true rfl)) dX11_way_10 ⟨(Nat.le_of_ble_eq_true rfl), (Nat.le_of_ble_eq_true rfl)⟩) hP hD hS hA [1, 2, 3, 4, 5, 6, 7, 8, 9] [0] rfl rfl (by decide) (by decide) (fun r3 u1 H locs p2 hP hD hS => ?_)
  obtain ⟨ostepCountG_4, odaysTakenG_5, ofarnessG_6, osidesG_7⟩ := u1
  try dsimp only at p2
  have p8 := p2
  refine W.widen (k := 0) (n := 0) (Nat.le_of_ble_eq_true rfl) (Nat.le_of_ble_eq_true rfl) ?_
  have hP : va_P (dC, dI) vwCl [(t, .inr (11, [.ref reader, .int (nI tapeLength), .int latestFault, .ref sea, .ref spareSea, .ref seaText, .ref book, .ref sentence, .ref spareSentence, .ref route, .ref meeting, .ref sighting, .ref draws, .ref history, .ref images, .ref chartBytes, .int (nI chartLength), .int fleetBits])), (route, .inr (6, [.ref ofarness, .ref osides, .int (nI ostepCountG_4), .int odaysTakenG_5])), (ofarness, .inl (ky 0, 36, .inl ofarnessG_6)), (osides, .inl (ky 0, 36, .inl osidesG_7)), (sea, .inr (7, [.int (nI wide), .int (nI high), .int heat, .int cools, .int skinHeat, .int today, .int stirs, .int steps, .int (nI lumps), .int (nI boats), .ref thickness, .ref lumpNames, .ref lumpCells, .ref boatNames, .ref boatCells, .ref loads, .ref spoons, .ref spoonsLeft, .ref depths])), (thickness, .inl (ky 0, 36, .inl thicknessF)), (lumpCells, .inl (ky 0, 6, .inl lumpCellsF)), (boatCells, .inl (ky 0, 6, .inl boatCellsF)), (spoons, .inl (ky 0, 6, .inl spoonsF)), (depths, .inl (ky 0, 6, .inl depthsF))] H := hP
  have hD : va_D A [(t, .inr (11, [.ref reader, .int (nI tapeLength), .int latestFault, .ref sea, .ref spareSea, .ref seaText, .ref book, .ref sentence, .ref spareSentence, .ref route, .ref meeting, .ref sighting, .ref draws, .ref history, .ref images, .ref chartBytes, .int (nI chartLength), .int fleetBits])), (route, .inr (6, [.ref ofarness, .ref osides, .int (nI ostepCountG_4), .int odaysTakenG_5])), (ofarness, .inl (ky 0, 36, .inl ofarnessG_6)), (osides, .inl (ky 0, 36, .inl osidesG_7)), (sea, .inr (7, [.int (nI wide), .int (nI high), .int heat, .int cools, .int skinHeat, .int today, .int stirs, .int steps, .int (nI lumps), .int (nI boats), .ref thickness, .ref lumpNames, .ref lumpCells, .ref boatNames, .ref boatCells, .ref loads, .ref spoons, .ref spoonsLeft, .ref depths])), (thickness, .inl (ky 0, 36, .inl thicknessF)), (lumpCells, .inl (ky 0, 6, .inl lumpCellsF)), (boatCells, .inl (ky 0, 6, .inl boatCellsF)), (spoons, .inl (ky 0, 6, .inl spoonsF)), (depths, .inl (ky 0, 6, .inl depthsF))] := hD
  rw [hQ]
  exact W.iret (v := r3) hx hb hr (fun t9 ht9 hW9 => ⟨⟨r3, (ostepCountG_4, odaysTakenG_5, ofarnessG_6, osidesG_7), rfl, p8, by rw [ht9]; exact hP, va_K.moved hW9.alike hK, hD⟩, hS.F ht9⟩) hS.2.2 dX11_way_13
set_option maxHeartbeats 4000000 in
set_option maxRecDepth 100000 in
theorem c_p_wayAt (l : Launch) (dC : Nat → ClassId) (dI : Nat → Nat → Nat) (ky : Nat → ClassId) (t : Nat) (reader : Nat) (tapeLength : Nat) (latestFault : Int32) (sea : Nat) (spareSea : Nat) (seaText : Nat) (book : Nat) (sentence : Nat) (spareSentence : Nat) (route : Nat) (meeting : Nat) (sighting : Nat) (draws : Nat) (history : Nat) (images : Nat) (chartBytes : Nat) (chartLength : Nat) (fleetBits : Int32) (ofarness : Nat) (osides : Nat) (ostepCount : Nat) (odaysTaken : Int32) (ofarnessF : Nat → Int32) (osidesF : Nat → Int32) (x : Int32) (iv_t_0 : tapeLength ≤ 940) (iv_t_1 : chartLength ≤ 32) (iv_oroute_0 : ostepCount ≤ 36) : Met l yX11_wayAt wsX11_wayAt ({ frames := 1, cells := 0, slots := 0, locals := 21 }) (PcP dC dI ky [.ref t, .int x] [(t, .inr (11, [.ref reader, .int (nI tapeLength), .int latestFault, .ref sea, .ref spareSea, .ref seaText, .ref book, .ref sentence, .ref spareSentence, .ref route, .ref meeting, .ref sighting, .ref draws, .ref history, .ref images, .ref chartBytes, .int (nI chartLength), .int fleetBits])), (route, .inr (6, [.ref ofarness, .ref osides, .int (nI ostepCount), .int odaysTaken])), (ofarness, .inl (ky 0, 36, .inl ofarnessF)), (osides, .inl (ky 0, 36, .inl osidesF))]) (vp_Si (fun r : Int32 => True)) 0 0 (fun _ => False) := by
  refine Met.ofW (cc := cX11_wayAt) (maxL := 2) (ret := (some .int)) (by decide) rfl ?_
  intro p e s m args below meth c s₁ B hml hv
  obtain ⟨rfl, hP, hK⟩ := hv
  have hx := B.exec
  have hb := B.bytes
  have hr := B.returns
  have hts := atoms_spec (ws := wsX11_wayAt) B.pre
  have hown : s.vm.findClass RX11 = some m.cls := findClass_of_methodNamed B.named
  have hlocks := B.notSynchronized
  have hin11 : ∀ w ∈ u_ws RX11 TX11 18, w ∈ wsX11_wayAt := by decide +kernel
  have hl := lv_entry ([.ref t, .int x]) (n := 2) (Nat.le_of_ble_eq_true rfl)
  rw [lg_entry_eq]
  generalize (lg_sl ([.ref t, .int x]) ++ List.replicate (2 - (lg_sl ([.ref t, .int x])).length) Slot.unset).toArray = ls at hl ⊢
  have hl : lv_has ls 2 [(0, .ref t), (1, .int x)] := hl
  refine q_name (fun Q hQ => ?_)
  generalize ([.ref t, .int x] : List Value).toArray = args at hts hQ ⊢
  refine lv_aload_n hx hb dX11_wayAt_0 rfl (lv_at hl 0 rfl) ?_
  refine va_get (D := (dC, dI)) (ci := 11) (v := .ref route) (C := RX11) (T := TX11) (N := 18) hx hb hts hin11 hown hK hP 0 rfl rfl 9 (by decide) (hts (.fieldLink RX11 60 "PorridgeSea" "route" "LPorridgeSea$Route;") (List.mem_of_getElem? (i := 1) rfl)) (fun _ h9 => h9) rfl dX11_wayAt_1 ?_
  refine lv_iload_n hx hb dX11_wayAt_4 rfl (lv_at hl 1 rfl) ?_
  refine vp_callSi (W.runV (As := [.int x]) (rest := []) ⟨hx, hb, hml, hown, hts⟩ (c_o_sideAt l dC dI ky route ofarness osides ostepCount odaysTaken ofarnessF osidesF x iv_oroute_0) (cwV 1 hts gX11_wayAt_X6_sideAt rfl rfl rfl (by decide +kernel) ⟨(Nat.le_of_ble_eq_true rfl), (Nat.le_of_ble_eq_true rfl)⟩) (pre_PV hK hP [1, 2, 3] rfl (ci := 6) (q0 := 1) rfl rfl) rfl rfl hl.1 rfl (lv_room (Nat.le_of_ble_eq_true rfl)) dX11_wayAt_5 ⟨(Nat.le_of_ble_eq_true rfl), (Nat.le_of_ble_eq_true rfl)⟩) (fun r1 p2 => ?_)
  rw [hQ]
  exact W.iret (v := r1) hx hb hr (fun t9 ht9 hW9 => ⟨r1, rfl, trivial, ht9⟩) (fun _ h => absurd h List.not_mem_nil) dX11_wayAt_8
set_option maxHeartbeats 4000000 in
set_option maxRecDepth 100000 in
theorem c_p_wayDays (l : Launch) (dC : Nat → ClassId) (dI : Nat → Nat → Nat) (ky : Nat → ClassId) (t : Nat) (reader : Nat) (tapeLength : Nat) (latestFault : Int32) (sea : Nat) (spareSea : Nat) (seaText : Nat) (book : Nat) (sentence : Nat) (spareSentence : Nat) (route : Nat) (meeting : Nat) (sighting : Nat) (draws : Nat) (history : Nat) (images : Nat) (chartBytes : Nat) (chartLength : Nat) (fleetBits : Int32) (ofarness : Nat) (osides : Nat) (ostepCount : Nat) (odaysTaken : Int32) (ofarnessF : Nat → Int32) (osidesF : Nat → Int32) (iv_t_0 : tapeLength ≤ 940) (iv_t_1 : chartLength ≤ 32) (iv_oroute_0 : ostepCount ≤ 36) : Met l yX11_wayDays wsX11_wayDays ({ frames := 0, cells := 0, slots := 0, locals := 0 }) (PcP dC dI ky [.ref t] [(t, .inr (11, [.ref reader, .int (nI tapeLength), .int latestFault, .ref sea, .ref spareSea, .ref seaText, .ref book, .ref sentence, .ref spareSentence, .ref route, .ref meeting, .ref sighting, .ref draws, .ref history, .ref images, .ref chartBytes, .int (nI chartLength), .int fleetBits])), (route, .inr (6, [.ref ofarness, .ref osides, .int (nI ostepCount), .int odaysTaken])), (ofarness, .inl (ky 0, 36, .inl ofarnessF)), (osides, .inl (ky 0, 36, .inl osidesF))]) (vp_Si (fun r : Int32 => True)) 0 0 (fun _ => False) := by
  refine Met.ofW (cc := cX11_wayDays) (maxL := 1) (ret := (some .int)) (by decide) rfl ?_
  intro p e s m args below meth c s₁ B hml hv
  obtain ⟨rfl, hP, hK⟩ := hv
  have hx := B.exec
  have hb := B.bytes
  have hr := B.returns
  have hts := atoms_spec (ws := wsX11_wayDays) B.pre
  have hown : s.vm.findClass RX11 = some m.cls := findClass_of_methodNamed B.named
  have hlocks := B.notSynchronized
  have hin6 : ∀ w ∈ u_ws RX6 TX6 4, w ∈ wsX11_wayDays := by decide +kernel
  have hin11 : ∀ w ∈ u_ws RX11 TX11 18, w ∈ wsX11_wayDays := by decide +kernel
  have hl := lv_entry ([.ref t]) (n := 1) (Nat.le_of_ble_eq_true rfl)
  rw [lg_entry_eq]
  generalize (lg_sl ([.ref t]) ++ List.replicate (1 - (lg_sl ([.ref t])).length) Slot.unset).toArray = ls at hl ⊢
  have hl : lv_has ls 1 [(0, .ref t)] := hl
  refine q_name (fun Q hQ => ?_)
  generalize ([.ref t] : List Value).toArray = args at hts hQ ⊢
  refine lv_aload_n hx hb dX11_wayDays_0 rfl (lv_at hl 0 rfl) ?_
  refine va_get (D := (dC, dI)) (ci := 11) (v := .ref route) (C := RX11) (T := TX11) (N := 18) hx hb hts hin11 hown hK hP 0 rfl rfl 9 (by decide) (hts (.fieldLink RX11 60 "PorridgeSea" "route" "LPorridgeSea$Route;") (List.mem_of_getElem? (i := 1) rfl)) (fun _ h9 => h9) rfl dX11_wayDays_1 ?_
  refine va_get (D := (dC, dI)) (ci := 6) (v := .int odaysTaken) (C := RX6) (T := TX6) (N := 4) hx hb hts hin6 hown hK hP 1 rfl rfl 3 (by decide) (hts (.fieldLink RX11 270 "PorridgeSea$Route" "daysTaken" "I") (List.mem_of_getElem? (i := 2) rfl)) (fun _ h9 => h9) rfl dX11_wayDays_4 ?_
  rw [hQ]
  exact W.iret (v := odaysTaken) hx hb hr (fun t9 ht9 hW9 => ⟨odaysTaken, rfl, trivial, ht9⟩) (fun _ h => absurd h List.not_mem_nil) dX11_wayDays_7
set_option maxHeartbeats 4000000 in
set_option maxRecDepth 100000 in
theorem c_p_meet (l : Launch) (dC : Nat → ClassId) (dI : Nat → Nat → Nat) (ky : Nat → ClassId) (sz : Nat) (t : Nat) (reader : Nat) (tapeLength : Nat) (latestFault : Int32) (sea : Nat) (spareSea : Nat) (seaText : Nat) (book : Nat) (sentence : Nat) (spareSentence : Nat) (route : Nat) (meeting : Nat) (sighting : Nat) (draws : Nat) (history : Nat) (images : Nat) (chartBytes : Nat) (chartLength : Nat) (fleetBits : Int32) (mtried : Nat) (mfound : Nat) (mfoundCount : Nat) (mtriedF : Nat → Int32) (mfoundF : Nat → Int32) (wide : Nat) (high : Nat) (heat : Int32) (cools : Int32) (skinHeat : Int32) (today : Int32) (stirs : Int32) (steps : Int32) (lumps : Nat) (boats : Nat) (thickness : Nat) (lumpNames : Nat) (lumpCells : Nat) (boatNames : Nat) (boatCells : Nat) (loads : Nat) (spoons : Nat) (spoonsLeft : Nat) (depths : Nat) (lumpCellsF : Nat → Int32) (boatCellsF : Nat → Int32) (depthsF : Nat → Int32) (x : Int32) (y : Int32) (iv_t_0 : tapeLength ≤ 940) (iv_t_1 : chartLength ≤ 32) (iv_mmeeting_0 : mfoundCount ≤ 3) (iv_sea_0 : 2 ≤ wide) (iv_sea_1 : wide ≤ 6) (iv_sea_2 : 2 ≤ high) (iv_sea_3 : high ≤ 6) (iv_sea_4 : lumps ≤ 6) (iv_sea_5 : boats ≤ 6) : Met l yX11_meet wsX11_meet ({ frames := 7, cells := 0, slots := 0, locals := 176 }) (PcU dC dI ky [.ref t, .int x, .int y] [(t, .inr (11, [.ref reader, .int (nI tapeLength), .int latestFault, .ref sea, .ref spareSea, .ref seaText, .ref book, .ref sentence, .ref spareSentence, .ref route, .ref meeting, .ref sighting, .ref draws, .ref history, .ref images, .ref chartBytes, .int (nI chartLength), .int fleetBits])), (meeting, .inr (4, [.ref mtried, .ref mfound, .int (nI mfoundCount)])), (mtried, .inl (ky 0, 3, .inl mtriedF)), (mfound, .inl (ky 0, 3, .inl mfoundF)), (sea, .inr (7, [.int (nI wide), .int (nI high), .int heat, .int cools, .int skinHeat, .int today, .int stirs, .int steps, .int (nI lumps), .int (nI boats), .ref thickness, .ref lumpNames, .ref lumpCells, .ref boatNames, .ref boatCells, .ref loads, .ref spoons, .ref spoonsLeft, .ref depths])), (lumpCells, .inl (ky 0, 6, .inl lumpCellsF)), (boatCells, .inl (ky 0, 6, .inl boatCellsF)), (depths, .inl (ky 0, 6, .inl depthsF))] sz) (va_Qi (fun (r : Int32) (u : Nat × (Nat → Int32) × (Nat → Int32)) => match u with | (mfoundCountG, mtriedG, mfoundG) => mfoundCountG ≤ 3) (BU dC dI ky (fun (u : Nat × (Nat → Int32) × (Nat → Int32)) => match u with | (mfoundCountG, mtriedG, mfoundG) => [(t, .inr (11, [.ref reader, .int (nI tapeLength), .int latestFault, .ref sea, .ref spareSea, .ref seaText, .ref book, .ref sentence, .ref spareSentence, .ref route, .ref meeting, .ref sighting, .ref draws, .ref history, .ref images, .ref chartBytes, .int (nI chartLength), .int fleetBits])), (meeting, .inr (4, [.ref mtried, .ref mfound, .int (nI mfoundCountG)])), (mtried, .inl (ky 0, 3, .inl mtriedG)), (mfound, .inl (ky 0, 3, .inl mfoundG)), (sea, .inr (7, [.int (nI wide), .int (nI high), .int heat, .int cools, .int skinHeat, .int today, .int stirs, .int steps, .int (nI lumps), .int (nI boats), .ref thickness, .ref lumpNames, .ref lumpCells, .ref boatNames, .ref boatCells, .ref loads, .ref spoons, .ref spoonsLeft, .ref depths])), (lumpCells, .inl (ky 0, 6, .inl lumpCellsF)), (boatCells, .inl (ky 0, 6, .inl boatCellsF)), (depths, .inl (ky 0, 6, .inl depthsF))]) (va_A [(t, .inr (11, [.ref reader, .int (nI tapeLength), .int latestFault, .ref sea, .ref spareSea, .ref seaText, .ref book, .ref sentence, .ref spareSentence, .ref route, .ref meeting, .ref sighting, .ref draws, .ref history, .ref images, .ref chartBytes, .int (nI chartLength), .int fleetBits])), (meeting, .inr (4, [.ref mtried, .ref mfound, .int (nI mfoundCount)])), (mtried, .inl (ky 0, 3, .inl mtriedF)), (mfound, .inl (ky 0, 3, .inl mfoundF)), (sea, .inr (7, [.int (nI wide), .int (nI high), .int heat, .int cools, .int skinHeat, .int today, .int stirs, .int steps, .int (nI lumps), .int (nI boats), .ref thickness, .ref lumpNames, .ref lumpCells, .ref boatNames, .ref boatCells, .ref loads, .ref spoons, .ref spoonsLeft, .ref depths])), (lumpCells, .inl (ky 0, 6, .inl lumpCellsF)), (boatCells, .inl (ky 0, 6, .inl boatCellsF)), (depths, .inl (ky 0, 6, .inl depthsF))] sz)) (va_A [(t, .inr (11, [.ref reader, .int (nI tapeLength), .int latestFault, .ref sea, .ref spareSea, .ref seaText, .ref book, .ref sentence, .ref spareSentence, .ref route, .ref meeting, .ref sighting, .ref draws, .ref history, .ref images, .ref chartBytes, .int (nI chartLength), .int fleetBits])), (meeting, .inr (4, [.ref mtried, .ref mfound, .int (nI mfoundCount)])), (mtried, .inl (ky 0, 3, .inl mtriedF)), (mfound, .inl (ky 0, 3, .inl mfoundF)), (sea, .inr (7, [.int (nI wide), .int (nI high), .int heat, .int cools, .int skinHeat, .int today, .int stirs, .int steps, .int (nI lumps), .int (nI boats), .ref thickness, .ref lumpNames, .ref lumpCells, .ref boatNames, .ref boatCells, .ref loads, .ref spoons, .ref spoonsLeft, .ref depths])), (lumpCells, .inl (ky 0, 6, .inl lumpCellsF)), (boatCells, .inl (ky 0, 6, .inl boatCellsF)), (depths, .inl (ky 0, 6, .inl depthsF))] sz)) 0 0 (va_A [(t, .inr (11, [.ref reader, .int (nI tapeLength), .int latestFault, .ref sea, .ref spareSea, .ref seaText, .ref book, .ref sentence, .ref spareSentence, .ref route, .ref meeting, .ref sighting, .ref draws, .ref history, .ref images, .ref chartBytes, .int (nI chartLength), .int fleetBits])), (meeting, .inr (4, [.ref mtried, .ref mfound, .int (nI mfoundCount)])), (mtried, .inl (ky 0, 3, .inl mtriedF)), (mfound, .inl (ky 0, 3, .inl mfoundF)), (sea, .inr (7, [.int (nI wide), .int (nI high), .int heat, .int cools, .int skinHeat, .int today, .int stirs, .int steps, .int (nI lumps), .int (nI boats), .ref thickness, .ref lumpNames, .ref lumpCells, .ref boatNames, .ref boatCells, .ref loads, .ref spoons, .ref spoonsLeft, .ref depths])), (lumpCells, .inl (ky 0, 6, .inl lumpCellsF)), (boatCells, .inl (ky 0, 6, .inl boatCellsF)), (depths, .inl (ky 0, 6, .inl depthsF))] sz) := by
  refine Met.ofW (cc := cX11_meet) (maxL := 3) (ret := (some .int)) (by decide) rfl ?_
  intro p e s m args below meth c s₁ B hml hv
  obtain ⟨rfl, hsz, hP, hK, hD0⟩ := hv
  have hx := B.exec
  have hb := B.bytes
  have hr := B.returns
  have hts := atoms_spec (ws := wsX11_meet) B.pre
  have hown : s.vm.findClass RX11 = some m.cls := findClass_of_methodNamed B.named
  have hlocks := B.notSynchronized
  have hin11 : ∀ w ∈ u_ws RX11 TX11 18, w ∈ wsX11_meet := by decide +kernel
  subst hsz
  have hD := hD0.self (sz := s.heap.size)
  generalize hAe : va_A [(t, .inr (11, [.ref reader, .int (nI tapeLength), .int latestFault, .ref sea, .ref spareSea, .ref seaText, .ref book, .ref sentence, .ref spareSentence, .ref route, .ref meeting, .ref sighting, .ref draws, .ref history, .ref images, .ref chartBytes, .int (nI chartLength), .int fleetBits])), (meeting, .inr (4, [.ref mtried, .ref mfound, .int (nI mfoundCount)])), (mtried, .inl (ky 0, 3, .inl mtriedF)), (mfound, .inl (ky 0, 3, .inl mfoundF)), (sea, .inr (7, [.int (nI wide), .int (nI high), .int heat, .int cools, .int skinHeat, .int today, .int stirs, .int steps, .int (nI lumps), .int (nI boats), .ref thickness, .ref lumpNames, .ref lumpCells, .ref boatNames, .ref boatCells, .ref loads, .ref spoons, .ref spoonsLeft, .ref depths])), (lumpCells, .inl (ky 0, 6, .inl lumpCellsF)), (boatCells, .inl (ky 0, 6, .inl boatCellsF)), (depths, .inl (ky 0, 6, .inl depthsF))] s.heap.size = A at hD ⊢
  have hA : ∀ q : Nat, s.heap.size ≤ q → A q := fun q h => by rw [← hAe]; exact Or.inr h
  have hS : va_S A s.heap s.heap [] := va_S.rf
  have hl := lv_entry ([.ref t, .int x, .int y]) (n := 3) (Nat.le_of_ble_eq_true rfl)
  rw [lg_entry_eq]
  generalize (lg_sl ([.ref t, .int x, .int y]) ++ List.replicate (3 - (lg_sl ([.ref t, .int x, .int y])).length) Slot.unset).toArray = ls at hl ⊢
  have hl : lv_has ls 3 [(0, .ref t), (1, .int x), (2, .int y)] := hl
  refine q_name (fun Q hQ => ?_)
  generalize ([.ref t, .int x, .int y] : List Value).toArray = args at hts hQ ⊢
  refine lv_aload_n hx hb dX11_meet_0 rfl (lv_at hl 0 rfl) ?_
  refine va_get (D := (dC, dI)) (ci := 11) (v := .ref meeting) (C := RX11) (T := TX11) (N := 18) hx hb hts hin11 hown hK hP 0 rfl rfl 10 (by decide) (hts (.fieldLink RX11 67 "PorridgeSea" "meeting" "LPorridgeSea$Meeting;") (List.mem_of_getElem? (i := 1) rfl)) (fun _ h9 => h9) rfl dX11_meet_1 ?_
  refine lv_aload_n hx hb dX11_meet_4 rfl (lv_at hl 0 rfl) ?_
  refine va_get (D := (dC, dI)) (ci := 11) (v := .ref sea) (C := RX11) (T := TX11) (N := 18) hx hb hts hin11 hown hK hP 0 rfl rfl 3 (by decide) (hts (.fieldLink RX11 26 "PorridgeSea" "sea" "LPorridgeSea$Sea;") (List.mem_of_getElem? (i := 2) rfl)) (fun _ h9 => h9) rfl dX11_meet_5 ?_
  refine lv_iload_n hx hb dX11_meet_8 rfl (lv_at hl 1 rfl) ?_
  refine lv_iload_n hx hb dX11_meet_9 rfl (lv_at hl 2 rfl) ?_
  refine r_call_i (wr := [(t, .inr (11, [.ref reader, .int (nI tapeLength), .int latestFault, .ref sea, .ref spareSea, .ref seaText, .ref book, .ref sentence, .ref spareSentence, .ref route, .ref meeting, .ref sighting, .ref draws, .ref history, .ref images, .ref chartBytes, .int (nI chartLength), .int fleetBits]))]) (va_runV (As := [.ref sea, .int x, .int y]) (rest := []) ⟨hx, hb, hml, hown, hts⟩ (c_m_find l dC dI ky s.heap.size meeting mtried mfound mfoundCount mtriedF mfoundF sea wide high heat cools skinHeat today stirs steps lumps boats thickness lumpNames lumpCells boatNames boatCells loads spoons spoonsLeft depths lumpCellsF boatCellsF depthsF x y iv_mmeeting_0 iv_sea_0 iv_sea_1 iv_sea_2 iv_sea_3 iv_sea_4 iv_sea_5) (cwV 3 hts gX11_meet_X4_find rfl rfl rfl (by decide +kernel) ⟨(Nat.le_of_ble_eq_true rfl), (Nat.le_of_ble_eq_true rfl)⟩) (pre_UV hK hP hD [1, 2, 3, 4, 5, 6, 7] (by decide) rfl (ci := 4) (q0 := 1) rfl rfl) rfl rfl hl.1 rfl (lv_room (Nat.le_of_ble_eq_true rfl)) dX11_meet_10 ⟨(Nat.le_of_ble_eq_true rfl), (Nat.le_of_ble_eq_true rfl)⟩) hP hD hS hA [1, 2, 3, 4, 5, 6, 7] [0] rfl rfl (by decide) (by decide) (fun r3 u1 H locs p2 hP hD hS => ?_)
  obtain ⟨mfoundCountG_4, mtriedG_5, mfoundG_6⟩ := u1
  try dsimp only at p2
  have p7 := p2
  refine W.widen (k := 0) (n := 0) (Nat.le_of_ble_eq_true rfl) (Nat.le_of_ble_eq_true rfl) ?_
  have hP : va_P (dC, dI) vwCl [(t, .inr (11, [.ref reader, .int (nI tapeLength), .int latestFault, .ref sea, .ref spareSea, .ref seaText, .ref book, .ref sentence, .ref spareSentence, .ref route, .ref meeting, .ref sighting, .ref draws, .ref history, .ref images, .ref chartBytes, .int (nI chartLength), .int fleetBits])), (meeting, .inr (4, [.ref mtried, .ref mfound, .int (nI mfoundCountG_4)])), (mtried, .inl (ky 0, 3, .inl mtriedG_5)), (mfound, .inl (ky 0, 3, .inl mfoundG_6)), (sea, .inr (7, [.int (nI wide), .int (nI high), .int heat, .int cools, .int skinHeat, .int today, .int stirs, .int steps, .int (nI lumps), .int (nI boats), .ref thickness, .ref lumpNames, .ref lumpCells, .ref boatNames, .ref boatCells, .ref loads, .ref spoons, .ref spoonsLeft, .ref depths])), (lumpCells, .inl (ky 0, 6, .inl lumpCellsF)), (boatCells, .inl (ky 0, 6, .inl boatCellsF)), (depths, .inl (ky 0, 6, .inl depthsF))] H := hP
  have hD : va_D A [(t, .inr (11, [.ref reader, .int (nI tapeLength), .int latestFault, .ref sea, .ref spareSea, .ref seaText, .ref book, .ref sentence, .ref spareSentence, .ref route, .ref meeting, .ref sighting, .ref draws, .ref history, .ref images, .ref chartBytes, .int (nI chartLength), .int fleetBits])), (meeting, .inr (4, [.ref mtried, .ref mfound, .int (nI mfoundCountG_4)])), (mtried, .inl (ky 0, 3, .inl mtriedG_5)), (mfound, .inl (ky 0, 3, .inl mfoundG_6)), (sea, .inr (7, [.int (nI wide), .int (nI high), .int heat, .int cools, .int skinHeat, .int today, .int stirs, .int steps, .int (nI lumps), .int (nI boats), .ref thickness, .ref lumpNames, .ref lumpCells, .ref boatNames, .ref boatCells, .ref loads, .ref spoons, .ref spoonsLeft, .ref depths])), (lumpCells, .inl (ky 0, 6, .inl lumpCellsF)), (boatCells, .inl (ky 0, 6, .inl boatCellsF)), (depths, .inl (ky 0, 6, .inl depthsF))] := hD
  rw [hQ]
  exact W.iret (v := r3) hx hb hr (fun t9 ht9 hW9 => ⟨⟨r3, (mfoundCountG_4, mtriedG_5, mfoundG_6), rfl, p7, by rw [ht9]; exact hP, va_K.moved hW9.alike hK, hD⟩, hS.F ht9⟩) hS.2.2 dX11_meet_13
set_option maxHeartbeats 4000000 in
set_option maxRecDepth 100000 in
theorem c_p_meetAt (l : Launch) (dC : Nat → ClassId) (dI : Nat → Nat → Nat) (ky : Nat → ClassId) (t : Nat) (reader : Nat) (tapeLength : Nat) (latestFault : Int32) (sea : Nat) (spareSea : Nat) (seaText : Nat) (book : Nat) (sentence : Nat) (spareSentence : Nat) (route : Nat) (meeting : Nat) (sighting : Nat) (draws : Nat) (history : Nat) (images : Nat) (chartBytes : Nat) (chartLength : Nat) (fleetBits : Int32) (mtried : Nat) (mfound : Nat) (mfoundCount : Nat) (mtriedF : Nat → Int32) (mfoundF : Nat → Int32) (x : Int32) (y : Int32) (iv_t_0 : tapeLength ≤ 940) (iv_t_1 : chartLength ≤ 32) (iv_mmeeting_0 : mfoundCount ≤ 3) : Met l yX11_meetAt wsX11_meetAt ({ frames := 2, cells := 0, slots := 0, locals := 42 }) (PcP dC dI ky [.ref t, .int x, .int y] [(t, .inr (11, [.ref reader, .int (nI tapeLength), .int latestFault, .ref sea, .ref spareSea, .ref seaText, .ref book, .ref sentence, .ref spareSentence, .ref route, .ref meeting, .ref sighting, .ref draws, .ref history, .ref images, .ref chartBytes, .int (nI chartLength), .int fleetBits])), (meeting, .inr (4, [.ref mtried, .ref mfound, .int (nI mfoundCount)])), (mtried, .inl (ky 0, 3, .inl mtriedF)), (mfound, .inl (ky 0, 3, .inl mfoundF))]) (vp_Si (fun r : Int32 => True)) 0 0 (fun _ => False) := by
  refine Met.ofW (cc := cX11_meetAt) (maxL := 3) (ret := (some .int)) (by decide) rfl ?_
  intro p e s m args below meth c s₁ B hml hv
  obtain ⟨rfl, hP, hK⟩ := hv
  have hx := B.exec
  have hb := B.bytes
  have hr := B.returns
  have hts := atoms_spec (ws := wsX11_meetAt) B.pre
  have hown : s.vm.findClass RX11 = some m.cls := findClass_of_methodNamed B.named
  have hlocks := B.notSynchronized
  have hin11 : ∀ w ∈ u_ws RX11 TX11 18, w ∈ wsX11_meetAt := by decide +kernel
  have hl := lv_entry ([.ref t, .int x, .int y]) (n := 3) (Nat.le_of_ble_eq_true rfl)
  rw [lg_entry_eq]
  generalize (lg_sl ([.ref t, .int x, .int y]) ++ List.replicate (3 - (lg_sl ([.ref t, .int x, .int y])).length) Slot.unset).toArray = ls at hl ⊢
  have hl : lv_has ls 3 [(0, .ref t), (1, .int x), (2, .int y)] := hl
  refine q_name (fun Q hQ => ?_)
  generalize ([.ref t, .int x, .int y] : List Value).toArray = args at hts hQ ⊢
  refine lv_aload_n hx hb dX11_meetAt_0 rfl (lv_at hl 0 rfl) ?_
  refine va_get (D := (dC, dI)) (ci := 11) (v := .ref meeting) (C := RX11) (T := TX11) (N := 18) hx hb hts hin11 hown hK hP 0 rfl rfl 10 (by decide) (hts (.fieldLink RX11 67 "PorridgeSea" "meeting" "LPorridgeSea$Meeting;") (List.mem_of_getElem? (i := 1) rfl)) (fun _ h9 => h9) rfl dX11_meetAt_1 ?_
  refine lv_iload_n hx hb dX11_meetAt_4 rfl (lv_at hl 1 rfl) ?_
  refine lv_iload_n hx hb dX11_meetAt_5 rfl (lv_at hl 2 rfl) ?_
  refine vp_callSi (W.runV (As := [.int x, .int y]) (rest := []) ⟨hx, hb, hml, hown, hts⟩ (c_m_stirAt l dC dI ky meeting mtried mfound mfoundCount mtriedF mfoundF x y iv_mmeeting_0) (cwV 2 hts gX11_meetAt_X4_stirAt rfl rfl rfl (by decide +kernel) ⟨(Nat.le_of_ble_eq_true rfl), (Nat.le_of_ble_eq_true rfl)⟩) (pre_PV hK hP [1, 2, 3] rfl (ci := 4) (q0 := 1) rfl rfl) rfl rfl hl.1 rfl (lv_room (Nat.le_of_ble_eq_true rfl)) dX11_meetAt_6 ⟨(Nat.le_of_ble_eq_true rfl), (Nat.le_of_ble_eq_true rfl)⟩) (fun r1 p2 => ?_)
  rw [hQ]
  exact W.iret (v := r1) hx hb hr (fun t9 ht9 hW9 => ⟨r1, rfl, trivial, ht9⟩) (fun _ h => absurd h List.not_mem_nil) dX11_meetAt_9
set_option maxRecDepth 20000 in
theorem lf_p_sunk_1   : 0 ≤ 940 := by
  try simp only [ia_lt, ia_le, ia_eq, ia_m1, ia_0, ia_1, ne_eq, true_and, and_true, false_and, and_false, or_false, false_or, or_true, true_or, not_true_eq_false, not_false_eq_true] at *
  all_goals omega
set_option maxHeartbeats 4000000 in
set_option maxRecDepth 100000 in
theorem c_p_sunk (l : Launch) (dC : Nat → ClassId) (dI : Nat → Nat → Nat) (ky : Nat → ClassId) (sz : Nat) (t : Nat) (reader : Nat) (tapeLength : Nat) (latestFault : Int32) (sea : Nat) (spareSea : Nat) (seaText : Nat) (book : Nat) (sentence : Nat) (spareSentence : Nat) (route : Nat) (meeting : Nat) (sighting : Nat) (draws : Nat) (history : Nat) (images : Nat) (chartBytes : Nat) (chartLength : Nat) (fleetBits : Int32) (icellBits : Int64) (ibestBoat : Int32) (wide : Nat) (high : Nat) (heat : Int32) (cools : Int32) (skinHeat : Int32) (today : Int32) (stirs : Int32) (steps : Int32) (lumps : Nat) (boats : Nat) (thickness : Nat) (lumpNames : Nat) (lumpCells : Nat) (boatNames : Nat) (boatCells : Nat) (loads : Nat) (spoons : Nat) (spoonsLeft : Nat) (depths : Nat) (thicknessF : Nat → Int32) (lumpCellsF : Nat → Int32) (loadsF : Nat → Int32) (rtape : Nat) (rlength : Nat) (rmostBytes : Nat) (rplace : Nat) (rkind : Int32) (rbegin : Nat) (rword : Int32) (rnumber : Int32) (rletters : Int64) (rfaultKind : Int32) (rfaultPlace : Int32) (rtapeF : Nat → Int32) (iv_t_0 : tapeLength ≤ 940) (iv_t_1 : chartLength ≤ 32) (iv_sea_0 : 2 ≤ wide) (iv_sea_1 : wide ≤ 6) (iv_sea_2 : 2 ≤ high) (iv_sea_3 : high ≤ 6) (iv_sea_4 : lumps ≤ 6) (iv_sea_5 : boats ≤ 6) (iv_rreader_0 : rlength ≤ 940) (iv_rreader_1 : rplace ≤ rlength) (iv_rreader_2 : rmostBytes ≤ 900) (iv_rreader_3 : rbegin ≤ 940) : Met l yX11_sunk wsX11_sunk ({ frames := 5, cells := 0, slots := 0, locals := 120 }) (PcU dC dI ky [.ref t] [(t, .inr (11, [.ref reader, .int (nI tapeLength), .int latestFault, .ref sea, .ref spareSea, .ref seaText, .ref book, .ref sentence, .ref spareSentence, .ref route, .ref meeting, .ref sighting, .ref draws, .ref history, .ref images, .ref chartBytes, .int (nI chartLength), .int fleetBits])), (sighting, .inr (10, [.long icellBits, .int ibestBoat])), (sea, .inr (7, [.int (nI wide), .int (nI high), .int heat, .int cools, .int skinHeat, .int today, .int stirs, .int steps, .int (nI lumps), .int (nI boats), .ref thickness, .ref lumpNames, .ref lumpCells, .ref boatNames, .ref boatCells, .ref loads, .ref spoons, .ref spoonsLeft, .ref depths])), (thickness, .inl (ky 0, 36, .inl thicknessF)), (lumpCells, .inl (ky 0, 6, .inl lumpCellsF)), (loads, .inl (ky 0, 6, .inl loadsF)), (reader, .inr (5, [.ref rtape, .int (nI rlength), .int (nI rmostBytes), .int (nI rplace), .int rkind, .int (nI rbegin), .int rword, .int rnumber, .long rletters, .int rfaultKind, .int rfaultPlace])), (rtape, .inl (ky 2, 940, .inl rtapeF))] sz) (va_Qi (fun (r : Int32) (u : Nat × Int64 × Int32) => match u with | (tapeLengthG, icellBitsG, ibestBoatG) => (tapeLengthG ≤ 940) ∧ (tapeLengthG = 0)) (BU dC dI ky (fun (u : Nat × Int64 × Int32) => match u with | (tapeLengthG, icellBitsG, ibestBoatG) => [(t, .inr (11, [.ref reader, .int (nI tapeLengthG), .int latestFault, .ref sea, .ref spareSea, .ref seaText, .ref book, .ref sentence, .ref spareSentence, .ref route, .ref meeting, .ref sighting, .ref draws, .ref history, .ref images, .ref chartBytes, .int (nI chartLength), .int fleetBits])), (sighting, .inr (10, [.long icellBitsG, .int ibestBoatG])), (sea, .inr (7, [.int (nI wide), .int (nI high), .int heat, .int cools, .int skinHeat, .int today, .int stirs, .int steps, .int (nI lumps), .int (nI boats), .ref thickness, .ref lumpNames, .ref lumpCells, .ref boatNames, .ref boatCells, .ref loads, .ref spoons, .ref spoonsLeft, .ref depths])), (thickness, .inl (ky 0, 36, .inl thicknessF)), (lumpCells, .inl (ky 0, 6, .inl lumpCellsF)), (loads, .inl (ky 0, 6, .inl loadsF)), (reader, .inr (5, [.ref rtape, .int (nI rlength), .int (nI rmostBytes), .int (nI rplace), .int rkind, .int (nI rbegin), .int rword, .int rnumber, .long rletters, .int rfaultKind, .int rfaultPlace])), (rtape, .inl (ky 2, 940, .inl rtapeF))]) (va_A [(t, .inr (11, [.ref reader, .int (nI tapeLength), .int latestFault, .ref sea, .ref spareSea, .ref seaText, .ref book, .ref sentence, .ref spareSentence, .ref route, .ref meeting, .ref sighting, .ref draws, .ref history, .ref images, .ref chartBytes, .int (nI chartLength), .int fleetBits])), (sighting, .inr (10, [.long icellBits, .int ibestBoat])), (sea, .inr (7, [.int (nI wide), .int (nI high), .int heat, .int cools, .int skinHeat, .int today, .int stirs, .int steps, .int (nI lumps), .int (nI boats), .ref thickness, .ref lumpNames, .ref lumpCells, .ref boatNames, .ref boatCells, .ref loads, .ref spoons, .ref spoonsLeft, .ref depths])), (thickness, .inl (ky 0, 36, .inl thicknessF)), (lumpCells, .inl (ky 0, 6, .inl lumpCellsF)), (loads, .inl (ky 0, 6, .inl loadsF)), (reader, .inr (5, [.ref rtape, .int (nI rlength), .int (nI rmostBytes), .int (nI rplace), .int rkind, .int (nI rbegin), .int rword, .int rnumber, .long rletters, .int rfaultKind, .int rfaultPlace])), (rtape, .inl (ky 2, 940, .inl rtapeF))] sz)) (va_A [(t, .inr (11, [.ref reader, .int (nI tapeLength), .int latestFault, .ref sea, .ref spareSea, .ref seaText, .ref book, .ref sentence, .ref spareSentence, .ref route, .ref meeting, .ref sighting, .ref draws, .ref history, .ref images, .ref chartBytes, .int (nI chartLength), .int fleetBits])), (sighting, .inr (10, [.long icellBits, .int ibestBoat])), (sea, .inr (7, [.int (nI wide), .int (nI high), .int heat, .int cools, .int skinHeat, .int today, .int stirs, .int steps, .int (nI lumps), .int (nI boats), .ref thickness, .ref lumpNames, .ref lumpCells, .ref boatNames, .ref boatCells, .ref loads, .ref spoons, .ref spoonsLeft, .ref depths])), (thickness, .inl (ky 0, 36, .inl thicknessF)), (lumpCells, .inl (ky 0, 6, .inl lumpCellsF)), (loads, .inl (ky 0, 6, .inl loadsF)), (reader, .inr (5, [.ref rtape, .int (nI rlength), .int (nI rmostBytes), .int (nI rplace), .int rkind, .int (nI rbegin), .int rword, .int rnumber, .long rletters, .int rfaultKind, .int rfaultPlace])), (rtape, .inl (ky 2, 940, .inl rtapeF))] sz)) 0 0 (va_A [(t, .inr (11, [.ref reader, .int (nI tapeLength), .int latestFault, .ref sea, .ref spareSea, .ref seaText, .ref book, .ref sentence, .ref spareSentence, .ref route, .ref meeting, .ref sighting, .ref draws, .ref history, .ref images, .ref chartBytes, .int (nI chartLength), .int fleetBits])), (sighting, .inr (10, [.long icellBits, .int ibestBoat])), (sea, .inr (7, [.int (nI wide), .int (nI high), .int heat, .int cools, .int skinHeat, .int today, .int stirs, .int steps, .int (nI lumps), .int (nI boats), .ref thickness, .ref lumpNames, .ref lumpCells, .ref boatNames, .ref boatCells, .ref loads, .ref spoons, .ref spoonsLeft, .ref depths])), (thickness, .inl (ky 0, 36, .inl thicknessF)), (lumpCells, .inl (ky 0, 6, .inl lumpCellsF)), (loads, .inl (ky 0, 6, .inl loadsF)), (reader, .inr (5, [.ref rtape, .int (nI rlength), .int (nI rmostBytes), .int (nI rplace), .int rkind, .int (nI rbegin), .int rword, .int rnumber, .long rletters, .int rfaultKind, .int rfaultPlace])), (rtape, .inl (ky 2, 940, .inl rtapeF))] sz) := by
  refine Met.ofW (cc := cX11_sunk) (maxL := 2) (ret := (some .int)) (by decide) rfl ?_
  intro p e s m args below meth c s₁ B hml hv
  obtain ⟨rfl, hsz, hP, hK, hD0⟩ := hv
  have hx := B.exec
  have hb := B.bytes
  have hr := B.returns
  have hts := atoms_spec (ws := wsX11_sunk) B.pre
  have hown : s.vm.findClass RX11 = some m.cls := findClass_of_methodNamed B.named
  have hlocks := B.notSynchronized
  have hin5 : ∀ w ∈ u_ws RX5 TX5 11, w ∈ wsX11_sunk := by decide +kernel
  have hin11 : ∀ w ∈ u_ws RX11 TX11 18, w ∈ wsX11_sunk := by decide +kernel
  subst hsz
  have hD := hD0.self (sz := s.heap.size)
  generalize hAe : va_A [(t, .inr (11, [.ref reader, .int (nI tapeLength), .int latestFault, .ref sea, .ref spareSea, .ref seaText, .ref book, .ref sentence, .ref spareSentence, .ref route, .ref meeting, .ref sighting, .ref draws, .ref history, .ref images, .ref chartBytes, .int (nI chartLength), .int fleetBits])), (sighting, .inr (10, [.long icellBits, .int ibestBoat])), (sea, .inr (7, [.int (nI wide), .int (nI high), .int heat, .int cools, .int skinHeat, .int today, .int stirs, .int steps, .int (nI lumps), .int (nI boats), .ref thickness, .ref lumpNames, .ref lumpCells, .ref boatNames, .ref boatCells, .ref loads, .ref spoons, .ref spoonsLeft, .ref depths])), (thickness, .inl (ky 0, 36, .inl thicknessF)), (lumpCells, .inl (ky 0, 6, .inl lumpCellsF)), (loads, .inl (ky 0, 6, .inl loadsF)), (reader, .inr (5, [.ref rtape, .int (nI rlength), .int (nI rmostBytes), .int (nI rplace), .int rkind, .int (nI rbegin), .int rword, .int rnumber, .long rletters, .int rfaultKind, .int rfaultPlace])), (rtape, .inl (ky 2, 940, .inl rtapeF))] s.heap.size = A at hD ⊢
  have hA : ∀ q : Nat, s.heap.size ≤ q → A q := fun q h => by rw [← hAe]; exact Or.inr h
  have hS : va_S A s.heap s.heap [] := va_S.rf
  have hl := lv_entry ([.ref t]) (n := 2) (Nat.le_of_ble_eq_true rfl)
  rw [lg_entry_eq]
  generalize (lg_sl ([.ref t]) ++ List.replicate (2 - (lg_sl ([.ref t])).length) Slot.unset).toArray = ls at hl ⊢
  have hl : lv_has ls 2 [(0, .ref t)] := hl
  refine q_name (fun Q hQ => ?_)
  generalize ([.ref t] : List Value).toArray = args at hts hQ ⊢
  refine lv_aload_n hx hb dX11_sunk_0 rfl (lv_at hl 0 rfl) ?_
  refine va_get (D := (dC, dI)) (ci := 11) (v := .int (nI tapeLength)) (C := RX11) (T := TX11) (N := 18) hx hb hts hin11 hown hK hP 0 rfl rfl 1 (by decide) (hts (.fieldLink RX11 16 "PorridgeSea" "tapeLength" "I") (List.mem_of_getElem? (i := 1) rfl)) (fun _ h9 => h9) rfl dX11_sunk_1 ?_
  refine lv_istore_n (lv' := [(1, .int (nI tapeLength)), (0, .ref t)]) hx hb dX11_sunk_4 rfl hl (by decide) rfl (fun ls hl => ?_)
  refine lv_aload_n hx hb dX11_sunk_5 rfl (lv_at hl 1 rfl) ?_
  refine lv_iconst (v := nI 0) hx hb dX11_sunk_6 (by decide) ?_
  refine va_put (D := (dC, dI)) (ci := 11) (v := .int (nI 0)) (ty := .int) (C := RX11) (T := TX11) (N := 18) hx hb hts hin11 tyX11 tyX11_ok nmX11 hown hK hP hD hS 0 rfl rfl 1 (by decide) (hts (.fieldLink RX11 16 "PorridgeSea" "tapeLength" "I") (List.mem_of_getElem? (i := 1) rfl)) (fun _ h9 => h9) rfl (by decide +kernel) rfl rfl (Nat.le_of_ble_eq_true rfl) dX11_sunk_7 (fun H locs hP hD hS => ?_)
  have hP : va_P (dC, dI) vwCl [(t, .inr (11, [.ref reader, .int (nI 0), .int latestFault, .ref sea, .ref spareSea, .ref seaText, .ref book, .ref sentence, .ref spareSentence, .ref route, .ref meeting, .ref sighting, .ref draws, .ref history, .ref images, .ref chartBytes, .int (nI chartLength), .int fleetBits])), (sighting, .inr (10, [.long icellBits, .int ibestBoat])), (sea, .inr (7, [.int (nI wide), .int (nI high), .int heat, .int cools, .int skinHeat, .int today, .int stirs, .int steps, .int (nI lumps), .int (nI boats), .ref thickness, .ref lumpNames, .ref lumpCells, .ref boatNames, .ref boatCells, .ref loads, .ref spoons, .ref spoonsLeft, .ref depths])), (thickness, .inl (ky 0, 36, .inl thicknessF)), (lumpCells, .inl (ky 0, 6, .inl lumpCellsF)), (loads, .inl (ky 0, 6, .inl loadsF)), (reader, .inr (5, [.ref rtape, .int (nI rlength), .int (nI rmostBytes), .int (nI rplace), .int rkind, .int (nI rbegin), .int rword, .int rnumber, .long rletters, .int rfaultKind, .int rfaultPlace])), (rtape, .inl (ky 2, 940, .inl rtapeF))] H := hP
  have hD : va_D A [(t, .inr (11, [.ref reader, .int (nI 0), .int latestFault, .ref sea, .ref spareSea, .ref seaText, .ref book, .ref sentence, .ref spareSentence, .ref route, .ref meeting, .ref sighting, .ref draws, .ref history, .ref images, .ref chartBytes, .int (nI chartLength), .int fleetBits])), (sighting, .inr (10, [.long icellBits, .int ibestBoat])), (sea, .inr (7, [.int (nI wide), .int (nI high), .int heat, .int cools, .int skinHeat, .int today, .int stirs, .int steps, .int (nI lumps), .int (nI boats), .ref thickness, .ref lumpNames, .ref lumpCells, .ref boatNames, .ref boatCells, .ref loads, .ref spoons, .ref spoonsLeft, .ref depths])), (thickness, .inl (ky 0, 36, .inl thicknessF)), (lumpCells, .inl (ky 0, 6, .inl lumpCellsF)), (loads, .inl (ky 0, 6, .inl loadsF)), (reader, .inr (5, [.ref rtape, .int (nI rlength), .int (nI rmostBytes), .int (nI rplace), .int rkind, .int (nI rbegin), .int rword, .int rnumber, .long rletters, .int rfaultKind, .int rfaultPlace])), (rtape, .inl (ky 2, 940, .inl rtapeF))] := hD
  refine lv_aload_n hx hb dX11_sunk_10 rfl (lv_at hl 1 rfl) ?_
  refine va_get (D := (dC, dI)) (ci := 11) (v := .ref sighting) (C := RX11) (T := TX11) (N := 18) hx hb hts hin11 hown hK hP 0 rfl rfl 11 (by decide) (hts (.fieldLink RX11 74 "PorridgeSea" "sighting" "LPorridgeSea$Sighting;") (List.mem_of_getElem? (i := 2) rfl)) (fun _ h9 => h9) rfl dX11_sunk_11 ?_
  refine lv_aload_n hx hb dX11_sunk_14 rfl (lv_at hl 1 rfl) ?_
  refine va_get (D := (dC, dI)) (ci := 11) (v := .ref sea) (C := RX11) (T := TX11) (N := 18) hx hb hts hin11 hown hK hP 0 rfl rfl 3 (by decide) (hts (.fieldLink RX11 26 "PorridgeSea" "sea" "LPorridgeSea$Sea;") (List.mem_of_getElem? (i := 3) rfl)) (fun _ h9 => h9) rfl dX11_sunk_15 ?_
  refine lv_aload_n hx hb dX11_sunk_18 rfl (lv_at hl 1 rfl) ?_
  refine va_get (D := (dC, dI)) (ci := 11) (v := .ref reader) (C := RX11) (T := TX11) (N := 18) hx hb hts hin11 hown hK hP 0 rfl rfl 0 (by decide) (hts (.fieldLink RX11 10 "PorridgeSea" "reader" "LPorridgeSea$Reader;") (List.mem_of_getElem? (i := 4) rfl)) (fun _ h9 => h9) rfl dX11_sunk_19 ?_
  refine va_get (D := (dC, dI)) (ci := 5) (v := .ref rtape) (C := RX5) (T := TX5) (N := 11) hx hb hts hin5 hown hK hP 6 rfl rfl 0 (by decide) (hts (.fieldLink RX11 113 "PorridgeSea$Reader" "tape" "[B") (List.mem_of_getElem? (i := 5) rfl)) (fun _ h9 => h9) rfl dX11_sunk_22 ?_
  refine lv_iload_n hx hb dX11_sunk_25 rfl (lv_at hl 0 rfl) ?_
  refine r_call_i (wr := [(t, .inr (11, [.ref reader, .int (nI 0), .int latestFault, .ref sea, .ref spareSea, .ref seaText, .ref book, .ref sentence, .ref spareSentence, .ref route, .ref meeting, .ref sighting, .ref draws, .ref history, .ref images, .ref chartBytes, .int (nI chartLength), .int fleetBits])), (reader, .inr (5, [.ref rtape, .int (nI rlength), .int (nI rmostBytes), .int (nI rplace), .int rkind, .int (nI rbegin), .int rword, .int rnumber, .long rletters, .int rfaultKind, .int rfaultPlace]))]) (va_runV (As := [.ref sea, .ref rtape, .int (nI tapeLength)]) (rest := []) ⟨hx, hb, hml, hown, hts⟩ (c_i_look l dC dI ky H.size sighting icellBits ibestBoat sea wide high heat cools skinHeat today stirs steps lumps boats thickness lumpNames lumpCells boatNames boatCells loads spoons spoonsLeft depths thicknessF lumpCellsF loadsF rtape rtapeF (nI tapeLength) iv_sea_0 iv_sea_1 iv_sea_2 iv_sea_3 iv_sea_4 iv_sea_5) (cwV 3 hts gX11_sunk_X10_look rfl rfl rfl (by decide +kernel) ⟨(Nat.le_of_ble_eq_true rfl), (Nat.le_of_ble_eq_true rfl)⟩) (pre_UV hK hP hD [1, 2, 3, 4, 5, 7] (by decide) rfl (ci := 10) (q0 := 1) rfl rfl) rfl rfl hl.1 rfl (lv_room (Nat.le_of_ble_eq_true rfl)) dX11_sunk_26 ⟨(Nat.le_of_ble_eq_true rfl), (Nat.le_of_ble_eq_true rfl)⟩) hP hD hS hA [1, 2, 3, 4, 5, 7] [0, 6] rfl rfl (by decide) (by decide) (fun r3 u1 H locs p2 hP hD hS => ?_)
  obtain ⟨icellBitsG_4, ibestBoatG_5⟩ := u1
  refine W.widen (k := 0) (n := 0) (Nat.le_of_ble_eq_true rfl) (Nat.le_of_ble_eq_true rfl) ?_
  have hP : va_P (dC, dI) vwCl [(t, .inr (11, [.ref reader, .int (nI 0), .int latestFault, .ref sea, .ref spareSea, .ref seaText, .ref book, .ref sentence, .ref spareSentence, .ref route, .ref meeting, .ref sighting, .ref draws, .ref history, .ref images, .ref chartBytes, .int (nI chartLength), .int fleetBits])), (reader, .inr (5, [.ref rtape, .int (nI rlength), .int (nI rmostBytes), .int (nI rplace), .int rkind, .int (nI rbegin), .int rword, .int rnumber, .long rletters, .int rfaultKind, .int rfaultPlace])), (sighting, .inr (10, [.long icellBitsG_4, .int ibestBoatG_5])), (sea, .inr (7, [.int (nI wide), .int (nI high), .int heat, .int cools, .int skinHeat, .int today, .int stirs, .int steps, .int (nI lumps), .int (nI boats), .ref thickness, .ref lumpNames, .ref lumpCells, .ref boatNames, .ref boatCells, .ref loads, .ref spoons, .ref spoonsLeft, .ref depths])), (thickness, .inl (ky 0, 36, .inl thicknessF)), (lumpCells, .inl (ky 0, 6, .inl lumpCellsF)), (loads, .inl (ky 0, 6, .inl loadsF)), (rtape, .inl (ky 2, 940, .inl rtapeF))] H := hP
  have hD : va_D A [(t, .inr (11, [.ref reader, .int (nI 0), .int latestFault, .ref sea, .ref spareSea, .ref seaText, .ref book, .ref sentence, .ref spareSentence, .ref route, .ref meeting, .ref sighting, .ref draws, .ref history, .ref images, .ref chartBytes, .int (nI chartLength), .int fleetBits])), (reader, .inr (5, [.ref rtape, .int (nI rlength), .int (nI rmostBytes), .int (nI rplace), .int rkind, .int (nI rbegin), .int rword, .int rnumber, .long rletters, .int rfaultKind, .int rfaultPlace])), (sighting, .inr (10, [.long icellBitsG_4, .int ibestBoatG_5])), (sea, .inr (7, [.int (nI wide), .int (nI high), .int heat, .int cools, .int skinHeat, .int today, .int stirs, .int steps, .int (nI lumps), .int (nI boats), .ref thickness, .ref lumpNames, .ref lumpCells, .ref boatNames, .ref boatCells, .ref loads, .ref spoons, .ref spoonsLeft, .ref depths])), (thickness, .inl (ky 0, 36, .inl thicknessF)), (lumpCells, .inl (ky 0, 6, .inl lumpCellsF)), (loads, .inl (ky 0, 6, .inl loadsF)), (rtape, .inl (ky 2, 940, .inl rtapeF))] := hD
  rw [hQ]
  have hP9 := hP.sub (ws' := [(t, .inr (11, [.ref reader, .int (nI 0), .int latestFault, .ref sea, .ref spareSea, .ref seaText, .ref book, .ref sentence, .ref spareSentence, .ref route, .ref meeting, .ref sighting, .ref draws, .ref history, .ref images, .ref chartBytes, .int (nI chartLength), .int fleetBits])), (sighting, .inr (10, [.long icellBitsG_4, .int ibestBoatG_5])), (sea, .inr (7, [.int (nI wide), .int (nI high), .int heat, .int cools, .int skinHeat, .int today, .int stirs, .int steps, .int (nI lumps), .int (nI boats), .ref thickness, .ref lumpNames, .ref lumpCells, .ref boatNames, .ref boatCells, .ref loads, .ref spoons, .ref spoonsLeft, .ref depths])), (thickness, .inl (ky 0, 36, .inl thicknessF)), (lumpCells, .inl (ky 0, 6, .inl lumpCellsF)), (loads, .inl (ky 0, 6, .inl loadsF)), (reader, .inr (5, [.ref rtape, .int (nI rlength), .int (nI rmostBytes), .int (nI rplace), .int rkind, .int (nI rbegin), .int rword, .int rnumber, .long rletters, .int rfaultKind, .int rfaultPlace])), (rtape, .inl (ky 2, 940, .inl rtapeF))]) [0, 2, 3, 4, 5, 6, 1, 7] rfl
  have hD9 := hD.sub (ws' := [(t, .inr (11, [.ref reader, .int (nI 0), .int latestFault, .ref sea, .ref spareSea, .ref seaText, .ref book, .ref sentence, .ref spareSentence, .ref route, .ref meeting, .ref sighting, .ref draws, .ref history, .ref images, .ref chartBytes, .int (nI chartLength), .int fleetBits])), (sighting, .inr (10, [.long icellBitsG_4, .int ibestBoatG_5])), (sea, .inr (7, [.int (nI wide), .int (nI high), .int heat, .int cools, .int skinHeat, .int today, .int stirs, .int steps, .int (nI lumps), .int (nI boats), .ref thickness, .ref lumpNames, .ref lumpCells, .ref boatNames, .ref boatCells, .ref loads, .ref spoons, .ref spoonsLeft, .ref depths])), (thickness, .inl (ky 0, 36, .inl thicknessF)), (lumpCells, .inl (ky 0, 6, .inl lumpCellsF)), (loads, .inl (ky 0, 6, .inl loadsF)), (reader, .inr (5, [.ref rtape, .int (nI rlength), .int (nI rmostBytes), .int (nI rplace), .int rkind, .int (nI rbegin), .int rword, .int rnumber, .long rletters, .int rfaultKind, .int rfaultPlace])), (rtape, .inl (ky 2, 940, .inl rtapeF))]) [0, 2, 3, 4, 5, 6, 1, 7] (by decide) rfl
  exact W.iret (v := r3) hx hb hr (fun t9 ht9 hW9 => ⟨⟨r3, (0, icellBitsG_4, ibestBoatG_5), rfl, ⟨(lf_p_sunk_1), rfl⟩, by rw [ht9]; exact hP9, va_K.moved hW9.alike hK, hD9⟩, hS.F ht9⟩) hS.2.2 dX11_sunk_29
set_option maxHeartbeats 4000000 in
set_option maxRecDepth 100000 in
theorem c_p_sunkAt (l : Launch) (dC : Nat → ClassId) (dI : Nat → Nat → Nat) (ky : Nat → ClassId) (t : Nat) (reader : Nat) (tapeLength : Nat) (latestFault : Int32) (sea : Nat) (spareSea : Nat) (seaText : Nat) (book : Nat) (sentence : Nat) (spareSentence : Nat) (route : Nat) (meeting : Nat) (sighting : Nat) (draws : Nat) (history : Nat) (images : Nat) (chartBytes : Nat) (chartLength : Nat) (fleetBits : Int32) (icellBits : Int64) (ibestBoat : Int32) (x : Int32) (iv_t_0 : tapeLength ≤ 940) (iv_t_1 : chartLength ≤ 32) : Met l yX11_sunkAt wsX11_sunkAt ({ frames := 1, cells := 0, slots := 0, locals := 23 }) (PcP dC dI ky [.ref t, .int x] [(t, .inr (11, [.ref reader, .int (nI tapeLength), .int latestFault, .ref sea, .ref spareSea, .ref seaText, .ref book, .ref sentence, .ref spareSentence, .ref route, .ref meeting, .ref sighting, .ref draws, .ref history, .ref images, .ref chartBytes, .int (nI chartLength), .int fleetBits])), (sighting, .inr (10, [.long icellBits, .int ibestBoat]))]) (vp_Si (fun r : Int32 => True)) 0 0 (fun _ => False) := by
  refine Met.ofW (cc := cX11_sunkAt) (maxL := 2) (ret := (some .int)) (by decide) rfl ?_
  intro p e s m args below meth c s₁ B hml hv
  obtain ⟨rfl, hP, hK⟩ := hv
  have hx := B.exec
  have hb := B.bytes
  have hr := B.returns
  have hts := atoms_spec (ws := wsX11_sunkAt) B.pre
  have hown : s.vm.findClass RX11 = some m.cls := findClass_of_methodNamed B.named
  have hlocks := B.notSynchronized
  have hin11 : ∀ w ∈ u_ws RX11 TX11 18, w ∈ wsX11_sunkAt := by decide +kernel
  have hl := lv_entry ([.ref t, .int x]) (n := 2) (Nat.le_of_ble_eq_true rfl)
  rw [lg_entry_eq]
  generalize (lg_sl ([.ref t, .int x]) ++ List.replicate (2 - (lg_sl ([.ref t, .int x])).length) Slot.unset).toArray = ls at hl ⊢
  have hl : lv_has ls 2 [(0, .ref t), (1, .int x)] := hl
  refine q_name (fun Q hQ => ?_)
  generalize ([.ref t, .int x] : List Value).toArray = args at hts hQ ⊢
  refine lv_aload_n hx hb dX11_sunkAt_0 rfl (lv_at hl 0 rfl) ?_
  refine va_get (D := (dC, dI)) (ci := 11) (v := .ref sighting) (C := RX11) (T := TX11) (N := 18) hx hb hts hin11 hown hK hP 0 rfl rfl 11 (by decide) (hts (.fieldLink RX11 74 "PorridgeSea" "sighting" "LPorridgeSea$Sighting;") (List.mem_of_getElem? (i := 1) rfl)) (fun _ h9 => h9) rfl dX11_sunkAt_1 ?_
  refine lv_iload_n hx hb dX11_sunkAt_4 rfl (lv_at hl 1 rfl) ?_
  refine vp_callSi (W.runV (As := [.int x]) (rest := []) ⟨hx, hb, hml, hown, hts⟩ (c_i_cellAt l dC dI ky sighting icellBits ibestBoat x) (cwV 1 hts gX11_sunkAt_X10_cellAt rfl rfl rfl (by decide +kernel) ⟨(Nat.le_of_ble_eq_true rfl), (Nat.le_of_ble_eq_true rfl)⟩) (pre_PV hK hP [1] rfl (ci := 10) (q0 := 1) rfl rfl) rfl rfl hl.1 rfl (lv_room (Nat.le_of_ble_eq_true rfl)) dX11_sunkAt_5 ⟨(Nat.le_of_ble_eq_true rfl), (Nat.le_of_ble_eq_true rfl)⟩) (fun r1 p2 => ?_)
  rw [hQ]
  exact W.iret (v := r1) hx hb hr (fun t9 ht9 hW9 => ⟨r1, rfl, trivial, ht9⟩) (fun _ h => absurd h List.not_mem_nil) dX11_sunkAt_8
set_option maxHeartbeats 4000000 in
set_option maxRecDepth 100000 in
theorem c_p_send (l : Launch) (dC : Nat → ClassId) (dI : Nat → Nat → Nat) (ky : Nat → ClassId) (t : Nat) (reader : Nat) (tapeLength : Nat) (latestFault : Int32) (sea : Nat) (spareSea : Nat) (seaText : Nat) (book : Nat) (sentence : Nat) (spareSentence : Nat) (route : Nat) (meeting : Nat) (sighting : Nat) (draws : Nat) (history : Nat) (images : Nat) (chartBytes : Nat) (chartLength : Nat) (fleetBits : Int32) (icellBits : Int64) (ibestBoat : Int32) (iv_t_0 : tapeLength ≤ 940) (iv_t_1 : chartLength ≤ 32) : Met l yX11_send wsX11_send ({ frames := 0, cells := 0, slots := 0, locals := 0 }) (PcP dC dI ky [.ref t] [(t, .inr (11, [.ref reader, .int (nI tapeLength), .int latestFault, .ref sea, .ref spareSea, .ref seaText, .ref book, .ref sentence, .ref spareSentence, .ref route, .ref meeting, .ref sighting, .ref draws, .ref history, .ref images, .ref chartBytes, .int (nI chartLength), .int fleetBits])), (sighting, .inr (10, [.long icellBits, .int ibestBoat]))]) (vp_Si (fun r : Int32 => True)) 0 0 (fun _ => False) := by
  refine Met.ofW (cc := cX11_send) (maxL := 1) (ret := (some .int)) (by decide) rfl ?_
  intro p e s m args below meth c s₁ B hml hv
  obtain ⟨rfl, hP, hK⟩ := hv
  have hx := B.exec
  have hb := B.bytes
  have hr := B.returns
  have hts := atoms_spec (ws := wsX11_send) B.pre
  have hown : s.vm.findClass RX11 = some m.cls := findClass_of_methodNamed B.named
  have hlocks := B.notSynchronized
  have hin10 : ∀ w ∈ u_ws RX10 TX10 2, w ∈ wsX11_send := by decide +kernel
  have hin11 : ∀ w ∈ u_ws RX11 TX11 18, w ∈ wsX11_send := by decide +kernel
  have hl := lv_entry ([.ref t]) (n := 1) (Nat.le_of_ble_eq_true rfl)
  rw [lg_entry_eq]
  generalize (lg_sl ([.ref t]) ++ List.replicate (1 - (lg_sl ([.ref t])).length) Slot.unset).toArray = ls at hl ⊢
  have hl : lv_has ls 1 [(0, .ref t)] := hl
  refine q_name (fun Q hQ => ?_)
  generalize ([.ref t] : List Value).toArray = args at hts hQ ⊢
  refine lv_aload_n hx hb dX11_send_0 rfl (lv_at hl 0 rfl) ?_
  refine va_get (D := (dC, dI)) (ci := 11) (v := .ref sighting) (C := RX11) (T := TX11) (N := 18) hx hb hts hin11 hown hK hP 0 rfl rfl 11 (by decide) (hts (.fieldLink RX11 74 "PorridgeSea" "sighting" "LPorridgeSea$Sighting;") (List.mem_of_getElem? (i := 1) rfl)) (fun _ h9 => h9) rfl dX11_send_1 ?_
  refine va_get (D := (dC, dI)) (ci := 10) (v := .int ibestBoat) (C := RX10) (T := TX10) (N := 2) hx hb hts hin10 hown hK hP 1 rfl rfl 1 (by decide) (hts (.fieldLink RX11 284 "PorridgeSea$Sighting" "bestBoat" "I") (List.mem_of_getElem? (i := 2) rfl)) (fun _ h9 => h9) rfl dX11_send_4 ?_
  rw [hQ]
  exact W.iret (v := ibestBoat) hx hb hr (fun t9 ht9 hW9 => ⟨ibestBoat, rfl, trivial, ht9⟩) (fun _ h => absurd h List.not_mem_nil) dX11_send_7
set_option maxHeartbeats 4000000 in
set_option maxRecDepth 100000 in
theorem c_p_land (l : Launch) (dC : Nat → ClassId) (dI : Nat → Nat → Nat) (ky : Nat → ClassId) (t : Nat) (reader : Nat) (tapeLength : Nat) (latestFault : Int32) (sea : Nat) (spareSea : Nat) (seaText : Nat) (book : Nat) (sentence : Nat) (spareSentence : Nat) (route : Nat) (meeting : Nat) (sighting : Nat) (draws : Nat) (history : Nat) (images : Nat) (chartBytes : Nat) (chartLength : Nat) (fleetBits : Int32) (wide : Nat) (high : Nat) (heat : Int32) (cools : Int32) (skinHeat : Int32) (today : Int32) (stirs : Int32) (steps : Int32) (lumps : Nat) (boats : Nat) (thickness : Nat) (lumpNames : Nat) (lumpCells : Nat) (boatNames : Nat) (boatCells : Nat) (loads : Nat) (spoons : Nat) (spoonsLeft : Nat) (depths : Nat) (lumpCellsF : Nat → Int32) (x : Int32) (iv_t_0 : tapeLength ≤ 940) (iv_t_1 : chartLength ≤ 32) (iv_sea_0 : 2 ≤ wide) (iv_sea_1 : wide ≤ 6) (iv_sea_2 : 2 ≤ high) (iv_sea_3 : high ≤ 6) (iv_sea_4 : lumps ≤ 6) (iv_sea_5 : boats ≤ 6) : Met l yX11_land wsX11_land ({ frames := 4, cells := 0, slots := 0, locals := 83 }) (PcP dC dI ky [.ref t, .int x] [(t, .inr (11, [.ref reader, .int (nI tapeLength), .int latestFault, .ref sea, .ref spareSea, .ref seaText, .ref book, .ref sentence, .ref spareSentence, .ref route, .ref meeting, .ref sighting, .ref draws, .ref history, .ref images, .ref chartBytes, .int (nI chartLength), .int fleetBits])), (sea, .inr (7, [.int (nI wide), .int (nI high), .int heat, .int cools, .int skinHeat, .int today, .int stirs, .int steps, .int (nI lumps), .int (nI boats), .ref thickness, .ref lumpNames, .ref lumpCells, .ref boatNames, .ref boatCells, .ref loads, .ref spoons, .ref spoonsLeft, .ref depths])), (lumpCells, .inl (ky 0, 6, .inl lumpCellsF))]) (vp_Si (fun r : Int32 => True)) 0 0 (fun _ => False) := by
  refine Met.ofW (cc := cX11_land) (maxL := 2) (ret := (some .int)) (by decide) rfl ?_
  intro p e s m args below meth c s₁ B hml hv
  obtain ⟨rfl, hP, hK⟩ := hv
  have hx := B.exec
  have hb := B.bytes
  have hr := B.returns
  have hts := atoms_spec (ws := wsX11_land) B.pre
  have hown : s.vm.findClass RX11 = some m.cls := findClass_of_methodNamed B.named
  have hlocks := B.notSynchronized
  have hin11 : ∀ w ∈ u_ws RX11 TX11 18, w ∈ wsX11_land := by decide +kernel
  have hl := lv_entry ([.ref t, .int x]) (n := 2) (Nat.le_of_ble_eq_true rfl)
  rw [lg_entry_eq]
  generalize (lg_sl ([.ref t, .int x]) ++ List.replicate (2 - (lg_sl ([.ref t, .int x])).length) Slot.unset).toArray = ls at hl ⊢
  have hl : lv_has ls 2 [(0, .ref t), (1, .int x)] := hl
  refine q_name (fun Q hQ => ?_)
  generalize ([.ref t, .int x] : List Value).toArray = args at hts hQ ⊢
  refine lv_aload_n hx hb dX11_land_0 rfl (lv_at hl 0 rfl) ?_
  refine va_get (D := (dC, dI)) (ci := 11) (v := .ref sea) (C := RX11) (T := TX11) (N := 18) hx hb hts hin11 hown hK hP 0 rfl rfl 3 (by decide) (hts (.fieldLink RX11 26 "PorridgeSea" "sea" "LPorridgeSea$Sea;") (List.mem_of_getElem? (i := 1) rfl)) (fun _ h9 => h9) rfl dX11_land_1 ?_
  refine lv_iload_n hx hb dX11_land_4 rfl (lv_at hl 1 rfl) ?_
  refine vp_callSi (W.runV (As := [.int x]) (rest := []) ⟨hx, hb, hml, hown, hts⟩ (c_s_isLump l dC dI ky sea wide high heat cools skinHeat today stirs steps lumps boats thickness lumpNames lumpCells boatNames boatCells loads spoons spoonsLeft depths x iv_sea_0 iv_sea_1 iv_sea_2 iv_sea_3 iv_sea_4 iv_sea_5) (cwV 1 hts gX11_land_X7_isLump rfl rfl rfl (by decide +kernel) ⟨(Nat.le_of_ble_eq_true rfl), (Nat.le_of_ble_eq_true rfl)⟩) (pre_PV hK hP [1] rfl (ci := 7) (q0 := 1) rfl rfl) rfl rfl hl.1 rfl (lv_room (Nat.le_of_ble_eq_true rfl)) dX11_land_5 ⟨(Nat.le_of_ble_eq_true rfl), (Nat.le_of_ble_eq_true rfl)⟩) (fun r1 p2 => ?_)
  rcases p2 with ⟨rfl, t3, t4⟩ | ⟨rfl, t5⟩
  · refine lv_if_eq (tgt := 22) hx hb dX11_land_8 (by decide) (fun c6 => absurd c6 (by decide)) (fun c6 => ?_)
    refine lv_aload_n hx hb dX11_land_11 rfl (lv_at hl 0 rfl) ?_
    refine va_get (D := (dC, dI)) (ci := 11) (v := .ref sea) (C := RX11) (T := TX11) (N := 18) hx hb hts hin11 hown hK hP 0 rfl rfl 3 (by decide) (hts (.fieldLink RX11 26 "PorridgeSea" "sea" "LPorridgeSea$Sea;") (List.mem_of_getElem? (i := 1) rfl)) (fun _ h9 => h9) rfl dX11_land_12 ?_
    refine lv_iload_n hx hb dX11_land_15 rfl (lv_at hl 1 rfl) ?_
    refine vp_callSi (W.runV (As := [.int x]) (rest := []) ⟨hx, hb, hml, hown, hts⟩ (c_s_landBits l dC dI ky sea wide high heat cools skinHeat today stirs steps lumps boats thickness lumpNames lumpCells boatNames boatCells loads spoons spoonsLeft depths lumpCellsF x iv_sea_0 iv_sea_1 iv_sea_2 iv_sea_3 iv_sea_4 iv_sea_5) (cwV 1 hts gX11_land_X7_landBits rfl rfl rfl (by decide +kernel) ⟨(Nat.le_of_ble_eq_true rfl), (Nat.le_of_ble_eq_true rfl)⟩) (pre_PV hK hP [1, 2] rfl (ci := 7) (q0 := 1) rfl rfl) rfl rfl hl.1 rfl (lv_room (Nat.le_of_ble_eq_true rfl)) dX11_land_16 ⟨(Nat.le_of_ble_eq_true rfl), (Nat.le_of_ble_eq_true rfl)⟩) (fun r7 p8 => ?_)
    refine lv_goto (tgt := 23) hx hb dX11_land_19 (by decide) ?_
    rw [hQ]
    exact W.iret (v := r7) hx hb hr (fun t9 ht9 hW9 => ⟨r7, rfl, trivial, ht9⟩) (fun _ h => absurd h List.not_mem_nil) dX11_land_23
  · refine lv_if_eq (tgt := 22) hx hb dX11_land_8 (by decide) (fun c9 => ?_) (fun c9 => absurd (by decide) c9)
    refine lv_iconst (v := (-1 : Int32)) hx hb dX11_land_22 (by decide) ?_
    rw [hQ]
    exact W.iret (v := (-1 : Int32)) hx hb hr (fun t9 ht9 hW9 => ⟨(-1 : Int32), rfl, trivial, ht9⟩) (fun _ h => absurd h List.not_mem_nil) dX11_land_23
