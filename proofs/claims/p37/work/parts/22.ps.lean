theorem dX11_putBytes_0 : decode cX11_putBytes 0 = .ok (.bipush 24, 2) := by decide +kernel
theorem dX11_putBytes_2 : decode cX11_putBytes 2 = .ok (.istore_n 2, 1) := by decide +kernel
theorem dX11_putBytes_3 : decode cX11_putBytes 3 = .ok (.iload_n 2, 1) := by decide +kernel
theorem dX11_putBytes_4 : decode cX11_putBytes 4 = .ok (.ifCond .lt 45, 3) := by decide +kernel
theorem dX11_putBytes_7 : decode cX11_putBytes 7 = .ok (.aload_n 0, 1) := by decide +kernel
theorem dX11_putBytes_8 : decode cX11_putBytes 8 = .ok (.getfield 16, 3) := by decide +kernel
theorem dX11_putBytes_11 : decode cX11_putBytes 11 = .ok (.sipush 940, 3) := by decide +kernel
theorem dX11_putBytes_14 : decode cX11_putBytes 14 = .ok (.if_icmp .ge 35, 3) := by decide +kernel
theorem dX11_putBytes_49 : decode cX11_putBytes 49 = .ok (.return_, 1) := by decide +kernel
theorem dX11_putBytes_17 : decode cX11_putBytes 17 = .ok (.aload_n 0, 1) := by decide +kernel
theorem dX11_putBytes_18 : decode cX11_putBytes 18 = .ok (.getfield 10, 3) := by decide +kernel
theorem dX11_putBytes_21 : decode cX11_putBytes 21 = .ok (.getfield 113, 3) := by decide +kernel
theorem dX11_putBytes_24 : decode cX11_putBytes 24 = .ok (.aload_n 0, 1) := by decide +kernel
theorem dX11_putBytes_25 : decode cX11_putBytes 25 = .ok (.getfield 16, 3) := by decide +kernel
theorem dX11_putBytes_28 : decode cX11_putBytes 28 = .ok (.iload_n 1, 1) := by decide +kernel
theorem dX11_putBytes_29 : decode cX11_putBytes 29 = .ok (.iload_n 2, 1) := by decide +kernel
theorem dX11_putBytes_30 : decode cX11_putBytes 30 = .ok (.iushr, 1) := by decide +kernel
theorem dX11_putBytes_31 : decode cX11_putBytes 31 = .ok (.i2b, 1) := by decide +kernel
theorem dX11_putBytes_32 : decode cX11_putBytes 32 = .ok (.bastore, 1) := by decide +kernel
theorem dX11_putBytes_33 : decode cX11_putBytes 33 = .ok (.aload_n 0, 1) := by decide +kernel
theorem dX11_putBytes_34 : decode cX11_putBytes 34 = .ok (.dup, 1) := by decide +kernel
theorem dX11_putBytes_35 : decode cX11_putBytes 35 = .ok (.getfield 16, 3) := by decide +kernel
theorem dX11_putBytes_38 : decode cX11_putBytes 38 = .ok (.iconst 1, 1) := by decide +kernel
theorem dX11_putBytes_39 : decode cX11_putBytes 39 = .ok (.iadd, 1) := by decide +kernel
theorem dX11_putBytes_40 : decode cX11_putBytes 40 = .ok (.putfield 16, 3) := by decide +kernel
theorem dX11_putBytes_43 : decode cX11_putBytes 43 = .ok (.iinc 2 (-8), 3) := by decide +kernel
theorem dX11_putBytes_46 : decode cX11_putBytes 46 = .ok (.goto (-43), 3) := by decide +kernel
theorem dX11_feed_0 : decode cX11_feed 0 = .ok (.aload_n 0, 1) := by decide +kernel
theorem dX11_feed_1 : decode cX11_feed 1 = .ok (.getfield 16, 3) := by decide +kernel
theorem dX11_feed_4 : decode cX11_feed 4 = .ok (.bipush 20, 2) := by decide +kernel
theorem dX11_feed_6 : decode cX11_feed 6 = .ok (.iadd, 1) := by decide +kernel
theorem dX11_feed_7 : decode cX11_feed 7 = .ok (.sipush 940, 3) := by decide +kernel
theorem dX11_feed_10 : decode cX11_feed 10 = .ok (.if_icmp .le 5, 3) := by decide +kernel
theorem dX11_feed_15 : decode cX11_feed 15 = .ok (.aload_n 0, 1) := by decide +kernel
theorem dX11_feed_16 : decode cX11_feed 16 = .ok (.iload_n 1, 1) := by decide +kernel
theorem dX11_feed_17 : decode cX11_feed 17 = .ok (.invokevirtual 109, 3) := by decide +kernel
theorem dX11_feed_20 : decode cX11_feed 20 = .ok (.aload_n 0, 1) := by decide +kernel
theorem dX11_feed_21 : decode cX11_feed 21 = .ok (.iload_n 2, 1) := by decide +kernel
theorem dX11_feed_22 : decode cX11_feed 22 = .ok (.invokevirtual 109, 3) := by decide +kernel
theorem dX11_feed_25 : decode cX11_feed 25 = .ok (.aload_n 0, 1) := by decide +kernel
theorem dX11_feed_26 : decode cX11_feed 26 = .ok (.iload_n 3, 1) := by decide +kernel
theorem dX11_feed_27 : decode cX11_feed 27 = .ok (.invokevirtual 109, 3) := by decide +kernel
theorem dX11_feed_30 : decode cX11_feed 30 = .ok (.aload_n 0, 1) := by decide +kernel
theorem dX11_feed_31 : decode cX11_feed 31 = .ok (.iload 4, 2) := by decide +kernel
theorem dX11_feed_33 : decode cX11_feed 33 = .ok (.invokevirtual 109, 3) := by decide +kernel
theorem dX11_feed_36 : decode cX11_feed 36 = .ok (.aload_n 0, 1) := by decide +kernel
theorem dX11_feed_37 : decode cX11_feed 37 = .ok (.iload 5, 2) := by decide +kernel
theorem dX11_feed_39 : decode cX11_feed 39 = .ok (.invokevirtual 109, 3) := by decide +kernel
theorem dX11_feed_42 : decode cX11_feed 42 = .ok (.aload_n 0, 1) := by decide +kernel
theorem dX11_feed_43 : decode cX11_feed 43 = .ok (.getfield 16, 3) := by decide +kernel
theorem dX11_feed_46 : decode cX11_feed 46 = .ok (.ireturn, 1) := by decide +kernel
theorem dX11_feed_13 : decode cX11_feed 13 = .ok (.iconst (-1), 1) := by decide +kernel
theorem dX11_feed_14 : decode cX11_feed 14 = .ok (.ireturn, 1) := by decide +kernel
theorem dX11_end_0 : decode cX11_end 0 = .ok (.iload_n 1, 1) := by decide +kernel
theorem dX11_end_1 : decode cX11_end 1 = .ok (.ifCond .lt 11, 3) := by decide +kernel
theorem dX11_end_12 : decode cX11_end 12 = .ok (.iconst 0, 1) := by decide +kernel
theorem dX11_end_13 : decode cX11_end 13 = .ok (.ireturn, 1) := by decide +kernel
theorem dX11_end_4 : decode cX11_end 4 = .ok (.iload_n 1, 1) := by decide +kernel
theorem dX11_end_5 : decode cX11_end 5 = .ok (.aload_n 0, 1) := by decide +kernel
theorem dX11_end_6 : decode cX11_end 6 = .ok (.getfield 16, 3) := by decide +kernel
theorem dX11_end_9 : decode cX11_end 9 = .ok (.if_icmp .le 5, 3) := by decide +kernel
theorem dX11_end_14 : decode cX11_end 14 = .ok (.aload_n 0, 1) := by decide +kernel
theorem dX11_end_15 : decode cX11_end 15 = .ok (.iload_n 1, 1) := by decide +kernel
theorem dX11_end_16 : decode cX11_end 16 = .ok (.putfield 16, 3) := by decide +kernel
theorem dX11_end_19 : decode cX11_end 19 = .ok (.iconst 1, 1) := by decide +kernel
theorem dX11_end_20 : decode cX11_end 20 = .ok (.ireturn, 1) := by decide +kernel
theorem dX11_openTape_0 : decode cX11_openTape 0 = .ok (.aload_n 0, 1) := by decide +kernel
theorem dX11_openTape_1 : decode cX11_openTape 1 = .ok (.getfield 10, 3) := by decide +kernel
theorem dX11_openTape_4 : decode cX11_openTape 4 = .ok (.aload_n 0, 1) := by decide +kernel
theorem dX11_openTape_5 : decode cX11_openTape 5 = .ok (.getfield 16, 3) := by decide +kernel
theorem dX11_openTape_8 : decode cX11_openTape 8 = .ok (.iload_n 1, 1) := by decide +kernel
theorem dX11_openTape_9 : decode cX11_openTape 9 = .ok (.invokevirtual 137, 3) := by decide +kernel
theorem dX11_openTape_12 : decode cX11_openTape 12 = .ok (.aload_n 0, 1) := by decide +kernel
theorem dX11_openTape_13 : decode cX11_openTape 13 = .ok (.iconst 0, 1) := by decide +kernel
theorem dX11_openTape_14 : decode cX11_openTape 14 = .ok (.putfield 16, 3) := by decide +kernel
theorem dX11_openTape_17 : decode cX11_openTape 17 = .ok (.return_, 1) := by decide +kernel
theorem dX11_fault_0 : decode cX11_fault 0 = .ok (.aload_n 0, 1) := by decide +kernel
theorem dX11_fault_1 : decode cX11_fault 1 = .ok (.getfield 20, 3) := by decide +kernel
theorem dX11_fault_4 : decode cX11_fault 4 = .ok (.ireturn, 1) := by decide +kernel
theorem dX11_thick_0 : decode cX11_thick 0 = .ok (.aload_n 0, 1) := by decide +kernel
theorem dX11_thick_1 : decode cX11_thick 1 = .ok (.getfield 26, 3) := by decide +kernel
theorem dX11_thick_4 : decode cX11_thick 4 = .ok (.iload_n 1, 1) := by decide +kernel
theorem dX11_thick_5 : decode cX11_thick 5 = .ok (.iload_n 2, 1) := by decide +kernel
theorem dX11_thick_6 : decode cX11_thick 6 = .ok (.invokevirtual 141, 3) := by decide +kernel
theorem dX11_thick_9 : decode cX11_thick 9 = .ok (.ifCond .eq 19, 3) := by decide +kernel
theorem dX11_thick_12 : decode cX11_thick 12 = .ok (.aload_n 0, 1) := by decide +kernel
theorem dX11_thick_13 : decode cX11_thick 13 = .ok (.getfield 26, 3) := by decide +kernel
theorem dX11_thick_16 : decode cX11_thick 16 = .ok (.bipush 6, 2) := by decide +kernel
theorem dX11_thick_18 : decode cX11_thick 18 = .ok (.iload_n 2, 1) := by decide +kernel
theorem dX11_thick_19 : decode cX11_thick 19 = .ok (.imul, 1) := by decide +kernel
theorem dX11_thick_20 : decode cX11_thick 20 = .ok (.iload_n 1, 1) := by decide +kernel
theorem dX11_thick_21 : decode cX11_thick 21 = .ok (.iadd, 1) := by decide +kernel
theorem dX11_thick_22 : decode cX11_thick 22 = .ok (.invokevirtual 145, 3) := by decide +kernel
theorem dX11_thick_25 : decode cX11_thick 25 = .ok (.goto 4, 3) := by decide +kernel
theorem dX11_thick_29 : decode cX11_thick 29 = .ok (.ireturn, 1) := by decide +kernel
theorem dX11_thick_28 : decode cX11_thick 28 = .ok (.iconst (-1), 1) := by decide +kernel
theorem dX11_lump_0 : decode cX11_lump 0 = .ok (.aload_n 0, 1) := by decide +kernel
theorem dX11_lump_1 : decode cX11_lump 1 = .ok (.getfield 26, 3) := by decide +kernel
theorem dX11_lump_4 : decode cX11_lump 4 = .ok (.iload_n 1, 1) := by decide +kernel
theorem dX11_lump_5 : decode cX11_lump 5 = .ok (.invokevirtual 149, 3) := by decide +kernel
theorem dX11_lump_8 : decode cX11_lump 8 = .ok (.ifCond .eq 12, 3) := by decide +kernel
theorem dX11_lump_11 : decode cX11_lump 11 = .ok (.iload_n 2, 1) := by decide +kernel
theorem dX11_lump_12 : decode cX11_lump 12 = .ok (.ifCond .lt 8, 3) := by decide +kernel
theorem dX11_lump_20 : decode cX11_lump 20 = .ok (.iconst (-1), 1) := by decide +kernel
theorem dX11_lump_21 : decode cX11_lump 21 = .ok (.ireturn, 1) := by decide +kernel
theorem dX11_lump_15 : decode cX11_lump 15 = .ok (.iload_n 2, 1) := by decide +kernel
theorem dX11_lump_16 : decode cX11_lump 16 = .ok (.iconst 1, 1) := by decide +kernel
theorem dX11_lump_17 : decode cX11_lump 17 = .ok (.if_icmp .le 5, 3) := by decide +kernel
theorem dX11_lump_22 : decode cX11_lump 22 = .ok (.iload_n 2, 1) := by decide +kernel
theorem dX11_lump_23 : decode cX11_lump 23 = .ok (.ifCond .ne 18, 3) := by decide +kernel
theorem dX11_lump_41 : decode cX11_lump 41 = .ok (.aload_n 0, 1) := by decide +kernel
theorem dX11_lump_42 : decode cX11_lump 42 = .ok (.getfield 26, 3) := by decide +kernel
theorem dX11_lump_45 : decode cX11_lump 45 = .ok (.getfield 153, 3) := by decide +kernel
theorem dX11_lump_48 : decode cX11_lump 48 = .ok (.iload_n 1, 1) := by decide +kernel
theorem dX11_lump_49 : decode cX11_lump 49 = .ok (.iaload, 1) := by decide +kernel
theorem dX11_lump_50 : decode cX11_lump 50 = .ok (.bipush 6, 2) := by decide +kernel
theorem dX11_lump_52 : decode cX11_lump 52 = .ok (.idiv, 1) := by decide +kernel
theorem dX11_lump_53 : decode cX11_lump 53 = .ok (.ireturn, 1) := by decide +kernel
theorem dX11_lump_26 : decode cX11_lump 26 = .ok (.aload_n 0, 1) := by decide +kernel
theorem dX11_lump_27 : decode cX11_lump 27 = .ok (.getfield 26, 3) := by decide +kernel
theorem dX11_lump_30 : decode cX11_lump 30 = .ok (.getfield 153, 3) := by decide +kernel
theorem dX11_lump_33 : decode cX11_lump 33 = .ok (.iload_n 1, 1) := by decide +kernel
theorem dX11_lump_34 : decode cX11_lump 34 = .ok (.iaload, 1) := by decide +kernel
theorem dX11_lump_35 : decode cX11_lump 35 = .ok (.bipush 6, 2) := by decide +kernel
theorem dX11_lump_37 : decode cX11_lump 37 = .ok (.irem, 1) := by decide +kernel
theorem dX11_lump_38 : decode cX11_lump 38 = .ok (.goto 15, 3) := by decide +kernel
theorem dX11_now_0 : decode cX11_now 0 = .ok (.iload_n 1, 1) := by decide +kernel
theorem dX11_now_1 : decode cX11_now 1 = .ok (.tableswitch 119 0 7 #[47, 55, 63, 79, 87, 95, 103, 111], 47) := by decide +kernel
theorem dX11_now_120 : decode cX11_now 120 = .ok (.iconst (-1), 1) := by decide +kernel
theorem dX11_now_121 : decode cX11_now 121 = .ok (.ireturn, 1) := by decide +kernel
theorem dX11_now_48 : decode cX11_now 48 = .ok (.aload_n 0, 1) := by decide +kernel
theorem dX11_now_49 : decode cX11_now 49 = .ok (.getfield 26, 3) := by decide +kernel
theorem dX11_now_52 : decode cX11_now 52 = .ok (.getfield 171, 3) := by decide +kernel
theorem dX11_now_55 : decode cX11_now 55 = .ok (.ireturn, 1) := by decide +kernel
theorem dX11_now_56 : decode cX11_now 56 = .ok (.aload_n 0, 1) := by decide +kernel
theorem dX11_now_57 : decode cX11_now 57 = .ok (.getfield 26, 3) := by decide +kernel
theorem dX11_now_60 : decode cX11_now 60 = .ok (.getfield 174, 3) := by decide +kernel
theorem dX11_now_63 : decode cX11_now 63 = .ok (.ireturn, 1) := by decide +kernel
theorem dX11_now_64 : decode cX11_now 64 = .ok (.aload_n 0, 1) := by decide +kernel
theorem dX11_now_65 : decode cX11_now 65 = .ok (.getfield 26, 3) := by decide +kernel
theorem dX11_now_68 : decode cX11_now 68 = .ok (.invokevirtual 177, 3) := by decide +kernel
theorem dX11_now_71 : decode cX11_now 71 = .ok (.ifCond .eq 7, 3) := by decide +kernel
theorem dX11_now_78 : decode cX11_now 78 = .ok (.iconst 0, 1) := by decide +kernel
theorem dX11_now_79 : decode cX11_now 79 = .ok (.ireturn, 1) := by decide +kernel
theorem dX11_now_74 : decode cX11_now 74 = .ok (.iconst 1, 1) := by decide +kernel
theorem dX11_now_75 : decode cX11_now 75 = .ok (.goto 4, 3) := by decide +kernel
theorem dX11_now_80 : decode cX11_now 80 = .ok (.aload_n 0, 1) := by decide +kernel
theorem dX11_now_81 : decode cX11_now 81 = .ok (.getfield 26, 3) := by decide +kernel
theorem dX11_now_84 : decode cX11_now 84 = .ok (.invokevirtual 181, 3) := by decide +kernel
theorem dX11_now_87 : decode cX11_now 87 = .ok (.ireturn, 1) := by decide +kernel
theorem dX11_now_88 : decode cX11_now 88 = .ok (.aload_n 0, 1) := by decide +kernel
theorem dX11_now_89 : decode cX11_now 89 = .ok (.getfield 26, 3) := by decide +kernel
theorem dX11_now_92 : decode cX11_now 92 = .ok (.invokevirtual 185, 3) := by decide +kernel
theorem dX11_now_95 : decode cX11_now 95 = .ok (.ireturn, 1) := by decide +kernel
theorem dX11_now_96 : decode cX11_now 96 = .ok (.aload_n 0, 1) := by decide +kernel
theorem dX11_now_97 : decode cX11_now 97 = .ok (.getfield 26, 3) := by decide +kernel
theorem dX11_now_100 : decode cX11_now 100 = .ok (.invokevirtual 188, 3) := by decide +kernel
theorem dX11_now_103 : decode cX11_now 103 = .ok (.ireturn, 1) := by decide +kernel
theorem dX11_now_104 : decode cX11_now 104 = .ok (.aload_n 0, 1) := by decide +kernel
theorem dX11_now_105 : decode cX11_now 105 = .ok (.getfield 26, 3) := by decide +kernel
theorem dX11_now_108 : decode cX11_now 108 = .ok (.getfield 191, 3) := by decide +kernel
theorem dX11_now_111 : decode cX11_now 111 = .ok (.ireturn, 1) := by decide +kernel
theorem dX11_now_112 : decode cX11_now 112 = .ok (.aload_n 0, 1) := by decide +kernel
theorem dX11_now_113 : decode cX11_now 113 = .ok (.getfield 26, 3) := by decide +kernel
theorem dX11_now_116 : decode cX11_now 116 = .ok (.getfield 194, 3) := by decide +kernel
theorem dX11_now_119 : decode cX11_now 119 = .ok (.ireturn, 1) := by decide +kernel
theorem dX11_count_0 : decode cX11_count 0 = .ok (.iload_n 1, 1) := by decide +kernel
theorem dX11_count_1 : decode cX11_count 1 = .ok (.tableswitch 96 0 6 #[43, 51, 59, 67, 75, 83, 91], 43) := by decide +kernel
theorem dX11_count_97 : decode cX11_count 97 = .ok (.iconst (-1), 1) := by decide +kernel
theorem dX11_count_98 : decode cX11_count 98 = .ok (.ireturn, 1) := by decide +kernel
theorem dX11_count_44 : decode cX11_count 44 = .ok (.aload_n 0, 1) := by decide +kernel
theorem dX11_count_45 : decode cX11_count 45 = .ok (.getfield 26, 3) := by decide +kernel
theorem dX11_count_48 : decode cX11_count 48 = .ok (.getfield 197, 3) := by decide +kernel
theorem dX11_count_51 : decode cX11_count 51 = .ok (.ireturn, 1) := by decide +kernel
theorem dX11_count_52 : decode cX11_count 52 = .ok (.aload_n 0, 1) := by decide +kernel
theorem dX11_count_53 : decode cX11_count 53 = .ok (.getfield 26, 3) := by decide +kernel
theorem dX11_count_56 : decode cX11_count 56 = .ok (.getfield 200, 3) := by decide +kernel
theorem dX11_count_59 : decode cX11_count 59 = .ok (.ireturn, 1) := by decide +kernel
theorem dX11_count_60 : decode cX11_count 60 = .ok (.aload_n 0, 1) := by decide +kernel
theorem dX11_count_61 : decode cX11_count 61 = .ok (.getfield 26, 3) := by decide +kernel
theorem dX11_count_64 : decode cX11_count 64 = .ok (.getfield 203, 3) := by decide +kernel
theorem dX11_count_67 : decode cX11_count 67 = .ok (.ireturn, 1) := by decide +kernel
theorem dX11_count_68 : decode cX11_count 68 = .ok (.aload_n 0, 1) := by decide +kernel
theorem dX11_count_69 : decode cX11_count 69 = .ok (.getfield 26, 3) := by decide +kernel
theorem dX11_count_72 : decode cX11_count 72 = .ok (.getfield 206, 3) := by decide +kernel
theorem dX11_count_75 : decode cX11_count 75 = .ok (.ireturn, 1) := by decide +kernel
theorem dX11_count_76 : decode cX11_count 76 = .ok (.aload_n 0, 1) := by decide +kernel
theorem dX11_count_77 : decode cX11_count 77 = .ok (.getfield 26, 3) := by decide +kernel
theorem dX11_count_80 : decode cX11_count 80 = .ok (.getfield 209, 3) := by decide +kernel
theorem dX11_count_83 : decode cX11_count 83 = .ok (.ireturn, 1) := by decide +kernel
theorem dX11_count_84 : decode cX11_count 84 = .ok (.aload_n 0, 1) := by decide +kernel
theorem dX11_count_85 : decode cX11_count 85 = .ok (.getfield 26, 3) := by decide +kernel
theorem dX11_count_88 : decode cX11_count 88 = .ok (.getfield 212, 3) := by decide +kernel
theorem dX11_count_91 : decode cX11_count 91 = .ok (.ireturn, 1) := by decide +kernel
theorem dX11_count_92 : decode cX11_count 92 = .ok (.aload_n 0, 1) := by decide +kernel
theorem dX11_count_93 : decode cX11_count 93 = .ok (.getfield 16, 3) := by decide +kernel
theorem dX11_count_96 : decode cX11_count 96 = .ok (.ireturn, 1) := by decide +kernel
set_option maxRecDepth 100000 in
theorem ggX11_feed_X11_putBytes : GoodIn wsX11_feed wsX11_putBytes := goodIn_r _ [6, 1, 7, 8, 9, 10, 11, 12, 13, 14, 15, 16, 17, 18, 19, 20, 21, 22, 23, 24, 25, 26, 27, 28, 29, 30, 31, 32, 33, 34, 35, 36, 37] rfl (by decide +kernel)
set_option maxRecDepth 100000 in
theorem ggX11_openTape_X5_open : GoodIn wsX11_openTape wsX5_open := goodIn_r _ [7, 8, 9, 10, 11, 12, 13, 14, 15, 16, 17, 18, 19, 6, 20, 21, 22, 23, 24, 25, 26, 27, 28, 29, 30, 31, 32, 33, 34, 35, 36, 37, 38, 39, 40, 41, 42, 43, 44, 45, 46, 47, 48, 49, 50, 51, 52, 53, 54, 55, 56, 57, 58, 59, 60, 61, 62, 63, 64, 65, 66, 67, 68, 69, 70, 71, 72, 73, 74, 75, 76, 77, 78, 79, 80, 81, 82, 83, 84, 85, 86, 87, 88, 89, 90, 91, 92, 93, 112, 113, 114, 115, 116, 117, 118, 119, 120, 121, 122] rfl (by decide +kernel)
set_option maxRecDepth 100000 in
theorem ggX11_thick_X7_isCell : GoodIn wsX11_thick wsX7_isCell := goodIn_r _ [6, 7, 8, 32, 33, 34, 35, 36, 37, 38, 39, 40, 41, 42, 43, 44, 45, 46, 47, 48, 49, 50] rfl (by decide +kernel)
set_option maxRecDepth 100000 in
theorem ggX11_thick_X7_thicknessIn : GoodIn wsX11_thick wsX7_thicknessIn := goodIn_r _ [12, 13, 32, 33, 34, 35, 36, 37, 38, 39, 40, 41, 42, 43, 44, 45, 46, 47, 48, 49, 50] rfl (by decide +kernel)
set_option maxRecDepth 100000 in
theorem ggX11_lump_X7_isLump : GoodIn wsX11_lump wsX7_isLump := goodIn_r _ [7, 8, 27, 28, 29, 30, 31, 32, 33, 34, 35, 36, 37, 38, 39, 40, 41, 42, 43, 44, 45] rfl (by decide +kernel)
set_option maxRecDepth 100000 in
theorem ggX11_now_X7_hasSkin : GoodIn wsX11_now wsX7_hasSkin := goodIn_r _ [10, 11, 12, 75, 76, 77, 78, 79, 80, 81, 82, 83, 84, 85, 86, 87, 88, 89, 90, 91, 92, 93] rfl (by decide +kernel)
set_option maxRecDepth 100000 in
theorem ggX11_now_X7_eatenBits : GoodIn wsX11_now wsX7_eatenBits := goodIn_r _ [16, 17, 18, 19, 20, 9, 21, 22, 23, 24, 25, 26, 75, 76, 77, 78, 79, 80, 81, 82, 83, 84, 85, 86, 87, 88, 89, 90, 91, 92, 93] rfl (by decide +kernel)
set_option maxRecDepth 100000 in
theorem ggX11_now_X7_afloatBits : GoodIn wsX11_now wsX7_afloatBits := goodIn_r _ [30, 17, 31, 32, 33, 9, 34, 35, 23, 24, 25, 26, 18, 19, 20, 21, 22, 36, 37, 38, 39, 40, 41, 7, 8, 10, 11, 12, 42, 43, 44, 45, 46, 47, 48, 49, 50, 51, 52, 75, 76, 77, 78, 79, 80, 81, 82, 83, 84, 85, 86, 87, 88, 89, 90, 91, 92, 93] rfl (by decide +kernel)
set_option maxRecDepth 100000 in
theorem ggX11_now_X7_allThickness : GoodIn wsX11_now wsX7_allThickness := goodIn_r _ [56, 52, 75, 76, 77, 78, 79, 80, 81, 82, 83, 84, 85, 86, 87, 88, 89, 90, 91, 92, 93] rfl (by decide +kernel)
set_option maxRecDepth 100000 in
theorem gX11_feed_X11_putBytes : GoodIn wsX11_feed (wsV RX11 109 RX11 yX11_putBytes wsX11_putBytes) := goodIn_app (goodIn_of _ (by decide +kernel)) ggX11_feed_X11_putBytes
set_option maxRecDepth 100000 in
theorem gX11_openTape_X5_open : GoodIn wsX11_openTape (wsV RX11 137 RX5 yX5_open wsX5_open) := goodIn_app (goodIn_of _ (by decide +kernel)) ggX11_openTape_X5_open
set_option maxRecDepth 100000 in
theorem gX11_thick_X7_isCell : GoodIn wsX11_thick (wsV RX11 141 RX7 yX7_isCell wsX7_isCell) := goodIn_app (goodIn_of _ (by decide +kernel)) ggX11_thick_X7_isCell
set_option maxRecDepth 100000 in
theorem gX11_thick_X7_thicknessIn : GoodIn wsX11_thick (wsV RX11 145 RX7 yX7_thicknessIn wsX7_thicknessIn) := goodIn_app (goodIn_of _ (by decide +kernel)) ggX11_thick_X7_thicknessIn
set_option maxRecDepth 100000 in
theorem gX11_lump_X7_isLump : GoodIn wsX11_lump (wsV RX11 149 RX7 yX7_isLump wsX7_isLump) := goodIn_app (goodIn_of _ (by decide +kernel)) ggX11_lump_X7_isLump
set_option maxRecDepth 100000 in
theorem gX11_now_X7_hasSkin : GoodIn wsX11_now (wsV RX11 177 RX7 yX7_hasSkin wsX7_hasSkin) := goodIn_app (goodIn_of _ (by decide +kernel)) ggX11_now_X7_hasSkin
set_option maxRecDepth 100000 in
theorem gX11_now_X7_eatenBits : GoodIn wsX11_now (wsV RX11 181 RX7 yX7_eatenBits wsX7_eatenBits) := goodIn_app (goodIn_of _ (by decide +kernel)) ggX11_now_X7_eatenBits
set_option maxRecDepth 100000 in
theorem gX11_now_X7_afloatBits : GoodIn wsX11_now (wsV RX11 185 RX7 yX7_afloatBits wsX7_afloatBits) := goodIn_app (goodIn_of _ (by decide +kernel)) ggX11_now_X7_afloatBits
set_option maxRecDepth 100000 in
theorem gX11_now_X7_allThickness : GoodIn wsX11_now (wsV RX11 188 RX7 yX7_allThickness wsX7_allThickness) := goodIn_app (goodIn_of _ (by decide +kernel)) ggX11_now_X7_allThickness
set_option maxRecDepth 20000 in
theorem lf_p_end_1 (tapeLength : Nat) (n : Int32) (iv_t_0 : tapeLength ≤ 940) (c1 : n < 0) : ((nI 0) = nI 1 ∧ (0 ≤ n.toInt ∧ n.toInt ≤ tapeLength ∧ n = nI tapeLength)) ∨ ((nI 0) = nI 0 ∧ (¬ (0 ≤ n.toInt ∧ n.toInt ≤ tapeLength) ∧ tapeLength = tapeLength)) := by
  have b_n := ia_b n
  try have k_0 := ia_n 0 (by first | decide | omega)
  try have k_1 := ia_n 1 (by first | decide | omega)
  try have k_2 := ia_n tapeLength (by first | decide | omega)
  try simp only [ia_lt, ia_le, ia_eq, ia_m1, ia_0, ia_1, ne_eq, true_and, and_true, false_and, and_false, or_false, false_or, or_true, true_or, not_true_eq_false, not_false_eq_true] at *
  all_goals omega
set_option maxRecDepth 20000 in
theorem lf_p_end_2 (tapeLength : Nat) (n : Int32) (iv_t_0 : tapeLength ≤ 940) (c1 : ¬ n < 0) (c2 : n ≤ nI tapeLength) : 0 ≤ n.toInt ∧ n.toInt < ((941 : Nat) : Int) := by
  have b_n := ia_b n
  try have k_0 := ia_n tapeLength (by first | decide | omega)
  try simp only [ia_lt, ia_le, ia_eq, ia_m1, ia_0, ia_1, ne_eq, true_and, and_true, false_and, and_false, or_false, false_or, or_true, true_or, not_true_eq_false, not_false_eq_true] at *
  all_goals omega
set_option maxRecDepth 20000 in
theorem lf_p_end_3 (tapeLength : Nat) (n : Int32) (n3 : Nat) (iv_t_0 : tapeLength ≤ 940) (c1 : ¬ n < 0) (c2 : n ≤ nI tapeLength) (h4 : n3 < 941) (e5 : n = nI n3) : ((nI 1) = nI 1 ∧ (0 ≤ n.toInt ∧ n.toInt ≤ tapeLength ∧ n = nI n3)) ∨ ((nI 1) = nI 0 ∧ (¬ (0 ≤ n.toInt ∧ n.toInt ≤ tapeLength) ∧ n3 = tapeLength)) := by
  have b_n := ia_b n
  try have k_0 := ia_n tapeLength (by first | decide | omega)
  try have k_1 := ia_n n3 (by first | decide | omega)
  try have k_2 := ia_n 1 (by first | decide | omega)
  try have k_3 := ia_n 0 (by first | decide | omega)
  try simp only [ia_lt, ia_le, ia_eq, ia_m1, ia_0, ia_1, ne_eq, true_and, and_true, false_and, and_false, or_false, false_or, or_true, true_or, not_true_eq_false, not_false_eq_true] at *
  all_goals omega
set_option maxRecDepth 20000 in
theorem lf_p_end_4 (tapeLength : Nat) (n : Int32) (n3 : Nat) (iv_t_0 : tapeLength ≤ 940) (c1 : ¬ n < 0) (c2 : n ≤ nI tapeLength) (h4 : n3 < 941) (e5 : n = nI n3) : n3 ≤ 940 := by
  have b_n := ia_b n
  try have k_0 := ia_n tapeLength (by first | decide | omega)
  try have k_1 := ia_n n3 (by first | decide | omega)
  try simp only [ia_lt, ia_le, ia_eq, ia_m1, ia_0, ia_1, ne_eq, true_and, and_true, false_and, and_false, or_false, false_or, or_true, true_or, not_true_eq_false, not_false_eq_true] at *
  all_goals omega
set_option maxRecDepth 20000 in
theorem lf_p_end_5 (tapeLength : Nat) (n : Int32) (iv_t_0 : tapeLength ≤ 940) (c1 : ¬ n < 0) (c2 : ¬ n ≤ nI tapeLength) : ((nI 0) = nI 1 ∧ (0 ≤ n.toInt ∧ n.toInt ≤ tapeLength ∧ n = nI tapeLength)) ∨ ((nI 0) = nI 0 ∧ (¬ (0 ≤ n.toInt ∧ n.toInt ≤ tapeLength) ∧ tapeLength = tapeLength)) := by
  have b_n := ia_b n
  try have k_0 := ia_n tapeLength (by first | decide | omega)
  try have k_1 := ia_n 0 (by first | decide | omega)
  try have k_2 := ia_n 1 (by first | decide | omega)
  try simp only [ia_lt, ia_le, ia_eq, ia_m1, ia_0, ia_1, ne_eq, true_and, and_true, false_and, and_false, or_false, false_or, or_true, true_or, not_true_eq_false, not_false_eq_true] at *
  all_goals omega
set_option maxHeartbeats 4000000 in
set_option maxRecDepth 100000 in
theorem c_p_end (l : Launch) (dC : Nat → ClassId) (dI : Nat → Nat → Nat) (ky : Nat → ClassId) (sz : Nat) (t : Nat) (reader : Nat) (tapeLength : Nat) (latestFault : Int32) (sea : Nat) (spareSea : Nat) (seaText : Nat) (book : Nat) (sentence : Nat) (spareSentence : Nat) (route : Nat) (meeting : Nat) (sighting : Nat) (draws : Nat) (history : Nat) (images : Nat) (chartBytes : Nat) (chartLength : Nat) (fleetBits : Int32) (n : Int32) (iv_t_0 : tapeLength ≤ 940) (iv_t_1 : chartLength ≤ 32) : Met l yX11_end wsX11_end ({ frames := 0, cells := 0, slots := 0, locals := 0 }) (PcU dC dI ky [.ref t, .int n] [(t, .inr (11, [.ref reader, .int (nI tapeLength), .int latestFault, .ref sea, .ref spareSea, .ref seaText, .ref book, .ref sentence, .ref spareSentence, .ref route, .ref meeting, .ref sighting, .ref draws, .ref history, .ref images, .ref chartBytes, .int (nI chartLength), .int fleetBits]))] sz) (va_Qi (fun (r : Int32) (tapeLengthG : Nat) => ((r = nI 1 ∧ (0 ≤ n.toInt ∧ n.toInt ≤ tapeLength ∧ n = nI tapeLengthG)) ∨ (r = nI 0 ∧ (¬ (0 ≤ n.toInt ∧ n.toInt ≤ tapeLength) ∧ tapeLengthG = tapeLength))) ∧ (tapeLengthG ≤ 940)) (BU dC dI ky (fun (tapeLengthG : Nat) => [(t, .inr (11, [.ref reader, .int (nI tapeLengthG), .int latestFault, .ref sea, .ref spareSea, .ref seaText, .ref book, .ref sentence, .ref spareSentence, .ref route, .ref meeting, .ref sighting, .ref draws, .ref history, .ref images, .ref chartBytes, .int (nI chartLength), .int fleetBits]))]) (va_A [(t, .inr (11, [.ref reader, .int (nI tapeLength), .int latestFault, .ref sea, .ref spareSea, .ref seaText, .ref book, .ref sentence, .ref spareSentence, .ref route, .ref meeting, .ref sighting, .ref draws, .ref history, .ref images, .ref chartBytes, .int (nI chartLength), .int fleetBits]))] sz)) (va_A [(t, .inr (11, [.ref reader, .int (nI tapeLength), .int latestFault, .ref sea, .ref spareSea, .ref seaText, .ref book, .ref sentence, .ref spareSentence, .ref route, .ref meeting, .ref sighting, .ref draws, .ref history, .ref images, .ref chartBytes, .int (nI chartLength), .int fleetBits]))] sz)) 0 0 (va_A [(t, .inr (11, [.ref reader, .int (nI tapeLength), .int latestFault, .ref sea, .ref spareSea, .ref seaText, .ref book, .ref sentence, .ref spareSentence, .ref route, .ref meeting, .ref sighting, .ref draws, .ref history, .ref images, .ref chartBytes, .int (nI chartLength), .int fleetBits]))] sz) := by
  refine Met.ofW (cc := cX11_end) (maxL := 2) (ret := (some .boolean)) (by decide) rfl ?_
  intro p e s m args below meth c s₁ B hml hv
  obtain ⟨rfl, hsz, hP, hK, hD0⟩ := hv
  have hx := B.exec
  have hb := B.bytes
  have hr := B.returns
  have hts := atoms_spec (ws := wsX11_end) B.pre
  have hown : s.vm.findClass RX11 = some m.cls := findClass_of_methodNamed B.named
  have hlocks := B.notSynchronized
  have hin11 : ∀ w ∈ u_ws RX11 TX11 18, w ∈ wsX11_end := by decide +kernel
  subst hsz
  have hD := hD0.self (sz := s.heap.size)
  generalize hAe : va_A [(t, .inr (11, [.ref reader, .int (nI tapeLength), .int latestFault, .ref sea, .ref spareSea, .ref seaText, .ref book, .ref sentence, .ref spareSentence, .ref route, .ref meeting, .ref sighting, .ref draws, .ref history, .ref images, .ref chartBytes, .int (nI chartLength), .int fleetBits]))] s.heap.size = A at hD ⊢
  have hA : ∀ q : Nat, s.heap.size ≤ q → A q := fun q h => by rw [← hAe]; exact Or.inr h
  have hS : va_S A s.heap s.heap [] := va_S.rf
  have hl := lv_entry ([.ref t, .int n]) (n := 2) (Nat.le_of_ble_eq_true rfl)
  rw [lg_entry_eq]
  generalize (lg_sl ([.ref t, .int n]) ++ List.replicate (2 - (lg_sl ([.ref t, .int n])).length) Slot.unset).toArray = ls at hl ⊢
  have hl : lv_has ls 2 [(0, .ref t), (1, .int n)] := hl
  refine q_name (fun Q hQ => ?_)
  generalize ([.ref t, .int n] : List Value).toArray = args at hts hQ ⊢
  refine lv_iload_n hx hb dX11_end_0 rfl (lv_at hl 1 rfl) ?_
  refine lv_if_lt (tgt := 12) hx hb dX11_end_1 (by decide) (fun c1 => ?_) (fun c1 => ?_)
  · refine lv_iconst (v := nI 0) hx hb dX11_end_12 (by decide) ?_
    rw [hQ]
    exact W.zret (v := nI 0) hx hb hr (by decide) (fun t9 ht9 hW9 => ⟨⟨nI 0, tapeLength, rfl, ⟨(lf_p_end_1 tapeLength n iv_t_0 c1), iv_t_0⟩, by rw [ht9]; exact hP, va_K.moved hW9.alike hK, hD⟩, hS.F ht9⟩) hS.2.2 dX11_end_13
  · refine lv_iload_n hx hb dX11_end_4 rfl (lv_at hl 1 rfl) ?_
    refine lv_aload_n hx hb dX11_end_5 rfl (lv_at hl 0 rfl) ?_
    refine va_get (D := (dC, dI)) (ci := 11) (v := .int (nI tapeLength)) (C := RX11) (T := TX11) (N := 18) hx hb hts hin11 hown hK hP 0 rfl rfl 1 (by decide) (hts (.fieldLink RX11 16 "PorridgeSea" "tapeLength" "I") (List.mem_of_getElem? (i := 1) rfl)) (fun _ h9 => h9) rfl dX11_end_6 ?_
    refine lv_icmp_le (tgt := 14) hx hb dX11_end_9 (by decide) (fun c2 => ?_) (fun c2 => ?_)
    · refine lv_aload_n hx hb dX11_end_14 rfl (lv_at hl 0 rfl) ?_
      refine lv_iload_n hx hb dX11_end_15 rfl (lv_at hl 1 rfl) ?_
      obtain ⟨n3, h4, e5⟩ := nat_of n 941 (by decide) (lf_p_end_2 tapeLength n iv_t_0 c1 c2)
      rw [e5]
      refine va_put (D := (dC, dI)) (ci := 11) (v := .int (nI n3)) (ty := .int) (C := RX11) (T := TX11) (N := 18) hx hb hts hin11 tyX11 tyX11_ok nmX11 hown hK hP hD hS 0 rfl rfl 1 (by decide) (hts (.fieldLink RX11 16 "PorridgeSea" "tapeLength" "I") (List.mem_of_getElem? (i := 1) rfl)) (fun _ h9 => h9) rfl (by decide +kernel) rfl rfl (Nat.le_of_ble_eq_true rfl) dX11_end_16 (fun H locs hP hD hS => ?_)
      have hP : va_P (dC, dI) vwCl [(t, .inr (11, [.ref reader, .int (nI n3), .int latestFault, .ref sea, .ref spareSea, .ref seaText, .ref book, .ref sentence, .ref spareSentence, .ref route, .ref meeting, .ref sighting, .ref draws, .ref history, .ref images, .ref chartBytes, .int (nI chartLength), .int fleetBits]))] H := hP
      have hD : va_D A [(t, .inr (11, [.ref reader, .int (nI n3), .int latestFault, .ref sea, .ref spareSea, .ref seaText, .ref book, .ref sentence, .ref spareSentence, .ref route, .ref meeting, .ref sighting, .ref draws, .ref history, .ref images, .ref chartBytes, .int (nI chartLength), .int fleetBits]))] := hD
      refine lv_iconst (v := nI 1) hx hb dX11_end_19 (by decide) ?_
      rw [hQ]
      exact W.zret (v := nI 1) hx hb hr (by decide) (fun t9 ht9 hW9 => ⟨⟨nI 1, n3, rfl, ⟨(lf_p_end_3 tapeLength n n3 iv_t_0 c1 c2 h4 e5), (lf_p_end_4 tapeLength n n3 iv_t_0 c1 c2 h4 e5)⟩, by rw [ht9]; exact hP, va_K.moved hW9.alike hK, hD⟩, hS.F ht9⟩) hS.2.2 dX11_end_20
    · refine lv_iconst (v := nI 0) hx hb dX11_end_12 (by decide) ?_
      rw [hQ]
      exact W.zret (v := nI 0) hx hb hr (by decide) (fun t9 ht9 hW9 => ⟨⟨nI 0, tapeLength, rfl, ⟨(lf_p_end_5 tapeLength n iv_t_0 c1 c2), iv_t_0⟩, by rw [ht9]; exact hP, va_K.moved hW9.alike hK, hD⟩, hS.F ht9⟩) hS.2.2 dX11_end_13
set_option maxRecDepth 20000 in
theorem lf_p_openTape_1   : 0 ≤ 940 := by
  try simp only [ia_lt, ia_le, ia_eq, ia_m1, ia_0, ia_1, ne_eq, true_and, and_true, false_and, and_false, or_false, false_or, or_true, true_or, not_true_eq_false, not_false_eq_true] at *
  all_goals omega
set_option maxHeartbeats 4000000 in
set_option maxRecDepth 100000 in
theorem c_p_openTape (l : Launch) (dC : Nat → ClassId) (dI : Nat → Nat → Nat) (ky : Nat → ClassId) (sz : Nat) (adK : Nat → Nat) (adV : Nat → Nat) (t : Nat) (reader : Nat) (tapeLength : Nat) (latestFault : Int32) (sea : Nat) (spareSea : Nat) (seaText : Nat) (book : Nat) (sentence : Nat) (spareSentence : Nat) (route : Nat) (meeting : Nat) (sighting : Nat) (draws : Nat) (history : Nat) (images : Nat) (chartBytes : Nat) (chartLength : Nat) (fleetBits : Int32) (rtape : Nat) (rlength : Nat) (rmostBytes : Nat) (rplace : Nat) (rkind : Int32) (rbegin : Nat) (rword : Int32) (rnumber : Int32) (rletters : Int64) (rfaultKind : Int32) (rfaultPlace : Int32) (rtapeF : Nat → Int32) (mb : Nat) (iv_t_0 : tapeLength ≤ 940) (iv_t_1 : chartLength ≤ 32) (iv_rreader_0 : rlength ≤ 940) (iv_rreader_1 : rplace ≤ rlength) (iv_rreader_2 : rmostBytes ≤ 900) (iv_rreader_3 : rbegin ≤ 940) (hmb : mb ≤ 900) : Met l yX11_openTape wsX11_openTape ({ frames := 7, cells := 0, slots := 0, locals := 153 }) (PcUE dC dI ky adK adV [.ref t, .int (nI mb)] [(t, .inr (11, [.ref reader, .int (nI tapeLength), .int latestFault, .ref sea, .ref spareSea, .ref seaText, .ref book, .ref sentence, .ref spareSentence, .ref route, .ref meeting, .ref sighting, .ref draws, .ref history, .ref images, .ref chartBytes, .int (nI chartLength), .int fleetBits])), (reader, .inr (5, [.ref rtape, .int (nI rlength), .int (nI rmostBytes), .int (nI rplace), .int rkind, .int (nI rbegin), .int rword, .int rnumber, .long rletters, .int rfaultKind, .int rfaultPlace])), (rtape, .inl (ky 2, 940, .inl rtapeF))] sz) (va_Qv (fun (u : Nat × Nat × Nat × Nat × Int32 × Nat × Int32 × Int32 × Int64 × Int32 × Int32) => match u with | (tapeLengthG, rlengthG, rmostBytesG, rplaceG, rkindG, rbeginG, rwordG, rnumberG, rlettersG, rfaultKindG, rfaultPlaceG) => (tapeLengthG ≤ 940) ∧ (rlengthG ≤ 940) ∧ (rplaceG ≤ rlengthG) ∧ (rmostBytesG ≤ 900) ∧ (rbeginG ≤ 940) ∧ (tapeLengthG = 0)) (BU dC dI ky (fun (u : Nat × Nat × Nat × Nat × Int32 × Nat × Int32 × Int32 × Int64 × Int32 × Int32) => match u with | (tapeLengthG, rlengthG, rmostBytesG, rplaceG, rkindG, rbeginG, rwordG, rnumberG, rlettersG, rfaultKindG, rfaultPlaceG) => [(t, .inr (11, [.ref reader, .int (nI tapeLengthG), .int latestFault, .ref sea, .ref spareSea, .ref seaText, .ref book, .ref sentence, .ref spareSentence, .ref route, .ref meeting, .ref sighting, .ref draws, .ref history, .ref images, .ref chartBytes, .int (nI chartLength), .int fleetBits])), (reader, .inr (5, [.ref rtape, .int (nI rlengthG), .int (nI rmostBytesG), .int (nI rplaceG), .int rkindG, .int (nI rbeginG), .int rwordG, .int rnumberG, .long rlettersG, .int rfaultKindG, .int rfaultPlaceG])), (rtape, .inl (ky 2, 940, .inl rtapeF))]) (va_A [(t, .inr (11, [.ref reader, .int (nI tapeLength), .int latestFault, .ref sea, .ref spareSea, .ref seaText, .ref book, .ref sentence, .ref spareSentence, .ref route, .ref meeting, .ref sighting, .ref draws, .ref history, .ref images, .ref chartBytes, .int (nI chartLength), .int fleetBits])), (reader, .inr (5, [.ref rtape, .int (nI rlength), .int (nI rmostBytes), .int (nI rplace), .int rkind, .int (nI rbegin), .int rword, .int rnumber, .long rletters, .int rfaultKind, .int rfaultPlace])), (rtape, .inl (ky 2, 940, .inl rtapeF))] sz)) (va_A [(t, .inr (11, [.ref reader, .int (nI tapeLength), .int latestFault, .ref sea, .ref spareSea, .ref seaText, .ref book, .ref sentence, .ref spareSentence, .ref route, .ref meeting, .ref sighting, .ref draws, .ref history, .ref images, .ref chartBytes, .int (nI chartLength), .int fleetBits])), (reader, .inr (5, [.ref rtape, .int (nI rlength), .int (nI rmostBytes), .int (nI rplace), .int rkind, .int (nI rbegin), .int rword, .int rnumber, .long rletters, .int rfaultKind, .int rfaultPlace])), (rtape, .inl (ky 2, 940, .inl rtapeF))] sz)) 0 0 (va_A [(t, .inr (11, [.ref reader, .int (nI tapeLength), .int latestFault, .ref sea, .ref spareSea, .ref seaText, .ref book, .ref sentence, .ref spareSentence, .ref route, .ref meeting, .ref sighting, .ref draws, .ref history, .ref images, .ref chartBytes, .int (nI chartLength), .int fleetBits])), (reader, .inr (5, [.ref rtape, .int (nI rlength), .int (nI rmostBytes), .int (nI rplace), .int rkind, .int (nI rbegin), .int rword, .int rnumber, .long rletters, .int rfaultKind, .int rfaultPlace])), (rtape, .inl (ky 2, 940, .inl rtapeF))] sz) := by
  refine Met.ofW (cc := cX11_openTape) (maxL := 2) (ret := none) (by decide) rfl ?_
  intro p e s m args below meth c s₁ B hml hv
  obtain ⟨rfl, hsz, hP, hK, hD0, hE⟩ := hv
  have hx := B.exec
  have hb := B.bytes
  have hr := B.returns
  have hts := atoms_spec (ws := wsX11_openTape) B.pre
  have hown : s.vm.findClass RX11 = some m.cls := findClass_of_methodNamed B.named
  have hlocks := B.notSynchronized
  have hin11 : ∀ w ∈ u_ws RX11 TX11 18, w ∈ wsX11_openTape := by decide +kernel
  subst hsz
  have hD := hD0.self (sz := s.heap.size)
  generalize hAe : va_A [(t, .inr (11, [.ref reader, .int (nI tapeLength), .int latestFault, .ref sea, .ref spareSea, .ref seaText, .ref book, .ref sentence, .ref spareSentence, .ref route, .ref meeting, .ref sighting, .ref draws, .ref history, .ref images, .ref chartBytes, .int (nI chartLength), .int fleetBits])), (reader, .inr (5, [.ref rtape, .int (nI rlength), .int (nI rmostBytes), .int (nI rplace), .int rkind, .int (nI rbegin), .int rword, .int rnumber, .long rletters, .int rfaultKind, .int rfaultPlace])), (rtape, .inl (ky 2, 940, .inl rtapeF))] s.heap.size = A at hD hE ⊢
  have hA : ∀ q : Nat, s.heap.size ≤ q → A q := fun q h => by rw [← hAe]; exact Or.inr h
  have hS : va_S A s.heap s.heap [] := va_S.rf
  have hl := lv_entry ([.ref t, .int (nI mb)]) (n := 2) (Nat.le_of_ble_eq_true rfl)
  rw [lg_entry_eq]
  generalize (lg_sl ([.ref t, .int (nI mb)]) ++ List.replicate (2 - (lg_sl ([.ref t, .int (nI mb)])).length) Slot.unset).toArray = ls at hl ⊢
  have hl : lv_has ls 2 [(0, .ref t), (1, .int (nI mb))] := hl
  refine q_name (fun Q hQ => ?_)
  generalize ([.ref t, .int (nI mb)] : List Value).toArray = args at hts hQ ⊢
  refine lv_aload_n hx hb dX11_openTape_0 rfl (lv_at hl 0 rfl) ?_
  refine va_get (D := (dC, dI)) (ci := 11) (v := .ref reader) (C := RX11) (T := TX11) (N := 18) hx hb hts hin11 hown hK hP 0 rfl rfl 0 (by decide) (hts (.fieldLink RX11 10 "PorridgeSea" "reader" "LPorridgeSea$Reader;") (List.mem_of_getElem? (i := 1) rfl)) (fun _ h9 => h9) rfl dX11_openTape_1 ?_
  refine lv_aload_n hx hb dX11_openTape_4 rfl (lv_at hl 0 rfl) ?_
  refine va_get (D := (dC, dI)) (ci := 11) (v := .int (nI tapeLength)) (C := RX11) (T := TX11) (N := 18) hx hb hts hin11 hown hK hP 0 rfl rfl 1 (by decide) (hts (.fieldLink RX11 16 "PorridgeSea" "tapeLength" "I") (List.mem_of_getElem? (i := 2) rfl)) (fun _ h9 => h9) rfl dX11_openTape_5 ?_
  refine lv_iload_n hx hb dX11_openTape_8 rfl (lv_at hl 1 rfl) ?_
  refine r_call_v (wr := [(t, .inr (11, [.ref reader, .int (nI tapeLength), .int latestFault, .ref sea, .ref spareSea, .ref seaText, .ref book, .ref sentence, .ref spareSentence, .ref route, .ref meeting, .ref sighting, .ref draws, .ref history, .ref images, .ref chartBytes, .int (nI chartLength), .int fleetBits]))]) (va_runV (As := [.int (nI tapeLength), .int (nI mb)]) (rest := []) ⟨hx, hb, hml, hown, hts⟩ (c_r_open l dC dI ky s.heap.size adK adV reader rtape rlength rmostBytes rplace rkind rbegin rword rnumber rletters rfaultKind rfaultPlace rtapeF tapeLength mb iv_rreader_0 iv_rreader_1 iv_rreader_2 iv_rreader_3 iv_t_0 hmb) (cwV 2 hts gX11_openTape_X5_open rfl rfl rfl (by decide +kernel) ⟨(Nat.le_of_ble_eq_true rfl), (Nat.le_of_ble_eq_true rfl)⟩) (pre_UEV hE hS hA hK hP hD [1, 2] (by decide) rfl (va_recv hK hP (ci := 5) (q0 := 1) rfl rfl)) rfl rfl hl.1 rfl (lv_room (Nat.le_of_ble_eq_true rfl)) dX11_openTape_9 ⟨(Nat.le_of_ble_eq_true rfl), (Nat.le_of_ble_eq_true rfl)⟩) hP hD hS hA [1, 2] [0] rfl rfl (by decide) (by decide) (fun  u1 H locs p2 hP hD hS => ?_)
  obtain ⟨rlengthG_3, rmostBytesG_4, rplaceG_5, rkindG_6, rbeginG_7, rwordG_8, rnumberG_9, rlettersG_10, rfaultKindG_11, rfaultPlaceG_12⟩ := u1
  try dsimp only at p2
  obtain ⟨p13, p14, p15, p16⟩ := p2
  refine W.widen (k := 0) (n := 0) (Nat.le_of_ble_eq_true rfl) (Nat.le_of_ble_eq_true rfl) ?_
  have hP : va_P (dC, dI) vwCl [(t, .inr (11, [.ref reader, .int (nI tapeLength), .int latestFault, .ref sea, .ref spareSea, .ref seaText, .ref book, .ref sentence, .ref spareSentence, .ref route, .ref meeting, .ref sighting, .ref draws, .ref history, .ref images, .ref chartBytes, .int (nI chartLength), .int fleetBits])), (reader, .inr (5, [.ref rtape, .int (nI rlengthG_3), .int (nI rmostBytesG_4), .int (nI rplaceG_5), .int rkindG_6, .int (nI rbeginG_7), .int rwordG_8, .int rnumberG_9, .long rlettersG_10, .int rfaultKindG_11, .int rfaultPlaceG_12])), (rtape, .inl (ky 2, 940, .inl rtapeF))] H := hP
  have hD : va_D A [(t, .inr (11, [.ref reader, .int (nI tapeLength), .int latestFault, .ref sea, .ref spareSea, .ref seaText, .ref book, .ref sentence, .ref spareSentence, .ref route, .ref meeting, .ref sighting, .ref draws, .ref history, .ref images, .ref chartBytes, .int (nI chartLength), .int fleetBits])), (reader, .inr (5, [.ref rtape, .int (nI rlengthG_3), .int (nI rmostBytesG_4), .int (nI rplaceG_5), .int rkindG_6, .int (nI rbeginG_7), .int rwordG_8, .int rnumberG_9, .long rlettersG_10, .int rfaultKindG_11, .int rfaultPlaceG_12])), (rtape, .inl (ky 2, 940, .inl rtapeF))] := hD
  refine lv_aload_n hx hb dX11_openTape_12 rfl (lv_at hl 0 rfl) ?_
  refine lv_iconst (v := nI 0) hx hb dX11_openTape_13 (by decide) ?_
  refine va_put (D := (dC, dI)) (ci := 11) (v := .int (nI 0)) (ty := .int) (C := RX11) (T := TX11) (N := 18) hx hb hts hin11 tyX11 tyX11_ok nmX11 hown hK hP hD hS 0 rfl rfl 1 (by decide) (hts (.fieldLink RX11 16 "PorridgeSea" "tapeLength" "I") (List.mem_of_getElem? (i := 2) rfl)) (fun _ h9 => h9) rfl (by decide +kernel) rfl rfl (Nat.le_of_ble_eq_true rfl) dX11_openTape_14 (fun H locs hP hD hS => ?_)
  have hP : va_P (dC, dI) vwCl [(t, .inr (11, [.ref reader, .int (nI 0), .int latestFault, .ref sea, .ref spareSea, .ref seaText, .ref book, .ref sentence, .ref spareSentence, .ref route, .ref meeting, .ref sighting, .ref draws, .ref history, .ref images, .ref chartBytes, .int (nI chartLength), .int fleetBits])), (reader, .inr (5, [.ref rtape, .int (nI rlengthG_3), .int (nI rmostBytesG_4), .int (nI rplaceG_5), .int rkindG_6, .int (nI rbeginG_7), .int rwordG_8, .int rnumberG_9, .long rlettersG_10, .int rfaultKindG_11, .int rfaultPlaceG_12])), (rtape, .inl (ky 2, 940, .inl rtapeF))] H := hP
  have hD : va_D A [(t, .inr (11, [.ref reader, .int (nI 0), .int latestFault, .ref sea, .ref spareSea, .ref seaText, .ref book, .ref sentence, .ref spareSentence, .ref route, .ref meeting, .ref sighting, .ref draws, .ref history, .ref images, .ref chartBytes, .int (nI chartLength), .int fleetBits])), (reader, .inr (5, [.ref rtape, .int (nI rlengthG_3), .int (nI rmostBytesG_4), .int (nI rplaceG_5), .int rkindG_6, .int (nI rbeginG_7), .int rwordG_8, .int rnumberG_9, .long rlettersG_10, .int rfaultKindG_11, .int rfaultPlaceG_12])), (rtape, .inl (ky 2, 940, .inl rtapeF))] := hD
  rw [hQ]
  exact W.vret hx hb hr (fun t9 ht9 hW9 => ⟨⟨(0, rlengthG_3, rmostBytesG_4, rplaceG_5, rkindG_6, rbeginG_7, rwordG_8, rnumberG_9, rlettersG_10, rfaultKindG_11, rfaultPlaceG_12), rfl, ⟨(lf_p_openTape_1), p13, p14, p15, p16, rfl⟩, by rw [ht9]; exact hP, va_K.moved hW9.alike hK, hD⟩, hS.F ht9⟩) hS.2.2 dX11_openTape_17
set_option maxHeartbeats 4000000 in
set_option maxRecDepth 100000 in
theorem c_p_fault (l : Launch) (dC : Nat → ClassId) (dI : Nat → Nat → Nat) (ky : Nat → ClassId) (t : Nat) (reader : Nat) (tapeLength : Nat) (latestFault : Int32) (sea : Nat) (spareSea : Nat) (seaText : Nat) (book : Nat) (sentence : Nat) (spareSentence : Nat) (route : Nat) (meeting : Nat) (sighting : Nat) (draws : Nat) (history : Nat) (images : Nat) (chartBytes : Nat) (chartLength : Nat) (fleetBits : Int32) (iv_t_0 : tapeLength ≤ 940) (iv_t_1 : chartLength ≤ 32) : Met l yX11_fault wsX11_fault ({ frames := 0, cells := 0, slots := 0, locals := 0 }) (PcP dC dI ky [.ref t] [(t, .inr (11, [.ref reader, .int (nI tapeLength), .int latestFault, .ref sea, .ref spareSea, .ref seaText, .ref book, .ref sentence, .ref spareSentence, .ref route, .ref meeting, .ref sighting, .ref draws, .ref history, .ref images, .ref chartBytes, .int (nI chartLength), .int fleetBits]))]) (vp_Si (fun r : Int32 => True)) 0 0 (fun _ => False) := by
  refine Met.ofW (cc := cX11_fault) (maxL := 1) (ret := (some .int)) (by decide) rfl ?_
  intro p e s m args below meth c s₁ B hml hv
  obtain ⟨rfl, hP, hK⟩ := hv
  have hx := B.exec
  have hb := B.bytes
  have hr := B.returns
  have hts := atoms_spec (ws := wsX11_fault) B.pre
  have hown : s.vm.findClass RX11 = some m.cls := findClass_of_methodNamed B.named
  have hlocks := B.notSynchronized
  have hin11 : ∀ w ∈ u_ws RX11 TX11 18, w ∈ wsX11_fault := by decide +kernel
  have hl := lv_entry ([.ref t]) (n := 1) (Nat.le_of_ble_eq_true rfl)
  rw [lg_entry_eq]
  generalize (lg_sl ([.ref t]) ++ List.replicate (1 - (lg_sl ([.ref t])).length) Slot.unset).toArray = ls at hl ⊢
  have hl : lv_has ls 1 [(0, .ref t)] := hl
  refine q_name (fun Q hQ => ?_)
  generalize ([.ref t] : List Value).toArray = args at hts hQ ⊢
  refine lv_aload_n hx hb dX11_fault_0 rfl (lv_at hl 0 rfl) ?_
  refine va_get (D := (dC, dI)) (ci := 11) (v := .int latestFault) (C := RX11) (T := TX11) (N := 18) hx hb hts hin11 hown hK hP 0 rfl rfl 2 (by decide) (hts (.fieldLink RX11 20 "PorridgeSea" "latestFault" "I") (List.mem_of_getElem? (i := 1) rfl)) (fun _ h9 => h9) rfl dX11_fault_1 ?_
  rw [hQ]
  exact W.iret (v := latestFault) hx hb hr (fun t9 ht9 hW9 => ⟨latestFault, rfl, trivial, ht9⟩) (fun _ h => absurd h List.not_mem_nil) dX11_fault_4
set_option maxRecDepth 20000 in
theorem lf_p_thick_1 (high : Nat) (y : Int32) (iv_sea_2 : 2 ≤ high) (iv_sea_3 : high ≤ 6) (t5 : 0 ≤ y.toInt) (t6 : y.toInt < high) : 0 ≤ y.toInt ∧ y.toInt < ((6 : Nat) : Int) := by
  have b_y := ia_b y
  try simp only [ia_lt, ia_le, ia_eq, ia_m1, ia_0, ia_1, ne_eq, true_and, and_true, false_and, and_false, or_false, false_or, or_true, true_or, not_true_eq_false, not_false_eq_true] at *
  all_goals omega
set_option maxRecDepth 20000 in
theorem lf_p_thick_2 (wide : Nat) (x : Int32) (iv_sea_0 : 2 ≤ wide) (iv_sea_1 : wide ≤ 6) (t3 : 0 ≤ x.toInt) (t4 : x.toInt < wide) : 0 ≤ x.toInt ∧ x.toInt < ((6 : Nat) : Int) := by
  have b_x := ia_b x
  try simp only [ia_lt, ia_le, ia_eq, ia_m1, ia_0, ia_1, ne_eq, true_and, and_true, false_and, and_false, or_false, false_or, or_true, true_or, not_true_eq_false, not_false_eq_true] at *
  all_goals omega
set_option maxHeartbeats 4000000 in
set_option maxRecDepth 100000 in
theorem c_p_thick (l : Launch) (dC : Nat → ClassId) (dI : Nat → Nat → Nat) (ky : Nat → ClassId) (t : Nat) (reader : Nat) (tapeLength : Nat) (latestFault : Int32) (sea : Nat) (spareSea : Nat) (seaText : Nat) (book : Nat) (sentence : Nat) (spareSentence : Nat) (route : Nat) (meeting : Nat) (sighting : Nat) (draws : Nat) (history : Nat) (images : Nat) (chartBytes : Nat) (chartLength : Nat) (fleetBits : Int32) (wide : Nat) (high : Nat) (heat : Int32) (cools : Int32) (skinHeat : Int32) (today : Int32) (stirs : Int32) (steps : Int32) (lumps : Nat) (boats : Nat) (thickness : Nat) (lumpNames : Nat) (lumpCells : Nat) (boatNames : Nat) (boatCells : Nat) (loads : Nat) (spoons : Nat) (spoonsLeft : Nat) (depths : Nat) (thicknessF : Nat → Int32) (x : Int32) (y : Int32) (iv_t_0 : tapeLength ≤ 940) (iv_t_1 : chartLength ≤ 32) (iv_sea_0 : 2 ≤ wide) (iv_sea_1 : wide ≤ 6) (iv_sea_2 : 2 ≤ high) (iv_sea_3 : high ≤ 6) (iv_sea_4 : lumps ≤ 6) (iv_sea_5 : boats ≤ 6) : Met l yX11_thick wsX11_thick ({ frames := 1, cells := 0, slots := 0, locals := 22 }) (PcP dC dI ky [.ref t, .int x, .int y] [(t, .inr (11, [.ref reader, .int (nI tapeLength), .int latestFault, .ref sea, .ref spareSea, .ref seaText, .ref book, .ref sentence, .ref spareSentence, .ref route, .ref meeting, .ref sighting, .ref draws, .ref history, .ref images, .ref chartBytes, .int (nI chartLength), .int fleetBits])), (sea, .inr (7, [.int (nI wide), .int (nI high), .int heat, .int cools, .int skinHeat, .int today, .int stirs, .int steps, .int (nI lumps), .int (nI boats), .ref thickness, .ref lumpNames, .ref lumpCells, .ref boatNames, .ref boatCells, .ref loads, .ref spoons, .ref spoonsLeft, .ref depths])), (thickness, .inl (ky 0, 36, .inl thicknessF))]) (vp_Si (fun r : Int32 => True)) 0 0 (fun _ => False) := by
  refine Met.ofW (cc := cX11_thick) (maxL := 3) (ret := (some .int)) (by decide) rfl ?_
  intro p e s m args below meth c s₁ B hml hv
  obtain ⟨rfl, hP, hK⟩ := hv
  have hx := B.exec
  have hb := B.bytes
  have hr := B.returns
  have hts := atoms_spec (ws := wsX11_thick) B.pre
  have hown : s.vm.findClass RX11 = some m.cls := findClass_of_methodNamed B.named
  have hlocks := B.notSynchronized
  have hin11 : ∀ w ∈ u_ws RX11 TX11 18, w ∈ wsX11_thick := by decide +kernel
  have hl := lv_entry ([.ref t, .int x, .int y]) (n := 3) (Nat.le_of_ble_eq_true rfl)
  rw [lg_entry_eq]
  generalize (lg_sl ([.ref t, .int x, .int y]) ++ List.replicate (3 - (lg_sl ([.ref t, .int x, .int y])).length) Slot.unset).toArray = ls at hl ⊢
  have hl : lv_has ls 3 [(0, .ref t), (1, .int x), (2, .int y)] := hl
  refine q_name (fun Q hQ => ?_)
  generalize ([.ref t, .int x, .int y] : List Value).toArray = args at hts hQ ⊢
  refine lv_aload_n hx hb dX11_thick_0 rfl (lv_at hl 0 rfl) ?_
  refine va_get (D := (dC, dI)) (ci := 11) (v := .ref sea) (C := RX11) (T := TX11) (N := 18) hx hb hts hin11 hown hK hP 0 rfl rfl 3 (by decide) (hts (.fieldLink RX11 26 "PorridgeSea" "sea" "LPorridgeSea$Sea;") (List.mem_of_getElem? (i := 1) rfl)) (fun _ h9 => h9) rfl dX11_thick_1 ?_
  refine lv_iload_n hx hb dX11_thick_4 rfl (lv_at hl 1 rfl) ?_
  refine lv_iload_n hx hb dX11_thick_5 rfl (lv_at hl 2 rfl) ?_
  refine vp_callSi (W.runV (As := [.int x, .int y]) (rest := []) ⟨hx, hb, hml, hown, hts⟩ (c_s_isCell l dC dI ky sea wide high heat cools skinHeat today stirs steps lumps boats thickness lumpNames lumpCells boatNames boatCells loads spoons spoonsLeft depths x y iv_sea_0 iv_sea_1 iv_sea_2 iv_sea_3 iv_sea_4 iv_sea_5) (cwV 2 hts gX11_thick_X7_isCell rfl rfl rfl (by decide +kernel) ⟨(Nat.le_of_ble_eq_true rfl), (Nat.le_of_ble_eq_true rfl)⟩) (pre_PV hK hP [1] rfl (ci := 7) (q0 := 1) rfl rfl) rfl rfl hl.1 rfl (lv_room (Nat.le_of_ble_eq_true rfl)) dX11_thick_6 ⟨(Nat.le_of_ble_eq_true rfl), (Nat.le_of_ble_eq_true rfl)⟩) (fun r1 p2 => ?_)
  rcases p2 with ⟨rfl, t3, t4, t5, t6⟩ | ⟨rfl, t7⟩
  · refine lv_if_eq (tgt := 28) hx hb dX11_thick_9 (by decide) (fun c8 => absurd c8 (by decide)) (fun c8 => ?_)
    refine lv_aload_n hx hb dX11_thick_12 rfl (lv_at hl 0 rfl) ?_
    refine va_get (D := (dC, dI)) (ci := 11) (v := .ref sea) (C := RX11) (T := TX11) (N := 18) hx hb hts hin11 hown hK hP 0 rfl rfl 3 (by decide) (hts (.fieldLink RX11 26 "PorridgeSea" "sea" "LPorridgeSea$Sea;") (List.mem_of_getElem? (i := 1) rfl)) (fun _ h9 => h9) rfl dX11_thick_13 ?_
    refine lv_bipush (v := nI 6) hx hb dX11_thick_16 (by decide) ?_
    refine lv_iload_n hx hb dX11_thick_18 rfl (lv_at hl 2 rfl) ?_
    obtain ⟨n9, h10, e11⟩ := nat_of y 6 (by decide) (lf_p_thick_1 high y iv_sea_2 iv_sea_3 t5 t6)
    rw [e11]
    refine lv_imul hx hb dX11_thick_19 ?_
    refine r_ti (nI (6 * n9)) (pk_mul _ _) ?_
    refine lv_iload_n hx hb dX11_thick_20 rfl (lv_at hl 1 rfl) ?_
    obtain ⟨n12, h13, e14⟩ := nat_of x 6 (by decide) (lf_p_thick_2 wide x iv_sea_0 iv_sea_1 t3 t4)
    rw [e14]
    refine lv_iadd hx hb dX11_thick_21 ?_
    refine r_ti (nI ((6 * n9) + n12)) (nI_add _ _) ?_
    refine vp_callSi (W.runV (As := [.int (nI ((6 * n9) + n12))]) (rest := []) ⟨hx, hb, hml, hown, hts⟩ (c_s_thicknessIn l dC dI ky sea wide high heat cools skinHeat today stirs steps lumps boats thickness lumpNames lumpCells boatNames boatCells loads spoons spoonsLeft depths thicknessF (nI ((6 * n9) + n12)) iv_sea_0 iv_sea_1 iv_sea_2 iv_sea_3 iv_sea_4 iv_sea_5) (cwV 1 hts gX11_thick_X7_thicknessIn rfl rfl rfl (by decide +kernel) ⟨(Nat.le_of_ble_eq_true rfl), (Nat.le_of_ble_eq_true rfl)⟩) (pre_PV hK hP [1, 2] rfl (ci := 7) (q0 := 1) rfl rfl) rfl rfl hl.1 rfl (lv_room (Nat.le_of_ble_eq_true rfl)) dX11_thick_22 ⟨(Nat.le_of_ble_eq_true rfl), (Nat.le_of_ble_eq_true rfl)⟩) (fun r15 p16 => ?_)
    refine lv_goto (tgt := 29) hx hb dX11_thick_25 (by decide) ?_
    rw [hQ]
    exact W.iret (v := r15) hx hb hr (fun t9 ht9 hW9 => ⟨r15, rfl, trivial, ht9⟩) (fun _ h => absurd h List.not_mem_nil) dX11_thick_29
  · refine lv_if_eq (tgt := 28) hx hb dX11_thick_9 (by decide) (fun c17 => ?_) (fun c17 => absurd (by decide) c17)
    refine lv_iconst (v := (-1 : Int32)) hx hb dX11_thick_28 (by decide) ?_
    rw [hQ]
    exact W.iret (v := (-1 : Int32)) hx hb hr (fun t9 ht9 hW9 => ⟨(-1 : Int32), rfl, trivial, ht9⟩) (fun _ h => absurd h List.not_mem_nil) dX11_thick_29
set_option maxRecDepth 20000 in
theorem lf_p_lump_1 (lumps : Nat) (x : Int32) (iv_sea_4 : lumps ≤ 6) (t3 : 0 ≤ x.toInt) (t4 : x.toInt < lumps) : 0 ≤ x.toInt ∧ x.toInt < ((6 : Nat) : Int) := by
  have b_x := ia_b x
  try simp only [ia_lt, ia_le, ia_eq, ia_m1, ia_0, ia_1, ne_eq, true_and, and_true, false_and, and_false, or_false, false_or, or_true, true_or, not_true_eq_false, not_false_eq_true] at *
  all_goals omega
set_option maxRecDepth 20000 in
theorem lf_p_lump_2 (lumps : Nat) (x : Int32) (iv_sea_4 : lumps ≤ 6) (t3 : 0 ≤ x.toInt) (t4 : x.toInt < lumps) : 0 ≤ x.toInt ∧ x.toInt < ((6 : Nat) : Int) := by
  have b_x := ia_b x
  try simp only [ia_lt, ia_le, ia_eq, ia_m1, ia_0, ia_1, ne_eq, true_and, and_true, false_and, and_false, or_false, false_or, or_true, true_or, not_true_eq_false, not_false_eq_true] at *
  all_goals omega
set_option maxHeartbeats 4000000 in
set_option maxRecDepth 100000 in
theorem c_p_lump (l : Launch) (dC : Nat → ClassId) (dI : Nat → Nat → Nat) (ky : Nat → ClassId) (t : Nat) (reader : Nat) (tapeLength : Nat) (latestFault : Int32) (sea : Nat) (spareSea : Nat) (seaText : Nat) (book : Nat) (sentence : Nat) (spareSentence : Nat) (route : Nat) (meeting : Nat) (sighting : Nat) (draws : Nat) (history : Nat) (images : Nat) (chartBytes : Nat) (chartLength : Nat) (fleetBits : Int32) (wide : Nat) (high : Nat) (heat : Int32) (cools : Int32) (skinHeat : Int32) (today : Int32) (stirs : Int32) (steps : Int32) (lumps : Nat) (boats : Nat) (thickness : Nat) (lumpNames : Nat) (lumpCells : Nat) (boatNames : Nat) (boatCells : Nat) (loads : Nat) (spoons : Nat) (spoonsLeft : Nat) (depths : Nat) (lumpCellsF : Nat → Int32) (x : Int32) (y : Int32) (iv_t_0 : tapeLength ≤ 940) (iv_t_1 : chartLength ≤ 32) (iv_sea_0 : 2 ≤ wide) (iv_sea_1 : wide ≤ 6) (iv_sea_2 : 2 ≤ high) (iv_sea_3 : high ≤ 6) (iv_sea_4 : lumps ≤ 6) (iv_sea_5 : boats ≤ 6) : Met l yX11_lump wsX11_lump ({ frames := 1, cells := 0, slots := 0, locals := 21 }) (PcP dC dI ky [.ref t, .int x, .int y] [(t, .inr (11, [.ref reader, .int (nI tapeLength), .int latestFault, .ref sea, .ref spareSea, .ref seaText, .ref book, .ref sentence, .ref spareSentence, .ref route, .ref meeting, .ref sighting, .ref draws, .ref history, .ref images, .ref chartBytes, .int (nI chartLength), .int fleetBits])), (sea, .inr (7, [.int (nI wide), .int (nI high), .int heat, .int cools, .int skinHeat, .int today, .int stirs, .int steps, .int (nI lumps), .int (nI boats), .ref thickness, .ref lumpNames, .ref lumpCells, .ref boatNames, .ref boatCells, .ref loads, .ref spoons, .ref spoonsLeft, .ref depths])), (lumpCells, .inl (ky 0, 6, .inl lumpCellsF))]) (vp_Si (fun r : Int32 => True)) 0 0 (fun _ => False) := by
  refine Met.ofW (cc := cX11_lump) (maxL := 3) (ret := (some .int)) (by decide) rfl ?_
  intro p e s m args below meth c s₁ B hml hv
  obtain ⟨rfl, hP, hK⟩ := hv
  have hx := B.exec
  have hb := B.bytes
  have hr := B.returns
  have hts := atoms_spec (ws := wsX11_lump) B.pre
  have hown : s.vm.findClass RX11 = some m.cls := findClass_of_methodNamed B.named
  have hlocks := B.notSynchronized
  have hin7 : ∀ w ∈ u_ws RX7 TX7 19, w ∈ wsX11_lump := by decide +kernel
  have hin11 : ∀ w ∈ u_ws RX11 TX11 18, w ∈ wsX11_lump := by decide +kernel
  have hl := lv_entry ([.ref t, .int x, .int y]) (n := 3) (Nat.le_of_ble_eq_true rfl)
  rw [lg_entry_eq]
  generalize (lg_sl ([.ref t, .int x, .int y]) ++ List.replicate (3 - (lg_sl ([.ref t, .int x, .int y])).length) Slot.unset).toArray = ls at hl ⊢
  have hl : lv_has ls 3 [(0, .ref t), (1, .int x), (2, .int y)] := hl
  refine q_name (fun Q hQ => ?_)
  generalize ([.ref t, .int x, .int y] : List Value).toArray = args at hts hQ ⊢
  refine lv_aload_n hx hb dX11_lump_0 rfl (lv_at hl 0 rfl) ?_
  refine va_get (D := (dC, dI)) (ci := 11) (v := .ref sea) (C := RX11) (T := TX11) (N := 18) hx hb hts hin11 hown hK hP 0 rfl rfl 3 (by decide) (hts (.fieldLink RX11 26 "PorridgeSea" "sea" "LPorridgeSea$Sea;") (List.mem_of_getElem? (i := 1) rfl)) (fun _ h9 => h9) rfl dX11_lump_1 ?_
  refine lv_iload_n hx hb dX11_lump_4 rfl (lv_at hl 1 rfl) ?_
  refine vp_callSi (W.runV (As := [.int x]) (rest := []) ⟨hx, hb, hml, hown, hts⟩ (c_s_isLump l dC dI ky sea wide high heat cools skinHeat today stirs steps lumps boats thickness lumpNames lumpCells boatNames boatCells loads spoons spoonsLeft depths x iv_sea_0 iv_sea_1 iv_sea_2 iv_sea_3 iv_sea_4 iv_sea_5) (cwV 1 hts gX11_lump_X7_isLump rfl rfl rfl (by decide +kernel) ⟨(Nat.le_of_ble_eq_true rfl), (Nat.le_of_ble_eq_true rfl)⟩) (pre_PV hK hP [1] rfl (ci := 7) (q0 := 1) rfl rfl) rfl rfl hl.1 rfl (lv_room (Nat.le_of_ble_eq_true rfl)) dX11_lump_5 ⟨(Nat.le_of_ble_eq_true rfl), (Nat.le_of_ble_eq_true rfl)⟩) (fun r1 p2 => ?_)
  rcases p2 with ⟨rfl, t3, t4⟩ | ⟨rfl, t5⟩
  · refine lv_if_eq (tgt := 20) hx hb dX11_lump_8 (by decide) (fun c6 => absurd c6 (by decide)) (fun c6 => ?_)
    refine lv_iload_n hx hb dX11_lump_11 rfl (lv_at hl 2 rfl) ?_
    refine lv_if_lt (tgt := 20) hx hb dX11_lump_12 (by decide) (fun c7 => ?_) (fun c7 => ?_)
    · refine lv_iconst (v := (-1 : Int32)) hx hb dX11_lump_20 (by decide) ?_
      rw [hQ]
      exact W.iret (v := (-1 : Int32)) hx hb hr (fun t9 ht9 hW9 => ⟨(-1 : Int32), rfl, trivial, ht9⟩) (fun _ h => absurd h List.not_mem_nil) dX11_lump_21
    · refine lv_iload_n hx hb dX11_lump_15 rfl (lv_at hl 2 rfl) ?_
      refine lv_iconst (v := nI 1) hx hb dX11_lump_16 (by decide) ?_
      refine lv_icmp_le (tgt := 22) hx hb dX11_lump_17 (by decide) (fun c8 => ?_) (fun c8 => ?_)
      · refine lv_iload_n hx hb dX11_lump_22 rfl (lv_at hl 2 rfl) ?_
        refine lv_if_ne (tgt := 41) hx hb dX11_lump_23 (by decide) (fun c9 => ?_) (fun c9 => ?_)
        · refine lv_aload_n hx hb dX11_lump_41 rfl (lv_at hl 0 rfl) ?_
          refine va_get (D := (dC, dI)) (ci := 11) (v := .ref sea) (C := RX11) (T := TX11) (N := 18) hx hb hts hin11 hown hK hP 0 rfl rfl 3 (by decide) (hts (.fieldLink RX11 26 "PorridgeSea" "sea" "LPorridgeSea$Sea;") (List.mem_of_getElem? (i := 1) rfl)) (fun _ h9 => h9) rfl dX11_lump_42 ?_
          refine va_get (D := (dC, dI)) (ci := 7) (v := .ref lumpCells) (C := RX7) (T := TX7) (N := 19) hx hb hts hin7 hown hK hP 1 rfl rfl 12 (by decide) (hts (.fieldLink RX11 153 "PorridgeSea$Sea" "lumpCells" "[I") (List.mem_of_getElem? (i := 2) rfl)) (fun _ h9 => h9) rfl dX11_lump_45 ?_
          refine lv_iload_n hx hb dX11_lump_48 rfl (lv_at hl 1 rfl) ?_
          obtain ⟨n10, h11, e12⟩ := nat_of x 6 (by decide) (lf_p_lump_1 lumps x iv_sea_4 t3 t4)
          rw [e12]
          obtain ⟨y13, e14⟩ : ∃ z9, z9 = lumpCellsF n10 := ⟨_, rfl⟩
          refine r_iald hx hb hK hP 2 rfl n10 (by omega) (by decide) y13 e14.symm dX11_lump_49 ?_
          refine lv_bipush (v := nI 6) hx hb dX11_lump_50 (by decide) ?_
          refine lv_idiv hx hb dX11_lump_52 (by decide) ?_
          refine lv_topi (fun y15 e16 => ?_)
          rw [hQ]
          exact W.iret (v := y15) hx hb hr (fun t9 ht9 hW9 => ⟨y15, rfl, trivial, ht9⟩) (fun _ h => absurd h List.not_mem_nil) dX11_lump_53
        · refine lv_aload_n hx hb dX11_lump_26 rfl (lv_at hl 0 rfl) ?_
          refine va_get (D := (dC, dI)) (ci := 11) (v := .ref sea) (C := RX11) (T := TX11) (N := 18) hx hb hts hin11 hown hK hP 0 rfl rfl 3 (by decide) (hts (.fieldLink RX11 26 "PorridgeSea" "sea" "LPorridgeSea$Sea;") (List.mem_of_getElem? (i := 1) rfl)) (fun _ h9 => h9) rfl dX11_lump_27 ?_
          refine va_get (D := (dC, dI)) (ci := 7) (v := .ref lumpCells) (C := RX7) (T := TX7) (N := 19) hx hb hts hin7 hown hK hP 1 rfl rfl 12 (by decide) (hts (.fieldLink RX11 153 "PorridgeSea$Sea" "lumpCells" "[I") (List.mem_of_getElem? (i := 2) rfl)) (fun _ h9 => h9) rfl dX11_lump_30 ?_
          refine lv_iload_n hx hb dX11_lump_33 rfl (lv_at hl 1 rfl) ?_
          obtain ⟨n17, h18, e19⟩ := nat_of x 6 (by decide) (lf_p_lump_2 lumps x iv_sea_4 t3 t4)
          rw [e19]
          obtain ⟨y20, e21⟩ : ∃ z9, z9 = lumpCellsF n17 := ⟨_, rfl⟩
          refine r_iald hx hb hK hP 2 rfl n17 (by omega) (by decide) y20 e21.symm dX11_lump_34 ?_
          refine lv_bipush (v := nI 6) hx hb dX11_lump_35 (by decide) ?_
          refine lv_irem hx hb dX11_lump_37 (by decide) ?_
          refine lv_topi (fun y22 e23 => ?_)
          refine lv_goto (tgt := 53) hx hb dX11_lump_38 (by decide) ?_
          rw [hQ]
          exact W.iret (v := y22) hx hb hr (fun t9 ht9 hW9 => ⟨y22, rfl, trivial, ht9⟩) (fun _ h => absurd h List.not_mem_nil) dX11_lump_53
      · refine lv_iconst (v := (-1 : Int32)) hx hb dX11_lump_20 (by decide) ?_
        rw [hQ]
        exact W.iret (v := (-1 : Int32)) hx hb hr (fun t9 ht9 hW9 => ⟨(-1 : Int32), rfl, trivial, ht9⟩) (fun _ h => absurd h List.not_mem_nil) dX11_lump_21
  · refine lv_if_eq (tgt := 20) hx hb dX11_lump_8 (by decide) (fun c24 => ?_) (fun c24 => absurd (by decide) c24)
    refine lv_iconst (v := (-1 : Int32)) hx hb dX11_lump_20 (by decide) ?_
    rw [hQ]
    exact W.iret (v := (-1 : Int32)) hx hb hr (fun t9 ht9 hW9 => ⟨(-1 : Int32), rfl, trivial, ht9⟩) (fun _ h => absurd h List.not_mem_nil) dX11_lump_21
set_option maxHeartbeats 4000000 in
set_option maxRecDepth 100000 in
theorem c_p_now (l : Launch) (dC : Nat → ClassId) (dI : Nat → Nat → Nat) (ky : Nat → ClassId) (t : Nat) (reader : Nat) (tapeLength : Nat) (latestFault : Int32) (sea : Nat) (spareSea : Nat) (seaText : Nat) (book : Nat) (sentence : Nat) (spareSentence : Nat) (route : Nat) (meeting : Nat) (sighting : Nat) (draws : Nat) (history : Nat) (images : Nat) (chartBytes : Nat) (chartLength : Nat) (fleetBits : Int32) (wide : Nat) (high : Nat) (heat : Int32) (cools : Int32) (skinHeat : Int32) (today : Int32) (stirs : Int32) (steps : Int32) (lumps : Nat) (boats : Nat) (thickness : Nat) (lumpNames : Nat) (lumpCells : Nat) (boatNames : Nat) (boatCells : Nat) (loads : Nat) (spoons : Nat) (spoonsLeft : Nat) (depths : Nat) (thicknessF : Nat → Int32) (lumpCellsF : Nat → Int32) (boatCellsF : Nat → Int32) (loadsF : Nat → Int32) (spoonsF : Nat → Int32) (spoonsLeftF : Nat → Int32) (depthsF : Nat → Int32) (x : Int32) (iv_t_0 : tapeLength ≤ 940) (iv_t_1 : chartLength ≤ 32) (iv_sea_0 : 2 ≤ wide) (iv_sea_1 : wide ≤ 6) (iv_sea_2 : 2 ≤ high) (iv_sea_3 : high ≤ 6) (iv_sea_4 : lumps ≤ 6) (iv_sea_5 : boats ≤ 6) : Met l yX11_now wsX11_now ({ frames := 4, cells := 0, slots := 0, locals := 87 }) (PcP dC dI ky [.ref t, .int x] [(t, .inr (11, [.ref reader, .int (nI tapeLength), .int latestFault, .ref sea, .ref spareSea, .ref seaText, .ref book, .ref sentence, .ref spareSentence, .ref route, .ref meeting, .ref sighting, .ref draws, .ref history, .ref images, .ref chartBytes, .int (nI chartLength), .int fleetBits])), (sea, .inr (7, [.int (nI wide), .int (nI high), .int heat, .int cools, .int skinHeat, .int today, .int stirs, .int steps, .int (nI lumps), .int (nI boats), .ref thickness, .ref lumpNames, .ref lumpCells, .ref boatNames, .ref boatCells, .ref loads, .ref spoons, .ref spoonsLeft, .ref depths])), (thickness, .inl (ky 0, 36, .inl thicknessF)), (lumpCells, .inl (ky 0, 6, .inl lumpCellsF)), (boatCells, .inl (ky 0, 6, .inl boatCellsF)), (loads, .inl (ky 0, 6, .inl loadsF)), (spoons, .inl (ky 0, 6, .inl spoonsF)), (spoonsLeft, .inl (ky 0, 6, .inl spoonsLeftF)), (depths, .inl (ky 0, 6, .inl depthsF))]) (vp_Si (fun r : Int32 => True)) 0 0 (fun _ => False) := by
  refine Met.ofW (cc := cX11_now) (maxL := 2) (ret := (some .int)) (by decide) rfl ?_
  intro p e s m args below meth c s₁ B hml hv
  obtain ⟨rfl, hP, hK⟩ := hv
  have hx := B.exec
  have hb := B.bytes
  have hr := B.returns
  have hts := atoms_spec (ws := wsX11_now) B.pre
  have hown : s.vm.findClass RX11 = some m.cls := findClass_of_methodNamed B.named
  have hlocks := B.notSynchronized
  have hin7 : ∀ w ∈ u_ws RX7 TX7 19, w ∈ wsX11_now := by decide +kernel
  have hin11 : ∀ w ∈ u_ws RX11 TX11 18, w ∈ wsX11_now := by decide +kernel
  have hl := lv_entry ([.ref t, .int x]) (n := 2) (Nat.le_of_ble_eq_true rfl)
  rw [lg_entry_eq]
  generalize (lg_sl ([.ref t, .int x]) ++ List.replicate (2 - (lg_sl ([.ref t, .int x])).length) Slot.unset).toArray = ls at hl ⊢
  have hl : lv_has ls 2 [(0, .ref t), (1, .int x)] := hl
  refine q_name (fun Q hQ => ?_)
  generalize ([.ref t, .int x] : List Value).toArray = args at hts hQ ⊢
  refine lv_iload_n hx hb dX11_now_0 rfl (lv_at hl 1 rfl) ?_
  rcases sw_0_7 x with c2 | c3 | c4 | c5 | c6 | c7 | c8 | c9 | c10
  · refine lv_tableOut (tgt := 120) hx hb dX11_now_1 c2 (by decide) ?_
    refine lv_iconst (v := (-1 : Int32)) hx hb dX11_now_120 (by decide) ?_
    rw [hQ]
    exact W.iret (v := (-1 : Int32)) hx hb hr (fun t9 ht9 hW9 => ⟨(-1 : Int32), rfl, trivial, ht9⟩) (fun _ h => absurd h List.not_mem_nil) dX11_now_121
  · refine r_ti (nI 0) c3 ?_
    rw [c3] at hl
    refine lv_tableIn (off := 47) (tgt := 48) hx hb dX11_now_1 (by decide) (by decide) rfl (by decide) ?_
    refine lv_aload_n hx hb dX11_now_48 rfl (lv_at hl 0 rfl) ?_
    refine va_get (D := (dC, dI)) (ci := 11) (v := .ref sea) (C := RX11) (T := TX11) (N := 18) hx hb hts hin11 hown hK hP 0 rfl rfl 3 (by decide) (hts (.fieldLink RX11 26 "PorridgeSea" "sea" "LPorridgeSea$Sea;") (List.mem_of_getElem? (i := 1) rfl)) (fun _ h9 => h9) rfl dX11_now_49 ?_
    refine va_get (D := (dC, dI)) (ci := 7) (v := .int today) (C := RX7) (T := TX7) (N := 19) hx hb hts hin7 hown hK hP 1 rfl rfl 5 (by decide) (hts (.fieldLink RX11 171 "PorridgeSea$Sea" "today" "I") (List.mem_of_getElem? (i := 2) rfl)) (fun _ h9 => h9) rfl dX11_now_52 ?_
    rw [hQ]
    exact W.iret (v := today) hx hb hr (fun t9 ht9 hW9 => ⟨today, rfl, trivial, ht9⟩) (fun _ h => absurd h List.not_mem_nil) dX11_now_55
  · refine r_ti (nI 1) c4 ?_
    rw [c4] at hl
    refine lv_tableIn (off := 55) (tgt := 56) hx hb dX11_now_1 (by decide) (by decide) rfl (by decide) ?_
    refine lv_aload_n hx hb dX11_now_56 rfl (lv_at hl 0 rfl) ?_
    refine va_get (D := (dC, dI)) (ci := 11) (v := .ref sea) (C := RX11) (T := TX11) (N := 18) hx hb hts hin11 hown hK hP 0 rfl rfl 3 (by decide) (hts (.fieldLink RX11 26 "PorridgeSea" "sea" "LPorridgeSea$Sea;") (List.mem_of_getElem? (i := 1) rfl)) (fun _ h9 => h9) rfl dX11_now_57 ?_
    refine va_get (D := (dC, dI)) (ci := 7) (v := .int heat) (C := RX7) (T := TX7) (N := 19) hx hb hts hin7 hown hK hP 1 rfl rfl 2 (by decide) (hts (.fieldLink RX11 174 "PorridgeSea$Sea" "heat" "I") (List.mem_of_getElem? (i := 3) rfl)) (fun _ h9 => h9) rfl dX11_now_60 ?_
    rw [hQ]
    exact W.iret (v := heat) hx hb hr (fun t9 ht9 hW9 => ⟨heat, rfl, trivial, ht9⟩) (fun _ h => absurd h List.not_mem_nil) dX11_now_63
  · refine r_ti (nI 2) c5 ?_
    rw [c5] at hl
    refine lv_tableIn (off := 63) (tgt := 64) hx hb dX11_now_1 (by decide) (by decide) rfl (by decide) ?_
    refine lv_aload_n hx hb dX11_now_64 rfl (lv_at hl 0 rfl) ?_
    refine va_get (D := (dC, dI)) (ci := 11) (v := .ref sea) (C := RX11) (T := TX11) (N := 18) hx hb hts hin11 hown hK hP 0 rfl rfl 3 (by decide) (hts (.fieldLink RX11 26 "PorridgeSea" "sea" "LPorridgeSea$Sea;") (List.mem_of_getElem? (i := 1) rfl)) (fun _ h9 => h9) rfl dX11_now_65 ?_
    refine vp_callSi (W.runV (As := []) (rest := []) ⟨hx, hb, hml, hown, hts⟩ (c_s_hasSkin l dC dI ky sea wide high heat cools skinHeat today stirs steps lumps boats thickness lumpNames lumpCells boatNames boatCells loads spoons spoonsLeft depths iv_sea_0 iv_sea_1 iv_sea_2 iv_sea_3 iv_sea_4 iv_sea_5) (cwV 0 hts gX11_now_X7_hasSkin rfl rfl rfl (by decide +kernel) ⟨(Nat.le_of_ble_eq_true rfl), (Nat.le_of_ble_eq_true rfl)⟩) (pre_PV hK hP [1] rfl (ci := 7) (q0 := 1) rfl rfl) rfl rfl hl.1 rfl (lv_room (Nat.le_of_ble_eq_true rfl)) dX11_now_68 ⟨(Nat.le_of_ble_eq_true rfl), (Nat.le_of_ble_eq_true rfl)⟩) (fun r11 p12 => ?_)
    refine lv_if_eq (tgt := 78) hx hb dX11_now_71 (by decide) (fun c13 => ?_) (fun c13 => ?_)
    · refine lv_iconst (v := nI 0) hx hb dX11_now_78 (by decide) ?_
      rw [hQ]
      exact W.iret (v := nI 0) hx hb hr (fun t9 ht9 hW9 => ⟨nI 0, rfl, trivial, ht9⟩) (fun _ h => absurd h List.not_mem_nil) dX11_now_79
    · refine lv_iconst (v := nI 1) hx hb dX11_now_74 (by decide) ?_
      refine lv_goto (tgt := 79) hx hb dX11_now_75 (by decide) ?_
      rw [hQ]
      exact W.iret (v := nI 1) hx hb hr (fun t9 ht9 hW9 => ⟨nI 1, rfl, trivial, ht9⟩) (fun _ h => absurd h List.not_mem_nil) dX11_now_79
  · refine r_ti (nI 3) c6 ?_
    rw [c6] at hl
    refine lv_tableIn (off := 79) (tgt := 80) hx hb dX11_now_1 (by decide) (by decide) rfl (by decide) ?_
    refine lv_aload_n hx hb dX11_now_80 rfl (lv_at hl 0 rfl) ?_
    refine va_get (D := (dC, dI)) (ci := 11) (v := .ref sea) (C := RX11) (T := TX11) (N := 18) hx hb hts hin11 hown hK hP 0 rfl rfl 3 (by decide) (hts (.fieldLink RX11 26 "PorridgeSea" "sea" "LPorridgeSea$Sea;") (List.mem_of_getElem? (i := 1) rfl)) (fun _ h9 => h9) rfl dX11_now_81 ?_
    refine vp_callSi (W.runV (As := []) (rest := []) ⟨hx, hb, hml, hown, hts⟩ (c_s_eatenBits l dC dI ky sea wide high heat cools skinHeat today stirs steps lumps boats thickness lumpNames lumpCells boatNames boatCells loads spoons spoonsLeft depths depthsF iv_sea_0 iv_sea_1 iv_sea_2 iv_sea_3 iv_sea_4 iv_sea_5) (cwV 0 hts gX11_now_X7_eatenBits rfl rfl rfl (by decide +kernel) ⟨(Nat.le_of_ble_eq_true rfl), (Nat.le_of_ble_eq_true rfl)⟩) (pre_PV hK hP [1, 8] rfl (ci := 7) (q0 := 1) rfl rfl) rfl rfl hl.1 rfl (lv_room (Nat.le_of_ble_eq_true rfl)) dX11_now_84 ⟨(Nat.le_of_ble_eq_true rfl), (Nat.le_of_ble_eq_true rfl)⟩) (fun r14 p15 => ?_)
    rw [hQ]
    exact W.iret (v := r14) hx hb hr (fun t9 ht9 hW9 => ⟨r14, rfl, trivial, ht9⟩) (fun _ h => absurd h List.not_mem_nil) dX11_now_87
  · refine r_ti (nI 4) c7 ?_
    rw [c7] at hl
    refine lv_tableIn (off := 87) (tgt := 88) hx hb dX11_now_1 (by decide) (by decide) rfl (by decide) ?_
    refine lv_aload_n hx hb dX11_now_88 rfl (lv_at hl 0 rfl) ?_
    refine va_get (D := (dC, dI)) (ci := 11) (v := .ref sea) (C := RX11) (T := TX11) (N := 18) hx hb hts hin11 hown hK hP 0 rfl rfl 3 (by decide) (hts (.fieldLink RX11 26 "PorridgeSea" "sea" "LPorridgeSea$Sea;") (List.mem_of_getElem? (i := 1) rfl)) (fun _ h9 => h9) rfl dX11_now_89 ?_
    refine vp_callSi (W.runV (As := []) (rest := []) ⟨hx, hb, hml, hown, hts⟩ (c_s_afloatBits l dC dI ky sea wide high heat cools skinHeat today stirs steps lumps boats thickness lumpNames lumpCells boatNames boatCells loads spoons spoonsLeft depths thicknessF lumpCellsF boatCellsF loadsF depthsF iv_sea_0 iv_sea_1 iv_sea_2 iv_sea_3 iv_sea_4 iv_sea_5) (cwV 0 hts gX11_now_X7_afloatBits rfl rfl rfl (by decide +kernel) ⟨(Nat.le_of_ble_eq_true rfl), (Nat.le_of_ble_eq_true rfl)⟩) (pre_PV hK hP [1, 2, 3, 4, 5, 8] rfl (ci := 7) (q0 := 1) rfl rfl) rfl rfl hl.1 rfl (lv_room (Nat.le_of_ble_eq_true rfl)) dX11_now_92 ⟨(Nat.le_of_ble_eq_true rfl), (Nat.le_of_ble_eq_true rfl)⟩) (fun r16 p17 => ?_)
    rw [hQ]
    exact W.iret (v := r16) hx hb hr (fun t9 ht9 hW9 => ⟨r16, rfl, trivial, ht9⟩) (fun _ h => absurd h List.not_mem_nil) dX11_now_95
  · refine r_ti (nI 5) c8 ?_
    rw [c8] at hl
    refine lv_tableIn (off := 95) (tgt := 96) hx hb dX11_now_1 (by decide) (by decide) rfl (by decide) ?_
    refine lv_aload_n hx hb dX11_now_96 rfl (lv_at hl 0 rfl) ?_
    refine va_get (D := (dC, dI)) (ci := 11) (v := .ref sea) (C := RX11) (T := TX11) (N := 18) hx hb hts hin11 hown hK hP 0 rfl rfl 3 (by decide) (hts (.fieldLink RX11 26 "PorridgeSea" "sea" "LPorridgeSea$Sea;") (List.mem_of_getElem? (i := 1) rfl)) (fun _ h9 => h9) rfl dX11_now_97 ?_
    refine vp_callSi (W.runV (As := []) (rest := []) ⟨hx, hb, hml, hown, hts⟩ (c_s_allThickness l dC dI ky sea wide high heat cools skinHeat today stirs steps lumps boats thickness lumpNames lumpCells boatNames boatCells loads spoons spoonsLeft depths thicknessF iv_sea_0 iv_sea_1 iv_sea_2 iv_sea_3 iv_sea_4 iv_sea_5) (cwV 0 hts gX11_now_X7_allThickness rfl rfl rfl (by decide +kernel) ⟨(Nat.le_of_ble_eq_true rfl), (Nat.le_of_ble_eq_true rfl)⟩) (pre_PV hK hP [1, 2] rfl (ci := 7) (q0 := 1) rfl rfl) rfl rfl hl.1 rfl (lv_room (Nat.le_of_ble_eq_true rfl)) dX11_now_100 ⟨(Nat.le_of_ble_eq_true rfl), (Nat.le_of_ble_eq_true rfl)⟩) (fun r18 p19 => ?_)
    rw [hQ]
    exact W.iret (v := r18) hx hb hr (fun t9 ht9 hW9 => ⟨r18, rfl, trivial, ht9⟩) (fun _ h => absurd h List.not_mem_nil) dX11_now_103
  · refine r_ti (nI 6) c9 ?_
    rw [c9] at hl
    refine lv_tableIn (off := 103) (tgt := 104) hx hb dX11_now_1 (by decide) (by decide) rfl (by decide) ?_
    refine lv_aload_n hx hb dX11_now_104 rfl (lv_at hl 0 rfl) ?_
    refine va_get (D := (dC, dI)) (ci := 11) (v := .ref sea) (C := RX11) (T := TX11) (N := 18) hx hb hts hin11 hown hK hP 0 rfl rfl 3 (by decide) (hts (.fieldLink RX11 26 "PorridgeSea" "sea" "LPorridgeSea$Sea;") (List.mem_of_getElem? (i := 1) rfl)) (fun _ h9 => h9) rfl dX11_now_105 ?_
    refine va_get (D := (dC, dI)) (ci := 7) (v := .int stirs) (C := RX7) (T := TX7) (N := 19) hx hb hts hin7 hown hK hP 1 rfl rfl 6 (by decide) (hts (.fieldLink RX11 191 "PorridgeSea$Sea" "stirs" "I") (List.mem_of_getElem? (i := 4) rfl)) (fun _ h9 => h9) rfl dX11_now_108 ?_
    rw [hQ]
    exact W.iret (v := stirs) hx hb hr (fun t9 ht9 hW9 => ⟨stirs, rfl, trivial, ht9⟩) (fun _ h => absurd h List.not_mem_nil) dX11_now_111
  · refine r_ti (nI 7) c10 ?_
    rw [c10] at hl
    refine lv_tableIn (off := 111) (tgt := 112) hx hb dX11_now_1 (by decide) (by decide) rfl (by decide) ?_
    refine lv_aload_n hx hb dX11_now_112 rfl (lv_at hl 0 rfl) ?_
    refine va_get (D := (dC, dI)) (ci := 11) (v := .ref sea) (C := RX11) (T := TX11) (N := 18) hx hb hts hin11 hown hK hP 0 rfl rfl 3 (by decide) (hts (.fieldLink RX11 26 "PorridgeSea" "sea" "LPorridgeSea$Sea;") (List.mem_of_getElem? (i := 1) rfl)) (fun _ h9 => h9) rfl dX11_now_113 ?_
    refine va_get (D := (dC, dI)) (ci := 7) (v := .int steps) (C := RX7) (T := TX7) (N := 19) hx hb hts hin7 hown hK hP 1 rfl rfl 7 (by decide) (hts (.fieldLink RX11 194 "PorridgeSea$Sea" "steps" "I") (List.mem_of_getElem? (i := 5) rfl)) (fun _ h9 => h9) rfl dX11_now_116 ?_
    rw [hQ]
    exact W.iret (v := steps) hx hb hr (fun t9 ht9 hW9 => ⟨steps, rfl, trivial, ht9⟩) (fun _ h => absurd h List.not_mem_nil) dX11_now_119
set_option maxHeartbeats 4000000 in
set_option maxRecDepth 100000 in
theorem c_p_count (l : Launch) (dC : Nat → ClassId) (dI : Nat → Nat → Nat) (ky : Nat → ClassId) (t : Nat) (reader : Nat) (tapeLength : Nat) (latestFault : Int32) (sea : Nat) (spareSea : Nat) (seaText : Nat) (book : Nat) (sentence : Nat) (spareSentence : Nat) (route : Nat) (meeting : Nat) (sighting : Nat) (draws : Nat) (history : Nat) (images : Nat) (chartBytes : Nat) (chartLength : Nat) (fleetBits : Int32) (wide : Nat) (high : Nat) (heat : Int32) (cools : Int32) (skinHeat : Int32) (today : Int32) (stirs : Int32) (steps : Int32) (lumps : Nat) (boats : Nat) (thickness : Nat) (lumpNames : Nat) (lumpCells : Nat) (boatNames : Nat) (boatCells : Nat) (loads : Nat) (spoons : Nat) (spoonsLeft : Nat) (depths : Nat) (x : Int32) (iv_t_0 : tapeLength ≤ 940) (iv_t_1 : chartLength ≤ 32) (iv_sea_0 : 2 ≤ wide) (iv_sea_1 : wide ≤ 6) (iv_sea_2 : 2 ≤ high) (iv_sea_3 : high ≤ 6) (iv_sea_4 : lumps ≤ 6) (iv_sea_5 : boats ≤ 6) : Met l yX11_count wsX11_count ({ frames := 0, cells := 0, slots := 0, locals := 0 }) (PcP dC dI ky [.ref t, .int x] [(t, .inr (11, [.ref reader, .int (nI tapeLength), .int latestFault, .ref sea, .ref spareSea, .ref seaText, .ref book, .ref sentence, .ref spareSentence, .ref route, .ref meeting, .ref sighting, .ref draws, .ref history, .ref images, .ref chartBytes, .int (nI chartLength), .int fleetBits])), (sea, .inr (7, [.int (nI wide), .int (nI high), .int heat, .int cools, .int skinHeat, .int today, .int stirs, .int steps, .int (nI lumps), .int (nI boats), .ref thickness, .ref lumpNames, .ref lumpCells, .ref boatNames, .ref boatCells, .ref loads, .ref spoons, .ref spoonsLeft, .ref depths]))]) (vp_Si (fun r : Int32 => True)) 0 0 (fun _ => False) := by
  refine Met.ofW (cc := cX11_count) (maxL := 2) (ret := (some .int)) (by decide) rfl ?_
  intro p e s m args below meth c s₁ B hml hv
  obtain ⟨rfl, hP, hK⟩ := hv
  have hx := B.exec
  have hb := B.bytes
  have hr := B.returns
  have hts := atoms_spec (ws := wsX11_count) B.pre
  have hown : s.vm.findClass RX11 = some m.cls := findClass_of_methodNamed B.named
  have hlocks := B.notSynchronized
  have hin7 : ∀ w ∈ u_ws RX7 TX7 19, w ∈ wsX11_count := by decide +kernel
  have hin11 : ∀ w ∈ u_ws RX11 TX11 18, w ∈ wsX11_count := by decide +kernel
  have hl := lv_entry ([.ref t, .int x]) (n := 2) (Nat.le_of_ble_eq_true rfl)
  rw [lg_entry_eq]
  generalize (lg_sl ([.ref t, .int x]) ++ List.replicate (2 - (lg_sl ([.ref t, .int x])).length) Slot.unset).toArray = ls at hl ⊢
  have hl : lv_has ls 2 [(0, .ref t), (1, .int x)] := hl
  refine q_name (fun Q hQ => ?_)
  generalize ([.ref t, .int x] : List Value).toArray = args at hts hQ ⊢
  refine lv_iload_n hx hb dX11_count_0 rfl (lv_at hl 1 rfl) ?_
  rcases sw_0_6 x with c2 | c3 | c4 | c5 | c6 | c7 | c8 | c9
  · refine lv_tableOut (tgt := 97) hx hb dX11_count_1 c2 (by decide) ?_
    refine lv_iconst (v := (-1 : Int32)) hx hb dX11_count_97 (by decide) ?_
    rw [hQ]
    exact W.iret (v := (-1 : Int32)) hx hb hr (fun t9 ht9 hW9 => ⟨(-1 : Int32), rfl, trivial, ht9⟩) (fun _ h => absurd h List.not_mem_nil) dX11_count_98
  · refine r_ti (nI 0) c3 ?_
    rw [c3] at hl
    refine lv_tableIn (off := 43) (tgt := 44) hx hb dX11_count_1 (by decide) (by decide) rfl (by decide) ?_
    refine lv_aload_n hx hb dX11_count_44 rfl (lv_at hl 0 rfl) ?_
    refine va_get (D := (dC, dI)) (ci := 11) (v := .ref sea) (C := RX11) (T := TX11) (N := 18) hx hb hts hin11 hown hK hP 0 rfl rfl 3 (by decide) (hts (.fieldLink RX11 26 "PorridgeSea" "sea" "LPorridgeSea$Sea;") (List.mem_of_getElem? (i := 1) rfl)) (fun _ h9 => h9) rfl dX11_count_45 ?_
    refine va_get (D := (dC, dI)) (ci := 7) (v := .int (nI wide)) (C := RX7) (T := TX7) (N := 19) hx hb hts hin7 hown hK hP 1 rfl rfl 0 (by decide) (hts (.fieldLink RX11 197 "PorridgeSea$Sea" "wide" "I") (List.mem_of_getElem? (i := 2) rfl)) (fun _ h9 => h9) rfl dX11_count_48 ?_
    rw [hQ]
    exact W.iret (v := nI wide) hx hb hr (fun t9 ht9 hW9 => ⟨nI wide, rfl, trivial, ht9⟩) (fun _ h => absurd h List.not_mem_nil) dX11_count_51
  · refine r_ti (nI 1) c4 ?_
    rw [c4] at hl
    refine lv_tableIn (off := 51) (tgt := 52) hx hb dX11_count_1 (by decide) (by decide) rfl (by decide) ?_
    refine lv_aload_n hx hb dX11_count_52 rfl (lv_at hl 0 rfl) ?_
    refine va_get (D := (dC, dI)) (ci := 11) (v := .ref sea) (C := RX11) (T := TX11) (N := 18) hx hb hts hin11 hown hK hP 0 rfl rfl 3 (by decide) (hts (.fieldLink RX11 26 "PorridgeSea" "sea" "LPorridgeSea$Sea;") (List.mem_of_getElem? (i := 1) rfl)) (fun _ h9 => h9) rfl dX11_count_53 ?_
    refine va_get (D := (dC, dI)) (ci := 7) (v := .int (nI high)) (C := RX7) (T := TX7) (N := 19) hx hb hts hin7 hown hK hP 1 rfl rfl 1 (by decide) (hts (.fieldLink RX11 200 "PorridgeSea$Sea" "high" "I") (List.mem_of_getElem? (i := 3) rfl)) (fun _ h9 => h9) rfl dX11_count_56 ?_
    rw [hQ]
    exact W.iret (v := nI high) hx hb hr (fun t9 ht9 hW9 => ⟨nI high, rfl, trivial, ht9⟩) (fun _ h => absurd h List.not_mem_nil) dX11_count_59
  · refine r_ti (nI 2) c5 ?_
    rw [c5] at hl
    refine lv_tableIn (off := 59) (tgt := 60) hx hb dX11_count_1 (by decide) (by decide) rfl (by decide) ?_
    refine lv_aload_n hx hb dX11_count_60 rfl (lv_at hl 0 rfl) ?_
    refine va_get (D := (dC, dI)) (ci := 11) (v := .ref sea) (C := RX11) (T := TX11) (N := 18) hx hb hts hin11 hown hK hP 0 rfl rfl 3 (by decide) (hts (.fieldLink RX11 26 "PorridgeSea" "sea" "LPorridgeSea$Sea;") (List.mem_of_getElem? (i := 1) rfl)) (fun _ h9 => h9) rfl dX11_count_61 ?_
    refine va_get (D := (dC, dI)) (ci := 7) (v := .int (nI lumps)) (C := RX7) (T := TX7) (N := 19) hx hb hts hin7 hown hK hP 1 rfl rfl 8 (by decide) (hts (.fieldLink RX11 203 "PorridgeSea$Sea" "lumps" "I") (List.mem_of_getElem? (i := 4) rfl)) (fun _ h9 => h9) rfl dX11_count_64 ?_
    rw [hQ]
    exact W.iret (v := nI lumps) hx hb hr (fun t9 ht9 hW9 => ⟨nI lumps, rfl, trivial, ht9⟩) (fun _ h => absurd h List.not_mem_nil) dX11_count_67
  · refine r_ti (nI 3) c6 ?_
    rw [c6] at hl
    refine lv_tableIn (off := 67) (tgt := 68) hx hb dX11_count_1 (by decide) (by decide) rfl (by decide) ?_
    refine lv_aload_n hx hb dX11_count_68 rfl (lv_at hl 0 rfl) ?_
    refine va_get (D := (dC, dI)) (ci := 11) (v := .ref sea) (C := RX11) (T := TX11) (N := 18) hx hb hts hin11 hown hK hP 0 rfl rfl 3 (by decide) (hts (.fieldLink RX11 26 "PorridgeSea" "sea" "LPorridgeSea$Sea;") (List.mem_of_getElem? (i := 1) rfl)) (fun _ h9 => h9) rfl dX11_count_69 ?_
    refine va_get (D := (dC, dI)) (ci := 7) (v := .int (nI boats)) (C := RX7) (T := TX7) (N := 19) hx hb hts hin7 hown hK hP 1 rfl rfl 9 (by decide) (hts (.fieldLink RX11 206 "PorridgeSea$Sea" "boats" "I") (List.mem_of_getElem? (i := 5) rfl)) (fun _ h9 => h9) rfl dX11_count_72 ?_
    rw [hQ]
    exact W.iret (v := nI boats) hx hb hr (fun t9 ht9 hW9 => ⟨nI boats, rfl, trivial, ht9⟩) (fun _ h => absurd h List.not_mem_nil) dX11_count_75
  · refine r_ti (nI 4) c7 ?_
    rw [c7] at hl
    refine lv_tableIn (off := 75) (tgt := 76) hx hb dX11_count_1 (by decide) (by decide) rfl (by decide) ?_
    refine lv_aload_n hx hb dX11_count_76 rfl (lv_at hl 0 rfl) ?_
    refine va_get (D := (dC, dI)) (ci := 11) (v := .ref sea) (C := RX11) (T := TX11) (N := 18) hx hb hts hin11 hown hK hP 0 rfl rfl 3 (by decide) (hts (.fieldLink RX11 26 "PorridgeSea" "sea" "LPorridgeSea$Sea;") (List.mem_of_getElem? (i := 1) rfl)) (fun _ h9 => h9) rfl dX11_count_77 ?_
    refine va_get (D := (dC, dI)) (ci := 7) (v := .int cools) (C := RX7) (T := TX7) (N := 19) hx hb hts hin7 hown hK hP 1 rfl rfl 3 (by decide) (hts (.fieldLink RX11 209 "PorridgeSea$Sea" "cools" "I") (List.mem_of_getElem? (i := 6) rfl)) (fun _ h9 => h9) rfl dX11_count_80 ?_
    rw [hQ]
    exact W.iret (v := cools) hx hb hr (fun t9 ht9 hW9 => ⟨cools, rfl, trivial, ht9⟩) (fun _ h => absurd h List.not_mem_nil) dX11_count_83
  · refine r_ti (nI 5) c8 ?_
    rw [c8] at hl
    refine lv_tableIn (off := 83) (tgt := 84) hx hb dX11_count_1 (by decide) (by decide) rfl (by decide) ?_
    refine lv_aload_n hx hb dX11_count_84 rfl (lv_at hl 0 rfl) ?_
    refine va_get (D := (dC, dI)) (ci := 11) (v := .ref sea) (C := RX11) (T := TX11) (N := 18) hx hb hts hin11 hown hK hP 0 rfl rfl 3 (by decide) (hts (.fieldLink RX11 26 "PorridgeSea" "sea" "LPorridgeSea$Sea;") (List.mem_of_getElem? (i := 1) rfl)) (fun _ h9 => h9) rfl dX11_count_85 ?_
    refine va_get (D := (dC, dI)) (ci := 7) (v := .int skinHeat) (C := RX7) (T := TX7) (N := 19) hx hb hts hin7 hown hK hP 1 rfl rfl 4 (by decide) (hts (.fieldLink RX11 212 "PorridgeSea$Sea" "skinHeat" "I") (List.mem_of_getElem? (i := 7) rfl)) (fun _ h9 => h9) rfl dX11_count_88 ?_
    rw [hQ]
    exact W.iret (v := skinHeat) hx hb hr (fun t9 ht9 hW9 => ⟨skinHeat, rfl, trivial, ht9⟩) (fun _ h => absurd h List.not_mem_nil) dX11_count_91
  · refine r_ti (nI 6) c9 ?_
    rw [c9] at hl
    refine lv_tableIn (off := 91) (tgt := 92) hx hb dX11_count_1 (by decide) (by decide) rfl (by decide) ?_
    refine lv_aload_n hx hb dX11_count_92 rfl (lv_at hl 0 rfl) ?_
    refine va_get (D := (dC, dI)) (ci := 11) (v := .int (nI tapeLength)) (C := RX11) (T := TX11) (N := 18) hx hb hts hin11 hown hK hP 0 rfl rfl 1 (by decide) (hts (.fieldLink RX11 16 "PorridgeSea" "tapeLength" "I") (List.mem_of_getElem? (i := 8) rfl)) (fun _ h9 => h9) rfl dX11_count_93 ?_
    rw [hQ]
    exact W.iret (v := nI tapeLength) hx hb hr (fun t9 ht9 hW9 => ⟨nI tapeLength, rfl, trivial, ht9⟩) (fun _ h => absurd h List.not_mem_nil) dX11_count_96
