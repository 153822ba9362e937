theorem dX11_putBytes_0 : decode cX11_putBytes 0 = .ok (.bipush 24, 2) := by decide +kernel
theorem dX11_putBytes_2 : decode cX11_putBytes 2 = .ok (.istore_n 2, 1) := by decide +kernel
theorem dX11_putBytes_3 : decode cX11_putBytes 3 = .ok (.iload_n 2, 1) := by decide +kernel
theorem dX11_putBytes_4 : decode cX11_putBytes 4 = .ok (.ifCond .lt 45, 3) := by decide +kernel
theorem dX11_putBytes_7 : decode cX11_putBytes 7 = .ok (.aload_n 0, 1) := by decide +kernel
theorem dX11_putBytes_8 : decode cX11_putBytes 8 = .ok (.getfield 16, 3) := by decide +kernel
theorem dX11_putBytes_11 : decode cX11_putBytes 11 = .ok (.sipush 940, 3) := by decide +kernel
theorem dX11_putBytes_14 : decode cX11_putBytes 14 = .ok (.if_icmp .ge 35, 3) := by decide +kernel
theorem dX11_putBytes_17 : decode cX11_putBytes 17 = .ok (.aload_n 0, 1) := by decide +kernel
theorem dX11_putBytes_18 : decode cX11_putBytes 18 = .ok (.getfield 10, 3) := by decide +kernel
theorem dX11_putBytes_21 : decode cX11_putBytes 21 = .ok (.getfield 113, 3) := by decide +kernel
theorem dX11_putBytes_24 : decode cX11_putBytes 24 = .ok (.aload_n 0, 1) := by decide +kernel
theorem dX11_putBytes_25 : decode cX11_putBytes 25 = .ok (.getfield 16, 3) := by decide +kernel
theorem dX11_putBytes_28 : decode cX11_putBytes 28 = .ok (.iload_n 1, 1) := by decide +kernel
theorem dX11_putBytes_29 : decode cX11_putBytes 29 = .ok (.iload_n 2, 1) := by decide +kernel
theorem dX11_putBytes_30 : decode cX11_putBytes 30 = .ok (.iushr, 1) := by decide +kernel
theorem dX11_putBytes_31 : decode cX11_putBytes 31 = .ok (.i2b, 1) := by decide +kernel
theorem dX11_putBytes_32 : decode cX11_putBytes 32 = .ok (.bastore, 1) := by decide +kernel
theorem dX11_putBytes_33 : decode cX11_putBytes 33 = .ok (.aload_n 0, 1) := by decide +kernel
theorem dX11_putBytes_34 : decode cX11_putBytes 34 = .ok (.dup, 1) := by decide +kernel
theorem dX11_putBytes_35 : decode cX11_putBytes 35 = .ok (.getfield 16, 3) := by decide +kernel
theorem dX11_putBytes_38 : decode cX11_putBytes 38 = .ok (.iconst 1, 1) := by decide +kernel
theorem dX11_putBytes_39 : decode cX11_putBytes 39 = .ok (.iadd, 1) := by decide +kernel
theorem dX11_putBytes_40 : decode cX11_putBytes 40 = .ok (.putfield 16, 3) := by decide +kernel
theorem dX11_putBytes_43 : decode cX11_putBytes 43 = .ok (.iinc 2 (-8), 3) := by decide +kernel
theorem dX11_putBytes_46 : decode cX11_putBytes 46 = .ok (.goto (-43), 3) := by decide +kernel
theorem dX11_putBytes_49 : decode cX11_putBytes 49 = .ok (.return_, 1) := by decide +kernel
theorem dX11_feed_0 : decode cX11_feed 0 = .ok (.aload_n 0, 1) := by decide +kernel
theorem dX11_feed_1 : decode cX11_feed 1 = .ok (.getfield 16, 3) := by decide +kernel
theorem dX11_feed_4 : decode cX11_feed 4 = .ok (.bipush 20, 2) := by decide +kernel
theorem dX11_feed_6 : decode cX11_feed 6 = .ok (.iadd, 1) := by decide +kernel
theorem dX11_feed_7 : decode cX11_feed 7 = .ok (.sipush 940, 3) := by decide +kernel
theorem dX11_feed_10 : decode cX11_feed 10 = .ok (.if_icmp .le 5, 3) := by decide +kernel
theorem dX11_feed_15 : decode cX11_feed 15 = .ok (.aload_n 0, 1) := by decide +kernel
theorem dX11_feed_16 : decode cX11_feed 16 = .ok (.iload_n 1, 1) := by decide +kernel
theorem dX11_feed_17 : decode cX11_feed 17 = .ok (.invokevirtual 109, 3) := by decide +kernel
theorem dX11_feed_20 : decode cX11_feed 20 = .ok (.aload_n 0, 1) := by decide +kernel
theorem dX11_feed_21 : decode cX11_feed 21 = .ok (.iload_n 2, 1) := by decide +kernel
theorem dX11_feed_22 : decode cX11_feed 22 = .ok (.invokevirtual 109, 3) := by decide +kernel
theorem dX11_feed_25 : decode cX11_feed 25 = .ok (.aload_n 0, 1) := by decide +kernel
theorem dX11_feed_26 : decode cX11_feed 26 = .ok (.iload_n 3, 1) := by decide +kernel
theorem dX11_feed_27 : decode cX11_feed 27 = .ok (.invokevirtual 109, 3) := by decide +kernel
theorem dX11_feed_30 : decode cX11_feed 30 = .ok (.aload_n 0, 1) := by decide +kernel
theorem dX11_feed_31 : decode cX11_feed 31 = .ok (.iload 4, 2) := by decide +kernel
theorem dX11_feed_33 : decode cX11_feed 33 = .ok (.invokevirtual 109, 3) := by decide +kernel
theorem dX11_feed_36 : decode cX11_feed 36 = .ok (.aload_n 0, 1) := by decide +kernel
theorem dX11_feed_37 : decode cX11_feed 37 = .ok (.iload 5, 2) := by decide +kernel
theorem dX11_feed_39 : decode cX11_feed 39 = .ok (.invokevirtual 109, 3) := by decide +kernel
theorem dX11_feed_42 : decode cX11_feed 42 = .ok (.aload_n 0, 1) := by decide +kernel
theorem dX11_feed_43 : decode cX11_feed 43 = .ok (.getfield 16, 3) := by decide +kernel
theorem dX11_feed_46 : decode cX11_feed 46 = .ok (.ireturn, 1) := by decide +kernel
theorem dX11_end_0 : decode cX11_end 0 = .ok (.iload_n 1, 1) := by decide +kernel
theorem dX11_end_1 : decode cX11_end 1 = .ok (.ifCond .lt 11, 3) := by decide +kernel
theorem dX11_end_12 : decode cX11_end 12 = .ok (.iconst 0, 1) := by decide +kernel
theorem dX11_end_13 : decode cX11_end 13 = .ok (.ireturn, 1) := by decide +kernel
theorem dX11_end_4 : decode cX11_end 4 = .ok (.iload_n 1, 1) := by decide +kernel
theorem dX11_end_5 : decode cX11_end 5 = .ok (.aload_n 0, 1) := by decide +kernel
theorem dX11_end_6 : decode cX11_end 6 = .ok (.getfield 16, 3) := by decide +kernel
theorem dX11_end_9 : decode cX11_end 9 = .ok (.if_icmp .le 5, 3) := by decide +kernel
theorem dX11_end_14 : decode cX11_end 14 = .ok (.aload_n 0, 1) := by decide +kernel
theorem dX11_end_15 : decode cX11_end 15 = .ok (.iload_n 1, 1) := by decide +kernel
theorem dX11_end_16 : decode cX11_end 16 = .ok (.putfield 16, 3) := by decide +kernel
theorem dX11_end_19 : decode cX11_end 19 = .ok (.iconst 1, 1) := by decide +kernel
theorem dX11_end_20 : decode cX11_end 20 = .ok (.ireturn, 1) := by decide +kernel
theorem dX11_openTape_0 : decode cX11_openTape 0 = .ok (.aload_n 0, 1) := by decide +kernel
theorem dX11_openTape_1 : decode cX11_openTape 1 = .ok (.getfield 10, 3) := by decide +kernel
theorem dX11_openTape_4 : decode cX11_openTape 4 = .ok (.aload_n 0, 1) := by decide +kernel
theorem dX11_openTape_5 : decode cX11_openTape 5 = .ok (.getfield 16, 3) := by decide +kernel
theorem dX11_openTape_8 : decode cX11_openTape 8 = .ok (.iload_n 1, 1) := by decide +kernel
theorem dX11_openTape_9 : decode cX11_openTape 9 = .ok (.invokevirtual 137, 3) := by decide +kernel
theorem dX11_openTape_12 : decode cX11_openTape 12 = .ok (.aload_n 0, 1) := by decide +kernel
theorem dX11_openTape_13 : decode cX11_openTape 13 = .ok (.iconst 0, 1) := by decide +kernel
theorem dX11_openTape_14 : decode cX11_openTape 14 = .ok (.putfield 16, 3) := by decide +kernel
theorem dX11_openTape_17 : decode cX11_openTape 17 = .ok (.return_, 1) := by decide +kernel
theorem dX11_sea_0 : decode cX11_sea 0 = .ok (.aload_n 0, 1) := by decide +kernel
theorem dX11_sea_1 : decode cX11_sea 1 = .ok (.sipush 900, 3) := by decide +kernel
theorem dX11_sea_4 : decode cX11_sea 4 = .ok (.invokevirtual 116, 3) := by decide +kernel
theorem dX11_sea_7 : decode cX11_sea 7 = .ok (.aload_n 0, 1) := by decide +kernel
theorem dX11_sea_8 : decode cX11_sea 8 = .ok (.getfield 36, 3) := by decide +kernel
theorem dX11_sea_11 : decode cX11_sea 11 = .ok (.aload_n 0, 1) := by decide +kernel
theorem dX11_sea_12 : decode cX11_sea 12 = .ok (.getfield 10, 3) := by decide +kernel
theorem dX11_sea_15 : decode cX11_sea 15 = .ok (.aload_n 0, 1) := by decide +kernel
theorem dX11_sea_16 : decode cX11_sea 16 = .ok (.getfield 30, 3) := by decide +kernel
theorem dX11_sea_19 : decode cX11_sea 19 = .ok (.invokevirtual 119, 3) := by decide +kernel
theorem dX11_sea_22 : decode cX11_sea 22 = .ok (.istore_n 1, 1) := by decide +kernel
theorem dX11_sea_23 : decode cX11_sea 23 = .ok (.aload_n 0, 1) := by decide +kernel
theorem dX11_sea_24 : decode cX11_sea 24 = .ok (.aload_n 0, 1) := by decide +kernel
theorem dX11_sea_25 : decode cX11_sea 25 = .ok (.getfield 10, 3) := by decide +kernel
theorem dX11_sea_28 : decode cX11_sea 28 = .ok (.getfield 123, 3) := by decide +kernel
theorem dX11_sea_31 : decode cX11_sea 31 = .ok (.putfield 20, 3) := by decide +kernel
theorem dX11_sea_34 : decode cX11_sea 34 = .ok (.iload_n 1, 1) := by decide +kernel
theorem dX11_sea_35 : decode cX11_sea 35 = .ok (.iconst (-1), 1) := by decide +kernel
theorem dX11_sea_36 : decode cX11_sea 36 = .ok (.if_icmp .ne 13, 3) := by decide +kernel
theorem dX11_sea_49 : decode cX11_sea 49 = .ok (.aload_n 0, 1) := by decide +kernel
theorem dX11_sea_50 : decode cX11_sea 50 = .ok (.getfield 30, 3) := by decide +kernel
theorem dX11_sea_53 : decode cX11_sea 53 = .ok (.aload_n 0, 1) := by decide +kernel
theorem dX11_sea_54 : decode cX11_sea 54 = .ok (.getfield 26, 3) := by decide +kernel
theorem dX11_sea_57 : decode cX11_sea 57 = .ok (.invokestatic 129, 3) := by decide +kernel
theorem dX11_sea_60 : decode cX11_sea 60 = .ok (.aload_n 0, 1) := by decide +kernel
theorem dX11_sea_61 : decode cX11_sea 61 = .ok (.getfield 50, 3) := by decide +kernel
theorem dX11_sea_64 : decode cX11_sea 64 = .ok (.invokevirtual 133, 3) := by decide +kernel
theorem dX11_sea_67 : decode cX11_sea 67 = .ok (.aload_n 0, 1) := by decide +kernel
theorem dX11_sea_68 : decode cX11_sea 68 = .ok (.getfield 88, 3) := by decide +kernel
theorem dX11_sea_71 : decode cX11_sea 71 = .ok (.invokevirtual 136, 3) := by decide +kernel
theorem dX11_sea_74 : decode cX11_sea 74 = .ok (.iload_n 1, 1) := by decide +kernel
theorem dX11_sea_75 : decode cX11_sea 75 = .ok (.ireturn, 1) := by decide +kernel
theorem dX11_fault_0 : decode cX11_fault 0 = .ok (.aload_n 0, 1) := by decide +kernel
theorem dX11_fault_1 : decode cX11_fault 1 = .ok (.getfield 20, 3) := by decide +kernel
theorem dX11_fault_4 : decode cX11_fault 4 = .ok (.ireturn, 1) := by decide +kernel
theorem dX11_thick_0 : decode cX11_thick 0 = .ok (.aload_n 0, 1) := by decide +kernel
theorem dX11_thick_1 : decode cX11_thick 1 = .ok (.getfield 26, 3) := by decide +kernel
theorem dX11_thick_4 : decode cX11_thick 4 = .ok (.iload_n 1, 1) := by decide +kernel
theorem dX11_thick_5 : decode cX11_thick 5 = .ok (.iload_n 2, 1) := by decide +kernel
theorem dX11_thick_6 : decode cX11_thick 6 = .ok (.invokevirtual 141, 3) := by decide +kernel
theorem dX11_thick_9 : decode cX11_thick 9 = .ok (.ifCond .eq 19, 3) := by decide +kernel
theorem dX11_thick_28 : decode cX11_thick 28 = .ok (.iconst (-1), 1) := by decide +kernel
theorem dX11_thick_29 : decode cX11_thick 29 = .ok (.ireturn, 1) := by decide +kernel
theorem dX11_thick_12 : decode cX11_thick 12 = .ok (.aload_n 0, 1) := by decide +kernel
theorem dX11_thick_13 : decode cX11_thick 13 = .ok (.getfield 26, 3) := by decide +kernel
theorem dX11_thick_16 : decode cX11_thick 16 = .ok (.bipush 6, 2) := by decide +kernel
theorem dX11_thick_18 : decode cX11_thick 18 = .ok (.iload_n 2, 1) := by decide +kernel
theorem dX11_thick_19 : decode cX11_thick 19 = .ok (.imul, 1) := by decide +kernel
theorem dX11_thick_20 : decode cX11_thick 20 = .ok (.iload_n 1, 1) := by decide +kernel
theorem dX11_thick_21 : decode cX11_thick 21 = .ok (.iadd, 1) := by decide +kernel
theorem dX11_thick_22 : decode cX11_thick 22 = .ok (.invokevirtual 145, 3) := by decide +kernel
theorem dX11_thick_25 : decode cX11_thick 25 = .ok (.goto 4, 3) := by decide +kernel
theorem dX11_cost_0 : decode cX11_cost 0 = .ok (.aload_n 0, 1) := by decide +kernel
theorem dX11_cost_1 : decode cX11_cost 1 = .ok (.getfield 26, 3) := by decide +kernel
theorem dX11_cost_4 : decode cX11_cost 4 = .ok (.iload_n 1, 1) := by decide +kernel
theorem dX11_cost_5 : decode cX11_cost 5 = .ok (.iload_n 2, 1) := by decide +kernel
theorem dX11_cost_6 : decode cX11_cost 6 = .ok (.invokevirtual 141, 3) := by decide +kernel
theorem dX11_cost_9 : decode cX11_cost 9 = .ok (.ifCond .eq 19, 3) := by decide +kernel
theorem dX11_cost_28 : decode cX11_cost 28 = .ok (.iconst (-1), 1) := by decide +kernel
theorem dX11_cost_29 : decode cX11_cost 29 = .ok (.ireturn, 1) := by decide +kernel
theorem dX11_cost_12 : decode cX11_cost 12 = .ok (.aload_n 0, 1) := by decide +kernel
theorem dX11_cost_13 : decode cX11_cost 13 = .ok (.getfield 26, 3) := by decide +kernel
theorem dX11_cost_16 : decode cX11_cost 16 = .ok (.bipush 6, 2) := by decide +kernel
theorem dX11_cost_18 : decode cX11_cost 18 = .ok (.iload_n 2, 1) := by decide +kernel
theorem dX11_cost_19 : decode cX11_cost 19 = .ok (.imul, 1) := by decide +kernel
theorem dX11_cost_20 : decode cX11_cost 20 = .ok (.iload_n 1, 1) := by decide +kernel
theorem dX11_cost_21 : decode cX11_cost 21 = .ok (.iadd, 1) := by decide +kernel
theorem dX11_cost_22 : decode cX11_cost 22 = .ok (.invokevirtual 261, 3) := by decide +kernel
theorem dX11_cost_25 : decode cX11_cost 25 = .ok (.goto 4, 3) := by decide +kernel
theorem dX11_lump_0 : decode cX11_lump 0 = .ok (.aload_n 0, 1) := by decide +kernel
theorem dX11_lump_1 : decode cX11_lump 1 = .ok (.getfield 26, 3) := by decide +kernel
theorem dX11_lump_4 : decode cX11_lump 4 = .ok (.iload_n 1, 1) := by decide +kernel
theorem dX11_lump_5 : decode cX11_lump 5 = .ok (.invokevirtual 149, 3) := by decide +kernel
theorem dX11_lump_8 : decode cX11_lump 8 = .ok (.ifCond .eq 12, 3) := by decide +kernel
theorem dX11_lump_20 : decode cX11_lump 20 = .ok (.iconst (-1), 1) := by decide +kernel
theorem dX11_lump_21 : decode cX11_lump 21 = .ok (.ireturn, 1) := by decide +kernel
theorem dX11_now_0 : decode cX11_now 0 = .ok (.iload_n 1, 1) := by decide +kernel
theorem dX11_now_1 : decode cX11_now 1 = .ok (.tableswitch 119 0 7 #[47, 55, 63, 79, 87, 95, 103, 111], 47) := by decide +kernel
theorem dX11_now_120 : decode cX11_now 120 = .ok (.iconst (-1), 1) := by decide +kernel
theorem dX11_now_121 : decode cX11_now 121 = .ok (.ireturn, 1) := by decide +kernel
theorem dX11_now_48 : decode cX11_now 48 = .ok (.aload_n 0, 1) := by decide +kernel
theorem dX11_now_49 : decode cX11_now 49 = .ok (.getfield 26, 3) := by decide +kernel
theorem dX11_now_52 : decode cX11_now 52 = .ok (.getfield 171, 3) := by decide +kernel
theorem dX11_now_55 : decode cX11_now 55 = .ok (.ireturn, 1) := by decide +kernel
theorem dX11_now_56 : decode cX11_now 56 = .ok (.aload_n 0, 1) := by decide +kernel
theorem dX11_now_57 : decode cX11_now 57 = .ok (.getfield 26, 3) := by decide +kernel
theorem dX11_now_60 : decode cX11_now 60 = .ok (.getfield 174, 3) := by decide +kernel
theorem dX11_now_63 : decode cX11_now 63 = .ok (.ireturn, 1) := by decide +kernel
theorem dX11_now_64 : decode cX11_now 64 = .ok (.aload_n 0, 1) := by decide +kernel
theorem dX11_now_65 : decode cX11_now 65 = .ok (.getfield 26, 3) := by decide +kernel
theorem dX11_now_68 : decode cX11_now 68 = .ok (.invokevirtual 177, 3) := by decide +kernel
theorem dX11_now_71 : decode cX11_now 71 = .ok (.ifCond .eq 7, 3) := by decide +kernel
theorem dX11_now_78 : decode cX11_now 78 = .ok (.iconst 0, 1) := by decide +kernel
theorem dX11_now_79 : decode cX11_now 79 = .ok (.ireturn, 1) := by decide +kernel
theorem dX11_now_74 : decode cX11_now 74 = .ok (.iconst 1, 1) := by decide +kernel
theorem dX11_now_75 : decode cX11_now 75 = .ok (.goto 4, 3) := by decide +kernel
theorem dX11_now_80 : decode cX11_now 80 = .ok (.aload_n 0, 1) := by decide +kernel
theorem dX11_now_81 : decode cX11_now 81 = .ok (.getfield 26, 3) := by decide +kernel
theorem dX11_now_84 : decode cX11_now 84 = .ok (.invokevirtual 181, 3) := by decide +kernel
theorem dX11_now_87 : decode cX11_now 87 = .ok (.ireturn, 1) := by decide +kernel
theorem dX11_now_88 : decode cX11_now 88 = .ok (.aload_n 0, 1) := by decide +kernel
theorem dX11_now_89 : decode cX11_now 89 = .ok (.getfield 26, 3) := by decide +kernel
theorem dX11_now_92 : decode cX11_now 92 = .ok (.invokevirtual 185, 3) := by decide +kernel
theorem dX11_now_95 : decode cX11_now 95 = .ok (.ireturn, 1) := by decide +kernel
theorem dX11_now_96 : decode cX11_now 96 = .ok (.aload_n 0, 1) := by decide +kernel
theorem dX11_now_97 : decode cX11_now 97 = .ok (.getfield 26, 3) := by decide +kernel
theorem dX11_now_100 : decode cX11_now 100 = .ok (.invokevirtual 188, 3) := by decide +kernel
theorem dX11_now_103 : decode cX11_now 103 = .ok (.ireturn, 1) := by decide +kernel
theorem dX11_now_104 : decode cX11_now 104 = .ok (.aload_n 0, 1) := by decide +kernel
theorem dX11_now_105 : decode cX11_now 105 = .ok (.getfield 26, 3) := by decide +kernel
theorem dX11_now_108 : decode cX11_now 108 = .ok (.getfield 191, 3) := by decide +kernel
theorem dX11_now_111 : decode cX11_now 111 = .ok (.ireturn, 1) := by decide +kernel
theorem dX11_now_112 : decode cX11_now 112 = .ok (.aload_n 0, 1) := by decide +kernel
theorem dX11_now_113 : decode cX11_now 113 = .ok (.getfield 26, 3) := by decide +kernel
theorem dX11_now_116 : decode cX11_now 116 = .ok (.getfield 194, 3) := by decide +kernel
theorem dX11_now_119 : decode cX11_now 119 = .ok (.ireturn, 1) := by decide +kernel
theorem dX11_count_0 : decode cX11_count 0 = .ok (.iload_n 1, 1) := by decide +kernel
theorem dX11_count_1 : decode cX11_count 1 = .ok (.tableswitch 96 0 6 #[43, 51, 59, 67, 75, 83, 91], 43) := by decide +kernel
theorem dX11_count_97 : decode cX11_count 97 = .ok (.iconst (-1), 1) := by decide +kernel
theorem dX11_count_98 : decode cX11_count 98 = .ok (.ireturn, 1) := by decide +kernel
theorem dX11_count_44 : decode cX11_count 44 = .ok (.aload_n 0, 1) := by decide +kernel
theorem dX11_count_45 : decode cX11_count 45 = .ok (.getfield 26, 3) := by decide +kernel
theorem dX11_count_48 : decode cX11_count 48 = .ok (.getfield 197, 3) := by decide +kernel
theorem dX11_count_51 : decode cX11_count 51 = .ok (.ireturn, 1) := by decide +kernel
theorem dX11_count_52 : decode cX11_count 52 = .ok (.aload_n 0, 1) := by decide +kernel
theorem dX11_count_53 : decode cX11_count 53 = .ok (.getfield 26, 3) := by decide +kernel
theorem dX11_count_56 : decode cX11_count 56 = .ok (.getfield 200, 3) := by decide +kernel
theorem dX11_count_59 : decode cX11_count 59 = .ok (.ireturn, 1) := by decide +kernel
theorem dX11_count_60 : decode cX11_count 60 = .ok (.aload_n 0, 1) := by decide +kernel
theorem dX11_count_61 : decode cX11_count 61 = .ok (.getfield 26, 3) := by decide +kernel
theorem dX11_count_64 : decode cX11_count 64 = .ok (.getfield 203, 3) := by decide +kernel
theorem dX11_count_67 : decode cX11_count 67 = .ok (.ireturn, 1) := by decide +kernel
theorem dX11_count_68 : decode cX11_count 68 = .ok (.aload_n 0, 1) := by decide +kernel
theorem dX11_count_69 : decode cX11_count 69 = .ok (.getfield 26, 3) := by decide +kernel
theorem dX11_count_72 : decode cX11_count 72 = .ok (.getfield 206, 3) := by decide +kernel
theorem dX11_count_75 : decode cX11_count 75 = .ok (.ireturn, 1) := by decide +kernel
theorem dX11_count_76 : decode cX11_count 76 = .ok (.aload_n 0, 1) := by decide +kernel
theorem dX11_count_77 : decode cX11_count 77 = .ok (.getfield 26, 3) := by decide +kernel
theorem dX11_count_80 : decode cX11_count 80 = .ok (.getfield 209, 3) := by decide +kernel
theorem dX11_count_83 : decode cX11_count 83 = .ok (.ireturn, 1) := by decide +kernel
theorem dX11_count_84 : decode cX11_count 84 = .ok (.aload_n 0, 1) := by decide +kernel
theorem dX11_count_85 : decode cX11_count 85 = .ok (.getfield 26, 3) := by decide +kernel
theorem dX11_count_88 : decode cX11_count 88 = .ok (.getfield 212, 3) := by decide +kernel
theorem dX11_count_91 : decode cX11_count 91 = .ok (.ireturn, 1) := by decide +kernel
theorem dX11_count_92 : decode cX11_count 92 = .ok (.aload_n 0, 1) := by decide +kernel
theorem dX11_count_93 : decode cX11_count 93 = .ok (.getfield 16, 3) := by decide +kernel
theorem dX11_count_96 : decode cX11_count 96 = .ok (.ireturn, 1) := by decide +kernel
set_option maxRecDepth 20000 in
theorem ggX11_feed_X11_putBytes : GoodIn wsX11_feed wsX11_putBytes := goodIn_r _ [6, 1, 7, 8, 9, 10, 11, 12, 13, 14, 15, 16, 17, 18, 19, 20, 21, 22, 23, 24, 25, 26, 27, 28, 29, 30, 31, 32, 33, 34, 35, 36, 37] (by decide +kernel) (by decide +kernel)
set_option maxRecDepth 20000 in
theorem ggX11_openTape_X5_open : GoodIn wsX11_openTape wsX5_open := goodIn_r _ [7, 8, 9, 10, 11, 12, 13, 14, 15, 16, 17, 18, 19, 6, 20, 21, 22, 23, 24, 25, 26, 27, 28, 29, 30, 31, 32, 33, 34, 35, 36, 37, 38, 39, 40, 41, 42, 43, 44, 45, 46, 47, 48, 49, 50, 51, 52, 53, 54, 55, 56, 57, 58, 59, 60, 61, 62, 63, 64, 65, 66, 67, 68, 69, 70, 71, 72, 73, 74, 75, 76, 77, 78, 79, 80, 81, 82, 83, 84, 85, 86, 87, 88, 89, 90, 91, 92, 93, 112, 113, 114, 115, 116, 117, 118, 119, 120, 121, 122] (by decide +kernel) (by decide +kernel)
set_option maxRecDepth 20000 in
theorem ggX11_sea_X11_openTape : GoodIn wsX11_sea wsX11_openTape := goodIn_r _ [14, 2, 15, 16, 17, 18, 19, 20, 21, 22, 23, 24, 25, 26, 27, 28, 29, 30, 31, 32, 33, 34, 35, 36, 37, 38, 39, 40, 41, 42, 43, 44, 45, 46, 47, 48, 49, 50, 51, 52, 53, 54, 55, 56, 57, 58, 59, 60, 61, 62, 63, 64, 65, 66, 67, 68, 69, 70, 71, 72, 73, 74, 75, 76, 77, 78, 79, 80, 81, 82, 83, 84, 85, 86, 87, 88, 89, 90, 91, 92, 93, 94, 95, 96, 97, 98, 99, 100, 101, 102, 103, 104, 105, 106, 243, 244, 245, 246, 247, 248, 249, 250, 251, 252, 253, 254, 255, 256, 257, 258, 259, 260, 261, 262, 263, 264, 265, 266, 267, 268, 269, 270, 271] (by decide +kernel) (by decide +kernel)
set_option maxRecDepth 20000 in
theorem ggX11_sea_X8_read : GoodIn wsX11_sea wsX8_read := goodIn_r _ [111, 112, 113, 114, 115, 116, 117, 118, 119, 120, 121, 122, 123, 124, 125, 126, 127, 128, 129, 130, 131, 132, 19, 133, 36, 134, 135, 136, 110, 137, 138, 139, 140, 141, 142, 143, 35, 144, 145, 146, 147, 28, 29, 148, 31, 32, 33, 27, 25, 34, 26, 37, 38, 39, 40, 41, 42, 43, 44, 45, 46, 47, 48, 49, 50, 51, 52, 53, 54, 55, 56, 57, 58, 59, 60, 61, 62, 63, 64, 65, 66, 67, 68, 69, 70, 71, 72, 73, 74, 75, 76, 77, 78, 79, 80, 81, 82, 83, 84, 85, 86, 87, 88, 89, 90, 91, 92, 93, 94, 95, 96, 97, 98, 99, 100, 101, 102, 103, 104, 105, 106, 149, 150, 151, 152, 153, 30, 154, 155, 156, 157, 158, 159, 160, 161, 162, 163, 164, 165, 166, 167, 168, 169, 170, 171, 172, 173, 174, 175, 176, 177, 178, 179, 180, 181, 182, 183, 184, 185, 186, 187, 188, 189, 190, 191, 192, 193, 194, 195, 196, 197, 198, 199, 200, 201, 202, 203, 204, 205, 206, 207, 208, 209, 210, 211, 212, 213, 214, 215, 216, 217, 218, 219, 220, 221, 222, 272, 261, 262, 263, 264, 265, 266, 267, 268, 269, 270, 271, 273, 274, 275, 276, 277, 278, 279, 280, 281, 282, 283, 284, 285, 286, 287, 288, 289, 290, 291] (by decide +kernel) (by decide +kernel)
set_option maxRecDepth 20000 in
theorem ggX11_sea_X7_copy : GoodIn wsX11_sea wsX7_copy := goodIn_r _ [225, 119, 120, 121, 122, 123, 124, 125, 126, 127, 128, 129, 226, 227, 228, 229, 188, 172, 193, 207, 208, 209, 210, 211, 273, 274, 275, 276, 277, 278, 279, 280, 281, 282, 283, 284, 285, 286, 287, 288, 289, 290, 291] (by decide +kernel) (by decide +kernel)
set_option maxRecDepth 20000 in
theorem ggX11_sea_X9_forget : GoodIn wsX11_sea wsX9_forget := goodIn_r _ [234, 235, 236, 292, 293, 294] (by decide +kernel) (by decide +kernel)
set_option maxRecDepth 20000 in
theorem ggX11_sea_X2_forget : GoodIn wsX11_sea wsX2_forget := goodIn_r _ [241, 242, 295, 296, 297] (by decide +kernel) (by decide +kernel)
set_option maxRecDepth 20000 in
theorem ggX11_thick_X7_isCell : GoodIn wsX11_thick wsX7_isCell := goodIn_r _ [6, 7, 8, 32, 33, 34, 35, 36, 37, 38, 39, 40, 41, 42, 43, 44, 45, 46, 47, 48, 49, 50] (by decide +kernel) (by decide +kernel)
set_option maxRecDepth 20000 in
theorem ggX11_thick_X7_thicknessIn : GoodIn wsX11_thick wsX7_thicknessIn := goodIn_r _ [12, 13, 32, 33, 34, 35, 36, 37, 38, 39, 40, 41, 42, 43, 44, 45, 46, 47, 48, 49, 50] (by decide +kernel) (by decide +kernel)
set_option maxRecDepth 20000 in
theorem ggX11_cost_X7_isCell : GoodIn wsX11_cost wsX7_isCell := goodIn_r _ [6, 7, 8, 42, 43, 44, 45, 46, 47, 48, 49, 50, 51, 52, 53, 54, 55, 56, 57, 58, 59, 60] (by decide +kernel) (by decide +kernel)
set_option maxRecDepth 20000 in
theorem ggX11_cost_X7_stepCost : GoodIn wsX11_cost wsX7_stepCost := goodIn_r _ [12, 13, 14, 15, 5, 16, 17, 18, 19, 20, 21, 22, 23, 42, 43, 44, 45, 46, 47, 48, 49, 50, 51, 52, 53, 54, 55, 56, 57, 58, 59, 60] (by decide +kernel) (by decide +kernel)
set_option maxRecDepth 20000 in
theorem ggX11_lump_X7_isLump : GoodIn wsX11_lump wsX7_isLump := goodIn_r _ [7, 8, 27, 28, 29, 30, 31, 32, 33, 34, 35, 36, 37, 38, 39, 40, 41, 42, 43, 44, 45] (by decide +kernel) (by decide +kernel)
set_option maxRecDepth 20000 in
theorem ggX11_now_X7_hasSkin : GoodIn wsX11_now wsX7_hasSkin := goodIn_r _ [10, 11, 12, 75, 76, 77, 78, 79, 80, 81, 82, 83, 84, 85, 86, 87, 88, 89, 90, 91, 92, 93] (by decide +kernel) (by decide +kernel)
set_option maxRecDepth 20000 in
theorem ggX11_now_X7_eatenBits : GoodIn wsX11_now wsX7_eatenBits := goodIn_r _ [16, 17, 18, 19, 20, 9, 21, 22, 23, 24, 25, 26, 75, 76, 77, 78, 79, 80, 81, 82, 83, 84, 85, 86, 87, 88, 89, 90, 91, 92, 93] (by decide +kernel) (by decide +kernel)
set_option maxRecDepth 20000 in
theorem ggX11_now_X7_afloatBits : GoodIn wsX11_now wsX7_afloatBits := goodIn_r _ [30, 17, 31, 32, 33, 9, 34, 35, 23, 24, 25, 26, 18, 19, 20, 21, 22, 36, 37, 38, 39, 40, 41, 7, 8, 10, 11, 12, 42, 43, 44, 45, 46, 47, 48, 49, 50, 51, 52, 75, 76, 77, 78, 79, 80, 81, 82, 83, 84, 85, 86, 87, 88, 89, 90, 91, 92, 93] (by decide +kernel) (by decide +kernel)
set_option maxRecDepth 20000 in
theorem ggX11_now_X7_allThickness : GoodIn wsX11_now wsX7_allThickness := goodIn_r _ [56, 52, 75, 76, 77, 78, 79, 80, 81, 82, 83, 84, 85, 86, 87, 88, 89, 90, 91, 92, 93] (by decide +kernel) (by decide +kernel)
set_option maxRecDepth 20000 in
theorem gX11_feed_X11_putBytes : GoodIn wsX11_feed (wsV RX11 109 RX11 yX11_putBytes wsX11_putBytes) := goodIn_app (goodIn_of _ (by decide +kernel)) ggX11_feed_X11_putBytes
set_option maxRecDepth 20000 in
theorem gX11_openTape_X5_open : GoodIn wsX11_openTape (wsV RX11 137 RX5 yX5_open wsX5_open) := goodIn_app (goodIn_of _ (by decide +kernel)) ggX11_openTape_X5_open
set_option maxRecDepth 20000 in
theorem gX11_sea_X11_openTape : GoodIn wsX11_sea (wsV RX11 116 RX11 yX11_openTape wsX11_openTape) := goodIn_app (goodIn_of _ (by decide +kernel)) ggX11_sea_X11_openTape
set_option maxRecDepth 20000 in
theorem gX11_sea_X8_read : GoodIn wsX11_sea (wsV RX11 119 RX8 yX8_read wsX8_read) := goodIn_app (goodIn_of _ (by decide +kernel)) ggX11_sea_X8_read
set_option maxRecDepth 20000 in
theorem gX11_sea_X7_copy : GoodIn wsX11_sea (va_wsS RX11 129 yX7_copy wsX7_copy) := goodIn_app (goodIn_of _ (by decide +kernel)) ggX11_sea_X7_copy
set_option maxRecDepth 20000 in
theorem gX11_sea_X9_forget : GoodIn wsX11_sea (wsV RX11 133 RX9 yX9_forget wsX9_forget) := goodIn_app (goodIn_of _ (by decide +kernel)) ggX11_sea_X9_forget
set_option maxRecDepth 20000 in
theorem gX11_sea_X2_forget : GoodIn wsX11_sea (wsV RX11 136 RX2 yX2_forget wsX2_forget) := goodIn_app (goodIn_of _ (by decide +kernel)) ggX11_sea_X2_forget
set_option maxRecDepth 20000 in
theorem gX11_thick_X7_isCell : GoodIn wsX11_thick (wsV RX11 141 RX7 yX7_isCell wsX7_isCell) := goodIn_app (goodIn_of _ (by decide +kernel)) ggX11_thick_X7_isCell
set_option maxRecDepth 20000 in
theorem gX11_thick_X7_thicknessIn : GoodIn wsX11_thick (wsV RX11 145 RX7 yX7_thicknessIn wsX7_thicknessIn) := goodIn_app (goodIn_of _ (by decide +kernel)) ggX11_thick_X7_thicknessIn
set_option maxRecDepth 20000 in
theorem gX11_cost_X7_isCell : GoodIn wsX11_cost (wsV RX11 141 RX7 yX7_isCell wsX7_isCell) := goodIn_app (goodIn_of _ (by decide +kernel)) ggX11_cost_X7_isCell
set_option maxRecDepth 20000 in
theorem gX11_cost_X7_stepCost : GoodIn wsX11_cost (wsV RX11 261 RX7 yX7_stepCost wsX7_stepCost) := goodIn_app (goodIn_of _ (by decide +kernel)) ggX11_cost_X7_stepCost
set_option maxRecDepth 20000 in
theorem gX11_lump_X7_isLump : GoodIn wsX11_lump (wsV RX11 149 RX7 yX7_isLump wsX7_isLump) := goodIn_app (goodIn_of _ (by decide +kernel)) ggX11_lump_X7_isLump
set_option maxRecDepth 20000 in
theorem gX11_now_X7_hasSkin : GoodIn wsX11_now (wsV RX11 177 RX7 yX7_hasSkin wsX7_hasSkin) := goodIn_app (goodIn_of _ (by decide +kernel)) ggX11_now_X7_hasSkin
set_option maxRecDepth 20000 in
theorem gX11_now_X7_eatenBits : GoodIn wsX11_now (wsV RX11 181 RX7 yX7_eatenBits wsX7_eatenBits) := goodIn_app (goodIn_of _ (by decide +kernel)) ggX11_now_X7_eatenBits
set_option maxRecDepth 20000 in
theorem gX11_now_X7_afloatBits : GoodIn wsX11_now (wsV RX11 185 RX7 yX7_afloatBits wsX7_afloatBits) := goodIn_app (goodIn_of _ (by decide +kernel)) ggX11_now_X7_afloatBits
set_option maxRecDepth 20000 in
theorem gX11_now_X7_allThickness : GoodIn wsX11_now (wsV RX11 188 RX7 yX7_allThickness wsX7_allThickness) := goodIn_app (goodIn_of _ (by decide +kernel)) ggX11_now_X7_allThickness
set_option maxHeartbeats 4000000 in
set_option maxRecDepth 100000 in
theorem c_putBytes (l : Launch) (dC : Nat → ClassId) (dI : Nat → Nat → Nat) (ky : Nat → ClassId) (sz : Nat) (t : Nat) (n : Nat) (reader : Nat) (sea : Nat) (spareSea : Nat) (seaText : Nat) (book : Nat) (sentence : Nat) (spareSentence : Nat) (route : Nat) (meeting : Nat) (sighting : Nat) (draws : Nat) (history : Nat) (images : Nat) (chartBytes : Nat) (tape : Nat) (tapeF : Nat → Int32) (four : Int32) (rlength : Int32) (rmostBytes : Int32) (rplace : Int32) (rkind : Int32) (rbegin : Int32) (rword : Int32) (rnumber : Int32) (rletters : Int64) (rfaultKind : Int32) (rfaultPlace : Int32) (hn : n + 4 ≤ 940) : Met l yX11_putBytes wsX11_putBytes ({ frames := 0, cells := 0, slots := 0, locals := 0 }) (PcU dC dI ky [.ref t, .int four] [(t, .inr (11, [.ref reader, .int (nI n), .int (nI 0), .ref sea, .ref spareSea, .ref seaText, .ref book, .ref sentence, .ref spareSentence, .ref route, .ref meeting, .ref sighting, .ref draws, .ref history, .ref images, .ref chartBytes, .int (nI 0), .int (-1 : Int32)])), (reader, .inr (5, [.ref tape, .int rlength, .int rmostBytes, .int rplace, .int rkind, .int rbegin, .int rword, .int rnumber, .long rletters, .int rfaultKind, .int rfaultPlace])), (tape, .inl (ky 2, 940, .inl tapeF))] sz) (va_Qv (fun (tapeG : (Nat → Int32)) => True) (BU dC dI ky (fun (tapeG : (Nat → Int32)) => [(t, .inr (11, [.ref reader, .int (nI (n + 4)), .int (nI 0), .ref sea, .ref spareSea, .ref seaText, .ref book, .ref sentence, .ref spareSentence, .ref route, .ref meeting, .ref sighting, .ref draws, .ref history, .ref images, .ref chartBytes, .int (nI 0), .int (-1 : Int32)])), (reader, .inr (5, [.ref tape, .int rlength, .int rmostBytes, .int rplace, .int rkind, .int rbegin, .int rword, .int rnumber, .long rletters, .int rfaultKind, .int rfaultPlace])), (tape, .inl (ky 2, 940, .inl tapeG))]) (va_A [(t, .inr (11, [.ref reader, .int (nI n), .int (nI 0), .ref sea, .ref spareSea, .ref seaText, .ref book, .ref sentence, .ref spareSentence, .ref route, .ref meeting, .ref sighting, .ref draws, .ref history, .ref images, .ref chartBytes, .int (nI 0), .int (-1 : Int32)])), (reader, .inr (5, [.ref tape, .int rlength, .int rmostBytes, .int rplace, .int rkind, .int rbegin, .int rword, .int rnumber, .long rletters, .int rfaultKind, .int rfaultPlace])), (tape, .inl (ky 2, 940, .inl tapeF))] sz)) (va_A [(t, .inr (11, [.ref reader, .int (nI n), .int (nI 0), .ref sea, .ref spareSea, .ref seaText, .ref book, .ref sentence, .ref spareSentence, .ref route, .ref meeting, .ref sighting, .ref draws, .ref history, .ref images, .ref chartBytes, .int (nI 0), .int (-1 : Int32)])), (reader, .inr (5, [.ref tape, .int rlength, .int rmostBytes, .int rplace, .int rkind, .int rbegin, .int rword, .int rnumber, .long rletters, .int rfaultKind, .int rfaultPlace])), (tape, .inl (ky 2, 940, .inl tapeF))] sz)) 0 0 (va_A [(t, .inr (11, [.ref reader, .int (nI n), .int (nI 0), .ref sea, .ref spareSea, .ref seaText, .ref book, .ref sentence, .ref spareSentence, .ref route, .ref meeting, .ref sighting, .ref draws, .ref history, .ref images, .ref chartBytes, .int (nI 0), .int (-1 : Int32)])), (reader, .inr (5, [.ref tape, .int rlength, .int rmostBytes, .int rplace, .int rkind, .int rbegin, .int rword, .int rnumber, .long rletters, .int rfaultKind, .int rfaultPlace])), (tape, .inl (ky 2, 940, .inl tapeF))] sz) := by
  refine Met.ofW (cc := cX11_putBytes) (maxL := 3) (ret := none) (by decide) rfl ?_
  intro p e s m args below meth c s₁ B hml hv
  obtain ⟨rfl, hsz, hP, hK, hD0⟩ := hv
  have hx := B.exec
  have hb := B.bytes
  have hr := B.returns
  have hts := atoms_spec (ws := wsX11_putBytes) B.pre
  have hown : s.vm.findClass RX11 = some m.cls := findClass_of_methodNamed B.named
  have hlocks := B.notSynchronized
  have hin5 : ∀ w ∈ u_ws RX5 TX5 11, w ∈ wsX11_putBytes := by decide +kernel
  have hin11 : ∀ w ∈ u_ws RX11 TX11 18, w ∈ wsX11_putBytes := by decide +kernel
  subst hsz
  have hD := hD0.self (sz := s.heap.size)
  generalize hAe : va_A [(t, .inr (11, [.ref reader, .int (nI n), .int (nI 0), .ref sea, .ref spareSea, .ref seaText, .ref book, .ref sentence, .ref spareSentence, .ref route, .ref meeting, .ref sighting, .ref draws, .ref history, .ref images, .ref chartBytes, .int (nI 0), .int (-1 : Int32)])), (reader, .inr (5, [.ref tape, .int rlength, .int rmostBytes, .int rplace, .int rkind, .int rbegin, .int rword, .int rnumber, .long rletters, .int rfaultKind, .int rfaultPlace])), (tape, .inl (ky 2, 940, .inl tapeF))] s.heap.size = A at hD ⊢
  have hA : ∀ q : Nat, s.heap.size ≤ q → A q := fun q h => by rw [← hAe]; exact Or.inr h
  have hS : va_S A s.heap s.heap [] := va_S.rf
  have hP : va_P (dC, dI) vwCl [(t, .inr (11, [.ref reader, .int (nI n), .int (nI 0), .ref sea, .ref spareSea, .ref seaText, .ref book, .ref sentence, .ref spareSentence, .ref route, .ref meeting, .ref sighting, .ref draws, .ref history, .ref images, .ref chartBytes, .int (nI 0), .int (-1 : Int32)])), (reader, .inr (5, [.ref tape, .int rlength, .int rmostBytes, .int rplace, .int rkind, .int rbegin, .int rword, .int rnumber, .long rletters, .int rfaultKind, .int rfaultPlace])), (tape, .inl (ky 2, 940, .inl tapeF))] s.heap := hP
  have hl := lv_entry ([.ref t, .int four]) (n := 3) (Nat.le_of_ble_eq_true rfl)
  rw [lg_entry_eq]
  generalize (lg_sl ([.ref t, .int four]) ++ List.replicate (3 - (lg_sl ([.ref t, .int four])).length) Slot.unset).toArray = ls at hl ⊢
  have hl : lv_has ls 3 [(0, .ref t), (1, .int four)] := hl
  have hH0 : True := trivial
  refine lv_bipush (v := nI 24) hx hb dX11_putBytes_0 (by decide) ?_
  refine lv_istore_n (lv' := [(2, .int (nI 24)), (0, .ref t), (1, .int four)]) hx hb dX11_putBytes_2 rfl hl (by decide) rfl (fun ls hl => ?_)
  refine lv_iload_n hx hb dX11_putBytes_3 rfl (lv_at hl 0 rfl) ?_
  refine lv_if_lt (tgt := 49) hx hb dX11_putBytes_4 (by decide) (fun c1 => absurd c1 (by decide)) (fun c1 => ?_)
  refine lv_aload_n hx hb dX11_putBytes_7 rfl (lv_at hl 1 rfl) ?_
  refine va_get (D := (dC, dI)) (ci := 11) (v := .int (nI n)) (C := RX11) (T := TX11) (N := 18) hx hb hts hin11 hown hK hP 0 rfl rfl 1 (by decide) (hts (.fieldLink RX11 16 "PorridgeSea" "tapeLength" "I") (List.mem_of_getElem? (i := 1) rfl)) (fun _ h9 => h9) rfl dX11_putBytes_8 ?_
  refine lv_sipush (v := nI 940) hx hb dX11_putBytes_11 (by decide) ?_
  refine n_icmp_ge (x := n) (y := 940) (tgt := 49) hx hb (by omega) (by omega) dX11_putBytes_14 (by decide) (fun c2 => by exfalso; omega) (fun c2 => ?_)
  refine lv_aload_n hx hb dX11_putBytes_17 rfl (lv_at hl 1 rfl) ?_
  refine va_get (D := (dC, dI)) (ci := 11) (v := .ref reader) (C := RX11) (T := TX11) (N := 18) hx hb hts hin11 hown hK hP 0 rfl rfl 0 (by decide) (hts (.fieldLink RX11 10 "PorridgeSea" "reader" "LPorridgeSea$Reader;") (List.mem_of_getElem? (i := 2) rfl)) (fun _ h9 => h9) rfl dX11_putBytes_18 ?_
  refine va_get (D := (dC, dI)) (ci := 5) (v := .ref tape) (C := RX5) (T := TX5) (N := 11) hx hb hts hin5 hown hK hP 1 rfl rfl 0 (by decide) (hts (.fieldLink RX11 113 "PorridgeSea$Reader" "tape" "[B") (List.mem_of_getElem? (i := 3) rfl)) (fun _ h9 => h9) rfl dX11_putBytes_21 ?_
  refine lv_aload_n hx hb dX11_putBytes_24 rfl (lv_at hl 1 rfl) ?_
  refine va_get (D := (dC, dI)) (ci := 11) (v := .int (nI n)) (C := RX11) (T := TX11) (N := 18) hx hb hts hin11 hown hK hP 0 rfl rfl 1 (by decide) (hts (.fieldLink RX11 16 "PorridgeSea" "tapeLength" "I") (List.mem_of_getElem? (i := 1) rfl)) (fun _ h9 => h9) rfl dX11_putBytes_25 ?_
  refine lv_iload_n hx hb dX11_putBytes_28 rfl (lv_at hl 2 rfl) ?_
  refine lv_iload_n hx hb dX11_putBytes_29 rfl (lv_at hl 0 rfl) ?_
  refine lv_iushr hx hb dX11_putBytes_30 rfl ?_
  refine lv_topi (fun y3 e4 => ?_)
  refine lv_i2b (v := (y3).toInt8.toInt32) hx hb dX11_putBytes_31 rfl ?_
  refine lv_topi (fun y5 e6 => ?_)
  refine r_bast (x := y5) hx hb hK hP hD hS 2 rfl n (by omega) (by decide) dX11_putBytes_32 (fun H locs hP hD hS => ?_)
  obtain ⟨g7, e8⟩ : ∃ z9, z9 = upd tapeF n (vp_nar .byte y5) := ⟨_, rfl⟩
  rw [← e8] at hP hD
  have hP : va_P (dC, dI) vwCl [(t, .inr (11, [.ref reader, .int (nI n), .int (nI 0), .ref sea, .ref spareSea, .ref seaText, .ref book, .ref sentence, .ref spareSentence, .ref route, .ref meeting, .ref sighting, .ref draws, .ref history, .ref images, .ref chartBytes, .int (nI 0), .int (-1 : Int32)])), (reader, .inr (5, [.ref tape, .int rlength, .int rmostBytes, .int rplace, .int rkind, .int rbegin, .int rword, .int rnumber, .long rletters, .int rfaultKind, .int rfaultPlace])), (tape, .inl (ky 2, 940, .inl g7))] H := hP
  have hD : va_D A [(t, .inr (11, [.ref reader, .int (nI n), .int (nI 0), .ref sea, .ref spareSea, .ref seaText, .ref book, .ref sentence, .ref spareSentence, .ref route, .ref meeting, .ref sighting, .ref draws, .ref history, .ref images, .ref chartBytes, .int (nI 0), .int (-1 : Int32)])), (reader, .inr (5, [.ref tape, .int rlength, .int rmostBytes, .int rplace, .int rkind, .int rbegin, .int rword, .int rnumber, .long rletters, .int rfaultKind, .int rfaultPlace])), (tape, .inl (ky 2, 940, .inl g7))] := hD
  refine lv_aload_n hx hb dX11_putBytes_33 rfl (lv_at hl 1 rfl) ?_
  refine lv_dup hx hb dX11_putBytes_34 rfl ?_
  refine va_get (D := (dC, dI)) (ci := 11) (v := .int (nI n)) (C := RX11) (T := TX11) (N := 18) hx hb hts hin11 hown hK hP 0 rfl rfl 1 (by decide) (hts (.fieldLink RX11 16 "PorridgeSea" "tapeLength" "I") (List.mem_of_getElem? (i := 1) rfl)) (fun _ h9 => h9) rfl dX11_putBytes_35 ?_
  refine lv_iconst (v := nI 1) hx hb dX11_putBytes_38 (by decide) ?_
  refine lv_iadd hx hb dX11_putBytes_39 ?_
  refine r_ti (nI (n + 1)) (nI_add _ _) ?_
  refine va_put (D := (dC, dI)) (ci := 11) (v := .int (nI (n + 1))) (ty := .int) (C := RX11) (T := TX11) (N := 18) hx hb hts hin11 tyX11 tyX11_ok nmX11 hown hK hP hD hS 0 rfl rfl 1 (by decide) (hts (.fieldLink RX11 16 "PorridgeSea" "tapeLength" "I") (List.mem_of_getElem? (i := 1) rfl)) (fun _ h9 => h9) rfl (by decide +kernel) rfl rfl (Nat.le_of_ble_eq_true rfl) dX11_putBytes_40 (fun H locs hP hD hS => ?_)
  have hP : va_P (dC, dI) vwCl [(t, .inr (11, [.ref reader, .int (nI (n + 1)), .int (nI 0), .ref sea, .ref spareSea, .ref seaText, .ref book, .ref sentence, .ref spareSentence, .ref route, .ref meeting, .ref sighting, .ref draws, .ref history, .ref images, .ref chartBytes, .int (nI 0), .int (-1 : Int32)])), (reader, .inr (5, [.ref tape, .int rlength, .int rmostBytes, .int rplace, .int rkind, .int rbegin, .int rword, .int rnumber, .long rletters, .int rfaultKind, .int rfaultPlace])), (tape, .inl (ky 2, 940, .inl g7))] H := hP
  have hD : va_D A [(t, .inr (11, [.ref reader, .int (nI (n + 1)), .int (nI 0), .ref sea, .ref spareSea, .ref seaText, .ref book, .ref sentence, .ref spareSentence, .ref route, .ref meeting, .ref sighting, .ref draws, .ref history, .ref images, .ref chartBytes, .int (nI 0), .int (-1 : Int32)])), (reader, .inr (5, [.ref tape, .int rlength, .int rmostBytes, .int rplace, .int rkind, .int rbegin, .int rword, .int rnumber, .long rletters, .int rfaultKind, .int rfaultPlace])), (tape, .inl (ky 2, 940, .inl g7))] := hD
  refine lv_iinc (v := nI 16) (lv' := [(2, .int (nI 16)), (0, .ref t), (1, .int four)]) hx hb dX11_putBytes_43 hl (k := 0) rfl (by decide) (by decide) rfl (fun ls hl => ?_)
  refine lv_goto (tgt := 3) hx hb dX11_putBytes_46 (by decide) ?_
  refine lv_iload_n hx hb dX11_putBytes_3 rfl (lv_at hl 0 rfl) ?_
  refine lv_if_lt (tgt := 49) hx hb dX11_putBytes_4 (by decide) (fun c9 => absurd c9 (by decide)) (fun c9 => ?_)
  refine lv_aload_n hx hb dX11_putBytes_7 rfl (lv_at hl 1 rfl) ?_
  refine va_get (D := (dC, dI)) (ci := 11) (v := .int (nI (n + 1))) (C := RX11) (T := TX11) (N := 18) hx hb hts hin11 hown hK hP 0 rfl rfl 1 (by decide) (hts (.fieldLink RX11 16 "PorridgeSea" "tapeLength" "I") (List.mem_of_getElem? (i := 1) rfl)) (fun _ h9 => h9) rfl dX11_putBytes_8 ?_
  refine lv_sipush (v := nI 940) hx hb dX11_putBytes_11 (by decide) ?_
  refine n_icmp_ge (x := (n + 1)) (y := 940) (tgt := 49) hx hb (by omega) (by omega) dX11_putBytes_14 (by decide) (fun c10 => by exfalso; omega) (fun c10 => ?_)
  refine lv_aload_n hx hb dX11_putBytes_17 rfl (lv_at hl 1 rfl) ?_
  refine va_get (D := (dC, dI)) (ci := 11) (v := .ref reader) (C := RX11) (T := TX11) (N := 18) hx hb hts hin11 hown hK hP 0 rfl rfl 0 (by decide) (hts (.fieldLink RX11 10 "PorridgeSea" "reader" "LPorridgeSea$Reader;") (List.mem_of_getElem? (i := 2) rfl)) (fun _ h9 => h9) rfl dX11_putBytes_18 ?_
  refine va_get (D := (dC, dI)) (ci := 5) (v := .ref tape) (C := RX5) (T := TX5) (N := 11) hx hb hts hin5 hown hK hP 1 rfl rfl 0 (by decide) (hts (.fieldLink RX11 113 "PorridgeSea$Reader" "tape" "[B") (List.mem_of_getElem? (i := 3) rfl)) (fun _ h9 => h9) rfl dX11_putBytes_21 ?_
  refine lv_aload_n hx hb dX11_putBytes_24 rfl (lv_at hl 1 rfl) ?_
  refine va_get (D := (dC, dI)) (ci := 11) (v := .int (nI (n + 1))) (C := RX11) (T := TX11) (N := 18) hx hb hts hin11 hown hK hP 0 rfl rfl 1 (by decide) (hts (.fieldLink RX11 16 "PorridgeSea" "tapeLength" "I") (List.mem_of_getElem? (i := 1) rfl)) (fun _ h9 => h9) rfl dX11_putBytes_25 ?_
  refine lv_iload_n hx hb dX11_putBytes_28 rfl (lv_at hl 2 rfl) ?_
  refine lv_iload_n hx hb dX11_putBytes_29 rfl (lv_at hl 0 rfl) ?_
  refine lv_iushr hx hb dX11_putBytes_30 rfl ?_
  refine lv_topi (fun y11 e12 => ?_)
  refine lv_i2b (v := (y11).toInt8.toInt32) hx hb dX11_putBytes_31 rfl ?_
  refine lv_topi (fun y13 e14 => ?_)
  refine r_bast (x := y13) hx hb hK hP hD hS 2 rfl (n + 1) (by omega) (by decide) dX11_putBytes_32 (fun H locs hP hD hS => ?_)
  obtain ⟨g15, e16⟩ : ∃ z9, z9 = upd g7 (n + 1) (vp_nar .byte y13) := ⟨_, rfl⟩
  rw [← e16] at hP hD
  have hP : va_P (dC, dI) vwCl [(t, .inr (11, [.ref reader, .int (nI (n + 1)), .int (nI 0), .ref sea, .ref spareSea, .ref seaText, .ref book, .ref sentence, .ref spareSentence, .ref route, .ref meeting, .ref sighting, .ref draws, .ref history, .ref images, .ref chartBytes, .int (nI 0), .int (-1 : Int32)])), (reader, .inr (5, [.ref tape, .int rlength, .int rmostBytes, .int rplace, .int rkind, .int rbegin, .int rword, .int rnumber, .long rletters, .int rfaultKind, .int rfaultPlace])), (tape, .inl (ky 2, 940, .inl g15))] H := hP
  have hD : va_D A [(t, .inr (11, [.ref reader, .int (nI (n + 1)), .int (nI 0), .ref sea, .ref spareSea, .ref seaText, .ref book, .ref sentence, .ref spareSentence, .ref route, .ref meeting, .ref sighting, .ref draws, .ref history, .ref images, .ref chartBytes, .int (nI 0), .int (-1 : Int32)])), (reader, .inr (5, [.ref tape, .int rlength, .int rmostBytes, .int rplace, .int rkind, .int rbegin, .int rword, .int rnumber, .long rletters, .int rfaultKind, .int rfaultPlace])), (tape, .inl (ky 2, 940, .inl g15))] := hD
  refine lv_aload_n hx hb dX11_putBytes_33 rfl (lv_at hl 1 rfl) ?_
  refine lv_dup hx hb dX11_putBytes_34 rfl ?_
  refine va_get (D := (dC, dI)) (ci := 11) (v := .int (nI (n + 1))) (C := RX11) (T := TX11) (N := 18) hx hb hts hin11 hown hK hP 0 rfl rfl 1 (by decide) (hts (.fieldLink RX11 16 "PorridgeSea" "tapeLength" "I") (List.mem_of_getElem? (i := 1) rfl)) (fun _ h9 => h9) rfl dX11_putBytes_35 ?_
  refine lv_iconst (v := nI 1) hx hb dX11_putBytes_38 (by decide) ?_
  refine lv_iadd hx hb dX11_putBytes_39 ?_
  refine r_ti (nI (n + 2)) (nI_add _ _) ?_
  refine va_put (D := (dC, dI)) (ci := 11) (v := .int (nI (n + 2))) (ty := .int) (C := RX11) (T := TX11) (N := 18) hx hb hts hin11 tyX11 tyX11_ok nmX11 hown hK hP hD hS 0 rfl rfl 1 (by decide) (hts (.fieldLink RX11 16 "PorridgeSea" "tapeLength" "I") (List.mem_of_getElem? (i := 1) rfl)) (fun _ h9 => h9) rfl (by decide +kernel) rfl rfl (Nat.le_of_ble_eq_true rfl) dX11_putBytes_40 (fun H locs hP hD hS => ?_)
  have hP : va_P (dC, dI) vwCl [(t, .inr (11, [.ref reader, .int (nI (n + 2)), .int (nI 0), .ref sea, .ref spareSea, .ref seaText, .ref book, .ref sentence, .ref spareSentence, .ref route, .ref meeting, .ref sighting, .ref draws, .ref history, .ref images, .ref chartBytes, .int (nI 0), .int (-1 : Int32)])), (reader, .inr (5, [.ref tape, .int rlength, .int rmostBytes, .int rplace, .int rkind, .int rbegin, .int rword, .int rnumber, .long rletters, .int rfaultKind, .int rfaultPlace])), (tape, .inl (ky 2, 940, .inl g15))] H := hP
  have hD : va_D A [(t, .inr (11, [.ref reader, .int (nI (n + 2)), .int (nI 0), .ref sea, .ref spareSea, .ref seaText, .ref book, .ref sentence, .ref spareSentence, .ref route, .ref meeting, .ref sighting, .ref draws, .ref history, .ref images, .ref chartBytes, .int (nI 0), .int (-1 : Int32)])), (reader, .inr (5, [.ref tape, .int rlength, .int rmostBytes, .int rplace, .int rkind, .int rbegin, .int rword, .int rnumber, .long rletters, .int rfaultKind, .int rfaultPlace])), (tape, .inl (ky 2, 940, .inl g15))] := hD
  refine lv_iinc (v := nI 8) (lv' := [(2, .int (nI 8)), (0, .ref t), (1, .int four)]) hx hb dX11_putBytes_43 hl (k := 0) rfl (by decide) (by decide) rfl (fun ls hl => ?_)
  refine lv_goto (tgt := 3) hx hb dX11_putBytes_46 (by decide) ?_
  refine lv_iload_n hx hb dX11_putBytes_3 rfl (lv_at hl 0 rfl) ?_
  refine lv_if_lt (tgt := 49) hx hb dX11_putBytes_4 (by decide) (fun c17 => absurd c17 (by decide)) (fun c17 => ?_)
  refine lv_aload_n hx hb dX11_putBytes_7 rfl (lv_at hl 1 rfl) ?_
  refine va_get (D := (dC, dI)) (ci := 11) (v := .int (nI (n + 2))) (C := RX11) (T := TX11) (N := 18) hx hb hts hin11 hown hK hP 0 rfl rfl 1 (by decide) (hts (.fieldLink RX11 16 "PorridgeSea" "tapeLength" "I") (List.mem_of_getElem? (i := 1) rfl)) (fun _ h9 => h9) rfl dX11_putBytes_8 ?_
  refine lv_sipush (v := nI 940) hx hb dX11_putBytes_11 (by decide) ?_
  refine n_icmp_ge (x := (n + 2)) (y := 940) (tgt := 49) hx hb (by omega) (by omega) dX11_putBytes_14 (by decide) (fun c18 => by exfalso; omega) (fun c18 => ?_)
  refine lv_aload_n hx hb dX11_putBytes_17 rfl (lv_at hl 1 rfl) ?_
  refine va_get (D := (dC, dI)) (ci := 11) (v := .ref reader) (C := RX11) (T := TX11) (N := 18) hx hb hts hin11 hown hK hP 0 rfl rfl 0 (by decide) (hts (.fieldLink RX11 10 "PorridgeSea" "reader" "LPorridgeSea$Reader;") (List.mem_of_getElem? (i := 2) rfl)) (fun _ h9 => h9) rfl dX11_putBytes_18 ?_
  refine va_get (D := (dC, dI)) (ci := 5) (v := .ref tape) (C := RX5) (T := TX5) (N := 11) hx hb hts hin5 hown hK hP 1 rfl rfl 0 (by decide) (hts (.fieldLink RX11 113 "PorridgeSea$Reader" "tape" "[B") (List.mem_of_getElem? (i := 3) rfl)) (fun _ h9 => h9) rfl dX11_putBytes_21 ?_
  refine lv_aload_n hx hb dX11_putBytes_24 rfl (lv_at hl 1 rfl) ?_
  refine va_get (D := (dC, dI)) (ci := 11) (v := .int (nI (n + 2))) (C := RX11) (T := TX11) (N := 18) hx hb hts hin11 hown hK hP 0 rfl rfl 1 (by decide) (hts (.fieldLink RX11 16 "PorridgeSea" "tapeLength" "I") (List.mem_of_getElem? (i := 1) rfl)) (fun _ h9 => h9) rfl dX11_putBytes_25 ?_
  refine lv_iload_n hx hb dX11_putBytes_28 rfl (lv_at hl 2 rfl) ?_
  refine lv_iload_n hx hb dX11_putBytes_29 rfl (lv_at hl 0 rfl) ?_
  refine lv_iushr hx hb dX11_putBytes_30 rfl ?_
  refine lv_topi (fun y19 e20 => ?_)
  refine lv_i2b (v := (y19).toInt8.toInt32) hx hb dX11_putBytes_31 rfl ?_
  refine lv_topi (fun y21 e22 => ?_)
  refine r_bast (x := y21) hx hb hK hP hD hS 2 rfl (n + 2) (by omega) (by decide) dX11_putBytes_32 (fun H locs hP hD hS => ?_)
  obtain ⟨g23, e24⟩ : ∃ z9, z9 = upd g15 (n + 2) (vp_nar .byte y21) := ⟨_, rfl⟩
  rw [← e24] at hP hD
  have hP : va_P (dC, dI) vwCl [(t, .inr (11, [.ref reader, .int (nI (n + 2)), .int (nI 0), .ref sea, .ref spareSea, .ref seaText, .ref book, .ref sentence, .ref spareSentence, .ref route, .ref meeting, .ref sighting, .ref draws, .ref history, .ref images, .ref chartBytes, .int (nI 0), .int (-1 : Int32)])), (reader, .inr (5, [.ref tape, .int rlength, .int rmostBytes, .int rplace, .int rkind, .int rbegin, .int rword, .int rnumber, .long rletters, .int rfaultKind, .int rfaultPlace])), (tape, .inl (ky 2, 940, .inl g23))] H := hP
  have hD : va_D A [(t, .inr (11, [.ref reader, .int (nI (n + 2)), .int (nI 0), .ref sea, .ref spareSea, .ref seaText, .ref book, .ref sentence, .ref spareSentence, .ref route, .ref meeting, .ref sighting, .ref draws, .ref history, .ref images, .ref chartBytes, .int (nI 0), .int (-1 : Int32)])), (reader, .inr (5, [.ref tape, .int rlength, .int rmostBytes, .int rplace, .int rkind, .int rbegin, .int rword, .int rnumber, .long rletters, .int rfaultKind, .int rfaultPlace])), (tape, .inl (ky 2, 940, .inl g23))] := hD
  refine lv_aload_n hx hb dX11_putBytes_33 rfl (lv_at hl 1 rfl) ?_
  refine lv_dup hx hb dX11_putBytes_34 rfl ?_
  refine va_get (D := (dC, dI)) (ci := 11) (v := .int (nI (n + 2))) (C := RX11) (T := TX11) (N := 18) hx hb hts hin11 hown hK hP 0 rfl rfl 1 (by decide) (hts (.fieldLink RX11 16 "PorridgeSea" "tapeLength" "I") (List.mem_of_getElem? (i := 1) rfl)) (fun _ h9 => h9) rfl dX11_putBytes_35 ?_
  refine lv_iconst (v := nI 1) hx hb dX11_putBytes_38 (by decide) ?_
  refine lv_iadd hx hb dX11_putBytes_39 ?_
  refine r_ti (nI (n + 3)) (nI_add _ _) ?_
  refine va_put (D := (dC, dI)) (ci := 11) (v := .int (nI (n + 3))) (ty := .int) (C := RX11) (T := TX11) (N := 18) hx hb hts hin11 tyX11 tyX11_ok nmX11 hown hK hP hD hS 0 rfl rfl 1 (by decide) (hts (.fieldLink RX11 16 "PorridgeSea" "tapeLength" "I") (List.mem_of_getElem? (i := 1) rfl)) (fun _ h9 => h9) rfl (by decide +kernel) rfl rfl (Nat.le_of_ble_eq_true rfl) dX11_putBytes_40 (fun H locs hP hD hS => ?_)
  have hP : va_P (dC, dI) vwCl [(t, .inr (11, [.ref reader, .int (nI (n + 3)), .int (nI 0), .ref sea, .ref spareSea, .ref seaText, .ref book, .ref sentence, .ref spareSentence, .ref route, .ref meeting, .ref sighting, .ref draws, .ref history, .ref images, .ref chartBytes, .int (nI 0), .int (-1 : Int32)])), (reader, .inr (5, [.ref tape, .int rlength, .int rmostBytes, .int rplace, .int rkind, .int rbegin, .int rword, .int rnumber, .long rletters, .int rfaultKind, .int rfaultPlace])), (tape, .inl (ky 2, 940, .inl g23))] H := hP
  have hD : va_D A [(t, .inr (11, [.ref reader, .int (nI (n + 3)), .int (nI 0), .ref sea, .ref spareSea, .ref seaText, .ref book, .ref sentence, .ref spareSentence, .ref route, .ref meeting, .ref sighting, .ref draws, .ref history, .ref images, .ref chartBytes, .int (nI 0), .int (-1 : Int32)])), (reader, .inr (5, [.ref tape, .int rlength, .int rmostBytes, .int rplace, .int rkind, .int rbegin, .int rword, .int rnumber, .long rletters, .int rfaultKind, .int rfaultPlace])), (tape, .inl (ky 2, 940, .inl g23))] := hD
  refine lv_iinc (v := nI 0) (lv' := [(2, .int (nI 0)), (0, .ref t), (1, .int four)]) hx hb dX11_putBytes_43 hl (k := 0) rfl (by decide) (by decide) rfl (fun ls hl => ?_)
  refine lv_goto (tgt := 3) hx hb dX11_putBytes_46 (by decide) ?_
  refine lv_iload_n hx hb dX11_putBytes_3 rfl (lv_at hl 0 rfl) ?_
  refine lv_if_lt (tgt := 49) hx hb dX11_putBytes_4 (by decide) (fun c25 => absurd c25 (by decide)) (fun c25 => ?_)
  refine lv_aload_n hx hb dX11_putBytes_7 rfl (lv_at hl 1 rfl) ?_
  refine va_get (D := (dC, dI)) (ci := 11) (v := .int (nI (n + 3))) (C := RX11) (T := TX11) (N := 18) hx hb hts hin11 hown hK hP 0 rfl rfl 1 (by decide) (hts (.fieldLink RX11 16 "PorridgeSea" "tapeLength" "I") (List.mem_of_getElem? (i := 1) rfl)) (fun _ h9 => h9) rfl dX11_putBytes_8 ?_
  refine lv_sipush (v := nI 940) hx hb dX11_putBytes_11 (by decide) ?_
  refine n_icmp_ge (x := (n + 3)) (y := 940) (tgt := 49) hx hb (by omega) (by omega) dX11_putBytes_14 (by decide) (fun c26 => by exfalso; omega) (fun c26 => ?_)
  refine lv_aload_n hx hb dX11_putBytes_17 rfl (lv_at hl 1 rfl) ?_
  refine va_get (D := (dC, dI)) (ci := 11) (v := .ref reader) (C := RX11) (T := TX11) (N := 18) hx hb hts hin11 hown hK hP 0 rfl rfl 0 (by decide) (hts (.fieldLink RX11 10 "PorridgeSea" "reader" "LPorridgeSea$Reader;") (List.mem_of_getElem? (i := 2) rfl)) (fun _ h9 => h9) rfl dX11_putBytes_18 ?_
  refine va_get (D := (dC, dI)) (ci := 5) (v := .ref tape) (C := RX5) (T := TX5) (N := 11) hx hb hts hin5 hown hK hP 1 rfl rfl 0 (by decide) (hts (.fieldLink RX11 113 "PorridgeSea$Reader" "tape" "[B") (List.mem_of_getElem? (i := 3) rfl)) (fun _ h9 => h9) rfl dX11_putBytes_21 ?_
  refine lv_aload_n hx hb dX11_putBytes_24 rfl (lv_at hl 1 rfl) ?_
  refine va_get (D := (dC, dI)) (ci := 11) (v := .int (nI (n + 3))) (C := RX11) (T := TX11) (N := 18) hx hb hts hin11 hown hK hP 0 rfl rfl 1 (by decide) (hts (.fieldLink RX11 16 "PorridgeSea" "tapeLength" "I") (List.mem_of_getElem? (i := 1) rfl)) (fun _ h9 => h9) rfl dX11_putBytes_25 ?_
  refine lv_iload_n hx hb dX11_putBytes_28 rfl (lv_at hl 2 rfl) ?_
  refine lv_iload_n hx hb dX11_putBytes_29 rfl (lv_at hl 0 rfl) ?_
  refine lv_iushr hx hb dX11_putBytes_30 rfl ?_
  refine lv_topi (fun y27 e28 => ?_)
  refine lv_i2b (v := (y27).toInt8.toInt32) hx hb dX11_putBytes_31 rfl ?_
  refine lv_topi (fun y29 e30 => ?_)
  refine r_bast (x := y29) hx hb hK hP hD hS 2 rfl (n + 3) (by omega) (by decide) dX11_putBytes_32 (fun H locs hP hD hS => ?_)
  obtain ⟨g31, e32⟩ : ∃ z9, z9 = upd g23 (n + 3) (vp_nar .byte y29) := ⟨_, rfl⟩
  rw [← e32] at hP hD
  have hP : va_P (dC, dI) vwCl [(t, .inr (11, [.ref reader, .int (nI (n + 3)), .int (nI 0), .ref sea, .ref spareSea, .ref seaText, .ref book, .ref sentence, .ref spareSentence, .ref route, .ref meeting, .ref sighting, .ref draws, .ref history, .ref images, .ref chartBytes, .int (nI 0), .int (-1 : Int32)])), (reader, .inr (5, [.ref tape, .int rlength, .int rmostBytes, .int rplace, .int rkind, .int rbegin, .int rword, .int rnumber, .long rletters, .int rfaultKind, .int rfaultPlace])), (tape, .inl (ky 2, 940, .inl g31))] H := hP
  have hD : va_D A [(t, .inr (11, [.ref reader, .int (nI (n + 3)), .int (nI 0), .ref sea, .ref spareSea, .ref seaText, .ref book, .ref sentence, .ref spareSentence, .ref route, .ref meeting, .ref sighting, .ref draws, .ref history, .ref images, .ref chartBytes, .int (nI 0), .int (-1 : Int32)])), (reader, .inr (5, [.ref tape, .int rlength, .int rmostBytes, .int rplace, .int rkind, .int rbegin, .int rword, .int rnumber, .long rletters, .int rfaultKind, .int rfaultPlace])), (tape, .inl (ky 2, 940, .inl g31))] := hD
  refine lv_aload_n hx hb dX11_putBytes_33 rfl (lv_at hl 1 rfl) ?_
  refine lv_dup hx hb dX11_putBytes_34 rfl ?_
  refine va_get (D := (dC, dI)) (ci := 11) (v := .int (nI (n + 3))) (C := RX11) (T := TX11) (N := 18) hx hb hts hin11 hown hK hP 0 rfl rfl 1 (by decide) (hts (.fieldLink RX11 16 "PorridgeSea" "tapeLength" "I") (List.mem_of_getElem? (i := 1) rfl)) (fun _ h9 => h9) rfl dX11_putBytes_35 ?_
  refine lv_iconst (v := nI 1) hx hb dX11_putBytes_38 (by decide) ?_
  refine lv_iadd hx hb dX11_putBytes_39 ?_
  refine r_ti (nI (n + 4)) (nI_add _ _) ?_
  refine va_put (D := (dC, dI)) (ci := 11) (v := .int (nI (n + 4))) (ty := .int) (C := RX11) (T := TX11) (N := 18) hx hb hts hin11 tyX11 tyX11_ok nmX11 hown hK hP hD hS 0 rfl rfl 1 (by decide) (hts (.fieldLink RX11 16 "PorridgeSea" "tapeLength" "I") (List.mem_of_getElem? (i := 1) rfl)) (fun _ h9 => h9) rfl (by decide +kernel) rfl rfl (Nat.le_of_ble_eq_true rfl) dX11_putBytes_40 (fun H locs hP hD hS => ?_)
  have hP : va_P (dC, dI) vwCl [(t, .inr (11, [.ref reader, .int (nI (n + 4)), .int (nI 0), .ref sea, .ref spareSea, .ref seaText, .ref book, .ref sentence, .ref spareSentence, .ref route, .ref meeting, .ref sighting, .ref draws, .ref history, .ref images, .ref chartBytes, .int (nI 0), .int (-1 : Int32)])), (reader, .inr (5, [.ref tape, .int rlength, .int rmostBytes, .int rplace, .int rkind, .int rbegin, .int rword, .int rnumber, .long rletters, .int rfaultKind, .int rfaultPlace])), (tape, .inl (ky 2, 940, .inl g31))] H := hP
  have hD : va_D A [(t, .inr (11, [.ref reader, .int (nI (n + 4)), .int (nI 0), .ref sea, .ref spareSea, .ref seaText, .ref book, .ref sentence, .ref spareSentence, .ref route, .ref meeting, .ref sighting, .ref draws, .ref history, .ref images, .ref chartBytes, .int (nI 0), .int (-1 : Int32)])), (reader, .inr (5, [.ref tape, .int rlength, .int rmostBytes, .int rplace, .int rkind, .int rbegin, .int rword, .int rnumber, .long rletters, .int rfaultKind, .int rfaultPlace])), (tape, .inl (ky 2, 940, .inl g31))] := hD
  refine lv_iinc (v := (-8 : Int32)) (lv' := [(2, .int (-8 : Int32)), (0, .ref t), (1, .int four)]) hx hb dX11_putBytes_43 hl (k := 0) rfl (by decide) (by decide) rfl (fun ls hl => ?_)
  refine lv_goto (tgt := 3) hx hb dX11_putBytes_46 (by decide) ?_
  refine lv_iload_n hx hb dX11_putBytes_3 rfl (lv_at hl 0 rfl) ?_
  refine lv_if_lt (tgt := 49) hx hb dX11_putBytes_4 (by decide) (fun c33 => ?_) (fun c33 => absurd (by decide) c33)
  have hP9 := hP.sub (ws' := [(t, .inr (11, [.ref reader, .int (nI (n + 4)), .int (nI 0), .ref sea, .ref spareSea, .ref seaText, .ref book, .ref sentence, .ref spareSentence, .ref route, .ref meeting, .ref sighting, .ref draws, .ref history, .ref images, .ref chartBytes, .int (nI 0), .int (-1 : Int32)])), (reader, .inr (5, [.ref tape, .int rlength, .int rmostBytes, .int rplace, .int rkind, .int rbegin, .int rword, .int rnumber, .long rletters, .int rfaultKind, .int rfaultPlace])), (tape, .inl (ky 2, 940, .inl g31))]) [0, 1, 2] rfl
  have hD9 := hD.sub (ws' := [(t, .inr (11, [.ref reader, .int (nI (n + 4)), .int (nI 0), .ref sea, .ref spareSea, .ref seaText, .ref book, .ref sentence, .ref spareSentence, .ref route, .ref meeting, .ref sighting, .ref draws, .ref history, .ref images, .ref chartBytes, .int (nI 0), .int (-1 : Int32)])), (reader, .inr (5, [.ref tape, .int rlength, .int rmostBytes, .int rplace, .int rkind, .int rbegin, .int rword, .int rnumber, .long rletters, .int rfaultKind, .int rfaultPlace])), (tape, .inl (ky 2, 940, .inl g31))]) [0, 1, 2] (by decide) rfl
  refine W.widen (k := 0) (n := 0) (Nat.le_of_ble_eq_true rfl) (Nat.le_of_ble_eq_true rfl) ?_
  exact W.vret hx hb hr (fun t9 ht9 hW9 => ⟨⟨g31, rfl, trivial, by rw [ht9]; exact hP9, va_K.moved hW9.alike hK, hD9⟩, hS.F ht9⟩) hS.2.2 dX11_putBytes_49
set_option maxHeartbeats 4000000 in
set_option maxRecDepth 100000 in
theorem c_feed (l : Launch) (dC : Nat → ClassId) (dI : Nat → Nat → Nat) (ky : Nat → ClassId) (sz : Nat) (t : Nat) (reader : Nat) (sea : Nat) (spareSea : Nat) (seaText : Nat) (book : Nat) (sentence : Nat) (spareSentence : Nat) (route : Nat) (meeting : Nat) (sighting : Nat) (draws : Nat) (history : Nat) (images : Nat) (chartBytes : Nat) (tape : Nat) (tapeF : Nat → Int32) (rlength : Int32) (rmostBytes : Int32) (rplace : Int32) (rkind : Int32) (rbegin : Int32) (rword : Int32) (rnumber : Int32) (rletters : Int64) (rfaultKind : Int32) (rfaultPlace : Int32) (x1 : Int32) (x2 : Int32) (x3 : Int32) (x4 : Int32) (x5 : Int32)  : Met l yX11_feed wsX11_feed ({ frames := 1, cells := 0, slots := 0, locals := 22 }) (PcU dC dI ky [.ref t, .int x1, .int x2, .int x3, .int x4, .int x5] [(t, .inr (11, [.ref reader, .int (nI 0), .int (nI 0), .ref sea, .ref spareSea, .ref seaText, .ref book, .ref sentence, .ref spareSentence, .ref route, .ref meeting, .ref sighting, .ref draws, .ref history, .ref images, .ref chartBytes, .int (nI 0), .int (-1 : Int32)])), (reader, .inr (5, [.ref tape, .int rlength, .int rmostBytes, .int rplace, .int rkind, .int rbegin, .int rword, .int rnumber, .long rletters, .int rfaultKind, .int rfaultPlace])), (tape, .inl (ky 2, 940, .inl tapeF))] sz) (va_Qi (fun (r : Int32) (_ : Unit) => r = nI 20) (BU dC dI ky (fun (_ : Unit) => []) (va_A [(t, .inr (11, [.ref reader, .int (nI 0), .int (nI 0), .ref sea, .ref spareSea, .ref seaText, .ref book, .ref sentence, .ref spareSentence, .ref route, .ref meeting, .ref sighting, .ref draws, .ref history, .ref images, .ref chartBytes, .int (nI 0), .int (-1 : Int32)])), (reader, .inr (5, [.ref tape, .int rlength, .int rmostBytes, .int rplace, .int rkind, .int rbegin, .int rword, .int rnumber, .long rletters, .int rfaultKind, .int rfaultPlace])), (tape, .inl (ky 2, 940, .inl tapeF))] sz)) (va_A [(t, .inr (11, [.ref reader, .int (nI 0), .int (nI 0), .ref sea, .ref spareSea, .ref seaText, .ref book, .ref sentence, .ref spareSentence, .ref route, .ref meeting, .ref sighting, .ref draws, .ref history, .ref images, .ref chartBytes, .int (nI 0), .int (-1 : Int32)])), (reader, .inr (5, [.ref tape, .int rlength, .int rmostBytes, .int rplace, .int rkind, .int rbegin, .int rword, .int rnumber, .long rletters, .int rfaultKind, .int rfaultPlace])), (tape, .inl (ky 2, 940, .inl tapeF))] sz)) 0 0 (va_A [(t, .inr (11, [.ref reader, .int (nI 0), .int (nI 0), .ref sea, .ref spareSea, .ref seaText, .ref book, .ref sentence, .ref spareSentence, .ref route, .ref meeting, .ref sighting, .ref draws, .ref history, .ref images, .ref chartBytes, .int (nI 0), .int (-1 : Int32)])), (reader, .inr (5, [.ref tape, .int rlength, .int rmostBytes, .int rplace, .int rkind, .int rbegin, .int rword, .int rnumber, .long rletters, .int rfaultKind, .int rfaultPlace])), (tape, .inl (ky 2, 940, .inl tapeF))] sz) := by
  refine Met.ofW (cc := cX11_feed) (maxL := 6) (ret := (some .int)) (by decide) rfl ?_
  intro p e s m args below meth c s₁ B hml hv
  obtain ⟨rfl, hsz, hP, hK, hD0⟩ := hv
  have hx := B.exec
  have hb := B.bytes
  have hr := B.returns
  have hts := atoms_spec (ws := wsX11_feed) B.pre
  have hown : s.vm.findClass RX11 = some m.cls := findClass_of_methodNamed B.named
  have hlocks := B.notSynchronized
  have hin11 : ∀ w ∈ u_ws RX11 TX11 18, w ∈ wsX11_feed := by decide +kernel
  subst hsz
  have hD := hD0.self (sz := s.heap.size)
  generalize hAe : va_A [(t, .inr (11, [.ref reader, .int (nI 0), .int (nI 0), .ref sea, .ref spareSea, .ref seaText, .ref book, .ref sentence, .ref spareSentence, .ref route, .ref meeting, .ref sighting, .ref draws, .ref history, .ref images, .ref chartBytes, .int (nI 0), .int (-1 : Int32)])), (reader, .inr (5, [.ref tape, .int rlength, .int rmostBytes, .int rplace, .int rkind, .int rbegin, .int rword, .int rnumber, .long rletters, .int rfaultKind, .int rfaultPlace])), (tape, .inl (ky 2, 940, .inl tapeF))] s.heap.size = A at hD ⊢
  have hA : ∀ q : Nat, s.heap.size ≤ q → A q := fun q h => by rw [← hAe]; exact Or.inr h
  have hS : va_S A s.heap s.heap [] := va_S.rf
  have hP : va_P (dC, dI) vwCl [(t, .inr (11, [.ref reader, .int (nI 0), .int (nI 0), .ref sea, .ref spareSea, .ref seaText, .ref book, .ref sentence, .ref spareSentence, .ref route, .ref meeting, .ref sighting, .ref draws, .ref history, .ref images, .ref chartBytes, .int (nI 0), .int (-1 : Int32)])), (reader, .inr (5, [.ref tape, .int rlength, .int rmostBytes, .int rplace, .int rkind, .int rbegin, .int rword, .int rnumber, .long rletters, .int rfaultKind, .int rfaultPlace])), (tape, .inl (ky 2, 940, .inl tapeF))] s.heap := hP
  have hl := lv_entry ([.ref t, .int x1, .int x2, .int x3, .int x4, .int x5]) (n := 6) (Nat.le_of_ble_eq_true rfl)
  rw [lg_entry_eq]
  generalize (lg_sl ([.ref t, .int x1, .int x2, .int x3, .int x4, .int x5]) ++ List.replicate (6 - (lg_sl ([.ref t, .int x1, .int x2, .int x3, .int x4, .int x5])).length) Slot.unset).toArray = ls at hl ⊢
  have hl : lv_has ls 6 [(0, .ref t), (1, .int x1), (2, .int x2), (3, .int x3), (4, .int x4), (5, .int x5)] := hl
  have hH0 : True := trivial
  refine lv_aload_n hx hb dX11_feed_0 rfl (lv_at hl 0 rfl) ?_
  refine va_get (D := (dC, dI)) (ci := 11) (v := .int (nI 0)) (C := RX11) (T := TX11) (N := 18) hx hb hts hin11 hown hK hP 0 rfl rfl 1 (by decide) (hts (.fieldLink RX11 16 "PorridgeSea" "tapeLength" "I") (List.mem_of_getElem? (i := 1) rfl)) (fun _ h9 => h9) rfl dX11_feed_1 ?_
  refine lv_bipush (v := nI 20) hx hb dX11_feed_4 (by decide) ?_
  refine lv_iadd hx hb dX11_feed_6 ?_
  refine r_ti (nI 20) (by decide) ?_
  refine lv_sipush (v := nI 940) hx hb dX11_feed_7 (by decide) ?_
  refine lv_icmp_le (tgt := 15) hx hb dX11_feed_10 (by decide) (fun c1 => ?_) (fun c1 => absurd (by decide) c1)
  refine lv_aload_n hx hb dX11_feed_15 rfl (lv_at hl 0 rfl) ?_
  refine lv_iload_n hx hb dX11_feed_16 rfl (lv_at hl 1 rfl) ?_
  refine r_call_v (wr := []) (va_runV (As := [.int x1]) (rest := []) ⟨hx, hb, hml, hown, hts⟩ (c_putBytes l dC dI ky s.heap.size t 0 reader sea spareSea seaText book sentence spareSentence route meeting sighting draws history images chartBytes tape tapeF x1 rlength rmostBytes rplace rkind rbegin rword rnumber rletters rfaultKind rfaultPlace (by omega)) (cwV 1 hts gX11_feed_X11_putBytes rfl rfl rfl (by decide +kernel) ⟨(Nat.le_of_ble_eq_true rfl), (Nat.le_of_ble_eq_true rfl)⟩) (pre_UV hK hP hD [0, 1, 2] (by decide) rfl (ci := 11) (q0 := 0) rfl rfl) rfl rfl hl.1 rfl (lv_room (Nat.le_of_ble_eq_true rfl)) dX11_feed_17 ⟨(Nat.le_of_ble_eq_true rfl), (Nat.le_of_ble_eq_true rfl)⟩) hP hD hS hA [0, 1, 2] [] rfl rfl (by decide) (by decide) (fun  u2 H locs p3 hP hD hS => ?_)
  obtain ⟨tapeG_4, rfl⟩ : ∃ z, z = u2 := ⟨_, rfl⟩
  refine W.widen (k := 0) (n := 0) (Nat.le_of_ble_eq_true rfl) (Nat.le_of_ble_eq_true rfl) ?_
  have hP : va_P (dC, dI) vwCl [(t, .inr (11, [.ref reader, .int (nI 4), .int (nI 0), .ref sea, .ref spareSea, .ref seaText, .ref book, .ref sentence, .ref spareSentence, .ref route, .ref meeting, .ref sighting, .ref draws, .ref history, .ref images, .ref chartBytes, .int (nI 0), .int (-1 : Int32)])), (reader, .inr (5, [.ref tape, .int rlength, .int rmostBytes, .int rplace, .int rkind, .int rbegin, .int rword, .int rnumber, .long rletters, .int rfaultKind, .int rfaultPlace])), (tape, .inl (ky 2, 940, .inl tapeG_4))] H := hP
  have hD : va_D A [(t, .inr (11, [.ref reader, .int (nI 4), .int (nI 0), .ref sea, .ref spareSea, .ref seaText, .ref book, .ref sentence, .ref spareSentence, .ref route, .ref meeting, .ref sighting, .ref draws, .ref history, .ref images, .ref chartBytes, .int (nI 0), .int (-1 : Int32)])), (reader, .inr (5, [.ref tape, .int rlength, .int rmostBytes, .int rplace, .int rkind, .int rbegin, .int rword, .int rnumber, .long rletters, .int rfaultKind, .int rfaultPlace])), (tape, .inl (ky 2, 940, .inl tapeG_4))] := hD
  refine lv_aload_n hx hb dX11_feed_20 rfl (lv_at hl 0 rfl) ?_
  refine lv_iload_n hx hb dX11_feed_21 rfl (lv_at hl 2 rfl) ?_
  refine r_call_v (wr := []) (va_runV (As := [.int x2]) (rest := []) ⟨hx, hb, hml, hown, hts⟩ (c_putBytes l dC dI ky H.size t 4 reader sea spareSea seaText book sentence spareSentence route meeting sighting draws history images chartBytes tape tapeG_4 x2 rlength rmostBytes rplace rkind rbegin rword rnumber rletters rfaultKind rfaultPlace (by omega)) (cwV 1 hts gX11_feed_X11_putBytes rfl rfl rfl (by decide +kernel) ⟨(Nat.le_of_ble_eq_true rfl), (Nat.le_of_ble_eq_true rfl)⟩) (pre_UV hK hP hD [0, 1, 2] (by decide) rfl (ci := 11) (q0 := 0) rfl rfl) rfl rfl hl.1 rfl (lv_room (Nat.le_of_ble_eq_true rfl)) dX11_feed_22 ⟨(Nat.le_of_ble_eq_true rfl), (Nat.le_of_ble_eq_true rfl)⟩) hP hD hS hA [0, 1, 2] [] rfl rfl (by decide) (by decide) (fun  u5 H locs p6 hP hD hS => ?_)
  obtain ⟨tapeG_7, rfl⟩ : ∃ z, z = u5 := ⟨_, rfl⟩
  refine W.widen (k := 0) (n := 0) (Nat.le_of_ble_eq_true rfl) (Nat.le_of_ble_eq_true rfl) ?_
  have hP : va_P (dC, dI) vwCl [(t, .inr (11, [.ref reader, .int (nI 8), .int (nI 0), .ref sea, .ref spareSea, .ref seaText, .ref book, .ref sentence, .ref spareSentence, .ref route, .ref meeting, .ref sighting, .ref draws, .ref history, .ref images, .ref chartBytes, .int (nI 0), .int (-1 : Int32)])), (reader, .inr (5, [.ref tape, .int rlength, .int rmostBytes, .int rplace, .int rkind, .int rbegin, .int rword, .int rnumber, .long rletters, .int rfaultKind, .int rfaultPlace])), (tape, .inl (ky 2, 940, .inl tapeG_7))] H := hP
  have hD : va_D A [(t, .inr (11, [.ref reader, .int (nI 8), .int (nI 0), .ref sea, .ref spareSea, .ref seaText, .ref book, .ref sentence, .ref spareSentence, .ref route, .ref meeting, .ref sighting, .ref draws, .ref history, .ref images, .ref chartBytes, .int (nI 0), .int (-1 : Int32)])), (reader, .inr (5, [.ref tape, .int rlength, .int rmostBytes, .int rplace, .int rkind, .int rbegin, .int rword, .int rnumber, .long rletters, .int rfaultKind, .int rfaultPlace])), (tape, .inl (ky 2, 940, .inl tapeG_7))] := hD
  refine lv_aload_n hx hb dX11_feed_25 rfl (lv_at hl 0 rfl) ?_
  refine lv_iload_n hx hb dX11_feed_26 rfl (lv_at hl 3 rfl) ?_
  refine r_call_v (wr := []) (va_runV (As := [.int x3]) (rest := []) ⟨hx, hb, hml, hown, hts⟩ (c_putBytes l dC dI ky H.size t 8 reader sea spareSea seaText book sentence spareSentence route meeting sighting draws history images chartBytes tape tapeG_7 x3 rlength rmostBytes rplace rkind rbegin rword rnumber rletters rfaultKind rfaultPlace (by omega)) (cwV 1 hts gX11_feed_X11_putBytes rfl rfl rfl (by decide +kernel) ⟨(Nat.le_of_ble_eq_true rfl), (Nat.le_of_ble_eq_true rfl)⟩) (pre_UV hK hP hD [0, 1, 2] (by decide) rfl (ci := 11) (q0 := 0) rfl rfl) rfl rfl hl.1 rfl (lv_room (Nat.le_of_ble_eq_true rfl)) dX11_feed_27 ⟨(Nat.le_of_ble_eq_true rfl), (Nat.le_of_ble_eq_true rfl)⟩) hP hD hS hA [0, 1, 2] [] rfl rfl (by decide) (by decide) (fun  u8 H locs p9 hP hD hS => ?_)
  obtain ⟨tapeG_10, rfl⟩ : ∃ z, z = u8 := ⟨_, rfl⟩
  refine W.widen (k := 0) (n := 0) (Nat.le_of_ble_eq_true rfl) (Nat.le_of_ble_eq_true rfl) ?_
  have hP : va_P (dC, dI) vwCl [(t, .inr (11, [.ref reader, .int (nI 12), .int (nI 0), .ref sea, .ref spareSea, .ref seaText, .ref book, .ref sentence, .ref spareSentence, .ref route, .ref meeting, .ref sighting, .ref draws, .ref history, .ref images, .ref chartBytes, .int (nI 0), .int (-1 : Int32)])), (reader, .inr (5, [.ref tape, .int rlength, .int rmostBytes, .int rplace, .int rkind, .int rbegin, .int rword, .int rnumber, .long rletters, .int rfaultKind, .int rfaultPlace])), (tape, .inl (ky 2, 940, .inl tapeG_10))] H := hP
  have hD : va_D A [(t, .inr (11, [.ref reader, .int (nI 12), .int (nI 0), .ref sea, .ref spareSea, .ref seaText, .ref book, .ref sentence, .ref spareSentence, .ref route, .ref meeting, .ref sighting, .ref draws, .ref history, .ref images, .ref chartBytes, .int (nI 0), .int (-1 : Int32)])), (reader, .inr (5, [.ref tape, .int rlength, .int rmostBytes, .int rplace, .int rkind, .int rbegin, .int rword, .int rnumber, .long rletters, .int rfaultKind, .int rfaultPlace])), (tape, .inl (ky 2, 940, .inl tapeG_10))] := hD
  refine lv_aload_n hx hb dX11_feed_30 rfl (lv_at hl 0 rfl) ?_
  refine lv_iload hx hb dX11_feed_31 (lv_at hl 4 rfl) ?_
  refine r_call_v (wr := []) (va_runV (As := [.int x4]) (rest := []) ⟨hx, hb, hml, hown, hts⟩ (c_putBytes l dC dI ky H.size t 12 reader sea spareSea seaText book sentence spareSentence route meeting sighting draws history images chartBytes tape tapeG_10 x4 rlength rmostBytes rplace rkind rbegin rword rnumber rletters rfaultKind rfaultPlace (by omega)) (cwV 1 hts gX11_feed_X11_putBytes rfl rfl rfl (by decide +kernel) ⟨(Nat.le_of_ble_eq_true rfl), (Nat.le_of_ble_eq_true rfl)⟩) (pre_UV hK hP hD [0, 1, 2] (by decide) rfl (ci := 11) (q0 := 0) rfl rfl) rfl rfl hl.1 rfl (lv_room (Nat.le_of_ble_eq_true rfl)) dX11_feed_33 ⟨(Nat.le_of_ble_eq_true rfl), (Nat.le_of_ble_eq_true rfl)⟩) hP hD hS hA [0, 1, 2] [] rfl rfl (by decide) (by decide) (fun  u11 H locs p12 hP hD hS => ?_)
  obtain ⟨tapeG_13, rfl⟩ : ∃ z, z = u11 := ⟨_, rfl⟩
  refine W.widen (k := 0) (n := 0) (Nat.le_of_ble_eq_true rfl) (Nat.le_of_ble_eq_true rfl) ?_
  have hP : va_P (dC, dI) vwCl [(t, .inr (11, [.ref reader, .int (nI 16), .int (nI 0), .ref sea, .ref spareSea, .ref seaText, .ref book, .ref sentence, .ref spareSentence, .ref route, .ref meeting, .ref sighting, .ref draws, .ref history, .ref images, .ref chartBytes, .int (nI 0), .int (-1 : Int32)])), (reader, .inr (5, [.ref tape, .int rlength, .int rmostBytes, .int rplace, .int rkind, .int rbegin, .int rword, .int rnumber, .long rletters, .int rfaultKind, .int rfaultPlace])), (tape, .inl (ky 2, 940, .inl tapeG_13))] H := hP
  have hD : va_D A [(t, .inr (11, [.ref reader, .int (nI 16), .int (nI 0), .ref sea, .ref spareSea, .ref seaText, .ref book, .ref sentence, .ref spareSentence, .ref route, .ref meeting, .ref sighting, .ref draws, .ref history, .ref images, .ref chartBytes, .int (nI 0), .int (-1 : Int32)])), (reader, .inr (5, [.ref tape, .int rlength, .int rmostBytes, .int rplace, .int rkind, .int rbegin, .int rword, .int rnumber, .long rletters, .int rfaultKind, .int rfaultPlace])), (tape, .inl (ky 2, 940, .inl tapeG_13))] := hD
  refine lv_aload_n hx hb dX11_feed_36 rfl (lv_at hl 0 rfl) ?_
  refine lv_iload hx hb dX11_feed_37 (lv_at hl 5 rfl) ?_
  refine r_call_v (wr := []) (va_runV (As := [.int x5]) (rest := []) ⟨hx, hb, hml, hown, hts⟩ (c_putBytes l dC dI ky H.size t 16 reader sea spareSea seaText book sentence spareSentence route meeting sighting draws history images chartBytes tape tapeG_13 x5 rlength rmostBytes rplace rkind rbegin rword rnumber rletters rfaultKind rfaultPlace (by omega)) (cwV 1 hts gX11_feed_X11_putBytes rfl rfl rfl (by decide +kernel) ⟨(Nat.le_of_ble_eq_true rfl), (Nat.le_of_ble_eq_true rfl)⟩) (pre_UV hK hP hD [0, 1, 2] (by decide) rfl (ci := 11) (q0 := 0) rfl rfl) rfl rfl hl.1 rfl (lv_room (Nat.le_of_ble_eq_true rfl)) dX11_feed_39 ⟨(Nat.le_of_ble_eq_true rfl), (Nat.le_of_ble_eq_true rfl)⟩) hP hD hS hA [0, 1, 2] [] rfl rfl (by decide) (by decide) (fun  u14 H locs p15 hP hD hS => ?_)
  obtain ⟨tapeG_16, rfl⟩ : ∃ z, z = u14 := ⟨_, rfl⟩
  refine W.widen (k := 0) (n := 0) (Nat.le_of_ble_eq_true rfl) (Nat.le_of_ble_eq_true rfl) ?_
  have hP : va_P (dC, dI) vwCl [(t, .inr (11, [.ref reader, .int (nI 20), .int (nI 0), .ref sea, .ref spareSea, .ref seaText, .ref book, .ref sentence, .ref spareSentence, .ref route, .ref meeting, .ref sighting, .ref draws, .ref history, .ref images, .ref chartBytes, .int (nI 0), .int (-1 : Int32)])), (reader, .inr (5, [.ref tape, .int rlength, .int rmostBytes, .int rplace, .int rkind, .int rbegin, .int rword, .int rnumber, .long rletters, .int rfaultKind, .int rfaultPlace])), (tape, .inl (ky 2, 940, .inl tapeG_16))] H := hP
  have hD : va_D A [(t, .inr (11, [.ref reader, .int (nI 20), .int (nI 0), .ref sea, .ref spareSea, .ref seaText, .ref book, .ref sentence, .ref spareSentence, .ref route, .ref meeting, .ref sighting, .ref draws, .ref history, .ref images, .ref chartBytes, .int (nI 0), .int (-1 : Int32)])), (reader, .inr (5, [.ref tape, .int rlength, .int rmostBytes, .int rplace, .int rkind, .int rbegin, .int rword, .int rnumber, .long rletters, .int rfaultKind, .int rfaultPlace])), (tape, .inl (ky 2, 940, .inl tapeG_16))] := hD
  refine lv_aload_n hx hb dX11_feed_42 rfl (lv_at hl 0 rfl) ?_
  refine va_get (D := (dC, dI)) (ci := 11) (v := .int (nI 20)) (C := RX11) (T := TX11) (N := 18) hx hb hts hin11 hown hK hP 0 rfl rfl 1 (by decide) (hts (.fieldLink RX11 16 "PorridgeSea" "tapeLength" "I") (List.mem_of_getElem? (i := 1) rfl)) (fun _ h9 => h9) rfl dX11_feed_43 ?_
  have hP9 := hP.sub (ws' := []) [] rfl
  have hD9 := hD.sub (ws' := []) [] (by decide) rfl
  refine W.widen (k := 0) (n := 0) (Nat.le_of_ble_eq_true rfl) (Nat.le_of_ble_eq_true rfl) ?_
  exact W.iret (v := nI 20) hx hb hr (fun t9 ht9 hW9 => ⟨⟨nI 20, (), rfl, rfl, by rw [ht9]; exact hP9, va_K.moved hW9.alike hK, hD9⟩, hS.F ht9⟩) hS.2.2 dX11_feed_46
set_option maxRecDepth 20000 in
theorem lf_end_1 (t : Nat) (reader : Nat) (sea : Nat) (spareSea : Nat) (seaText : Nat) (book : Nat) (sentence : Nat) (spareSentence : Nat) (route : Nat) (meeting : Nat) (sighting : Nat) (draws : Nat) (history : Nat) (images : Nat) (chartBytes : Nat) (x : Int32) (c1 : x < 0) : ((nI 0) = nI 1 ∧ x.toInt = 0) ∨ ((nI 0) = nI 0 ∧ x.toInt ≠ 0) := by
  have k_0 := ia_n 0 (by decide)
  have k_1 := ia_n 1 (by decide)
  simp only [ia_lt, ia_le, ia_eq, ia_m1, ia_0, ia_1, ne_eq, true_and, and_true, false_and, and_false, or_false, false_or, or_true, true_or, not_true_eq_false, not_false_eq_true] at *
  all_goals omega
set_option maxRecDepth 20000 in
theorem lf_end_2 (t : Nat) (reader : Nat) (sea : Nat) (spareSea : Nat) (seaText : Nat) (book : Nat) (sentence : Nat) (spareSentence : Nat) (route : Nat) (meeting : Nat) (sighting : Nat) (draws : Nat) (history : Nat) (images : Nat) (chartBytes : Nat) (x : Int32) (c1 : ¬ x < 0) (c2 : x ≤ nI 0) : ((nI 1) = nI 1 ∧ x.toInt = 0) ∨ ((nI 1) = nI 0 ∧ x.toInt ≠ 0) := by
  have k_0 := ia_n 0 (by decide)
  have k_1 := ia_n 1 (by decide)
  simp only [ia_lt, ia_le, ia_eq, ia_m1, ia_0, ia_1, ne_eq, true_and, and_true, false_and, and_false, or_false, false_or, or_true, true_or, not_true_eq_false, not_false_eq_true] at *
  all_goals omega
set_option maxRecDepth 20000 in
theorem lf_end_3 (t : Nat) (reader : Nat) (sea : Nat) (spareSea : Nat) (seaText : Nat) (book : Nat) (sentence : Nat) (spareSentence : Nat) (route : Nat) (meeting : Nat) (sighting : Nat) (draws : Nat) (history : Nat) (images : Nat) (chartBytes : Nat) (x : Int32) (c1 : ¬ x < 0) (c2 : ¬ x ≤ nI 0) : ((nI 0) = nI 1 ∧ x.toInt = 0) ∨ ((nI 0) = nI 0 ∧ x.toInt ≠ 0) := by
  have k_0 := ia_n 0 (by decide)
  have k_1 := ia_n 1 (by decide)
  simp only [ia_lt, ia_le, ia_eq, ia_m1, ia_0, ia_1, ne_eq, true_and, and_true, false_and, and_false, or_false, false_or, or_true, true_or, not_true_eq_false, not_false_eq_true] at *
  all_goals omega
set_option maxHeartbeats 4000000 in
set_option maxRecDepth 100000 in
theorem c_end (l : Launch) (dC : Nat → ClassId) (dI : Nat → Nat → Nat) (ky : Nat → ClassId) (sz : Nat) (t : Nat) (reader : Nat) (sea : Nat) (spareSea : Nat) (seaText : Nat) (book : Nat) (sentence : Nat) (spareSentence : Nat) (route : Nat) (meeting : Nat) (sighting : Nat) (draws : Nat) (history : Nat) (images : Nat) (chartBytes : Nat) (x : Int32)  : Met l yX11_end wsX11_end ({ frames := 0, cells := 0, slots := 0, locals := 0 }) (PcU dC dI ky [.ref t, .int x] [(t, .inr (11, [.ref reader, .int (nI 0), .int (nI 0), .ref sea, .ref spareSea, .ref seaText, .ref book, .ref sentence, .ref spareSentence, .ref route, .ref meeting, .ref sighting, .ref draws, .ref history, .ref images, .ref chartBytes, .int (nI 0), .int (-1 : Int32)]))] sz) (va_Qi (fun (r : Int32) (_ : Unit) => (r = nI 1 ∧ x.toInt = 0) ∨ (r = nI 0 ∧ x.toInt ≠ 0)) (BU dC dI ky (fun (_ : Unit) => []) (va_A [(t, .inr (11, [.ref reader, .int (nI 0), .int (nI 0), .ref sea, .ref spareSea, .ref seaText, .ref book, .ref sentence, .ref spareSentence, .ref route, .ref meeting, .ref sighting, .ref draws, .ref history, .ref images, .ref chartBytes, .int (nI 0), .int (-1 : Int32)]))] sz)) (va_A [(t, .inr (11, [.ref reader, .int (nI 0), .int (nI 0), .ref sea, .ref spareSea, .ref seaText, .ref book, .ref sentence, .ref spareSentence, .ref route, .ref meeting, .ref sighting, .ref draws, .ref history, .ref images, .ref chartBytes, .int (nI 0), .int (-1 : Int32)]))] sz)) 0 0 (va_A [(t, .inr (11, [.ref reader, .int (nI 0), .int (nI 0), .ref sea, .ref spareSea, .ref seaText, .ref book, .ref sentence, .ref spareSentence, .ref route, .ref meeting, .ref sighting, .ref draws, .ref history, .ref images, .ref chartBytes, .int (nI 0), .int (-1 : Int32)]))] sz) := by
  refine Met.ofW (cc := cX11_end) (maxL := 2) (ret := (some .boolean)) (by decide) rfl ?_
  intro p e s m args below meth c s₁ B hml hv
  obtain ⟨rfl, hsz, hP, hK, hD0⟩ := hv
  have hx := B.exec
  have hb := B.bytes
  have hr := B.returns
  have hts := atoms_spec (ws := wsX11_end) B.pre
  have hown : s.vm.findClass RX11 = some m.cls := findClass_of_methodNamed B.named
  have hlocks := B.notSynchronized
  have hin11 : ∀ w ∈ u_ws RX11 TX11 18, w ∈ wsX11_end := by decide +kernel
  subst hsz
  have hD := hD0.self (sz := s.heap.size)
  generalize hAe : va_A [(t, .inr (11, [.ref reader, .int (nI 0), .int (nI 0), .ref sea, .ref spareSea, .ref seaText, .ref book, .ref sentence, .ref spareSentence, .ref route, .ref meeting, .ref sighting, .ref draws, .ref history, .ref images, .ref chartBytes, .int (nI 0), .int (-1 : Int32)]))] s.heap.size = A at hD ⊢
  have hA : ∀ q : Nat, s.heap.size ≤ q → A q := fun q h => by rw [← hAe]; exact Or.inr h
  have hS : va_S A s.heap s.heap [] := va_S.rf
  have hP : va_P (dC, dI) vwCl [(t, .inr (11, [.ref reader, .int (nI 0), .int (nI 0), .ref sea, .ref spareSea, .ref seaText, .ref book, .ref sentence, .ref spareSentence, .ref route, .ref meeting, .ref sighting, .ref draws, .ref history, .ref images, .ref chartBytes, .int (nI 0), .int (-1 : Int32)]))] s.heap := hP
  have hl := lv_entry ([.ref t, .int x]) (n := 2) (Nat.le_of_ble_eq_true rfl)
  rw [lg_entry_eq]
  generalize (lg_sl ([.ref t, .int x]) ++ List.replicate (2 - (lg_sl ([.ref t, .int x])).length) Slot.unset).toArray = ls at hl ⊢
  have hl : lv_has ls 2 [(0, .ref t), (1, .int x)] := hl
  have hH0 : True := trivial
  refine lv_iload_n hx hb dX11_end_0 rfl (lv_at hl 1 rfl) ?_
  refine lv_if_lt (tgt := 12) hx hb dX11_end_1 (by decide) (fun c1 => ?_) (fun c1 => ?_)
  · refine lv_iconst (v := nI 0) hx hb dX11_end_12 (by decide) ?_
    have hP9 := hP.sub (ws' := []) [] rfl
    have hD9 := hD.sub (ws' := []) [] (by decide) rfl
    refine W.widen (k := 0) (n := 0) (Nat.le_of_ble_eq_true rfl) (Nat.le_of_ble_eq_true rfl) ?_
    exact W.zret (v := nI 0) hx hb hr (by decide) (fun t9 ht9 hW9 => ⟨⟨nI 0, (), rfl, (lf_end_1 t reader sea spareSea seaText book sentence spareSentence route meeting sighting draws history images chartBytes x c1), by rw [ht9]; exact hP9, va_K.moved hW9.alike hK, hD9⟩, hS.F ht9⟩) hS.2.2 dX11_end_13
  · refine lv_iload_n hx hb dX11_end_4 rfl (lv_at hl 1 rfl) ?_
    refine lv_aload_n hx hb dX11_end_5 rfl (lv_at hl 0 rfl) ?_
    refine va_get (D := (dC, dI)) (ci := 11) (v := .int (nI 0)) (C := RX11) (T := TX11) (N := 18) hx hb hts hin11 hown hK hP 0 rfl rfl 1 (by decide) (hts (.fieldLink RX11 16 "PorridgeSea" "tapeLength" "I") (List.mem_of_getElem? (i := 1) rfl)) (fun _ h9 => h9) rfl dX11_end_6 ?_
    refine lv_icmp_le (tgt := 14) hx hb dX11_end_9 (by decide) (fun c2 => ?_) (fun c2 => ?_)
    · refine lv_aload_n hx hb dX11_end_14 rfl (lv_at hl 0 rfl) ?_
      refine lv_iload_n hx hb dX11_end_15 rfl (lv_at hl 1 rfl) ?_
      refine va_put (D := (dC, dI)) (ci := 11) (v := .int x) (ty := .int) (C := RX11) (T := TX11) (N := 18) hx hb hts hin11 tyX11 tyX11_ok nmX11 hown hK hP hD hS 0 rfl rfl 1 (by decide) (hts (.fieldLink RX11 16 "PorridgeSea" "tapeLength" "I") (List.mem_of_getElem? (i := 1) rfl)) (fun _ h9 => h9) rfl (by decide +kernel) rfl rfl (Nat.le_of_ble_eq_true rfl) dX11_end_16 (fun H locs hP hD hS => ?_)
      have hP : va_P (dC, dI) vwCl [(t, .inr (11, [.ref reader, .int x, .int (nI 0), .ref sea, .ref spareSea, .ref seaText, .ref book, .ref sentence, .ref spareSentence, .ref route, .ref meeting, .ref sighting, .ref draws, .ref history, .ref images, .ref chartBytes, .int (nI 0), .int (-1 : Int32)]))] H := hP
      have hD : va_D A [(t, .inr (11, [.ref reader, .int x, .int (nI 0), .ref sea, .ref spareSea, .ref seaText, .ref book, .ref sentence, .ref spareSentence, .ref route, .ref meeting, .ref sighting, .ref draws, .ref history, .ref images, .ref chartBytes, .int (nI 0), .int (-1 : Int32)]))] := hD
      refine lv_iconst (v := nI 1) hx hb dX11_end_19 (by decide) ?_
      have hP9 := hP.sub (ws' := []) [] rfl
      have hD9 := hD.sub (ws' := []) [] (by decide) rfl
      refine W.widen (k := 0) (n := 0) (Nat.le_of_ble_eq_true rfl) (Nat.le_of_ble_eq_true rfl) ?_
      exact W.zret (v := nI 1) hx hb hr (by decide) (fun t9 ht9 hW9 => ⟨⟨nI 1, (), rfl, (lf_end_2 t reader sea spareSea seaText book sentence spareSentence route meeting sighting draws history images chartBytes x c1 c2), by rw [ht9]; exact hP9, va_K.moved hW9.alike hK, hD9⟩, hS.F ht9⟩) hS.2.2 dX11_end_20
    · refine lv_iconst (v := nI 0) hx hb dX11_end_12 (by decide) ?_
      have hP9 := hP.sub (ws' := []) [] rfl
      have hD9 := hD.sub (ws' := []) [] (by decide) rfl
      refine W.widen (k := 0) (n := 0) (Nat.le_of_ble_eq_true rfl) (Nat.le_of_ble_eq_true rfl) ?_
      exact W.zret (v := nI 0) hx hb hr (by decide) (fun t9 ht9 hW9 => ⟨⟨nI 0, (), rfl, (lf_end_3 t reader sea spareSea seaText book sentence spareSentence route meeting sighting draws history images chartBytes x c1 c2), by rw [ht9]; exact hP9, va_K.moved hW9.alike hK, hD9⟩, hS.F ht9⟩) hS.2.2 dX11_end_13
set_option maxHeartbeats 4000000 in
set_option maxRecDepth 100000 in
theorem c_openTape900 (l : Launch) (dC : Nat → ClassId) (dI : Nat → Nat → Nat) (ky : Nat → ClassId) (sz : Nat) (t : Nat) (reader : Nat) (sea : Nat) (spareSea : Nat) (seaText : Nat) (book : Nat) (sentence : Nat) (spareSentence : Nat) (route : Nat) (meeting : Nat) (sighting : Nat) (draws : Nat) (history : Nat) (images : Nat) (chartBytes : Nat) (tape : Nat)  : Met l yX11_openTape wsX11_openTape ({ frames := 2, cells := 0, slots := 0, locals := 42 }) (PcU dC dI ky [.ref t, .int (nI 900)] [(t, .inr (11, [.ref reader, .int (nI 0), .int (nI 0), .ref sea, .ref spareSea, .ref seaText, .ref book, .ref sentence, .ref spareSentence, .ref route, .ref meeting, .ref sighting, .ref draws, .ref history, .ref images, .ref chartBytes, .int (nI 0), .int (-1 : Int32)])), (reader, .inr (5, [.ref tape, .int (nI 0), .int (nI 0), .int (nI 0), .int (nI 0), .int (nI 0), .int (nI 0), .int (nI 0), .long 0, .int (nI 0), .int (nI 0)]))] sz) (va_Qv (fun (_ : Unit) => True) (BU dC dI ky (fun (_ : Unit) => [(t, .inr (11, [.ref reader, .int (nI 0), .int (nI 0), .ref sea, .ref spareSea, .ref seaText, .ref book, .ref sentence, .ref spareSentence, .ref route, .ref meeting, .ref sighting, .ref draws, .ref history, .ref images, .ref chartBytes, .int (nI 0), .int (-1 : Int32)])), (reader, .inr (5, [.ref tape, .int (nI 0), .int (nI 900), .int (nI 0), .int (nI 0), .int (nI 0), .int (-1 : Int32), .int (nI 0), .long 0, .int (nI 0), .int (nI 0)]))]) (va_A [(t, .inr (11, [.ref reader, .int (nI 0), .int (nI 0), .ref sea, .ref spareSea, .ref seaText, .ref book, .ref sentence, .ref spareSentence, .ref route, .ref meeting, .ref sighting, .ref draws, .ref history, .ref images, .ref chartBytes, .int (nI 0), .int (-1 : Int32)])), (reader, .inr (5, [.ref tape, .int (nI 0), .int (nI 0), .int (nI 0), .int (nI 0), .int (nI 0), .int (nI 0), .int (nI 0), .long 0, .int (nI 0), .int (nI 0)]))] sz)) (va_A [(t, .inr (11, [.ref reader, .int (nI 0), .int (nI 0), .ref sea, .ref spareSea, .ref seaText, .ref book, .ref sentence, .ref spareSentence, .ref route, .ref meeting, .ref sighting, .ref draws, .ref history, .ref images, .ref chartBytes, .int (nI 0), .int (-1 : Int32)])), (reader, .inr (5, [.ref tape, .int (nI 0), .int (nI 0), .int (nI 0), .int (nI 0), .int (nI 0), .int (nI 0), .int (nI 0), .long 0, .int (nI 0), .int (nI 0)]))] sz)) 0 0 (va_A [(t, .inr (11, [.ref reader, .int (nI 0), .int (nI 0), .ref sea, .ref spareSea, .ref seaText, .ref book, .ref sentence, .ref spareSentence, .ref route, .ref meeting, .ref sighting, .ref draws, .ref history, .ref images, .ref chartBytes, .int (nI 0), .int (-1 : Int32)])), (reader, .inr (5, [.ref tape, .int (nI 0), .int (nI 0), .int (nI 0), .int (nI 0), .int (nI 0), .int (nI 0), .int (nI 0), .long 0, .int (nI 0), .int (nI 0)]))] sz) := by
  refine Met.ofW (cc := cX11_openTape) (maxL := 2) (ret := none) (by decide) rfl ?_
  intro p e s m args below meth c s₁ B hml hv
  obtain ⟨rfl, hsz, hP, hK, hD0⟩ := hv
  have hx := B.exec
  have hb := B.bytes
  have hr := B.returns
  have hts := atoms_spec (ws := wsX11_openTape) B.pre
  have hown : s.vm.findClass RX11 = some m.cls := findClass_of_methodNamed B.named
  have hlocks := B.notSynchronized
  have hin11 : ∀ w ∈ u_ws RX11 TX11 18, w ∈ wsX11_openTape := by decide +kernel
  subst hsz
  have hD := hD0.self (sz := s.heap.size)
  generalize hAe : va_A [(t, .inr (11, [.ref reader, .int (nI 0), .int (nI 0), .ref sea, .ref spareSea, .ref seaText, .ref book, .ref sentence, .ref spareSentence, .ref route, .ref meeting, .ref sighting, .ref draws, .ref history, .ref images, .ref chartBytes, .int (nI 0), .int (-1 : Int32)])), (reader, .inr (5, [.ref tape, .int (nI 0), .int (nI 0), .int (nI 0), .int (nI 0), .int (nI 0), .int (nI 0), .int (nI 0), .long 0, .int (nI 0), .int (nI 0)]))] s.heap.size = A at hD ⊢
  have hA : ∀ q : Nat, s.heap.size ≤ q → A q := fun q h => by rw [← hAe]; exact Or.inr h
  have hS : va_S A s.heap s.heap [] := va_S.rf
  have hP : va_P (dC, dI) vwCl [(t, .inr (11, [.ref reader, .int (nI 0), .int (nI 0), .ref sea, .ref spareSea, .ref seaText, .ref book, .ref sentence, .ref spareSentence, .ref route, .ref meeting, .ref sighting, .ref draws, .ref history, .ref images, .ref chartBytes, .int (nI 0), .int (-1 : Int32)])), (reader, .inr (5, [.ref tape, .int (nI 0), .int (nI 0), .int (nI 0), .int (nI 0), .int (nI 0), .int (nI 0), .int (nI 0), .long 0, .int (nI 0), .int (nI 0)]))] s.heap := hP
  have hl := lv_entry ([.ref t, .int (nI 900)]) (n := 2) (Nat.le_of_ble_eq_true rfl)
  rw [lg_entry_eq]
  generalize (lg_sl ([.ref t, .int (nI 900)]) ++ List.replicate (2 - (lg_sl ([.ref t, .int (nI 900)])).length) Slot.unset).toArray = ls at hl ⊢
  have hl : lv_has ls 2 [(0, .ref t), (1, .int (nI 900))] := hl
  have hH0 : True := trivial
  refine lv_aload_n hx hb dX11_openTape_0 rfl (lv_at hl 0 rfl) ?_
  refine va_get (D := (dC, dI)) (ci := 11) (v := .ref reader) (C := RX11) (T := TX11) (N := 18) hx hb hts hin11 hown hK hP 0 rfl rfl 0 (by decide) (hts (.fieldLink RX11 10 "PorridgeSea" "reader" "LPorridgeSea$Reader;") (List.mem_of_getElem? (i := 1) rfl)) (fun _ h9 => h9) rfl dX11_openTape_1 ?_
  refine lv_aload_n hx hb dX11_openTape_4 rfl (lv_at hl 0 rfl) ?_
  refine va_get (D := (dC, dI)) (ci := 11) (v := .int (nI 0)) (C := RX11) (T := TX11) (N := 18) hx hb hts hin11 hown hK hP 0 rfl rfl 1 (by decide) (hts (.fieldLink RX11 16 "PorridgeSea" "tapeLength" "I") (List.mem_of_getElem? (i := 2) rfl)) (fun _ h9 => h9) rfl dX11_openTape_5 ?_
  refine lv_iload_n hx hb dX11_openTape_8 rfl (lv_at hl 1 rfl) ?_
  refine r_call_v (wr := [(t, .inr (11, [.ref reader, .int (nI 0), .int (nI 0), .ref sea, .ref spareSea, .ref seaText, .ref book, .ref sentence, .ref spareSentence, .ref route, .ref meeting, .ref sighting, .ref draws, .ref history, .ref images, .ref chartBytes, .int (nI 0), .int (-1 : Int32)]))]) (va_runV (As := [.int (nI 0), .int (nI 900)]) (rest := []) ⟨hx, hb, hml, hown, hts⟩ (c_open900 l dC dI ky s.heap.size reader tape) (cwV 2 hts gX11_openTape_X5_open rfl rfl rfl (by decide +kernel) ⟨(Nat.le_of_ble_eq_true rfl), (Nat.le_of_ble_eq_true rfl)⟩) (pre_UV hK hP hD [1] (by decide) rfl (ci := 5) (q0 := 1) rfl rfl) rfl rfl hl.1 rfl (lv_room (Nat.le_of_ble_eq_true rfl)) dX11_openTape_9 ⟨(Nat.le_of_ble_eq_true rfl), (Nat.le_of_ble_eq_true rfl)⟩) hP hD hS hA [1] [0] rfl rfl (by decide) (by decide) (fun  u1 H locs p2 hP hD hS => ?_)
  refine W.widen (k := 0) (n := 0) (Nat.le_of_ble_eq_true rfl) (Nat.le_of_ble_eq_true rfl) ?_
  have hP : va_P (dC, dI) vwCl [(t, .inr (11, [.ref reader, .int (nI 0), .int (nI 0), .ref sea, .ref spareSea, .ref seaText, .ref book, .ref sentence, .ref spareSentence, .ref route, .ref meeting, .ref sighting, .ref draws, .ref history, .ref images, .ref chartBytes, .int (nI 0), .int (-1 : Int32)])), (reader, .inr (5, [.ref tape, .int (nI 0), .int (nI 900), .int (nI 0), .int (nI 0), .int (nI 0), .int (-1 : Int32), .int (nI 0), .long 0, .int (nI 0), .int (nI 0)]))] H := hP
  have hD : va_D A [(t, .inr (11, [.ref reader, .int (nI 0), .int (nI 0), .ref sea, .ref spareSea, .ref seaText, .ref book, .ref sentence, .ref spareSentence, .ref route, .ref meeting, .ref sighting, .ref draws, .ref history, .ref images, .ref chartBytes, .int (nI 0), .int (-1 : Int32)])), (reader, .inr (5, [.ref tape, .int (nI 0), .int (nI 900), .int (nI 0), .int (nI 0), .int (nI 0), .int (-1 : Int32), .int (nI 0), .long 0, .int (nI 0), .int (nI 0)]))] := hD
  refine lv_aload_n hx hb dX11_openTape_12 rfl (lv_at hl 0 rfl) ?_
  refine lv_iconst (v := nI 0) hx hb dX11_openTape_13 (by decide) ?_
  refine va_put (D := (dC, dI)) (ci := 11) (v := .int (nI 0)) (ty := .int) (C := RX11) (T := TX11) (N := 18) hx hb hts hin11 tyX11 tyX11_ok nmX11 hown hK hP hD hS 0 rfl rfl 1 (by decide) (hts (.fieldLink RX11 16 "PorridgeSea" "tapeLength" "I") (List.mem_of_getElem? (i := 2) rfl)) (fun _ h9 => h9) rfl (by decide +kernel) rfl rfl (Nat.le_of_ble_eq_true rfl) dX11_openTape_14 (fun H locs hP hD hS => ?_)
  have hP : va_P (dC, dI) vwCl [(t, .inr (11, [.ref reader, .int (nI 0), .int (nI 0), .ref sea, .ref spareSea, .ref seaText, .ref book, .ref sentence, .ref spareSentence, .ref route, .ref meeting, .ref sighting, .ref draws, .ref history, .ref images, .ref chartBytes, .int (nI 0), .int (-1 : Int32)])), (reader, .inr (5, [.ref tape, .int (nI 0), .int (nI 900), .int (nI 0), .int (nI 0), .int (nI 0), .int (-1 : Int32), .int (nI 0), .long 0, .int (nI 0), .int (nI 0)]))] H := hP
  have hD : va_D A [(t, .inr (11, [.ref reader, .int (nI 0), .int (nI 0), .ref sea, .ref spareSea, .ref seaText, .ref book, .ref sentence, .ref spareSentence, .ref route, .ref meeting, .ref sighting, .ref draws, .ref history, .ref images, .ref chartBytes, .int (nI 0), .int (-1 : Int32)])), (reader, .inr (5, [.ref tape, .int (nI 0), .int (nI 900), .int (nI 0), .int (nI 0), .int (nI 0), .int (-1 : Int32), .int (nI 0), .long 0, .int (nI 0), .int (nI 0)]))] := hD
  have hP9 := hP.sub (ws' := [(t, .inr (11, [.ref reader, .int (nI 0), .int (nI 0), .ref sea, .ref spareSea, .ref seaText, .ref book, .ref sentence, .ref spareSentence, .ref route, .ref meeting, .ref sighting, .ref draws, .ref history, .ref images, .ref chartBytes, .int (nI 0), .int (-1 : Int32)])), (reader, .inr (5, [.ref tape, .int (nI 0), .int (nI 900), .int (nI 0), .int (nI 0), .int (nI 0), .int (-1 : Int32), .int (nI 0), .long 0, .int (nI 0), .int (nI 0)]))]) [0, 1] rfl
  have hD9 := hD.sub (ws' := [(t, .inr (11, [.ref reader, .int (nI 0), .int (nI 0), .ref sea, .ref spareSea, .ref seaText, .ref book, .ref sentence, .ref spareSentence, .ref route, .ref meeting, .ref sighting, .ref draws, .ref history, .ref images, .ref chartBytes, .int (nI 0), .int (-1 : Int32)])), (reader, .inr (5, [.ref tape, .int (nI 0), .int (nI 900), .int (nI 0), .int (nI 0), .int (nI 0), .int (-1 : Int32), .int (nI 0), .long 0, .int (nI 0), .int (nI 0)]))]) [0, 1] (by decide) rfl
  refine W.widen (k := 0) (n := 0) (Nat.le_of_ble_eq_true rfl) (Nat.le_of_ble_eq_true rfl) ?_
  exact W.vret hx hb hr (fun t9 ht9 hW9 => ⟨⟨(), rfl, trivial, by rw [ht9]; exact hP9, va_K.moved hW9.alike hK, hD9⟩, hS.F ht9⟩) hS.2.2 dX11_openTape_17
set_option maxHeartbeats 4000000 in
set_option maxRecDepth 100000 in
theorem c_openTape400 (l : Launch) (dC : Nat → ClassId) (dI : Nat → Nat → Nat) (ky : Nat → ClassId) (sz : Nat) (t : Nat) (reader : Nat) (sea : Nat) (spareSea : Nat) (seaText : Nat) (book : Nat) (sentence : Nat) (spareSentence : Nat) (route : Nat) (meeting : Nat) (sighting : Nat) (draws : Nat) (history : Nat) (images : Nat) (chartBytes : Nat) (tape : Nat)  : Met l yX11_openTape wsX11_openTape ({ frames := 2, cells := 0, slots := 0, locals := 42 }) (PcU dC dI ky [.ref t, .int (nI 400)] [(t, .inr (11, [.ref reader, .int (nI 0), .int (nI 0), .ref sea, .ref spareSea, .ref seaText, .ref book, .ref sentence, .ref spareSentence, .ref route, .ref meeting, .ref sighting, .ref draws, .ref history, .ref images, .ref chartBytes, .int (nI 0), .int (-1 : Int32)])), (reader, .inr (5, [.ref tape, .int (nI 0), .int (nI 0), .int (nI 0), .int (nI 0), .int (nI 0), .int (nI 0), .int (nI 0), .long 0, .int (nI 0), .int (nI 0)]))] sz) (va_Qv (fun (_ : Unit) => True) (BU dC dI ky (fun (_ : Unit) => [(t, .inr (11, [.ref reader, .int (nI 0), .int (nI 0), .ref sea, .ref spareSea, .ref seaText, .ref book, .ref sentence, .ref spareSentence, .ref route, .ref meeting, .ref sighting, .ref draws, .ref history, .ref images, .ref chartBytes, .int (nI 0), .int (-1 : Int32)])), (reader, .inr (5, [.ref tape, .int (nI 0), .int (nI 400), .int (nI 0), .int (nI 0), .int (nI 0), .int (-1 : Int32), .int (nI 0), .long 0, .int (nI 0), .int (nI 0)]))]) (va_A [(t, .inr (11, [.ref reader, .int (nI 0), .int (nI 0), .ref sea, .ref spareSea, .ref seaText, .ref book, .ref sentence, .ref spareSentence, .ref route, .ref meeting, .ref sighting, .ref draws, .ref history, .ref images, .ref chartBytes, .int (nI 0), .int (-1 : Int32)])), (reader, .inr (5, [.ref tape, .int (nI 0), .int (nI 0), .int (nI 0), .int (nI 0), .int (nI 0), .int (nI 0), .int (nI 0), .long 0, .int (nI 0), .int (nI 0)]))] sz)) (va_A [(t, .inr (11, [.ref reader, .int (nI 0), .int (nI 0), .ref sea, .ref spareSea, .ref seaText, .ref book, .ref sentence, .ref spareSentence, .ref route, .ref meeting, .ref sighting, .ref draws, .ref history, .ref images, .ref chartBytes, .int (nI 0), .int (-1 : Int32)])), (reader, .inr (5, [.ref tape, .int (nI 0), .int (nI 0), .int (nI 0), .int (nI 0), .int (nI 0), .int (nI 0), .int (nI 0), .long 0, .int (nI 0), .int (nI 0)]))] sz)) 0 0 (va_A [(t, .inr (11, [.ref reader, .int (nI 0), .int (nI 0), .ref sea, .ref spareSea, .ref seaText, .ref book, .ref sentence, .ref spareSentence, .ref route, .ref meeting, .ref sighting, .ref draws, .ref history, .ref images, .ref chartBytes, .int (nI 0), .int (-1 : Int32)])), (reader, .inr (5, [.ref tape, .int (nI 0), .int (nI 0), .int (nI 0), .int (nI 0), .int (nI 0), .int (nI 0), .int (nI 0), .long 0, .int (nI 0), .int (nI 0)]))] sz) := by
  refine Met.ofW (cc := cX11_openTape) (maxL := 2) (ret := none) (by decide) rfl ?_
  intro p e s m args below meth c s₁ B hml hv
  obtain ⟨rfl, hsz, hP, hK, hD0⟩ := hv
  have hx := B.exec
  have hb := B.bytes
  have hr := B.returns
  have hts := atoms_spec (ws := wsX11_openTape) B.pre
  have hown : s.vm.findClass RX11 = some m.cls := findClass_of_methodNamed B.named
  have hlocks := B.notSynchronized
  have hin11 : ∀ w ∈ u_ws RX11 TX11 18, w ∈ wsX11_openTape := by decide +kernel
  subst hsz
  have hD := hD0.self (sz := s.heap.size)
  generalize hAe : va_A [(t, .inr (11, [.ref reader, .int (nI 0), .int (nI 0), .ref sea, .ref spareSea, .ref seaText, .ref book, .ref sentence, .ref spareSentence, .ref route, .ref meeting, .ref sighting, .ref draws, .ref history, .ref images, .ref chartBytes, .int (nI 0), .int (-1 : Int32)])), (reader, .inr (5, [.ref tape, .int (nI 0), .int (nI 0), .int (nI 0), .int (nI 0), .int (nI 0), .int (nI 0), .int (nI 0), .long 0, .int (nI 0), .int (nI 0)]))] s.heap.size = A at hD ⊢
  have hA : ∀ q : Nat, s.heap.size ≤ q → A q := fun q h => by rw [← hAe]; exact Or.inr h
  have hS : va_S A s.heap s.heap [] := va_S.rf
  have hP : va_P (dC, dI) vwCl [(t, .inr (11, [.ref reader, .int (nI 0), .int (nI 0), .ref sea, .ref spareSea, .ref seaText, .ref book, .ref sentence, .ref spareSentence, .ref route, .ref meeting, .ref sighting, .ref draws, .ref history, .ref images, .ref chartBytes, .int (nI 0), .int (-1 : Int32)])), (reader, .inr (5, [.ref tape, .int (nI 0), .int (nI 0), .int (nI 0), .int (nI 0), .int (nI 0), .int (nI 0), .int (nI 0), .long 0, .int (nI 0), .int (nI 0)]))] s.heap := hP
  have hl := lv_entry ([.ref t, .int (nI 400)]) (n := 2) (Nat.le_of_ble_eq_true rfl)
  rw [lg_entry_eq]
  generalize (lg_sl ([.ref t, .int (nI 400)]) ++ List.replicate (2 - (lg_sl ([.ref t, .int (nI 400)])).length) Slot.unset).toArray = ls at hl ⊢
  have hl : lv_has ls 2 [(0, .ref t), (1, .int (nI 400))] := hl
  have hH0 : True := trivial
  refine lv_aload_n hx hb dX11_openTape_0 rfl (lv_at hl 0 rfl) ?_
  refine va_get (D := (dC, dI)) (ci := 11) (v := .ref reader) (C := RX11) (T := TX11) (N := 18) hx hb hts hin11 hown hK hP 0 rfl rfl 0 (by decide) (hts (.fieldLink RX11 10 "PorridgeSea" "reader" "LPorridgeSea$Reader;") (List.mem_of_getElem? (i := 1) rfl)) (fun _ h9 => h9) rfl dX11_openTape_1 ?_
  refine lv_aload_n hx hb dX11_openTape_4 rfl (lv_at hl 0 rfl) ?_
  refine va_get (D := (dC, dI)) (ci := 11) (v := .int (nI 0)) (C := RX11) (T := TX11) (N := 18) hx hb hts hin11 hown hK hP 0 rfl rfl 1 (by decide) (hts (.fieldLink RX11 16 "PorridgeSea" "tapeLength" "I") (List.mem_of_getElem? (i := 2) rfl)) (fun _ h9 => h9) rfl dX11_openTape_5 ?_
  refine lv_iload_n hx hb dX11_openTape_8 rfl (lv_at hl 1 rfl) ?_
  refine r_call_v (wr := [(t, .inr (11, [.ref reader, .int (nI 0), .int (nI 0), .ref sea, .ref spareSea, .ref seaText, .ref book, .ref sentence, .ref spareSentence, .ref route, .ref meeting, .ref sighting, .ref draws, .ref history, .ref images, .ref chartBytes, .int (nI 0), .int (-1 : Int32)]))]) (va_runV (As := [.int (nI 0), .int (nI 400)]) (rest := []) ⟨hx, hb, hml, hown, hts⟩ (c_open400 l dC dI ky s.heap.size reader tape) (cwV 2 hts gX11_openTape_X5_open rfl rfl rfl (by decide +kernel) ⟨(Nat.le_of_ble_eq_true rfl), (Nat.le_of_ble_eq_true rfl)⟩) (pre_UV hK hP hD [1] (by decide) rfl (ci := 5) (q0 := 1) rfl rfl) rfl rfl hl.1 rfl (lv_room (Nat.le_of_ble_eq_true rfl)) dX11_openTape_9 ⟨(Nat.le_of_ble_eq_true rfl), (Nat.le_of_ble_eq_true rfl)⟩) hP hD hS hA [1] [0] rfl rfl (by decide) (by decide) (fun  u1 H locs p2 hP hD hS => ?_)
  refine W.widen (k := 0) (n := 0) (Nat.le_of_ble_eq_true rfl) (Nat.le_of_ble_eq_true rfl) ?_
  have hP : va_P (dC, dI) vwCl [(t, .inr (11, [.ref reader, .int (nI 0), .int (nI 0), .ref sea, .ref spareSea, .ref seaText, .ref book, .ref sentence, .ref spareSentence, .ref route, .ref meeting, .ref sighting, .ref draws, .ref history, .ref images, .ref chartBytes, .int (nI 0), .int (-1 : Int32)])), (reader, .inr (5, [.ref tape, .int (nI 0), .int (nI 400), .int (nI 0), .int (nI 0), .int (nI 0), .int (-1 : Int32), .int (nI 0), .long 0, .int (nI 0), .int (nI 0)]))] H := hP
  have hD : va_D A [(t, .inr (11, [.ref reader, .int (nI 0), .int (nI 0), .ref sea, .ref spareSea, .ref seaText, .ref book, .ref sentence, .ref spareSentence, .ref route, .ref meeting, .ref sighting, .ref draws, .ref history, .ref images, .ref chartBytes, .int (nI 0), .int (-1 : Int32)])), (reader, .inr (5, [.ref tape, .int (nI 0), .int (nI 400), .int (nI 0), .int (nI 0), .int (nI 0), .int (-1 : Int32), .int (nI 0), .long 0, .int (nI 0), .int (nI 0)]))] := hD
  refine lv_aload_n hx hb dX11_openTape_12 rfl (lv_at hl 0 rfl) ?_
  refine lv_iconst (v := nI 0) hx hb dX11_openTape_13 (by decide) ?_
  refine va_put (D := (dC, dI)) (ci := 11) (v := .int (nI 0)) (ty := .int) (C := RX11) (T := TX11) (N := 18) hx hb hts hin11 tyX11 tyX11_ok nmX11 hown hK hP hD hS 0 rfl rfl 1 (by decide) (hts (.fieldLink RX11 16 "PorridgeSea" "tapeLength" "I") (List.mem_of_getElem? (i := 2) rfl)) (fun _ h9 => h9) rfl (by decide +kernel) rfl rfl (Nat.le_of_ble_eq_true rfl) dX11_openTape_14 (fun H locs hP hD hS => ?_)
  have hP : va_P (dC, dI) vwCl [(t, .inr (11, [.ref reader, .int (nI 0), .int (nI 0), .ref sea, .ref spareSea, .ref seaText, .ref book, .ref sentence, .ref spareSentence, .ref route, .ref meeting, .ref sighting, .ref draws, .ref history, .ref images, .ref chartBytes, .int (nI 0), .int (-1 : Int32)])), (reader, .inr (5, [.ref tape, .int (nI 0), .int (nI 400), .int (nI 0), .int (nI 0), .int (nI 0), .int (-1 : Int32), .int (nI 0), .long 0, .int (nI 0), .int (nI 0)]))] H := hP
  have hD : va_D A [(t, .inr (11, [.ref reader, .int (nI 0), .int (nI 0), .ref sea, .ref spareSea, .ref seaText, .ref book, .ref sentence, .ref spareSentence, .ref route, .ref meeting, .ref sighting, .ref draws, .ref history, .ref images, .ref chartBytes, .int (nI 0), .int (-1 : Int32)])), (reader, .inr (5, [.ref tape, .int (nI 0), .int (nI 400), .int (nI 0), .int (nI 0), .int (nI 0), .int (-1 : Int32), .int (nI 0), .long 0, .int (nI 0), .int (nI 0)]))] := hD
  have hP9 := hP.sub (ws' := [(t, .inr (11, [.ref reader, .int (nI 0), .int (nI 0), .ref sea, .ref spareSea, .ref seaText, .ref book, .ref sentence, .ref spareSentence, .ref route, .ref meeting, .ref sighting, .ref draws, .ref history, .ref images, .ref chartBytes, .int (nI 0), .int (-1 : Int32)])), (reader, .inr (5, [.ref tape, .int (nI 0), .int (nI 400), .int (nI 0), .int (nI 0), .int (nI 0), .int (-1 : Int32), .int (nI 0), .long 0, .int (nI 0), .int (nI 0)]))]) [0, 1] rfl
  have hD9 := hD.sub (ws' := [(t, .inr (11, [.ref reader, .int (nI 0), .int (nI 0), .ref sea, .ref spareSea, .ref seaText, .ref book, .ref sentence, .ref spareSentence, .ref route, .ref meeting, .ref sighting, .ref draws, .ref history, .ref images, .ref chartBytes, .int (nI 0), .int (-1 : Int32)])), (reader, .inr (5, [.ref tape, .int (nI 0), .int (nI 400), .int (nI 0), .int (nI 0), .int (nI 0), .int (-1 : Int32), .int (nI 0), .long 0, .int (nI 0), .int (nI 0)]))]) [0, 1] (by decide) rfl
  refine W.widen (k := 0) (n := 0) (Nat.le_of_ble_eq_true rfl) (Nat.le_of_ble_eq_true rfl) ?_
  exact W.vret hx hb hr (fun t9 ht9 hW9 => ⟨⟨(), rfl, trivial, by rw [ht9]; exact hP9, va_K.moved hW9.alike hK, hD9⟩, hS.F ht9⟩) hS.2.2 dX11_openTape_17
set_option maxHeartbeats 4000000 in
set_option maxRecDepth 100000 in
theorem c_openTape200 (l : Launch) (dC : Nat → ClassId) (dI : Nat → Nat → Nat) (ky : Nat → ClassId) (sz : Nat) (t : Nat) (reader : Nat) (sea : Nat) (spareSea : Nat) (seaText : Nat) (book : Nat) (sentence : Nat) (spareSentence : Nat) (route : Nat) (meeting : Nat) (sighting : Nat) (draws : Nat) (history : Nat) (images : Nat) (chartBytes : Nat) (tape : Nat)  : Met l yX11_openTape wsX11_openTape ({ frames := 2, cells := 0, slots := 0, locals := 42 }) (PcU dC dI ky [.ref t, .int (nI 200)] [(t, .inr (11, [.ref reader, .int (nI 0), .int (nI 0), .ref sea, .ref spareSea, .ref seaText, .ref book, .ref sentence, .ref spareSentence, .ref route, .ref meeting, .ref sighting, .ref draws, .ref history, .ref images, .ref chartBytes, .int (nI 0), .int (-1 : Int32)])), (reader, .inr (5, [.ref tape, .int (nI 0), .int (nI 0), .int (nI 0), .int (nI 0), .int (nI 0), .int (nI 0), .int (nI 0), .long 0, .int (nI 0), .int (nI 0)]))] sz) (va_Qv (fun (_ : Unit) => True) (BU dC dI ky (fun (_ : Unit) => [(t, .inr (11, [.ref reader, .int (nI 0), .int (nI 0), .ref sea, .ref spareSea, .ref seaText, .ref book, .ref sentence, .ref spareSentence, .ref route, .ref meeting, .ref sighting, .ref draws, .ref history, .ref images, .ref chartBytes, .int (nI 0), .int (-1 : Int32)])), (reader, .inr (5, [.ref tape, .int (nI 0), .int (nI 200), .int (nI 0), .int (nI 0), .int (nI 0), .int (-1 : Int32), .int (nI 0), .long 0, .int (nI 0), .int (nI 0)]))]) (va_A [(t, .inr (11, [.ref reader, .int (nI 0), .int (nI 0), .ref sea, .ref spareSea, .ref seaText, .ref book, .ref sentence, .ref spareSentence, .ref route, .ref meeting, .ref sighting, .ref draws, .ref history, .ref images, .ref chartBytes, .int (nI 0), .int (-1 : Int32)])), (reader, .inr (5, [.ref tape, .int (nI 0), .int (nI 0), .int (nI 0), .int (nI 0), .int (nI 0), .int (nI 0), .int (nI 0), .long 0, .int (nI 0), .int (nI 0)]))] sz)) (va_A [(t, .inr (11, [.ref reader, .int (nI 0), .int (nI 0), .ref sea, .ref spareSea, .ref seaText, .ref book, .ref sentence, .ref spareSentence, .ref route, .ref meeting, .ref sighting, .ref draws, .ref history, .ref images, .ref chartBytes, .int (nI 0), .int (-1 : Int32)])), (reader, .inr (5, [.ref tape, .int (nI 0), .int (nI 0), .int (nI 0), .int (nI 0), .int (nI 0), .int (nI 0), .int (nI 0), .long 0, .int (nI 0), .int (nI 0)]))] sz)) 0 0 (va_A [(t, .inr (11, [.ref reader, .int (nI 0), .int (nI 0), .ref sea, .ref spareSea, .ref seaText, .ref book, .ref sentence, .ref spareSentence, .ref route, .ref meeting, .ref sighting, .ref draws, .ref history, .ref images, .ref chartBytes, .int (nI 0), .int (-1 : Int32)])), (reader, .inr (5, [.ref tape, .int (nI 0), .int (nI 0), .int (nI 0), .int (nI 0), .int (nI 0), .int (nI 0), .int (nI 0), .long 0, .int (nI 0), .int (nI 0)]))] sz) := by
  refine Met.ofW (cc := cX11_openTape) (maxL := 2) (ret := none) (by decide) rfl ?_
  intro p e s m args below meth c s₁ B hml hv
  obtain ⟨rfl, hsz, hP, hK, hD0⟩ := hv
  have hx := B.exec
  have hb := B.bytes
  have hr := B.returns
  have hts := atoms_spec (ws := wsX11_openTape) B.pre
  have hown : s.vm.findClass RX11 = some m.cls := findClass_of_methodNamed B.named
  have hlocks := B.notSynchronized
  have hin11 : ∀ w ∈ u_ws RX11 TX11 18, w ∈ wsX11_openTape := by decide +kernel
  subst hsz
  have hD := hD0.self (sz := s.heap.size)
  generalize hAe : va_A [(t, .inr (11, [.ref reader, .int (nI 0), .int (nI 0), .ref sea, .ref spareSea, .ref seaText, .ref book, .ref sentence, .ref spareSentence, .ref route, .ref meeting, .ref sighting, .ref draws, .ref history, .ref images, .ref chartBytes, .int (nI 0), .int (-1 : Int32)])), (reader, .inr (5, [.ref tape, .int (nI 0), .int (nI 0), .int (nI 0), .int (nI 0), .int (nI 0), .int (nI 0), .int (nI 0), .long 0, .int (nI 0), .int (nI 0)]))] s.heap.size = A at hD ⊢
  have hA : ∀ q : Nat, s.heap.size ≤ q → A q := fun q h => by rw [← hAe]; exact Or.inr h
  have hS : va_S A s.heap s.heap [] := va_S.rf
  have hP : va_P (dC, dI) vwCl [(t, .inr (11, [.ref reader, .int (nI 0), .int (nI 0), .ref sea, .ref spareSea, .ref seaText, .ref book, .ref sentence, .ref spareSentence, .ref route, .ref meeting, .ref sighting, .ref draws, .ref history, .ref images, .ref chartBytes, .int (nI 0), .int (-1 : Int32)])), (reader, .inr (5, [.ref tape, .int (nI 0), .int (nI 0), .int (nI 0), .int (nI 0), .int (nI 0), .int (nI 0), .int (nI 0), .long 0, .int (nI 0), .int (nI 0)]))] s.heap := hP
  have hl := lv_entry ([.ref t, .int (nI 200)]) (n := 2) (Nat.le_of_ble_eq_true rfl)
  rw [lg_entry_eq]
  generalize (lg_sl ([.ref t, .int (nI 200)]) ++ List.replicate (2 - (lg_sl ([.ref t, .int (nI 200)])).length) Slot.unset).toArray = ls at hl ⊢
  have hl : lv_has ls 2 [(0, .ref t), (1, .int (nI 200))] := hl
  have hH0 : True := trivial
  refine lv_aload_n hx hb dX11_openTape_0 rfl (lv_at hl 0 rfl) ?_
  refine va_get (D := (dC, dI)) (ci := 11) (v := .ref reader) (C := RX11) (T := TX11) (N := 18) hx hb hts hin11 hown hK hP 0 rfl rfl 0 (by decide) (hts (.fieldLink RX11 10 "PorridgeSea" "reader" "LPorridgeSea$Reader;") (List.mem_of_getElem? (i := 1) rfl)) (fun _ h9 => h9) rfl dX11_openTape_1 ?_
  refine lv_aload_n hx hb dX11_openTape_4 rfl (lv_at hl 0 rfl) ?_
  refine va_get (D := (dC, dI)) (ci := 11) (v := .int (nI 0)) (C := RX11) (T := TX11) (N := 18) hx hb hts hin11 hown hK hP 0 rfl rfl 1 (by decide) (hts (.fieldLink RX11 16 "PorridgeSea" "tapeLength" "I") (List.mem_of_getElem? (i := 2) rfl)) (fun _ h9 => h9) rfl dX11_openTape_5 ?_
  refine lv_iload_n hx hb dX11_openTape_8 rfl (lv_at hl 1 rfl) ?_
  refine r_call_v (wr := [(t, .inr (11, [.ref reader, .int (nI 0), .int (nI 0), .ref sea, .ref spareSea, .ref seaText, .ref book, .ref sentence, .ref spareSentence, .ref route, .ref meeting, .ref sighting, .ref draws, .ref history, .ref images, .ref chartBytes, .int (nI 0), .int (-1 : Int32)]))]) (va_runV (As := [.int (nI 0), .int (nI 200)]) (rest := []) ⟨hx, hb, hml, hown, hts⟩ (c_open200 l dC dI ky s.heap.size reader tape) (cwV 2 hts gX11_openTape_X5_open rfl rfl rfl (by decide +kernel) ⟨(Nat.le_of_ble_eq_true rfl), (Nat.le_of_ble_eq_true rfl)⟩) (pre_UV hK hP hD [1] (by decide) rfl (ci := 5) (q0 := 1) rfl rfl) rfl rfl hl.1 rfl (lv_room (Nat.le_of_ble_eq_true rfl)) dX11_openTape_9 ⟨(Nat.le_of_ble_eq_true rfl), (Nat.le_of_ble_eq_true rfl)⟩) hP hD hS hA [1] [0] rfl rfl (by decide) (by decide) (fun  u1 H locs p2 hP hD hS => ?_)
  refine W.widen (k := 0) (n := 0) (Nat.le_of_ble_eq_true rfl) (Nat.le_of_ble_eq_true rfl) ?_
  have hP : va_P (dC, dI) vwCl [(t, .inr (11, [.ref reader, .int (nI 0), .int (nI 0), .ref sea, .ref spareSea, .ref seaText, .ref book, .ref sentence, .ref spareSentence, .ref route, .ref meeting, .ref sighting, .ref draws, .ref history, .ref images, .ref chartBytes, .int (nI 0), .int (-1 : Int32)])), (reader, .inr (5, [.ref tape, .int (nI 0), .int (nI 200), .int (nI 0), .int (nI 0), .int (nI 0), .int (-1 : Int32), .int (nI 0), .long 0, .int (nI 0), .int (nI 0)]))] H := hP
  have hD : va_D A [(t, .inr (11, [.ref reader, .int (nI 0), .int (nI 0), .ref sea, .ref spareSea, .ref seaText, .ref book, .ref sentence, .ref spareSentence, .ref route, .ref meeting, .ref sighting, .ref draws, .ref history, .ref images, .ref chartBytes, .int (nI 0), .int (-1 : Int32)])), (reader, .inr (5, [.ref tape, .int (nI 0), .int (nI 200), .int (nI 0), .int (nI 0), .int (nI 0), .int (-1 : Int32), .int (nI 0), .long 0, .int (nI 0), .int (nI 0)]))] := hD
  refine lv_aload_n hx hb dX11_openTape_12 rfl (lv_at hl 0 rfl) ?_
  refine lv_iconst (v := nI 0) hx hb dX11_openTape_13 (by decide) ?_
  refine va_put (D := (dC, dI)) (ci := 11) (v := .int (nI 0)) (ty := .int) (C := RX11) (T := TX11) (N := 18) hx hb hts hin11 tyX11 tyX11_ok nmX11 hown hK hP hD hS 0 rfl rfl 1 (by decide) (hts (.fieldLink RX11 16 "PorridgeSea" "tapeLength" "I") (List.mem_of_getElem? (i := 2) rfl)) (fun _ h9 => h9) rfl (by decide +kernel) rfl rfl (Nat.le_of_ble_eq_true rfl) dX11_openTape_14 (fun H locs hP hD hS => ?_)
  have hP : va_P (dC, dI) vwCl [(t, .inr (11, [.ref reader, .int (nI 0), .int (nI 0), .ref sea, .ref spareSea, .ref seaText, .ref book, .ref sentence, .ref spareSentence, .ref route, .ref meeting, .ref sighting, .ref draws, .ref history, .ref images, .ref chartBytes, .int (nI 0), .int (-1 : Int32)])), (reader, .inr (5, [.ref tape, .int (nI 0), .int (nI 200), .int (nI 0), .int (nI 0), .int (nI 0), .int (-1 : Int32), .int (nI 0), .long 0, .int (nI 0), .int (nI 0)]))] H := hP
  have hD : va_D A [(t, .inr (11, [.ref reader, .int (nI 0), .int (nI 0), .ref sea, .ref spareSea, .ref seaText, .ref book, .ref sentence, .ref spareSentence, .ref route, .ref meeting, .ref sighting, .ref draws, .ref history, .ref images, .ref chartBytes, .int (nI 0), .int (-1 : Int32)])), (reader, .inr (5, [.ref tape, .int (nI 0), .int (nI 200), .int (nI 0), .int (nI 0), .int (nI 0), .int (-1 : Int32), .int (nI 0), .long 0, .int (nI 0), .int (nI 0)]))] := hD
  have hP9 := hP.sub (ws' := [(t, .inr (11, [.ref reader, .int (nI 0), .int (nI 0), .ref sea, .ref spareSea, .ref seaText, .ref book, .ref sentence, .ref spareSentence, .ref route, .ref meeting, .ref sighting, .ref draws, .ref history, .ref images, .ref chartBytes, .int (nI 0), .int (-1 : Int32)])), (reader, .inr (5, [.ref tape, .int (nI 0), .int (nI 200), .int (nI 0), .int (nI 0), .int (nI 0), .int (-1 : Int32), .int (nI 0), .long 0, .int (nI 0), .int (nI 0)]))]) [0, 1] rfl
  have hD9 := hD.sub (ws' := [(t, .inr (11, [.ref reader, .int (nI 0), .int (nI 0), .ref sea, .ref spareSea, .ref seaText, .ref book, .ref sentence, .ref spareSentence, .ref route, .ref meeting, .ref sighting, .ref draws, .ref history, .ref images, .ref chartBytes, .int (nI 0), .int (-1 : Int32)])), (reader, .inr (5, [.ref tape, .int (nI 0), .int (nI 200), .int (nI 0), .int (nI 0), .int (nI 0), .int (-1 : Int32), .int (nI 0), .long 0, .int (nI 0), .int (nI 0)]))]) [0, 1] (by decide) rfl
  refine W.widen (k := 0) (n := 0) (Nat.le_of_ble_eq_true rfl) (Nat.le_of_ble_eq_true rfl) ?_
  exact W.vret hx hb hr (fun t9 ht9 hW9 => ⟨⟨(), rfl, trivial, by rw [ht9]; exact hP9, va_K.moved hW9.alike hK, hD9⟩, hS.F ht9⟩) hS.2.2 dX11_openTape_17
set_option maxHeartbeats 4000000 in
set_option maxRecDepth 100000 in
theorem c_sea (l : Launch) (dC : Nat → ClassId) (dI : Nat → Nat → Nat) (ky : Nat → ClassId) (sz : Nat) (t : Nat) (reader : Nat) (sea : Nat) (spareSea : Nat) (seaText : Nat) (book : Nat) (sentence : Nat) (spareSentence : Nat) (route : Nat) (meeting : Nat) (sighting : Nat) (draws : Nat) (history : Nat) (images : Nat) (chartBytes : Nat) (tape : Nat) (tw : Int32) (pwide : Int32) (phigh : Int32) (pheat : Int32) (pcools : Int32) (pskinHeat : Int32) (ptoday : Int32) (pstirs : Int32) (psteps : Int32) (plumps : Int32) (pboats : Int32) (pthickness : Nat) (plumpNames : Nat) (plumpCells : Nat) (pboatNames : Nat) (pboatCells : Nat) (ploads : Nat) (pspoons : Nat) (pspoonsLeft : Nat) (pdepths : Nat) (pthicknessF : Nat → Int32) (plumpNamesF : Nat → Int64) (plumpCellsF : Nat → Int32) (pboatNamesF : Nat → Int64) (pboatCellsF : Nat → Int32) (ploadsF : Nat → Int32) (pspoonsF : Nat → Int32) (pspoonsLeftF : Nat → Int32) (pdepthsF : Nat → Int32) (wide : Int32) (high : Int32) (heat : Int32) (cools : Int32) (skinHeat : Int32) (today : Int32) (stirs : Int32) (steps : Int32) (lumps : Int32) (boats : Int32) (thickness : Nat) (lumpNames : Nat) (lumpCells : Nat) (boatNames : Nat) (boatCells : Nat) (loads : Nat) (spoons : Nat) (spoonsLeft : Nat) (depths : Nat) (thicknessF : Nat → Int32) (lumpNamesF : Nat → Int64) (lumpCellsF : Nat → Int32) (boatNamesF : Nat → Int64) (boatCellsF : Nat → Int32) (loadsF : Nat → Int32) (spoonsF : Nat → Int32) (spoonsLeftF : Nat → Int32) (depthsF : Nat → Int32) (ncodes : Nat) (ncodeCount : Int32) (nones : Int32) (hring : Nat) (hnext : Int32) (hkept : Int32)  : Met l yX11_sea wsX11_sea ({ frames := 3, cells := 0, slots := 0, locals := 81 }) (PcU dC dI ky [.ref t] [(t, .inr (11, [.ref reader, .int (nI 0), .int (nI 0), .ref sea, .ref spareSea, .ref seaText, .ref book, .ref sentence, .ref spareSentence, .ref route, .ref meeting, .ref sighting, .ref draws, .ref history, .ref images, .ref chartBytes, .int (nI 0), .int (-1 : Int32)])), (reader, .inr (5, [.ref tape, .int (nI 0), .int (nI 0), .int (nI 0), .int (nI 0), .int (nI 0), .int (nI 0), .int (nI 0), .long 0, .int (nI 0), .int (nI 0)])), (seaText, .inr (8, [.int tw])), (spareSea, .inr (7, [.int pwide, .int phigh, .int pheat, .int pcools, .int pskinHeat, .int ptoday, .int pstirs, .int psteps, .int plumps, .int pboats, .ref pthickness, .ref plumpNames, .ref plumpCells, .ref pboatNames, .ref pboatCells, .ref ploads, .ref pspoons, .ref pspoonsLeft, .ref pdepths])), (pthickness, .inl (ky 0, 36, .inl pthicknessF)), (plumpNames, .inl (ky 1, 6, .inr (.inl plumpNamesF))), (plumpCells, .inl (ky 0, 6, .inl plumpCellsF)), (pboatNames, .inl (ky 1, 6, .inr (.inl pboatNamesF))), (pboatCells, .inl (ky 0, 6, .inl pboatCellsF)), (ploads, .inl (ky 0, 6, .inl ploadsF)), (pspoons, .inl (ky 0, 6, .inl pspoonsF)), (pspoonsLeft, .inl (ky 0, 6, .inl pspoonsLeftF)), (pdepths, .inl (ky 0, 6, .inl pdepthsF)), (sea, .inr (7, [.int wide, .int high, .int heat, .int cools, .int skinHeat, .int today, .int stirs, .int steps, .int lumps, .int boats, .ref thickness, .ref lumpNames, .ref lumpCells, .ref boatNames, .ref boatCells, .ref loads, .ref spoons, .ref spoonsLeft, .ref depths])), (thickness, .inl (ky 0, 36, .inl thicknessF)), (lumpNames, .inl (ky 1, 6, .inr (.inl lumpNamesF))), (lumpCells, .inl (ky 0, 6, .inl lumpCellsF)), (boatNames, .inl (ky 1, 6, .inr (.inl boatNamesF))), (boatCells, .inl (ky 0, 6, .inl boatCellsF)), (loads, .inl (ky 0, 6, .inl loadsF)), (spoons, .inl (ky 0, 6, .inl spoonsF)), (spoonsLeft, .inl (ky 0, 6, .inl spoonsLeftF)), (depths, .inl (ky 0, 6, .inl depthsF)), (sentence, .inr (9, [.ref ncodes, .int ncodeCount, .int nones])), (history, .inr (2, [.ref hring, .int hnext, .int hkept]))] sz) (va_Qi (fun (r : Int32) (_ : Unit) => r = nI 0) (BU dC dI ky (fun (_ : Unit) => []) (va_A [(t, .inr (11, [.ref reader, .int (nI 0), .int (nI 0), .ref sea, .ref spareSea, .ref seaText, .ref book, .ref sentence, .ref spareSentence, .ref route, .ref meeting, .ref sighting, .ref draws, .ref history, .ref images, .ref chartBytes, .int (nI 0), .int (-1 : Int32)])), (reader, .inr (5, [.ref tape, .int (nI 0), .int (nI 0), .int (nI 0), .int (nI 0), .int (nI 0), .int (nI 0), .int (nI 0), .long 0, .int (nI 0), .int (nI 0)])), (seaText, .inr (8, [.int tw])), (spareSea, .inr (7, [.int pwide, .int phigh, .int pheat, .int pcools, .int pskinHeat, .int ptoday, .int pstirs, .int psteps, .int plumps, .int pboats, .ref pthickness, .ref plumpNames, .ref plumpCells, .ref pboatNames, .ref pboatCells, .ref ploads, .ref pspoons, .ref pspoonsLeft, .ref pdepths])), (pthickness, .inl (ky 0, 36, .inl pthicknessF)), (plumpNames, .inl (ky 1, 6, .inr (.inl plumpNamesF))), (plumpCells, .inl (ky 0, 6, .inl plumpCellsF)), (pboatNames, .inl (ky 1, 6, .inr (.inl pboatNamesF))), (pboatCells, .inl (ky 0, 6, .inl pboatCellsF)), (ploads, .inl (ky 0, 6, .inl ploadsF)), (pspoons, .inl (ky 0, 6, .inl pspoonsF)), (pspoonsLeft, .inl (ky 0, 6, .inl pspoonsLeftF)), (pdepths, .inl (ky 0, 6, .inl pdepthsF)), (sea, .inr (7, [.int wide, .int high, .int heat, .int cools, .int skinHeat, .int today, .int stirs, .int steps, .int lumps, .int boats, .ref thickness, .ref lumpNames, .ref lumpCells, .ref boatNames, .ref boatCells, .ref loads, .ref spoons, .ref spoonsLeft, .ref depths])), (thickness, .inl (ky 0, 36, .inl thicknessF)), (lumpNames, .inl (ky 1, 6, .inr (.inl lumpNamesF))), (lumpCells, .inl (ky 0, 6, .inl lumpCellsF)), (boatNames, .inl (ky 1, 6, .inr (.inl boatNamesF))), (boatCells, .inl (ky 0, 6, .inl boatCellsF)), (loads, .inl (ky 0, 6, .inl loadsF)), (spoons, .inl (ky 0, 6, .inl spoonsF)), (spoonsLeft, .inl (ky 0, 6, .inl spoonsLeftF)), (depths, .inl (ky 0, 6, .inl depthsF)), (sentence, .inr (9, [.ref ncodes, .int ncodeCount, .int nones])), (history, .inr (2, [.ref hring, .int hnext, .int hkept]))] sz)) (va_A [(t, .inr (11, [.ref reader, .int (nI 0), .int (nI 0), .ref sea, .ref spareSea, .ref seaText, .ref book, .ref sentence, .ref spareSentence, .ref route, .ref meeting, .ref sighting, .ref draws, .ref history, .ref images, .ref chartBytes, .int (nI 0), .int (-1 : Int32)])), (reader, .inr (5, [.ref tape, .int (nI 0), .int (nI 0), .int (nI 0), .int (nI 0), .int (nI 0), .int (nI 0), .int (nI 0), .long 0, .int (nI 0), .int (nI 0)])), (seaText, .inr (8, [.int tw])), (spareSea, .inr (7, [.int pwide, .int phigh, .int pheat, .int pcools, .int pskinHeat, .int ptoday, .int pstirs, .int psteps, .int plumps, .int pboats, .ref pthickness, .ref plumpNames, .ref plumpCells, .ref pboatNames, .ref pboatCells, .ref ploads, .ref pspoons, .ref pspoonsLeft, .ref pdepths])), (pthickness, .inl (ky 0, 36, .inl pthicknessF)), (plumpNames, .inl (ky 1, 6, .inr (.inl plumpNamesF))), (plumpCells, .inl (ky 0, 6, .inl plumpCellsF)), (pboatNames, .inl (ky 1, 6, .inr (.inl pboatNamesF))), (pboatCells, .inl (ky 0, 6, .inl pboatCellsF)), (ploads, .inl (ky 0, 6, .inl ploadsF)), (pspoons, .inl (ky 0, 6, .inl pspoonsF)), (pspoonsLeft, .inl (ky 0, 6, .inl pspoonsLeftF)), (pdepths, .inl (ky 0, 6, .inl pdepthsF)), (sea, .inr (7, [.int wide, .int high, .int heat, .int cools, .int skinHeat, .int today, .int stirs, .int steps, .int lumps, .int boats, .ref thickness, .ref lumpNames, .ref lumpCells, .ref boatNames, .ref boatCells, .ref loads, .ref spoons, .ref spoonsLeft, .ref depths])), (thickness, .inl (ky 0, 36, .inl thicknessF)), (lumpNames, .inl (ky 1, 6, .inr (.inl lumpNamesF))), (lumpCells, .inl (ky 0, 6, .inl lumpCellsF)), (boatNames, .inl (ky 1, 6, .inr (.inl boatNamesF))), (boatCells, .inl (ky 0, 6, .inl boatCellsF)), (loads, .inl (ky 0, 6, .inl loadsF)), (spoons, .inl (ky 0, 6, .inl spoonsF)), (spoonsLeft, .inl (ky 0, 6, .inl spoonsLeftF)), (depths, .inl (ky 0, 6, .inl depthsF)), (sentence, .inr (9, [.ref ncodes, .int ncodeCount, .int nones])), (history, .inr (2, [.ref hring, .int hnext, .int hkept]))] sz)) 0 0 (va_A [(t, .inr (11, [.ref reader, .int (nI 0), .int (nI 0), .ref sea, .ref spareSea, .ref seaText, .ref book, .ref sentence, .ref spareSentence, .ref route, .ref meeting, .ref sighting, .ref draws, .ref history, .ref images, .ref chartBytes, .int (nI 0), .int (-1 : Int32)])), (reader, .inr (5, [.ref tape, .int (nI 0), .int (nI 0), .int (nI 0), .int (nI 0), .int (nI 0), .int (nI 0), .int (nI 0), .long 0, .int (nI 0), .int (nI 0)])), (seaText, .inr (8, [.int tw])), (spareSea, .inr (7, [.int pwide, .int phigh, .int pheat, .int pcools, .int pskinHeat, .int ptoday, .int pstirs, .int psteps, .int plumps, .int pboats, .ref pthickness, .ref plumpNames, .ref plumpCells, .ref pboatNames, .ref pboatCells, .ref ploads, .ref pspoons, .ref pspoonsLeft, .ref pdepths])), (pthickness, .inl (ky 0, 36, .inl pthicknessF)), (plumpNames, .inl (ky 1, 6, .inr (.inl plumpNamesF))), (plumpCells, .inl (ky 0, 6, .inl plumpCellsF)), (pboatNames, .inl (ky 1, 6, .inr (.inl pboatNamesF))), (pboatCells, .inl (ky 0, 6, .inl pboatCellsF)), (ploads, .inl (ky 0, 6, .inl ploadsF)), (pspoons, .inl (ky 0, 6, .inl pspoonsF)), (pspoonsLeft, .inl (ky 0, 6, .inl pspoonsLeftF)), (pdepths, .inl (ky 0, 6, .inl pdepthsF)), (sea, .inr (7, [.int wide, .int high, .int heat, .int cools, .int skinHeat, .int today, .int stirs, .int steps, .int lumps, .int boats, .ref thickness, .ref lumpNames, .ref lumpCells, .ref boatNames, .ref boatCells, .ref loads, .ref spoons, .ref spoonsLeft, .ref depths])), (thickness, .inl (ky 0, 36, .inl thicknessF)), (lumpNames, .inl (ky 1, 6, .inr (.inl lumpNamesF))), (lumpCells, .inl (ky 0, 6, .inl lumpCellsF)), (boatNames, .inl (ky 1, 6, .inr (.inl boatNamesF))), (boatCells, .inl (ky 0, 6, .inl boatCellsF)), (loads, .inl (ky 0, 6, .inl loadsF)), (spoons, .inl (ky 0, 6, .inl spoonsF)), (spoonsLeft, .inl (ky 0, 6, .inl spoonsLeftF)), (depths, .inl (ky 0, 6, .inl depthsF)), (sentence, .inr (9, [.ref ncodes, .int ncodeCount, .int nones])), (history, .inr (2, [.ref hring, .int hnext, .int hkept]))] sz) := by
  refine Met.ofW (cc := cX11_sea) (maxL := 2) (ret := (some .int)) (by decide) rfl ?_
  intro p e s m args below meth c s₁ B hml hv
  obtain ⟨rfl, hsz, hP, hK, hD0⟩ := hv
  have hx := B.exec
  have hb := B.bytes
  have hr := B.returns
  have hts := atoms_spec (ws := wsX11_sea) B.pre
  have hown : s.vm.findClass RX11 = some m.cls := findClass_of_methodNamed B.named
  have hlocks := B.notSynchronized
  have hin5 : ∀ w ∈ u_ws RX5 TX5 11, w ∈ wsX11_sea := by decide +kernel
  have hin11 : ∀ w ∈ u_ws RX11 TX11 18, w ∈ wsX11_sea := by decide +kernel
  subst hsz
  have hD := hD0.self (sz := s.heap.size)
  generalize hAe : va_A [(t, .inr (11, [.ref reader, .int (nI 0), .int (nI 0), .ref sea, .ref spareSea, .ref seaText, .ref book, .ref sentence, .ref spareSentence, .ref route, .ref meeting, .ref sighting, .ref draws, .ref history, .ref images, .ref chartBytes, .int (nI 0), .int (-1 : Int32)])), (reader, .inr (5, [.ref tape, .int (nI 0), .int (nI 0), .int (nI 0), .int (nI 0), .int (nI 0), .int (nI 0), .int (nI 0), .long 0, .int (nI 0), .int (nI 0)])), (seaText, .inr (8, [.int tw])), (spareSea, .inr (7, [.int pwide, .int phigh, .int pheat, .int pcools, .int pskinHeat, .int ptoday, .int pstirs, .int psteps, .int plumps, .int pboats, .ref pthickness, .ref plumpNames, .ref plumpCells, .ref pboatNames, .ref pboatCells, .ref ploads, .ref pspoons, .ref pspoonsLeft, .ref pdepths])), (pthickness, .inl (ky 0, 36, .inl pthicknessF)), (plumpNames, .inl (ky 1, 6, .inr (.inl plumpNamesF))), (plumpCells, .inl (ky 0, 6, .inl plumpCellsF)), (pboatNames, .inl (ky 1, 6, .inr (.inl pboatNamesF))), (pboatCells, .inl (ky 0, 6, .inl pboatCellsF)), (ploads, .inl (ky 0, 6, .inl ploadsF)), (pspoons, .inl (ky 0, 6, .inl pspoonsF)), (pspoonsLeft, .inl (ky 0, 6, .inl pspoonsLeftF)), (pdepths, .inl (ky 0, 6, .inl pdepthsF)), (sea, .inr (7, [.int wide, .int high, .int heat, .int cools, .int skinHeat, .int today, .int stirs, .int steps, .int lumps, .int boats, .ref thickness, .ref lumpNames, .ref lumpCells, .ref boatNames, .ref boatCells, .ref loads, .ref spoons, .ref spoonsLeft, .ref depths])), (thickness, .inl (ky 0, 36, .inl thicknessF)), (lumpNames, .inl (ky 1, 6, .inr (.inl lumpNamesF))), (lumpCells, .inl (ky 0, 6, .inl lumpCellsF)), (boatNames, .inl (ky 1, 6, .inr (.inl boatNamesF))), (boatCells, .inl (ky 0, 6, .inl boatCellsF)), (loads, .inl (ky 0, 6, .inl loadsF)), (spoons, .inl (ky 0, 6, .inl spoonsF)), (spoonsLeft, .inl (ky 0, 6, .inl spoonsLeftF)), (depths, .inl (ky 0, 6, .inl depthsF)), (sentence, .inr (9, [.ref ncodes, .int ncodeCount, .int nones])), (history, .inr (2, [.ref hring, .int hnext, .int hkept]))] s.heap.size = A at hD ⊢
  have hA : ∀ q : Nat, s.heap.size ≤ q → A q := fun q h => by rw [← hAe]; exact Or.inr h
  have hS : va_S A s.heap s.heap [] := va_S.rf
  have hP : va_P (dC, dI) vwCl [(t, .inr (11, [.ref reader, .int (nI 0), .int (nI 0), .ref sea, .ref spareSea, .ref seaText, .ref book, .ref sentence, .ref spareSentence, .ref route, .ref meeting, .ref sighting, .ref draws, .ref history, .ref images, .ref chartBytes, .int (nI 0), .int (-1 : Int32)])), (reader, .inr (5, [.ref tape, .int (nI 0), .int (nI 0), .int (nI 0), .int (nI 0), .int (nI 0), .int (nI 0), .int (nI 0), .long 0, .int (nI 0), .int (nI 0)])), (seaText, .inr (8, [.int tw])), (spareSea, .inr (7, [.int pwide, .int phigh, .int pheat, .int pcools, .int pskinHeat, .int ptoday, .int pstirs, .int psteps, .int plumps, .int pboats, .ref pthickness, .ref plumpNames, .ref plumpCells, .ref pboatNames, .ref pboatCells, .ref ploads, .ref pspoons, .ref pspoonsLeft, .ref pdepths])), (pthickness, .inl (ky 0, 36, .inl pthicknessF)), (plumpNames, .inl (ky 1, 6, .inr (.inl plumpNamesF))), (plumpCells, .inl (ky 0, 6, .inl plumpCellsF)), (pboatNames, .inl (ky 1, 6, .inr (.inl pboatNamesF))), (pboatCells, .inl (ky 0, 6, .inl pboatCellsF)), (ploads, .inl (ky 0, 6, .inl ploadsF)), (pspoons, .inl (ky 0, 6, .inl pspoonsF)), (pspoonsLeft, .inl (ky 0, 6, .inl pspoonsLeftF)), (pdepths, .inl (ky 0, 6, .inl pdepthsF)), (sea, .inr (7, [.int wide, .int high, .int heat, .int cools, .int skinHeat, .int today, .int stirs, .int steps, .int lumps, .int boats, .ref thickness, .ref lumpNames, .ref lumpCells, .ref boatNames, .ref boatCells, .ref loads, .ref spoons, .ref spoonsLeft, .ref depths])), (thickness, .inl (ky 0, 36, .inl thicknessF)), (lumpNames, .inl (ky 1, 6, .inr (.inl lumpNamesF))), (lumpCells, .inl (ky 0, 6, .inl lumpCellsF)), (boatNames, .inl (ky 1, 6, .inr (.inl boatNamesF))), (boatCells, .inl (ky 0, 6, .inl boatCellsF)), (loads, .inl (ky 0, 6, .inl loadsF)), (spoons, .inl (ky 0, 6, .inl spoonsF)), (spoonsLeft, .inl (ky 0, 6, .inl spoonsLeftF)), (depths, .inl (ky 0, 6, .inl depthsF)), (sentence, .inr (9, [.ref ncodes, .int ncodeCount, .int nones])), (history, .inr (2, [.ref hring, .int hnext, .int hkept]))] s.heap := hP
  have hl := lv_entry ([.ref t]) (n := 2) (Nat.le_of_ble_eq_true rfl)
  rw [lg_entry_eq]
  generalize (lg_sl ([.ref t]) ++ List.replicate (2 - (lg_sl ([.ref t])).length) Slot.unset).toArray = ls at hl ⊢
  have hl : lv_has ls 2 [(0, .ref t)] := hl
  have hH0 : True := trivial
  refine lv_aload_n hx hb dX11_sea_0 rfl (lv_at hl 0 rfl) ?_
  refine lv_sipush (v := nI 900) hx hb dX11_sea_1 (by decide) ?_
  refine r_call_v (wr := [(seaText, .inr (8, [.int tw])), (spareSea, .inr (7, [.int pwide, .int phigh, .int pheat, .int pcools, .int pskinHeat, .int ptoday, .int pstirs, .int psteps, .int plumps, .int pboats, .ref pthickness, .ref plumpNames, .ref plumpCells, .ref pboatNames, .ref pboatCells, .ref ploads, .ref pspoons, .ref pspoonsLeft, .ref pdepths])), (pthickness, .inl (ky 0, 36, .inl pthicknessF)), (plumpNames, .inl (ky 1, 6, .inr (.inl plumpNamesF))), (plumpCells, .inl (ky 0, 6, .inl plumpCellsF)), (pboatNames, .inl (ky 1, 6, .inr (.inl pboatNamesF))), (pboatCells, .inl (ky 0, 6, .inl pboatCellsF)), (ploads, .inl (ky 0, 6, .inl ploadsF)), (pspoons, .inl (ky 0, 6, .inl pspoonsF)), (pspoonsLeft, .inl (ky 0, 6, .inl pspoonsLeftF)), (pdepths, .inl (ky 0, 6, .inl pdepthsF)), (sea, .inr (7, [.int wide, .int high, .int heat, .int cools, .int skinHeat, .int today, .int stirs, .int steps, .int lumps, .int boats, .ref thickness, .ref lumpNames, .ref lumpCells, .ref boatNames, .ref boatCells, .ref loads, .ref spoons, .ref spoonsLeft, .ref depths])), (thickness, .inl (ky 0, 36, .inl thicknessF)), (lumpNames, .inl (ky 1, 6, .inr (.inl lumpNamesF))), (lumpCells, .inl (ky 0, 6, .inl lumpCellsF)), (boatNames, .inl (ky 1, 6, .inr (.inl boatNamesF))), (boatCells, .inl (ky 0, 6, .inl boatCellsF)), (loads, .inl (ky 0, 6, .inl loadsF)), (spoons, .inl (ky 0, 6, .inl spoonsF)), (spoonsLeft, .inl (ky 0, 6, .inl spoonsLeftF)), (depths, .inl (ky 0, 6, .inl depthsF)), (sentence, .inr (9, [.ref ncodes, .int ncodeCount, .int nones])), (history, .inr (2, [.ref hring, .int hnext, .int hkept]))]) (va_runV (As := [.int (nI 900)]) (rest := []) ⟨hx, hb, hml, hown, hts⟩ (c_openTape900 l dC dI ky s.heap.size t reader sea spareSea seaText book sentence spareSentence route meeting sighting draws history images chartBytes tape) (cwV 1 hts gX11_sea_X11_openTape rfl rfl rfl (by decide +kernel) ⟨(Nat.le_of_ble_eq_true rfl), (Nat.le_of_ble_eq_true rfl)⟩) (pre_UV hK hP hD [0, 1] (by decide) rfl (ci := 11) (q0 := 0) rfl rfl) rfl rfl hl.1 rfl (lv_room (Nat.le_of_ble_eq_true rfl)) dX11_sea_4 ⟨(Nat.le_of_ble_eq_true rfl), (Nat.le_of_ble_eq_true rfl)⟩) hP hD hS hA [0, 1] [2, 3, 4, 5, 6, 7, 8, 9, 10, 11, 12, 13, 14, 15, 16, 17, 18, 19, 20, 21, 22, 23, 24] rfl rfl (by decide) (by decide) (fun  u1 H locs p2 hP hD hS => ?_)
  refine W.widen (k := 0) (n := 0) (Nat.le_of_ble_eq_true rfl) (Nat.le_of_ble_eq_true rfl) ?_
  have hP : va_P (dC, dI) vwCl [(seaText, .inr (8, [.int tw])), (spareSea, .inr (7, [.int pwide, .int phigh, .int pheat, .int pcools, .int pskinHeat, .int ptoday, .int pstirs, .int psteps, .int plumps, .int pboats, .ref pthickness, .ref plumpNames, .ref plumpCells, .ref pboatNames, .ref pboatCells, .ref ploads, .ref pspoons, .ref pspoonsLeft, .ref pdepths])), (pthickness, .inl (ky 0, 36, .inl pthicknessF)), (plumpNames, .inl (ky 1, 6, .inr (.inl plumpNamesF))), (plumpCells, .inl (ky 0, 6, .inl plumpCellsF)), (pboatNames, .inl (ky 1, 6, .inr (.inl pboatNamesF))), (pboatCells, .inl (ky 0, 6, .inl pboatCellsF)), (ploads, .inl (ky 0, 6, .inl ploadsF)), (pspoons, .inl (ky 0, 6, .inl pspoonsF)), (pspoonsLeft, .inl (ky 0, 6, .inl pspoonsLeftF)), (pdepths, .inl (ky 0, 6, .inl pdepthsF)), (sea, .inr (7, [.int wide, .int high, .int heat, .int cools, .int skinHeat, .int today, .int stirs, .int steps, .int lumps, .int boats, .ref thickness, .ref lumpNames, .ref lumpCells, .ref boatNames, .ref boatCells, .ref loads, .ref spoons, .ref spoonsLeft, .ref depths])), (thickness, .inl (ky 0, 36, .inl thicknessF)), (lumpNames, .inl (ky 1, 6, .inr (.inl lumpNamesF))), (lumpCells, .inl (ky 0, 6, .inl lumpCellsF)), (boatNames, .inl (ky 1, 6, .inr (.inl boatNamesF))), (boatCells, .inl (ky 0, 6, .inl boatCellsF)), (loads, .inl (ky 0, 6, .inl loadsF)), (spoons, .inl (ky 0, 6, .inl spoonsF)), (spoonsLeft, .inl (ky 0, 6, .inl spoonsLeftF)), (depths, .inl (ky 0, 6, .inl depthsF)), (sentence, .inr (9, [.ref ncodes, .int ncodeCount, .int nones])), (history, .inr (2, [.ref hring, .int hnext, .int hkept])), (t, .inr (11, [.ref reader, .int (nI 0), .int (nI 0), .ref sea, .ref spareSea, .ref seaText, .ref book, .ref sentence, .ref spareSentence, .ref route, .ref meeting, .ref sighting, .ref draws, .ref history, .ref images, .ref chartBytes, .int (nI 0), .int (-1 : Int32)])), (reader, .inr (5, [.ref tape, .int (nI 0), .int (nI 900), .int (nI 0), .int (nI 0), .int (nI 0), .int (-1 : Int32), .int (nI 0), .long 0, .int (nI 0), .int (nI 0)]))] H := hP
  have hD : va_D A [(seaText, .inr (8, [.int tw])), (spareSea, .inr (7, [.int pwide, .int phigh, .int pheat, .int pcools, .int pskinHeat, .int ptoday, .int pstirs, .int psteps, .int plumps, .int pboats, .ref pthickness, .ref plumpNames, .ref plumpCells, .ref pboatNames, .ref pboatCells, .ref ploads, .ref pspoons, .ref pspoonsLeft, .ref pdepths])), (pthickness, .inl (ky 0, 36, .inl pthicknessF)), (plumpNames, .inl (ky 1, 6, .inr (.inl plumpNamesF))), (plumpCells, .inl (ky 0, 6, .inl plumpCellsF)), (pboatNames, .inl (ky 1, 6, .inr (.inl pboatNamesF))), (pboatCells, .inl (ky 0, 6, .inl pboatCellsF)), (ploads, .inl (ky 0, 6, .inl ploadsF)), (pspoons, .inl (ky 0, 6, .inl pspoonsF)), (pspoonsLeft, .inl (ky 0, 6, .inl pspoonsLeftF)), (pdepths, .inl (ky 0, 6, .inl pdepthsF)), (sea, .inr (7, [.int wide, .int high, .int heat, .int cools, .int skinHeat, .int today, .int stirs, .int steps, .int lumps, .int boats, .ref thickness, .ref lumpNames, .ref lumpCells, .ref boatNames, .ref boatCells, .ref loads, .ref spoons, .ref spoonsLeft, .ref depths])), (thickness, .inl (ky 0, 36, .inl thicknessF)), (lumpNames, .inl (ky 1, 6, .inr (.inl lumpNamesF))), (lumpCells, .inl (ky 0, 6, .inl lumpCellsF)), (boatNames, .inl (ky 1, 6, .inr (.inl boatNamesF))), (boatCells, .inl (ky 0, 6, .inl boatCellsF)), (loads, .inl (ky 0, 6, .inl loadsF)), (spoons, .inl (ky 0, 6, .inl spoonsF)), (spoonsLeft, .inl (ky 0, 6, .inl spoonsLeftF)), (depths, .inl (ky 0, 6, .inl depthsF)), (sentence, .inr (9, [.ref ncodes, .int ncodeCount, .int nones])), (history, .inr (2, [.ref hring, .int hnext, .int hkept])), (t, .inr (11, [.ref reader, .int (nI 0), .int (nI 0), .ref sea, .ref spareSea, .ref seaText, .ref book, .ref sentence, .ref spareSentence, .ref route, .ref meeting, .ref sighting, .ref draws, .ref history, .ref images, .ref chartBytes, .int (nI 0), .int (-1 : Int32)])), (reader, .inr (5, [.ref tape, .int (nI 0), .int (nI 900), .int (nI 0), .int (nI 0), .int (nI 0), .int (-1 : Int32), .int (nI 0), .long 0, .int (nI 0), .int (nI 0)]))] := hD
  refine lv_aload_n hx hb dX11_sea_7 rfl (lv_at hl 0 rfl) ?_
  refine va_get (D := (dC, dI)) (ci := 11) (v := .ref seaText) (C := RX11) (T := TX11) (N := 18) hx hb hts hin11 hown hK hP 23 rfl rfl 5 (by decide) (hts (.fieldLink RX11 36 "PorridgeSea" "seaText" "LPorridgeSea$SeaText;") (List.mem_of_getElem? (i := 1) rfl)) (fun _ h9 => h9) rfl dX11_sea_8 ?_
  refine lv_aload_n hx hb dX11_sea_11 rfl (lv_at hl 0 rfl) ?_
  refine va_get (D := (dC, dI)) (ci := 11) (v := .ref reader) (C := RX11) (T := TX11) (N := 18) hx hb hts hin11 hown hK hP 23 rfl rfl 0 (by decide) (hts (.fieldLink RX11 10 "PorridgeSea" "reader" "LPorridgeSea$Reader;") (List.mem_of_getElem? (i := 2) rfl)) (fun _ h9 => h9) rfl dX11_sea_12 ?_
  refine lv_aload_n hx hb dX11_sea_15 rfl (lv_at hl 0 rfl) ?_
  refine va_get (D := (dC, dI)) (ci := 11) (v := .ref spareSea) (C := RX11) (T := TX11) (N := 18) hx hb hts hin11 hown hK hP 23 rfl rfl 4 (by decide) (hts (.fieldLink RX11 30 "PorridgeSea" "spareSea" "LPorridgeSea$Sea;") (List.mem_of_getElem? (i := 3) rfl)) (fun _ h9 => h9) rfl dX11_sea_16 ?_
  refine r_call_i (wr := [(plumpNames, .inl (ky 1, 6, .inr (.inl plumpNamesF))), (plumpCells, .inl (ky 0, 6, .inl plumpCellsF)), (pboatNames, .inl (ky 1, 6, .inr (.inl pboatNamesF))), (pboatCells, .inl (ky 0, 6, .inl pboatCellsF)), (ploads, .inl (ky 0, 6, .inl ploadsF)), (pspoons, .inl (ky 0, 6, .inl pspoonsF)), (pspoonsLeft, .inl (ky 0, 6, .inl pspoonsLeftF)), (pdepths, .inl (ky 0, 6, .inl pdepthsF)), (sea, .inr (7, [.int wide, .int high, .int heat, .int cools, .int skinHeat, .int today, .int stirs, .int steps, .int lumps, .int boats, .ref thickness, .ref lumpNames, .ref lumpCells, .ref boatNames, .ref boatCells, .ref loads, .ref spoons, .ref spoonsLeft, .ref depths])), (thickness, .inl (ky 0, 36, .inl thicknessF)), (lumpNames, .inl (ky 1, 6, .inr (.inl lumpNamesF))), (lumpCells, .inl (ky 0, 6, .inl lumpCellsF)), (boatNames, .inl (ky 1, 6, .inr (.inl boatNamesF))), (boatCells, .inl (ky 0, 6, .inl boatCellsF)), (loads, .inl (ky 0, 6, .inl loadsF)), (spoons, .inl (ky 0, 6, .inl spoonsF)), (spoonsLeft, .inl (ky 0, 6, .inl spoonsLeftF)), (depths, .inl (ky 0, 6, .inl depthsF)), (sentence, .inr (9, [.ref ncodes, .int ncodeCount, .int nones])), (history, .inr (2, [.ref hring, .int hnext, .int hkept])), (t, .inr (11, [.ref reader, .int (nI 0), .int (nI 0), .ref sea, .ref spareSea, .ref seaText, .ref book, .ref sentence, .ref spareSentence, .ref route, .ref meeting, .ref sighting, .ref draws, .ref history, .ref images, .ref chartBytes, .int (nI 0), .int (-1 : Int32)]))]) (va_runV (As := [.ref reader, .ref spareSea]) (rest := []) ⟨hx, hb, hml, hown, hts⟩ (c_seaRead l dC dI ky H.size seaText tw reader tape spareSea pwide phigh pheat pcools pskinHeat ptoday pstirs psteps plumps pboats pthickness plumpNames plumpCells pboatNames pboatCells ploads pspoons pspoonsLeft pdepths pthicknessF) (cwV 2 hts gX11_sea_X8_read rfl rfl rfl (by decide +kernel) ⟨(Nat.le_of_ble_eq_true rfl), (Nat.le_of_ble_eq_true rfl)⟩) (pre_UV hK hP hD [0, 24, 1, 2] (by decide) rfl (ci := 8) (q0 := 0) rfl rfl) rfl rfl hl.1 rfl (lv_room (Nat.le_of_ble_eq_true rfl)) dX11_sea_19 ⟨(Nat.le_of_ble_eq_true rfl), (Nat.le_of_ble_eq_true rfl)⟩) hP hD hS hA [0, 24, 1, 2] [3, 4, 5, 6, 7, 8, 9, 10, 11, 12, 13, 14, 15, 16, 17, 18, 19, 20, 21, 22, 23] rfl rfl (by decide) (by decide) (fun r5 u3 H locs p4 hP hD hS => ?_)
  obtain ⟨thicknessG_6, rfl⟩ : ∃ z, z = u3 := ⟨_, rfl⟩
  try dsimp only at p4
  have p7 := p4
  refine W.widen (k := 0) (n := 0) (Nat.le_of_ble_eq_true rfl) (Nat.le_of_ble_eq_true rfl) ?_
  have hP : va_P (dC, dI) vwCl [(plumpNames, .inl (ky 1, 6, .inr (.inl plumpNamesF))), (plumpCells, .inl (ky 0, 6, .inl plumpCellsF)), (pboatNames, .inl (ky 1, 6, .inr (.inl pboatNamesF))), (pboatCells, .inl (ky 0, 6, .inl pboatCellsF)), (ploads, .inl (ky 0, 6, .inl ploadsF)), (pspoons, .inl (ky 0, 6, .inl pspoonsF)), (pspoonsLeft, .inl (ky 0, 6, .inl pspoonsLeftF)), (pdepths, .inl (ky 0, 6, .inl pdepthsF)), (sea, .inr (7, [.int wide, .int high, .int heat, .int cools, .int skinHeat, .int today, .int stirs, .int steps, .int lumps, .int boats, .ref thickness, .ref lumpNames, .ref lumpCells, .ref boatNames, .ref boatCells, .ref loads, .ref spoons, .ref spoonsLeft, .ref depths])), (thickness, .inl (ky 0, 36, .inl thicknessF)), (lumpNames, .inl (ky 1, 6, .inr (.inl lumpNamesF))), (lumpCells, .inl (ky 0, 6, .inl lumpCellsF)), (boatNames, .inl (ky 1, 6, .inr (.inl boatNamesF))), (boatCells, .inl (ky 0, 6, .inl boatCellsF)), (loads, .inl (ky 0, 6, .inl loadsF)), (spoons, .inl (ky 0, 6, .inl spoonsF)), (spoonsLeft, .inl (ky 0, 6, .inl spoonsLeftF)), (depths, .inl (ky 0, 6, .inl depthsF)), (sentence, .inr (9, [.ref ncodes, .int ncodeCount, .int nones])), (history, .inr (2, [.ref hring, .int hnext, .int hkept])), (t, .inr (11, [.ref reader, .int (nI 0), .int (nI 0), .ref sea, .ref spareSea, .ref seaText, .ref book, .ref sentence, .ref spareSentence, .ref route, .ref meeting, .ref sighting, .ref draws, .ref history, .ref images, .ref chartBytes, .int (nI 0), .int (-1 : Int32)])), (reader, .inr (5, [.ref tape, .int (nI 0), .int (nI 900), .int (nI 0), .int (nI 0), .int (nI 0), .int (-1 : Int32), .int (nI 0), .long 0, .int (nI 0), .int (nI 0)])), (spareSea, .inr (7, [.int (nI 4), .int (nI 4), .int (nI 10), .int (nI 1), .int (nI 3), .int (nI 0), .int (nI 0), .int (nI 0), .int (nI 0), .int (nI 0), .ref pthickness, .ref plumpNames, .ref plumpCells, .ref pboatNames, .ref pboatCells, .ref ploads, .ref pspoons, .ref pspoonsLeft, .ref pdepths])), (pthickness, .inl (ky 0, 36, .inl thicknessG_6))] H := hP
  have hD : va_D A [(plumpNames, .inl (ky 1, 6, .inr (.inl plumpNamesF))), (plumpCells, .inl (ky 0, 6, .inl plumpCellsF)), (pboatNames, .inl (ky 1, 6, .inr (.inl pboatNamesF))), (pboatCells, .inl (ky 0, 6, .inl pboatCellsF)), (ploads, .inl (ky 0, 6, .inl ploadsF)), (pspoons, .inl (ky 0, 6, .inl pspoonsF)), (pspoonsLeft, .inl (ky 0, 6, .inl pspoonsLeftF)), (pdepths, .inl (ky 0, 6, .inl pdepthsF)), (sea, .inr (7, [.int wide, .int high, .int heat, .int cools, .int skinHeat, .int today, .int stirs, .int steps, .int lumps, .int boats, .ref thickness, .ref lumpNames, .ref lumpCells, .ref boatNames, .ref boatCells, .ref loads, .ref spoons, .ref spoonsLeft, .ref depths])), (thickness, .inl (ky 0, 36, .inl thicknessF)), (lumpNames, .inl (ky 1, 6, .inr (.inl lumpNamesF))), (lumpCells, .inl (ky 0, 6, .inl lumpCellsF)), (boatNames, .inl (ky 1, 6, .inr (.inl boatNamesF))), (boatCells, .inl (ky 0, 6, .inl boatCellsF)), (loads, .inl (ky 0, 6, .inl loadsF)), (spoons, .inl (ky 0, 6, .inl spoonsF)), (spoonsLeft, .inl (ky 0, 6, .inl spoonsLeftF)), (depths, .inl (ky 0, 6, .inl depthsF)), (sentence, .inr (9, [.ref ncodes, .int ncodeCount, .int nones])), (history, .inr (2, [.ref hring, .int hnext, .int hkept])), (t, .inr (11, [.ref reader, .int (nI 0), .int (nI 0), .ref sea, .ref spareSea, .ref seaText, .ref book, .ref sentence, .ref spareSentence, .ref route, .ref meeting, .ref sighting, .ref draws, .ref history, .ref images, .ref chartBytes, .int (nI 0), .int (-1 : Int32)])), (reader, .inr (5, [.ref tape, .int (nI 0), .int (nI 900), .int (nI 0), .int (nI 0), .int (nI 0), .int (-1 : Int32), .int (nI 0), .long 0, .int (nI 0), .int (nI 0)])), (spareSea, .inr (7, [.int (nI 4), .int (nI 4), .int (nI 10), .int (nI 1), .int (nI 3), .int (nI 0), .int (nI 0), .int (nI 0), .int (nI 0), .int (nI 0), .ref pthickness, .ref plumpNames, .ref plumpCells, .ref pboatNames, .ref pboatCells, .ref ploads, .ref pspoons, .ref pspoonsLeft, .ref pdepths])), (pthickness, .inl (ky 0, 36, .inl thicknessG_6))] := hD
  subst p7
  refine lv_istore_n (lv' := [(1, .int (nI 0)), (0, .ref t)]) hx hb dX11_sea_22 rfl hl (by decide) rfl (fun ls hl => ?_)
  refine lv_aload_n hx hb dX11_sea_23 rfl (lv_at hl 1 rfl) ?_
  refine lv_aload_n hx hb dX11_sea_24 rfl (lv_at hl 1 rfl) ?_
  refine va_get (D := (dC, dI)) (ci := 11) (v := .ref reader) (C := RX11) (T := TX11) (N := 18) hx hb hts hin11 hown hK hP 20 rfl rfl 0 (by decide) (hts (.fieldLink RX11 10 "PorridgeSea" "reader" "LPorridgeSea$Reader;") (List.mem_of_getElem? (i := 2) rfl)) (fun _ h9 => h9) rfl dX11_sea_25 ?_
  refine va_get (D := (dC, dI)) (ci := 5) (v := .int (nI 0)) (C := RX5) (T := TX5) (N := 11) hx hb hts hin5 hown hK hP 21 rfl rfl 9 (by decide) (hts (.fieldLink RX11 123 "PorridgeSea$Reader" "faultKind" "I") (List.mem_of_getElem? (i := 4) rfl)) (fun _ h9 => h9) rfl dX11_sea_28 ?_
  refine va_put (D := (dC, dI)) (ci := 11) (v := .int (nI 0)) (ty := .int) (C := RX11) (T := TX11) (N := 18) hx hb hts hin11 tyX11 tyX11_ok nmX11 hown hK hP hD hS 20 rfl rfl 2 (by decide) (hts (.fieldLink RX11 20 "PorridgeSea" "latestFault" "I") (List.mem_of_getElem? (i := 5) rfl)) (fun _ h9 => h9) rfl (by decide +kernel) rfl rfl (Nat.le_of_ble_eq_true rfl) dX11_sea_31 (fun H locs hP hD hS => ?_)
  have hP : va_P (dC, dI) vwCl [(plumpNames, .inl (ky 1, 6, .inr (.inl plumpNamesF))), (plumpCells, .inl (ky 0, 6, .inl plumpCellsF)), (pboatNames, .inl (ky 1, 6, .inr (.inl pboatNamesF))), (pboatCells, .inl (ky 0, 6, .inl pboatCellsF)), (ploads, .inl (ky 0, 6, .inl ploadsF)), (pspoons, .inl (ky 0, 6, .inl pspoonsF)), (pspoonsLeft, .inl (ky 0, 6, .inl pspoonsLeftF)), (pdepths, .inl (ky 0, 6, .inl pdepthsF)), (sea, .inr (7, [.int wide, .int high, .int heat, .int cools, .int skinHeat, .int today, .int stirs, .int steps, .int lumps, .int boats, .ref thickness, .ref lumpNames, .ref lumpCells, .ref boatNames, .ref boatCells, .ref loads, .ref spoons, .ref spoonsLeft, .ref depths])), (thickness, .inl (ky 0, 36, .inl thicknessF)), (lumpNames, .inl (ky 1, 6, .inr (.inl lumpNamesF))), (lumpCells, .inl (ky 0, 6, .inl lumpCellsF)), (boatNames, .inl (ky 1, 6, .inr (.inl boatNamesF))), (boatCells, .inl (ky 0, 6, .inl boatCellsF)), (loads, .inl (ky 0, 6, .inl loadsF)), (spoons, .inl (ky 0, 6, .inl spoonsF)), (spoonsLeft, .inl (ky 0, 6, .inl spoonsLeftF)), (depths, .inl (ky 0, 6, .inl depthsF)), (sentence, .inr (9, [.ref ncodes, .int ncodeCount, .int nones])), (history, .inr (2, [.ref hring, .int hnext, .int hkept])), (t, .inr (11, [.ref reader, .int (nI 0), .int (nI 0), .ref sea, .ref spareSea, .ref seaText, .ref book, .ref sentence, .ref spareSentence, .ref route, .ref meeting, .ref sighting, .ref draws, .ref history, .ref images, .ref chartBytes, .int (nI 0), .int (-1 : Int32)])), (reader, .inr (5, [.ref tape, .int (nI 0), .int (nI 900), .int (nI 0), .int (nI 0), .int (nI 0), .int (-1 : Int32), .int (nI 0), .long 0, .int (nI 0), .int (nI 0)])), (spareSea, .inr (7, [.int (nI 4), .int (nI 4), .int (nI 10), .int (nI 1), .int (nI 3), .int (nI 0), .int (nI 0), .int (nI 0), .int (nI 0), .int (nI 0), .ref pthickness, .ref plumpNames, .ref plumpCells, .ref pboatNames, .ref pboatCells, .ref ploads, .ref pspoons, .ref pspoonsLeft, .ref pdepths])), (pthickness, .inl (ky 0, 36, .inl thicknessG_6))] H := hP
  have hD : va_D A [(plumpNames, .inl (ky 1, 6, .inr (.inl plumpNamesF))), (plumpCells, .inl (ky 0, 6, .inl plumpCellsF)), (pboatNames, .inl (ky 1, 6, .inr (.inl pboatNamesF))), (pboatCells, .inl (ky 0, 6, .inl pboatCellsF)), (ploads, .inl (ky 0, 6, .inl ploadsF)), (pspoons, .inl (ky 0, 6, .inl pspoonsF)), (pspoonsLeft, .inl (ky 0, 6, .inl pspoonsLeftF)), (pdepths, .inl (ky 0, 6, .inl pdepthsF)), (sea, .inr (7, [.int wide, .int high, .int heat, .int cools, .int skinHeat, .int today, .int stirs, .int steps, .int lumps, .int boats, .ref thickness, .ref lumpNames, .ref lumpCells, .ref boatNames, .ref boatCells, .ref loads, .ref spoons, .ref spoonsLeft, .ref depths])), (thickness, .inl (ky 0, 36, .inl thicknessF)), (lumpNames, .inl (ky 1, 6, .inr (.inl lumpNamesF))), (lumpCells, .inl (ky 0, 6, .inl lumpCellsF)), (boatNames, .inl (ky 1, 6, .inr (.inl boatNamesF))), (boatCells, .inl (ky 0, 6, .inl boatCellsF)), (loads, .inl (ky 0, 6, .inl loadsF)), (spoons, .inl (ky 0, 6, .inl spoonsF)), (spoonsLeft, .inl (ky 0, 6, .inl spoonsLeftF)), (depths, .inl (ky 0, 6, .inl depthsF)), (sentence, .inr (9, [.ref ncodes, .int ncodeCount, .int nones])), (history, .inr (2, [.ref hring, .int hnext, .int hkept])), (t, .inr (11, [.ref reader, .int (nI 0), .int (nI 0), .ref sea, .ref spareSea, .ref seaText, .ref book, .ref sentence, .ref spareSentence, .ref route, .ref meeting, .ref sighting, .ref draws, .ref history, .ref images, .ref chartBytes, .int (nI 0), .int (-1 : Int32)])), (reader, .inr (5, [.ref tape, .int (nI 0), .int (nI 900), .int (nI 0), .int (nI 0), .int (nI 0), .int (-1 : Int32), .int (nI 0), .long 0, .int (nI 0), .int (nI 0)])), (spareSea, .inr (7, [.int (nI 4), .int (nI 4), .int (nI 10), .int (nI 1), .int (nI 3), .int (nI 0), .int (nI 0), .int (nI 0), .int (nI 0), .int (nI 0), .ref pthickness, .ref plumpNames, .ref plumpCells, .ref pboatNames, .ref pboatCells, .ref ploads, .ref pspoons, .ref pspoonsLeft, .ref pdepths])), (pthickness, .inl (ky 0, 36, .inl thicknessG_6))] := hD
  refine lv_iload_n hx hb dX11_sea_34 rfl (lv_at hl 0 rfl) ?_
  refine lv_iconst (v := (-1 : Int32)) hx hb dX11_sea_35 (by decide) ?_
  refine lv_icmp_ne (tgt := 49) hx hb dX11_sea_36 (by decide) (fun c8 => ?_) (fun c8 => absurd c8 (by decide))
  refine lv_aload_n hx hb dX11_sea_49 rfl (lv_at hl 1 rfl) ?_
  refine va_get (D := (dC, dI)) (ci := 11) (v := .ref spareSea) (C := RX11) (T := TX11) (N := 18) hx hb hts hin11 hown hK hP 20 rfl rfl 4 (by decide) (hts (.fieldLink RX11 30 "PorridgeSea" "spareSea" "LPorridgeSea$Sea;") (List.mem_of_getElem? (i := 3) rfl)) (fun _ h9 => h9) rfl dX11_sea_50 ?_
  refine lv_aload_n hx hb dX11_sea_53 rfl (lv_at hl 1 rfl) ?_
  refine va_get (D := (dC, dI)) (ci := 11) (v := .ref sea) (C := RX11) (T := TX11) (N := 18) hx hb hts hin11 hown hK hP 20 rfl rfl 3 (by decide) (hts (.fieldLink RX11 26 "PorridgeSea" "sea" "LPorridgeSea$Sea;") (List.mem_of_getElem? (i := 7) rfl)) (fun _ h9 => h9) rfl dX11_sea_54 ?_
  refine r_call_v (wr := [(sentence, .inr (9, [.ref ncodes, .int ncodeCount, .int nones])), (history, .inr (2, [.ref hring, .int hnext, .int hkept])), (t, .inr (11, [.ref reader, .int (nI 0), .int (nI 0), .ref sea, .ref spareSea, .ref seaText, .ref book, .ref sentence, .ref spareSentence, .ref route, .ref meeting, .ref sighting, .ref draws, .ref history, .ref images, .ref chartBytes, .int (nI 0), .int (-1 : Int32)])), (reader, .inr (5, [.ref tape, .int (nI 0), .int (nI 900), .int (nI 0), .int (nI 0), .int (nI 0), .int (-1 : Int32), .int (nI 0), .long 0, .int (nI 0), .int (nI 0)]))]) (va_runS (As := [.ref spareSea, .ref sea]) (rest := []) ⟨hx, hb, hml, hown, hts⟩ (c_Sea_copy l dC dI ky H.size spareSea (nI 4) (nI 4) (nI 10) (nI 1) (nI 3) (nI 0) (nI 0) (nI 0) (nI 0) (nI 0) pthickness plumpNames plumpCells pboatNames pboatCells ploads pspoons pspoonsLeft pdepths thicknessG_6 plumpNamesF plumpCellsF pboatNamesF pboatCellsF ploadsF pspoonsF pspoonsLeftF pdepthsF sea wide high heat cools skinHeat today stirs steps lumps boats thickness lumpNames lumpCells boatNames boatCells loads spoons spoonsLeft depths thicknessF lumpNamesF lumpCellsF boatNamesF boatCellsF loadsF spoonsF spoonsLeftF depthsF) (va_cwS 2 hts gX11_sea_X7_copy rfl rfl rfl (by decide +kernel) ⟨(Nat.le_of_ble_eq_true rfl), (Nat.le_of_ble_eq_true rfl)⟩) (pre_US hK hP hD [22, 23, 0, 1, 2, 3, 4, 5, 6, 7, 8, 9, 10, 11, 12, 13, 14, 15, 16, 17] (by decide) rfl) rfl rfl hl.1 rfl (lv_room (Nat.le_of_ble_eq_true rfl)) dX11_sea_57 ⟨(Nat.le_of_ble_eq_true rfl), (Nat.le_of_ble_eq_true rfl)⟩) hP hD hS hA [22, 23, 0, 1, 2, 3, 4, 5, 6, 7, 8, 9, 10, 11, 12, 13, 14, 15, 16, 17] [18, 19, 20, 21] rfl rfl (by decide) (by decide) (fun  u9 H locs p10 hP hD hS => ?_)
  obtain ⟨tthicknessG_11, tlumpNamesG_12, tlumpCellsG_13, tboatNamesG_14, tboatCellsG_15, tloadsG_16, tspoonsG_17, tspoonsLeftG_18, tdepthsG_19⟩ := u9
  refine W.widen (k := 0) (n := 0) (Nat.le_of_ble_eq_true rfl) (Nat.le_of_ble_eq_true rfl) ?_
  have hP : va_P (dC, dI) vwCl [(sentence, .inr (9, [.ref ncodes, .int ncodeCount, .int nones])), (history, .inr (2, [.ref hring, .int hnext, .int hkept])), (t, .inr (11, [.ref reader, .int (nI 0), .int (nI 0), .ref sea, .ref spareSea, .ref seaText, .ref book, .ref sentence, .ref spareSentence, .ref route, .ref meeting, .ref sighting, .ref draws, .ref history, .ref images, .ref chartBytes, .int (nI 0), .int (-1 : Int32)])), (reader, .inr (5, [.ref tape, .int (nI 0), .int (nI 900), .int (nI 0), .int (nI 0), .int (nI 0), .int (-1 : Int32), .int (nI 0), .long 0, .int (nI 0), .int (nI 0)])), (spareSea, .inr (7, [.int (nI 4), .int (nI 4), .int (nI 10), .int (nI 1), .int (nI 3), .int (nI 0), .int (nI 0), .int (nI 0), .int (nI 0), .int (nI 0), .ref pthickness, .ref plumpNames, .ref plumpCells, .ref pboatNames, .ref pboatCells, .ref ploads, .ref pspoons, .ref pspoonsLeft, .ref pdepths])), (pthickness, .inl (ky 0, 36, .inl thicknessG_6)), (plumpNames, .inl (ky 1, 6, .inr (.inl plumpNamesF))), (plumpCells, .inl (ky 0, 6, .inl plumpCellsF)), (pboatNames, .inl (ky 1, 6, .inr (.inl pboatNamesF))), (pboatCells, .inl (ky 0, 6, .inl pboatCellsF)), (ploads, .inl (ky 0, 6, .inl ploadsF)), (pspoons, .inl (ky 0, 6, .inl pspoonsF)), (pspoonsLeft, .inl (ky 0, 6, .inl pspoonsLeftF)), (pdepths, .inl (ky 0, 6, .inl pdepthsF)), (sea, .inr (7, [.int (nI 4), .int (nI 4), .int (nI 10), .int (nI 1), .int (nI 3), .int (nI 0), .int (nI 0), .int (nI 0), .int (nI 0), .int (nI 0), .ref thickness, .ref lumpNames, .ref lumpCells, .ref boatNames, .ref boatCells, .ref loads, .ref spoons, .ref spoonsLeft, .ref depths])), (thickness, .inl (ky 0, 36, .inl tthicknessG_11)), (lumpNames, .inl (ky 1, 6, .inr (.inl tlumpNamesG_12))), (lumpCells, .inl (ky 0, 6, .inl tlumpCellsG_13)), (boatNames, .inl (ky 1, 6, .inr (.inl tboatNamesG_14))), (boatCells, .inl (ky 0, 6, .inl tboatCellsG_15)), (loads, .inl (ky 0, 6, .inl tloadsG_16)), (spoons, .inl (ky 0, 6, .inl tspoonsG_17)), (spoonsLeft, .inl (ky 0, 6, .inl tspoonsLeftG_18)), (depths, .inl (ky 0, 6, .inl tdepthsG_19))] H := hP
  have hD : va_D A [(sentence, .inr (9, [.ref ncodes, .int ncodeCount, .int nones])), (history, .inr (2, [.ref hring, .int hnext, .int hkept])), (t, .inr (11, [.ref reader, .int (nI 0), .int (nI 0), .ref sea, .ref spareSea, .ref seaText, .ref book, .ref sentence, .ref spareSentence, .ref route, .ref meeting, .ref sighting, .ref draws, .ref history, .ref images, .ref chartBytes, .int (nI 0), .int (-1 : Int32)])), (reader, .inr (5, [.ref tape, .int (nI 0), .int (nI 900), .int (nI 0), .int (nI 0), .int (nI 0), .int (-1 : Int32), .int (nI 0), .long 0, .int (nI 0), .int (nI 0)])), (spareSea, .inr (7, [.int (nI 4), .int (nI 4), .int (nI 10), .int (nI 1), .int (nI 3), .int (nI 0), .int (nI 0), .int (nI 0), .int (nI 0), .int (nI 0), .ref pthickness, .ref plumpNames, .ref plumpCells, .ref pboatNames, .ref pboatCells, .ref ploads, .ref pspoons, .ref pspoonsLeft, .ref pdepths])), (pthickness, .inl (ky 0, 36, .inl thicknessG_6)), (plumpNames, .inl (ky 1, 6, .inr (.inl plumpNamesF))), (plumpCells, .inl (ky 0, 6, .inl plumpCellsF)), (pboatNames, .inl (ky 1, 6, .inr (.inl pboatNamesF))), (pboatCells, .inl (ky 0, 6, .inl pboatCellsF)), (ploads, .inl (ky 0, 6, .inl ploadsF)), (pspoons, .inl (ky 0, 6, .inl pspoonsF)), (pspoonsLeft, .inl (ky 0, 6, .inl pspoonsLeftF)), (pdepths, .inl (ky 0, 6, .inl pdepthsF)), (sea, .inr (7, [.int (nI 4), .int (nI 4), .int (nI 10), .int (nI 1), .int (nI 3), .int (nI 0), .int (nI 0), .int (nI 0), .int (nI 0), .int (nI 0), .ref thickness, .ref lumpNames, .ref lumpCells, .ref boatNames, .ref boatCells, .ref loads, .ref spoons, .ref spoonsLeft, .ref depths])), (thickness, .inl (ky 0, 36, .inl tthicknessG_11)), (lumpNames, .inl (ky 1, 6, .inr (.inl tlumpNamesG_12))), (lumpCells, .inl (ky 0, 6, .inl tlumpCellsG_13)), (boatNames, .inl (ky 1, 6, .inr (.inl tboatNamesG_14))), (boatCells, .inl (ky 0, 6, .inl tboatCellsG_15)), (loads, .inl (ky 0, 6, .inl tloadsG_16)), (spoons, .inl (ky 0, 6, .inl tspoonsG_17)), (spoonsLeft, .inl (ky 0, 6, .inl tspoonsLeftG_18)), (depths, .inl (ky 0, 6, .inl tdepthsG_19))] := hD
  refine lv_aload_n hx hb dX11_sea_60 rfl (lv_at hl 1 rfl) ?_
  refine va_get (D := (dC, dI)) (ci := 11) (v := .ref sentence) (C := RX11) (T := TX11) (N := 18) hx hb hts hin11 hown hK hP 2 rfl rfl 7 (by decide) (hts (.fieldLink RX11 50 "PorridgeSea" "sentence" "LPorridgeSea$Sentence;") (List.mem_of_getElem? (i := 8) rfl)) (fun _ h9 => h9) rfl dX11_sea_61 ?_
  refine r_call_v (wr := [(history, .inr (2, [.ref hring, .int hnext, .int hkept])), (t, .inr (11, [.ref reader, .int (nI 0), .int (nI 0), .ref sea, .ref spareSea, .ref seaText, .ref book, .ref sentence, .ref spareSentence, .ref route, .ref meeting, .ref sighting, .ref draws, .ref history, .ref images, .ref chartBytes, .int (nI 0), .int (-1 : Int32)])), (reader, .inr (5, [.ref tape, .int (nI 0), .int (nI 900), .int (nI 0), .int (nI 0), .int (nI 0), .int (-1 : Int32), .int (nI 0), .long 0, .int (nI 0), .int (nI 0)])), (spareSea, .inr (7, [.int (nI 4), .int (nI 4), .int (nI 10), .int (nI 1), .int (nI 3), .int (nI 0), .int (nI 0), .int (nI 0), .int (nI 0), .int (nI 0), .ref pthickness, .ref plumpNames, .ref plumpCells, .ref pboatNames, .ref pboatCells, .ref ploads, .ref pspoons, .ref pspoonsLeft, .ref pdepths])), (pthickness, .inl (ky 0, 36, .inl thicknessG_6)), (plumpNames, .inl (ky 1, 6, .inr (.inl plumpNamesF))), (plumpCells, .inl (ky 0, 6, .inl plumpCellsF)), (pboatNames, .inl (ky 1, 6, .inr (.inl pboatNamesF))), (pboatCells, .inl (ky 0, 6, .inl pboatCellsF)), (ploads, .inl (ky 0, 6, .inl ploadsF)), (pspoons, .inl (ky 0, 6, .inl pspoonsF)), (pspoonsLeft, .inl (ky 0, 6, .inl pspoonsLeftF)), (pdepths, .inl (ky 0, 6, .inl pdepthsF)), (sea, .inr (7, [.int (nI 4), .int (nI 4), .int (nI 10), .int (nI 1), .int (nI 3), .int (nI 0), .int (nI 0), .int (nI 0), .int (nI 0), .int (nI 0), .ref thickness, .ref lumpNames, .ref lumpCells, .ref boatNames, .ref boatCells, .ref loads, .ref spoons, .ref spoonsLeft, .ref depths])), (thickness, .inl (ky 0, 36, .inl tthicknessG_11)), (lumpNames, .inl (ky 1, 6, .inr (.inl tlumpNamesG_12))), (lumpCells, .inl (ky 0, 6, .inl tlumpCellsG_13)), (boatNames, .inl (ky 1, 6, .inr (.inl tboatNamesG_14))), (boatCells, .inl (ky 0, 6, .inl tboatCellsG_15)), (loads, .inl (ky 0, 6, .inl tloadsG_16)), (spoons, .inl (ky 0, 6, .inl tspoonsG_17)), (spoonsLeft, .inl (ky 0, 6, .inl tspoonsLeftG_18)), (depths, .inl (ky 0, 6, .inl tdepthsG_19))]) (va_runV (As := []) (rest := []) ⟨hx, hb, hml, hown, hts⟩ (c_forgetS l dC dI ky H.size sentence ncodes ncodeCount nones) (cwV 0 hts gX11_sea_X9_forget rfl rfl rfl (by decide +kernel) ⟨(Nat.le_of_ble_eq_true rfl), (Nat.le_of_ble_eq_true rfl)⟩) (pre_UV hK hP hD [0] (by decide) rfl (ci := 9) (q0 := 0) rfl rfl) rfl rfl hl.1 rfl (lv_room (Nat.le_of_ble_eq_true rfl)) dX11_sea_64 ⟨(Nat.le_of_ble_eq_true rfl), (Nat.le_of_ble_eq_true rfl)⟩) hP hD hS hA [0] [1, 2, 3, 4, 5, 6, 7, 8, 9, 10, 11, 12, 13, 14, 15, 16, 17, 18, 19, 20, 21, 22, 23] rfl rfl (by decide) (by decide) (fun  u20 H locs p21 hP hD hS => ?_)
  refine W.widen (k := 0) (n := 0) (Nat.le_of_ble_eq_true rfl) (Nat.le_of_ble_eq_true rfl) ?_
  have hP : va_P (dC, dI) vwCl [(history, .inr (2, [.ref hring, .int hnext, .int hkept])), (t, .inr (11, [.ref reader, .int (nI 0), .int (nI 0), .ref sea, .ref spareSea, .ref seaText, .ref book, .ref sentence, .ref spareSentence, .ref route, .ref meeting, .ref sighting, .ref draws, .ref history, .ref images, .ref chartBytes, .int (nI 0), .int (-1 : Int32)])), (reader, .inr (5, [.ref tape, .int (nI 0), .int (nI 900), .int (nI 0), .int (nI 0), .int (nI 0), .int (-1 : Int32), .int (nI 0), .long 0, .int (nI 0), .int (nI 0)])), (spareSea, .inr (7, [.int (nI 4), .int (nI 4), .int (nI 10), .int (nI 1), .int (nI 3), .int (nI 0), .int (nI 0), .int (nI 0), .int (nI 0), .int (nI 0), .ref pthickness, .ref plumpNames, .ref plumpCells, .ref pboatNames, .ref pboatCells, .ref ploads, .ref pspoons, .ref pspoonsLeft, .ref pdepths])), (pthickness, .inl (ky 0, 36, .inl thicknessG_6)), (plumpNames, .inl (ky 1, 6, .inr (.inl plumpNamesF))), (plumpCells, .inl (ky 0, 6, .inl plumpCellsF)), (pboatNames, .inl (ky 1, 6, .inr (.inl pboatNamesF))), (pboatCells, .inl (ky 0, 6, .inl pboatCellsF)), (ploads, .inl (ky 0, 6, .inl ploadsF)), (pspoons, .inl (ky 0, 6, .inl pspoonsF)), (pspoonsLeft, .inl (ky 0, 6, .inl pspoonsLeftF)), (pdepths, .inl (ky 0, 6, .inl pdepthsF)), (sea, .inr (7, [.int (nI 4), .int (nI 4), .int (nI 10), .int (nI 1), .int (nI 3), .int (nI 0), .int (nI 0), .int (nI 0), .int (nI 0), .int (nI 0), .ref thickness, .ref lumpNames, .ref lumpCells, .ref boatNames, .ref boatCells, .ref loads, .ref spoons, .ref spoonsLeft, .ref depths])), (thickness, .inl (ky 0, 36, .inl tthicknessG_11)), (lumpNames, .inl (ky 1, 6, .inr (.inl tlumpNamesG_12))), (lumpCells, .inl (ky 0, 6, .inl tlumpCellsG_13)), (boatNames, .inl (ky 1, 6, .inr (.inl tboatNamesG_14))), (boatCells, .inl (ky 0, 6, .inl tboatCellsG_15)), (loads, .inl (ky 0, 6, .inl tloadsG_16)), (spoons, .inl (ky 0, 6, .inl tspoonsG_17)), (spoonsLeft, .inl (ky 0, 6, .inl tspoonsLeftG_18)), (depths, .inl (ky 0, 6, .inl tdepthsG_19)), (sentence, .inr (9, [.ref ncodes, .int (nI 0), .int (nI 0)]))] H := hP
  have hD : va_D A [(history, .inr (2, [.ref hring, .int hnext, .int hkept])), (t, .inr (11, [.ref reader, .int (nI 0), .int (nI 0), .ref sea, .ref spareSea, .ref seaText, .ref book, .ref sentence, .ref spareSentence, .ref route, .ref meeting, .ref sighting, .ref draws, .ref history, .ref images, .ref chartBytes, .int (nI 0), .int (-1 : Int32)])), (reader, .inr (5, [.ref tape, .int (nI 0), .int (nI 900), .int (nI 0), .int (nI 0), .int (nI 0), .int (-1 : Int32), .int (nI 0), .long 0, .int (nI 0), .int (nI 0)])), (spareSea, .inr (7, [.int (nI 4), .int (nI 4), .int (nI 10), .int (nI 1), .int (nI 3), .int (nI 0), .int (nI 0), .int (nI 0), .int (nI 0), .int (nI 0), .ref pthickness, .ref plumpNames, .ref plumpCells, .ref pboatNames, .ref pboatCells, .ref ploads, .ref pspoons, .ref pspoonsLeft, .ref pdepths])), (pthickness, .inl (ky 0, 36, .inl thicknessG_6)), (plumpNames, .inl (ky 1, 6, .inr (.inl plumpNamesF))), (plumpCells, .inl (ky 0, 6, .inl plumpCellsF)), (pboatNames, .inl (ky 1, 6, .inr (.inl pboatNamesF))), (pboatCells, .inl (ky 0, 6, .inl pboatCellsF)), (ploads, .inl (ky 0, 6, .inl ploadsF)), (pspoons, .inl (ky 0, 6, .inl pspoonsF)), (pspoonsLeft, .inl (ky 0, 6, .inl pspoonsLeftF)), (pdepths, .inl (ky 0, 6, .inl pdepthsF)), (sea, .inr (7, [.int (nI 4), .int (nI 4), .int (nI 10), .int (nI 1), .int (nI 3), .int (nI 0), .int (nI 0), .int (nI 0), .int (nI 0), .int (nI 0), .ref thickness, .ref lumpNames, .ref lumpCells, .ref boatNames, .ref boatCells, .ref loads, .ref spoons, .ref spoonsLeft, .ref depths])), (thickness, .inl (ky 0, 36, .inl tthicknessG_11)), (lumpNames, .inl (ky 1, 6, .inr (.inl tlumpNamesG_12))), (lumpCells, .inl (ky 0, 6, .inl tlumpCellsG_13)), (boatNames, .inl (ky 1, 6, .inr (.inl tboatNamesG_14))), (boatCells, .inl (ky 0, 6, .inl tboatCellsG_15)), (loads, .inl (ky 0, 6, .inl tloadsG_16)), (spoons, .inl (ky 0, 6, .inl tspoonsG_17)), (spoonsLeft, .inl (ky 0, 6, .inl tspoonsLeftG_18)), (depths, .inl (ky 0, 6, .inl tdepthsG_19)), (sentence, .inr (9, [.ref ncodes, .int (nI 0), .int (nI 0)]))] := hD
  refine lv_aload_n hx hb dX11_sea_67 rfl (lv_at hl 1 rfl) ?_
  refine va_get (D := (dC, dI)) (ci := 11) (v := .ref history) (C := RX11) (T := TX11) (N := 18) hx hb hts hin11 hown hK hP 1 rfl rfl 13 (by decide) (hts (.fieldLink RX11 88 "PorridgeSea" "history" "LPorridgeSea$History;") (List.mem_of_getElem? (i := 9) rfl)) (fun _ h9 => h9) rfl dX11_sea_68 ?_
  refine r_call_v (wr := [(t, .inr (11, [.ref reader, .int (nI 0), .int (nI 0), .ref sea, .ref spareSea, .ref seaText, .ref book, .ref sentence, .ref spareSentence, .ref route, .ref meeting, .ref sighting, .ref draws, .ref history, .ref images, .ref chartBytes, .int (nI 0), .int (-1 : Int32)])), (reader, .inr (5, [.ref tape, .int (nI 0), .int (nI 900), .int (nI 0), .int (nI 0), .int (nI 0), .int (-1 : Int32), .int (nI 0), .long 0, .int (nI 0), .int (nI 0)])), (spareSea, .inr (7, [.int (nI 4), .int (nI 4), .int (nI 10), .int (nI 1), .int (nI 3), .int (nI 0), .int (nI 0), .int (nI 0), .int (nI 0), .int (nI 0), .ref pthickness, .ref plumpNames, .ref plumpCells, .ref pboatNames, .ref pboatCells, .ref ploads, .ref pspoons, .ref pspoonsLeft, .ref pdepths])), (pthickness, .inl (ky 0, 36, .inl thicknessG_6)), (plumpNames, .inl (ky 1, 6, .inr (.inl plumpNamesF))), (plumpCells, .inl (ky 0, 6, .inl plumpCellsF)), (pboatNames, .inl (ky 1, 6, .inr (.inl pboatNamesF))), (pboatCells, .inl (ky 0, 6, .inl pboatCellsF)), (ploads, .inl (ky 0, 6, .inl ploadsF)), (pspoons, .inl (ky 0, 6, .inl pspoonsF)), (pspoonsLeft, .inl (ky 0, 6, .inl pspoonsLeftF)), (pdepths, .inl (ky 0, 6, .inl pdepthsF)), (sea, .inr (7, [.int (nI 4), .int (nI 4), .int (nI 10), .int (nI 1), .int (nI 3), .int (nI 0), .int (nI 0), .int (nI 0), .int (nI 0), .int (nI 0), .ref thickness, .ref lumpNames, .ref lumpCells, .ref boatNames, .ref boatCells, .ref loads, .ref spoons, .ref spoonsLeft, .ref depths])), (thickness, .inl (ky 0, 36, .inl tthicknessG_11)), (lumpNames, .inl (ky 1, 6, .inr (.inl tlumpNamesG_12))), (lumpCells, .inl (ky 0, 6, .inl tlumpCellsG_13)), (boatNames, .inl (ky 1, 6, .inr (.inl tboatNamesG_14))), (boatCells, .inl (ky 0, 6, .inl tboatCellsG_15)), (loads, .inl (ky 0, 6, .inl tloadsG_16)), (spoons, .inl (ky 0, 6, .inl tspoonsG_17)), (spoonsLeft, .inl (ky 0, 6, .inl tspoonsLeftG_18)), (depths, .inl (ky 0, 6, .inl tdepthsG_19)), (sentence, .inr (9, [.ref ncodes, .int (nI 0), .int (nI 0)]))]) (va_runV (As := []) (rest := []) ⟨hx, hb, hml, hown, hts⟩ (c_forget l dC dI ky H.size history hring hnext hkept) (cwV 0 hts gX11_sea_X2_forget rfl rfl rfl (by decide +kernel) ⟨(Nat.le_of_ble_eq_true rfl), (Nat.le_of_ble_eq_true rfl)⟩) (pre_UV hK hP hD [0] (by decide) rfl (ci := 2) (q0 := 0) rfl rfl) rfl rfl hl.1 rfl (lv_room (Nat.le_of_ble_eq_true rfl)) dX11_sea_71 ⟨(Nat.le_of_ble_eq_true rfl), (Nat.le_of_ble_eq_true rfl)⟩) hP hD hS hA [0] [1, 2, 3, 4, 5, 6, 7, 8, 9, 10, 11, 12, 13, 14, 15, 16, 17, 18, 19, 20, 21, 22, 23] rfl rfl (by decide) (by decide) (fun  u22 H locs p23 hP hD hS => ?_)
  refine W.widen (k := 0) (n := 0) (Nat.le_of_ble_eq_true rfl) (Nat.le_of_ble_eq_true rfl) ?_
  have hP : va_P (dC, dI) vwCl [(t, .inr (11, [.ref reader, .int (nI 0), .int (nI 0), .ref sea, .ref spareSea, .ref seaText, .ref book, .ref sentence, .ref spareSentence, .ref route, .ref meeting, .ref sighting, .ref draws, .ref history, .ref images, .ref chartBytes, .int (nI 0), .int (-1 : Int32)])), (reader, .inr (5, [.ref tape, .int (nI 0), .int (nI 900), .int (nI 0), .int (nI 0), .int (nI 0), .int (-1 : Int32), .int (nI 0), .long 0, .int (nI 0), .int (nI 0)])), (spareSea, .inr (7, [.int (nI 4), .int (nI 4), .int (nI 10), .int (nI 1), .int (nI 3), .int (nI 0), .int (nI 0), .int (nI 0), .int (nI 0), .int (nI 0), .ref pthickness, .ref plumpNames, .ref plumpCells, .ref pboatNames, .ref pboatCells, .ref ploads, .ref pspoons, .ref pspoonsLeft, .ref pdepths])), (pthickness, .inl (ky 0, 36, .inl thicknessG_6)), (plumpNames, .inl (ky 1, 6, .inr (.inl plumpNamesF))), (plumpCells, .inl (ky 0, 6, .inl plumpCellsF)), (pboatNames, .inl (ky 1, 6, .inr (.inl pboatNamesF))), (pboatCells, .inl (ky 0, 6, .inl pboatCellsF)), (ploads, .inl (ky 0, 6, .inl ploadsF)), (pspoons, .inl (ky 0, 6, .inl pspoonsF)), (pspoonsLeft, .inl (ky 0, 6, .inl pspoonsLeftF)), (pdepths, .inl (ky 0, 6, .inl pdepthsF)), (sea, .inr (7, [.int (nI 4), .int (nI 4), .int (nI 10), .int (nI 1), .int (nI 3), .int (nI 0), .int (nI 0), .int (nI 0), .int (nI 0), .int (nI 0), .ref thickness, .ref lumpNames, .ref lumpCells, .ref boatNames, .ref boatCells, .ref loads, .ref spoons, .ref spoonsLeft, .ref depths])), (thickness, .inl (ky 0, 36, .inl tthicknessG_11)), (lumpNames, .inl (ky 1, 6, .inr (.inl tlumpNamesG_12))), (lumpCells, .inl (ky 0, 6, .inl tlumpCellsG_13)), (boatNames, .inl (ky 1, 6, .inr (.inl tboatNamesG_14))), (boatCells, .inl (ky 0, 6, .inl tboatCellsG_15)), (loads, .inl (ky 0, 6, .inl tloadsG_16)), (spoons, .inl (ky 0, 6, .inl tspoonsG_17)), (spoonsLeft, .inl (ky 0, 6, .inl tspoonsLeftG_18)), (depths, .inl (ky 0, 6, .inl tdepthsG_19)), (sentence, .inr (9, [.ref ncodes, .int (nI 0), .int (nI 0)]))] H := hP
  have hD : va_D A [(t, .inr (11, [.ref reader, .int (nI 0), .int (nI 0), .ref sea, .ref spareSea, .ref seaText, .ref book, .ref sentence, .ref spareSentence, .ref route, .ref meeting, .ref sighting, .ref draws, .ref history, .ref images, .ref chartBytes, .int (nI 0), .int (-1 : Int32)])), (reader, .inr (5, [.ref tape, .int (nI 0), .int (nI 900), .int (nI 0), .int (nI 0), .int (nI 0), .int (-1 : Int32), .int (nI 0), .long 0, .int (nI 0), .int (nI 0)])), (spareSea, .inr (7, [.int (nI 4), .int (nI 4), .int (nI 10), .int (nI 1), .int (nI 3), .int (nI 0), .int (nI 0), .int (nI 0), .int (nI 0), .int (nI 0), .ref pthickness, .ref plumpNames, .ref plumpCells, .ref pboatNames, .ref pboatCells, .ref ploads, .ref pspoons, .ref pspoonsLeft, .ref pdepths])), (pthickness, .inl (ky 0, 36, .inl thicknessG_6)), (plumpNames, .inl (ky 1, 6, .inr (.inl plumpNamesF))), (plumpCells, .inl (ky 0, 6, .inl plumpCellsF)), (pboatNames, .inl (ky 1, 6, .inr (.inl pboatNamesF))), (pboatCells, .inl (ky 0, 6, .inl pboatCellsF)), (ploads, .inl (ky 0, 6, .inl ploadsF)), (pspoons, .inl (ky 0, 6, .inl pspoonsF)), (pspoonsLeft, .inl (ky 0, 6, .inl pspoonsLeftF)), (pdepths, .inl (ky 0, 6, .inl pdepthsF)), (sea, .inr (7, [.int (nI 4), .int (nI 4), .int (nI 10), .int (nI 1), .int (nI 3), .int (nI 0), .int (nI 0), .int (nI 0), .int (nI 0), .int (nI 0), .ref thickness, .ref lumpNames, .ref lumpCells, .ref boatNames, .ref boatCells, .ref loads, .ref spoons, .ref spoonsLeft, .ref depths])), (thickness, .inl (ky 0, 36, .inl tthicknessG_11)), (lumpNames, .inl (ky 1, 6, .inr (.inl tlumpNamesG_12))), (lumpCells, .inl (ky 0, 6, .inl tlumpCellsG_13)), (boatNames, .inl (ky 1, 6, .inr (.inl tboatNamesG_14))), (boatCells, .inl (ky 0, 6, .inl tboatCellsG_15)), (loads, .inl (ky 0, 6, .inl tloadsG_16)), (spoons, .inl (ky 0, 6, .inl tspoonsG_17)), (spoonsLeft, .inl (ky 0, 6, .inl tspoonsLeftG_18)), (depths, .inl (ky 0, 6, .inl tdepthsG_19)), (sentence, .inr (9, [.ref ncodes, .int (nI 0), .int (nI 0)]))] := hD
  refine lv_iload_n hx hb dX11_sea_74 rfl (lv_at hl 0 rfl) ?_
  have hP9 := hP.sub (ws' := []) [] rfl
  have hD9 := hD.sub (ws' := []) [] (by decide) rfl
  refine W.widen (k := 0) (n := 0) (Nat.le_of_ble_eq_true rfl) (Nat.le_of_ble_eq_true rfl) ?_
  exact W.iret (v := nI 0) hx hb hr (fun t9 ht9 hW9 => ⟨⟨nI 0, (), rfl, rfl, by rw [ht9]; exact hP9, va_K.moved hW9.alike hK, hD9⟩, hS.F ht9⟩) hS.2.2 dX11_sea_75
set_option maxHeartbeats 4000000 in
set_option maxRecDepth 100000 in
theorem c_fault (l : Launch) (dC : Nat → ClassId) (dI : Nat → Nat → Nat) (ky : Nat → ClassId) (t : Nat) (reader : Nat) (sea : Nat) (spareSea : Nat) (seaText : Nat) (book : Nat) (sentence : Nat) (spareSentence : Nat) (route : Nat) (meeting : Nat) (sighting : Nat) (draws : Nat) (history : Nat) (images : Nat) (chartBytes : Nat)  : Met l yX11_fault wsX11_fault ({ frames := 0, cells := 0, slots := 0, locals := 0 }) (PcP dC dI ky [.ref t] [(t, .inr (11, [.ref reader, .int (nI 0), .int (nI 0), .ref sea, .ref spareSea, .ref seaText, .ref book, .ref sentence, .ref spareSentence, .ref route, .ref meeting, .ref sighting, .ref draws, .ref history, .ref images, .ref chartBytes, .int (nI 0), .int (-1 : Int32)]))]) (vp_Si (fun r : Int32 => r = nI 0)) 0 0 (fun _ => False) := by
  refine Met.ofW (cc := cX11_fault) (maxL := 1) (ret := (some .int)) (by decide) rfl ?_
  intro p e s m args below meth c s₁ B hml hv
  obtain ⟨rfl, hP, hK⟩ := hv
  have hx := B.exec
  have hb := B.bytes
  have hr := B.returns
  have hts := atoms_spec (ws := wsX11_fault) B.pre
  have hown : s.vm.findClass RX11 = some m.cls := findClass_of_methodNamed B.named
  have hlocks := B.notSynchronized
  have hin11 : ∀ w ∈ u_ws RX11 TX11 18, w ∈ wsX11_fault := by decide +kernel
  have hl := lv_entry ([.ref t]) (n := 1) (Nat.le_of_ble_eq_true rfl)
  rw [lg_entry_eq]
  generalize (lg_sl ([.ref t]) ++ List.replicate (1 - (lg_sl ([.ref t])).length) Slot.unset).toArray = ls at hl ⊢
  have hl : lv_has ls 1 [(0, .ref t)] := hl
  refine lv_aload_n hx hb dX11_fault_0 rfl (lv_at hl 0 rfl) ?_
  refine va_get (D := (dC, dI)) (ci := 11) (v := .int (nI 0)) (C := RX11) (T := TX11) (N := 18) hx hb hts hin11 hown hK hP 0 rfl rfl 2 (by decide) (hts (.fieldLink RX11 20 "PorridgeSea" "latestFault" "I") (List.mem_of_getElem? (i := 1) rfl)) (fun _ h9 => h9) rfl dX11_fault_1 ?_
  exact W.iret (v := nI 0) hx hb hr (fun t9 ht9 hW9 => ⟨nI 0, rfl, rfl, ht9⟩) (fun _ h => absurd h List.not_mem_nil) dX11_fault_4
set_option maxRecDepth 20000 in
theorem lf_thick_1 (t : Nat) (reader : Nat) (sea : Nat) (spareSea : Nat) (seaText : Nat) (book : Nat) (sentence : Nat) (spareSentence : Nat) (route : Nat) (meeting : Nat) (sighting : Nat) (draws : Nat) (history : Nat) (images : Nat) (chartBytes : Nat) (thickness : Nat) (lumpNames : Nat) (lumpCells : Nat) (boatNames : Nat) (boatCells : Nat) (loads : Nat) (spoons : Nat) (spoonsLeft : Nat) (depths : Nat) (thicknessF : Nat → Int32) (x : Int32) (y : Int32) (r1 : Int32) (hz : ∀ j, j < 36 → thicknessF j = nI 0) (p2 : (r1 = nI 1 ∧ (0 ≤ x.toInt ∧ x.toInt < (nI 4).toInt ∧ 0 ≤ y.toInt ∧ y.toInt < (nI 4).toInt)) ∨ (r1 = nI 0 ∧ ¬ (0 ≤ x.toInt ∧ x.toInt < (nI 4).toInt ∧ 0 ≤ y.toInt ∧ y.toInt < (nI 4).toInt))) (c3 : r1 = 0) : ((-1 : Int32) = nI 0 ∧ (0 ≤ x.toInt ∧ x.toInt < 4 ∧ 0 ≤ y.toInt ∧ y.toInt < 4)) ∨ ((-1 : Int32) = (-1 : Int32) ∧ ¬ (0 ≤ x.toInt ∧ x.toInt < 4 ∧ 0 ≤ y.toInt ∧ y.toInt < 4)) := by
  have k_0 := ia_n 0 (by decide)
  have k_1 := ia_n 1 (by decide)
  have k_2 := ia_n 4 (by decide)
  simp only [ia_lt, ia_le, ia_eq, ia_m1, ia_0, ia_1, ne_eq, true_and, and_true, false_and, and_false, or_false, false_or, or_true, true_or, not_true_eq_false, not_false_eq_true] at *
  all_goals omega
set_option maxRecDepth 20000 in
theorem lf_thick_2 (t : Nat) (reader : Nat) (sea : Nat) (spareSea : Nat) (seaText : Nat) (book : Nat) (sentence : Nat) (spareSentence : Nat) (route : Nat) (meeting : Nat) (sighting : Nat) (draws : Nat) (history : Nat) (images : Nat) (chartBytes : Nat) (thickness : Nat) (lumpNames : Nat) (lumpCells : Nat) (boatNames : Nat) (boatCells : Nat) (loads : Nat) (spoons : Nat) (spoonsLeft : Nat) (depths : Nat) (thicknessF : Nat → Int32) (x : Int32) (y : Int32) (r1 : Int32) (hz : ∀ j, j < 36 → thicknessF j = nI 0) (p2 : (r1 = nI 1 ∧ (0 ≤ x.toInt ∧ x.toInt < (nI 4).toInt ∧ 0 ≤ y.toInt ∧ y.toInt < (nI 4).toInt)) ∨ (r1 = nI 0 ∧ ¬ (0 ≤ x.toInt ∧ x.toInt < (nI 4).toInt ∧ 0 ≤ y.toInt ∧ y.toInt < (nI 4).toInt))) (c3 : ¬ r1 = 0) : 0 ≤ x.toInt ∧ x.toInt < ((4 : Nat) : Int) := by
  have k_0 := ia_n 0 (by decide)
  have k_1 := ia_n 1 (by decide)
  have k_2 := ia_n 4 (by decide)
  simp only [ia_lt, ia_le, ia_eq, ia_m1, ia_0, ia_1, ne_eq, true_and, and_true, false_and, and_false, or_false, false_or, or_true, true_or, not_true_eq_false, not_false_eq_true] at *
  all_goals omega
set_option maxRecDepth 20000 in
theorem lf_thick_3 (t : Nat) (reader : Nat) (sea : Nat) (spareSea : Nat) (seaText : Nat) (book : Nat) (sentence : Nat) (spareSentence : Nat) (route : Nat) (meeting : Nat) (sighting : Nat) (draws : Nat) (history : Nat) (images : Nat) (chartBytes : Nat) (thickness : Nat) (lumpNames : Nat) (lumpCells : Nat) (boatNames : Nat) (boatCells : Nat) (loads : Nat) (spoons : Nat) (spoonsLeft : Nat) (depths : Nat) (thicknessF : Nat → Int32) (y : Int32) (r1 : Int32) (xn : Nat) (hz : ∀ j, j < 36 → thicknessF j = nI 0) (p2 : (r1 = nI 1 ∧ (0 ≤ (nI xn).toInt ∧ (nI xn).toInt < (nI 4).toInt ∧ 0 ≤ y.toInt ∧ y.toInt < (nI 4).toInt)) ∨ (r1 = nI 0 ∧ ¬ (0 ≤ (nI xn).toInt ∧ (nI xn).toInt < (nI 4).toInt ∧ 0 ≤ y.toInt ∧ y.toInt < (nI 4).toInt))) (c3 : ¬ r1 = 0) (h4 : xn < 4) : 0 ≤ y.toInt ∧ y.toInt < ((4 : Nat) : Int) := by
  have k_0 := ia_n 0 (by decide)
  have k_1 := ia_n 1 (by decide)
  have k_2 := ia_n xn (by omega)
  have k_3 := ia_n 4 (by decide)
  simp only [ia_lt, ia_le, ia_eq, ia_m1, ia_0, ia_1, ne_eq, true_and, and_true, false_and, and_false, or_false, false_or, or_true, true_or, not_true_eq_false, not_false_eq_true] at *
  all_goals omega
set_option maxRecDepth 20000 in
theorem lf_thick_4 (t : Nat) (reader : Nat) (sea : Nat) (spareSea : Nat) (seaText : Nat) (book : Nat) (sentence : Nat) (spareSentence : Nat) (route : Nat) (meeting : Nat) (sighting : Nat) (draws : Nat) (history : Nat) (images : Nat) (chartBytes : Nat) (thickness : Nat) (lumpNames : Nat) (lumpCells : Nat) (boatNames : Nat) (boatCells : Nat) (loads : Nat) (spoons : Nat) (spoonsLeft : Nat) (depths : Nat) (thicknessF : Nat → Int32) (r1 : Int32) (xn : Nat) (yn : Nat) (hz : ∀ j, j < 36 → thicknessF j = nI 0) (p2 : (r1 = nI 1 ∧ (0 ≤ (nI xn).toInt ∧ (nI xn).toInt < (nI 4).toInt ∧ 0 ≤ (nI yn).toInt ∧ (nI yn).toInt < (nI 4).toInt)) ∨ (r1 = nI 0 ∧ ¬ (0 ≤ (nI xn).toInt ∧ (nI xn).toInt < (nI 4).toInt ∧ 0 ≤ (nI yn).toInt ∧ (nI yn).toInt < (nI 4).toInt))) (c3 : ¬ r1 = 0) (h4 : xn < 4) (h5 : yn < 4) : ((nI 0) = nI 0 ∧ (0 ≤ (nI xn).toInt ∧ (nI xn).toInt < 4 ∧ 0 ≤ (nI yn).toInt ∧ (nI yn).toInt < 4)) ∨ ((nI 0) = (-1 : Int32) ∧ ¬ (0 ≤ (nI xn).toInt ∧ (nI xn).toInt < 4 ∧ 0 ≤ (nI yn).toInt ∧ (nI yn).toInt < 4)) := by
  have k_0 := ia_n 0 (by decide)
  have k_1 := ia_n 1 (by decide)
  have k_2 := ia_n xn (by omega)
  have k_3 := ia_n 4 (by decide)
  have k_4 := ia_n yn (by omega)
  simp only [ia_lt, ia_le, ia_eq, ia_m1, ia_0, ia_1, ne_eq, true_and, and_true, false_and, and_false, or_false, false_or, or_true, true_or, not_true_eq_false, not_false_eq_true] at *
  all_goals omega
set_option maxHeartbeats 4000000 in
set_option maxRecDepth 100000 in
theorem c_thick (l : Launch) (dC : Nat → ClassId) (dI : Nat → Nat → Nat) (ky : Nat → ClassId) (t : Nat) (reader : Nat) (sea : Nat) (spareSea : Nat) (seaText : Nat) (book : Nat) (sentence : Nat) (spareSentence : Nat) (route : Nat) (meeting : Nat) (sighting : Nat) (draws : Nat) (history : Nat) (images : Nat) (chartBytes : Nat) (thickness : Nat) (lumpNames : Nat) (lumpCells : Nat) (boatNames : Nat) (boatCells : Nat) (loads : Nat) (spoons : Nat) (spoonsLeft : Nat) (depths : Nat) (thicknessF : Nat → Int32) (x : Int32) (y : Int32) (hz : ∀ j, j < 36 → thicknessF j = nI 0) : Met l yX11_thick wsX11_thick ({ frames := 1, cells := 0, slots := 0, locals := 22 }) (PcP dC dI ky [.ref t, .int x, .int y] [(t, .inr (11, [.ref reader, .int (nI 0), .int (nI 0), .ref sea, .ref spareSea, .ref seaText, .ref book, .ref sentence, .ref spareSentence, .ref route, .ref meeting, .ref sighting, .ref draws, .ref history, .ref images, .ref chartBytes, .int (nI 0), .int (-1 : Int32)])), (sea, .inr (7, [.int (nI 4), .int (nI 4), .int (nI 10), .int (nI 1), .int (nI 3), .int (nI 0), .int (nI 0), .int (nI 0), .int (nI 0), .int (nI 0), .ref thickness, .ref lumpNames, .ref lumpCells, .ref boatNames, .ref boatCells, .ref loads, .ref spoons, .ref spoonsLeft, .ref depths])), (thickness, .inl (ky 0, 36, .inl thicknessF))]) (vp_Si (fun r : Int32 => (r = nI 0 ∧ (0 ≤ x.toInt ∧ x.toInt < 4 ∧ 0 ≤ y.toInt ∧ y.toInt < 4)) ∨ (r = (-1 : Int32) ∧ ¬ (0 ≤ x.toInt ∧ x.toInt < 4 ∧ 0 ≤ y.toInt ∧ y.toInt < 4)))) 0 0 (fun _ => False) := by
  refine Met.ofW (cc := cX11_thick) (maxL := 3) (ret := (some .int)) (by decide) rfl ?_
  intro p e s m args below meth c s₁ B hml hv
  obtain ⟨rfl, hP, hK⟩ := hv
  have hx := B.exec
  have hb := B.bytes
  have hr := B.returns
  have hts := atoms_spec (ws := wsX11_thick) B.pre
  have hown : s.vm.findClass RX11 = some m.cls := findClass_of_methodNamed B.named
  have hlocks := B.notSynchronized
  have hin11 : ∀ w ∈ u_ws RX11 TX11 18, w ∈ wsX11_thick := by decide +kernel
  have hl := lv_entry ([.ref t, .int x, .int y]) (n := 3) (Nat.le_of_ble_eq_true rfl)
  rw [lg_entry_eq]
  generalize (lg_sl ([.ref t, .int x, .int y]) ++ List.replicate (3 - (lg_sl ([.ref t, .int x, .int y])).length) Slot.unset).toArray = ls at hl ⊢
  have hl : lv_has ls 3 [(0, .ref t), (1, .int x), (2, .int y)] := hl
  refine lv_aload_n hx hb dX11_thick_0 rfl (lv_at hl 0 rfl) ?_
  refine va_get (D := (dC, dI)) (ci := 11) (v := .ref sea) (C := RX11) (T := TX11) (N := 18) hx hb hts hin11 hown hK hP 0 rfl rfl 3 (by decide) (hts (.fieldLink RX11 26 "PorridgeSea" "sea" "LPorridgeSea$Sea;") (List.mem_of_getElem? (i := 1) rfl)) (fun _ h9 => h9) rfl dX11_thick_1 ?_
  refine lv_iload_n hx hb dX11_thick_4 rfl (lv_at hl 1 rfl) ?_
  refine lv_iload_n hx hb dX11_thick_5 rfl (lv_at hl 2 rfl) ?_
  refine vp_callSi (W.runV (As := [.int x, .int y]) (rest := []) ⟨hx, hb, hml, hown, hts⟩ (c_isCell l dC dI ky sea (nI 4) (nI 4) (nI 10) (nI 1) (nI 3) (nI 0) (nI 0) (nI 0) (nI 0) (nI 0) thickness lumpNames lumpCells boatNames boatCells loads spoons spoonsLeft depths x y) (cwV 2 hts gX11_thick_X7_isCell rfl rfl rfl (by decide +kernel) ⟨(Nat.le_of_ble_eq_true rfl), (Nat.le_of_ble_eq_true rfl)⟩) (pre_PV hK hP [1] rfl (ci := 7) (q0 := 1) rfl rfl) rfl rfl hl.1 rfl (lv_room (Nat.le_of_ble_eq_true rfl)) dX11_thick_6 ⟨(Nat.le_of_ble_eq_true rfl), (Nat.le_of_ble_eq_true rfl)⟩) (fun r1 p2 => ?_)
  refine lv_if_eq (tgt := 28) hx hb dX11_thick_9 (by decide) (fun c3 => ?_) (fun c3 => ?_)
  · refine lv_iconst (v := (-1 : Int32)) hx hb dX11_thick_28 (by decide) ?_
    exact W.iret (v := (-1 : Int32)) hx hb hr (fun t9 ht9 hW9 => ⟨(-1 : Int32), rfl, (lf_thick_1 t reader sea spareSea seaText book sentence spareSentence route meeting sighting draws history images chartBytes thickness lumpNames lumpCells boatNames boatCells loads spoons spoonsLeft depths thicknessF x y r1 hz p2 c3), ht9⟩) (fun _ h => absurd h List.not_mem_nil) dX11_thick_29
  · obtain ⟨xn, h4, rfl⟩ := nat_of x 4 (by decide) (lf_thick_2 t reader sea spareSea seaText book sentence spareSentence route meeting sighting draws history images chartBytes thickness lumpNames lumpCells boatNames boatCells loads spoons spoonsLeft depths thicknessF x y r1 hz p2 c3)
    obtain ⟨yn, h5, rfl⟩ := nat_of y 4 (by decide) (lf_thick_3 t reader sea spareSea seaText book sentence spareSentence route meeting sighting draws history images chartBytes thickness lumpNames lumpCells boatNames boatCells loads spoons spoonsLeft depths thicknessF y r1 xn hz p2 c3 h4)
    refine lv_aload_n hx hb dX11_thick_12 rfl (lv_at hl 0 rfl) ?_
    refine va_get (D := (dC, dI)) (ci := 11) (v := .ref sea) (C := RX11) (T := TX11) (N := 18) hx hb hts hin11 hown hK hP 0 rfl rfl 3 (by decide) (hts (.fieldLink RX11 26 "PorridgeSea" "sea" "LPorridgeSea$Sea;") (List.mem_of_getElem? (i := 1) rfl)) (fun _ h9 => h9) rfl dX11_thick_13 ?_
    refine lv_bipush (v := nI 6) hx hb dX11_thick_16 (by decide) ?_
    refine lv_iload_n hx hb dX11_thick_18 rfl (lv_at hl 2 rfl) ?_
    refine lv_imul hx hb dX11_thick_19 ?_
    refine r_ti (nI (6 * yn)) (pk_mul _ _) ?_
    refine lv_iload_n hx hb dX11_thick_20 rfl (lv_at hl 1 rfl) ?_
    refine lv_iadd hx hb dX11_thick_21 ?_
    refine r_ti (nI ((6 * yn) + xn)) (nI_add _ _) ?_
    refine vp_callSi (W.runV (As := [.int (nI ((6 * yn) + xn))]) (rest := []) ⟨hx, hb, hml, hown, hts⟩ (c_thicknessIn0 l dC dI ky sea (nI 10) (nI 1) (nI 3) (nI 0) (nI 0) (nI 0) thickness lumpNames lumpCells boatNames boatCells loads spoons spoonsLeft depths thicknessF ((6 * yn) + xn) hz (by omega)) (cwV 1 hts gX11_thick_X7_thicknessIn rfl rfl rfl (by decide +kernel) ⟨(Nat.le_of_ble_eq_true rfl), (Nat.le_of_ble_eq_true rfl)⟩) (pre_PV hK hP [1, 2] rfl (ci := 7) (q0 := 1) rfl rfl) rfl rfl hl.1 rfl (lv_room (Nat.le_of_ble_eq_true rfl)) dX11_thick_22 ⟨(Nat.le_of_ble_eq_true rfl), (Nat.le_of_ble_eq_true rfl)⟩) (fun r6 p7 => ?_)
    subst p7
    refine lv_goto (tgt := 29) hx hb dX11_thick_25 (by decide) ?_
    exact W.iret (v := nI 0) hx hb hr (fun t9 ht9 hW9 => ⟨nI 0, rfl, (lf_thick_4 t reader sea spareSea seaText book sentence spareSentence route meeting sighting draws history images chartBytes thickness lumpNames lumpCells boatNames boatCells loads spoons spoonsLeft depths thicknessF r1 xn yn hz p2 c3 h4 h5), ht9⟩) (fun _ h => absurd h List.not_mem_nil) dX11_thick_29
set_option maxRecDepth 20000 in
theorem lf_cost_1 (t : Nat) (reader : Nat) (sea : Nat) (spareSea : Nat) (seaText : Nat) (book : Nat) (sentence : Nat) (spareSentence : Nat) (route : Nat) (meeting : Nat) (sighting : Nat) (draws : Nat) (history : Nat) (images : Nat) (chartBytes : Nat) (thickness : Nat) (lumpNames : Nat) (lumpCells : Nat) (boatNames : Nat) (boatCells : Nat) (loads : Nat) (spoons : Nat) (spoonsLeft : Nat) (depths : Nat) (thicknessF : Nat → Int32) (x : Int32) (y : Int32) (r1 : Int32) (hz : ∀ j, j < 36 → thicknessF j = nI 0) (p2 : (r1 = nI 1 ∧ (0 ≤ x.toInt ∧ x.toInt < (nI 4).toInt ∧ 0 ≤ y.toInt ∧ y.toInt < (nI 4).toInt)) ∨ (r1 = nI 0 ∧ ¬ (0 ≤ x.toInt ∧ x.toInt < (nI 4).toInt ∧ 0 ≤ y.toInt ∧ y.toInt < (nI 4).toInt))) (c3 : r1 = 0) : ((-1 : Int32) = nI 1 ∧ (0 ≤ x.toInt ∧ x.toInt < 4 ∧ 0 ≤ y.toInt ∧ y.toInt < 4)) ∨ ((-1 : Int32) = (-1 : Int32) ∧ ¬ (0 ≤ x.toInt ∧ x.toInt < 4 ∧ 0 ≤ y.toInt ∧ y.toInt < 4)) := by
  have k_0 := ia_n 0 (by decide)
  have k_1 := ia_n 1 (by decide)
  have k_2 := ia_n 4 (by decide)
  simp only [ia_lt, ia_le, ia_eq, ia_m1, ia_0, ia_1, ne_eq, true_and, and_true, false_and, and_false, or_false, false_or, or_true, true_or, not_true_eq_false, not_false_eq_true] at *
  all_goals omega
set_option maxRecDepth 20000 in
theorem lf_cost_2 (t : Nat) (reader : Nat) (sea : Nat) (spareSea : Nat) (seaText : Nat) (book : Nat) (sentence : Nat) (spareSentence : Nat) (route : Nat) (meeting : Nat) (sighting : Nat) (draws : Nat) (history : Nat) (images : Nat) (chartBytes : Nat) (thickness : Nat) (lumpNames : Nat) (lumpCells : Nat) (boatNames : Nat) (boatCells : Nat) (loads : Nat) (spoons : Nat) (spoonsLeft : Nat) (depths : Nat) (thicknessF : Nat → Int32) (x : Int32) (y : Int32) (r1 : Int32) (hz : ∀ j, j < 36 → thicknessF j = nI 0) (p2 : (r1 = nI 1 ∧ (0 ≤ x.toInt ∧ x.toInt < (nI 4).toInt ∧ 0 ≤ y.toInt ∧ y.toInt < (nI 4).toInt)) ∨ (r1 = nI 0 ∧ ¬ (0 ≤ x.toInt ∧ x.toInt < (nI 4).toInt ∧ 0 ≤ y.toInt ∧ y.toInt < (nI 4).toInt))) (c3 : ¬ r1 = 0) : 0 ≤ x.toInt ∧ x.toInt < ((4 : Nat) : Int) := by
  have k_0 := ia_n 0 (by decide)
  have k_1 := ia_n 1 (by decide)
  have k_2 := ia_n 4 (by decide)
  simp only [ia_lt, ia_le, ia_eq, ia_m1, ia_0, ia_1, ne_eq, true_and, and_true, false_and, and_false, or_false, false_or, or_true, true_or, not_true_eq_false, not_false_eq_true] at *
  all_goals omega
set_option maxRecDepth 20000 in
theorem lf_cost_3 (t : Nat) (reader : Nat) (sea : Nat) (spareSea : Nat) (seaText : Nat) (book : Nat) (sentence : Nat) (spareSentence : Nat) (route : Nat) (meeting : Nat) (sighting : Nat) (draws : Nat) (history : Nat) (images : Nat) (chartBytes : Nat) (thickness : Nat) (lumpNames : Nat) (lumpCells : Nat) (boatNames : Nat) (boatCells : Nat) (loads : Nat) (spoons : Nat) (spoonsLeft : Nat) (depths : Nat) (thicknessF : Nat → Int32) (y : Int32) (r1 : Int32) (xn : Nat) (hz : ∀ j, j < 36 → thicknessF j = nI 0) (p2 : (r1 = nI 1 ∧ (0 ≤ (nI xn).toInt ∧ (nI xn).toInt < (nI 4).toInt ∧ 0 ≤ y.toInt ∧ y.toInt < (nI 4).toInt)) ∨ (r1 = nI 0 ∧ ¬ (0 ≤ (nI xn).toInt ∧ (nI xn).toInt < (nI 4).toInt ∧ 0 ≤ y.toInt ∧ y.toInt < (nI 4).toInt))) (c3 : ¬ r1 = 0) (h4 : xn < 4) : 0 ≤ y.toInt ∧ y.toInt < ((4 : Nat) : Int) := by
  have k_0 := ia_n 0 (by decide)
  have k_1 := ia_n 1 (by decide)
  have k_2 := ia_n xn (by omega)
  have k_3 := ia_n 4 (by decide)
  simp only [ia_lt, ia_le, ia_eq, ia_m1, ia_0, ia_1, ne_eq, true_and, and_true, false_and, and_false, or_false, false_or, or_true, true_or, not_true_eq_false, not_false_eq_true] at *
  all_goals omega
set_option maxRecDepth 20000 in
theorem lf_cost_4 (t : Nat) (reader : Nat) (sea : Nat) (spareSea : Nat) (seaText : Nat) (book : Nat) (sentence : Nat) (spareSentence : Nat) (route : Nat) (meeting : Nat) (sighting : Nat) (draws : Nat) (history : Nat) (images : Nat) (chartBytes : Nat) (thickness : Nat) (lumpNames : Nat) (lumpCells : Nat) (boatNames : Nat) (boatCells : Nat) (loads : Nat) (spoons : Nat) (spoonsLeft : Nat) (depths : Nat) (thicknessF : Nat → Int32) (r1 : Int32) (xn : Nat) (yn : Nat) (hz : ∀ j, j < 36 → thicknessF j = nI 0) (p2 : (r1 = nI 1 ∧ (0 ≤ (nI xn).toInt ∧ (nI xn).toInt < (nI 4).toInt ∧ 0 ≤ (nI yn).toInt ∧ (nI yn).toInt < (nI 4).toInt)) ∨ (r1 = nI 0 ∧ ¬ (0 ≤ (nI xn).toInt ∧ (nI xn).toInt < (nI 4).toInt ∧ 0 ≤ (nI yn).toInt ∧ (nI yn).toInt < (nI 4).toInt))) (c3 : ¬ r1 = 0) (h4 : xn < 4) (h5 : yn < 4) : ((nI 1) = nI 1 ∧ (0 ≤ (nI xn).toInt ∧ (nI xn).toInt < 4 ∧ 0 ≤ (nI yn).toInt ∧ (nI yn).toInt < 4)) ∨ ((nI 1) = (-1 : Int32) ∧ ¬ (0 ≤ (nI xn).toInt ∧ (nI xn).toInt < 4 ∧ 0 ≤ (nI yn).toInt ∧ (nI yn).toInt < 4)) := by
  have k_0 := ia_n 0 (by decide)
  have k_1 := ia_n 1 (by decide)
  have k_2 := ia_n xn (by omega)
  have k_3 := ia_n 4 (by decide)
  have k_4 := ia_n yn (by omega)
  simp only [ia_lt, ia_le, ia_eq, ia_m1, ia_0, ia_1, ne_eq, true_and, and_true, false_and, and_false, or_false, false_or, or_true, true_or, not_true_eq_false, not_false_eq_true] at *
  all_goals omega
set_option maxHeartbeats 4000000 in
set_option maxRecDepth 100000 in
theorem c_cost (l : Launch) (dC : Nat → ClassId) (dI : Nat → Nat → Nat) (ky : Nat → ClassId) (t : Nat) (reader : Nat) (sea : Nat) (spareSea : Nat) (seaText : Nat) (book : Nat) (sentence : Nat) (spareSentence : Nat) (route : Nat) (meeting : Nat) (sighting : Nat) (draws : Nat) (history : Nat) (images : Nat) (chartBytes : Nat) (thickness : Nat) (lumpNames : Nat) (lumpCells : Nat) (boatNames : Nat) (boatCells : Nat) (loads : Nat) (spoons : Nat) (spoonsLeft : Nat) (depths : Nat) (thicknessF : Nat → Int32) (x : Int32) (y : Int32) (hz : ∀ j, j < 36 → thicknessF j = nI 0) : Met l yX11_cost wsX11_cost ({ frames := 2, cells := 0, slots := 0, locals := 42 }) (PcP dC dI ky [.ref t, .int x, .int y] [(t, .inr (11, [.ref reader, .int (nI 0), .int (nI 0), .ref sea, .ref spareSea, .ref seaText, .ref book, .ref sentence, .ref spareSentence, .ref route, .ref meeting, .ref sighting, .ref draws, .ref history, .ref images, .ref chartBytes, .int (nI 0), .int (-1 : Int32)])), (sea, .inr (7, [.int (nI 4), .int (nI 4), .int (nI 10), .int (nI 1), .int (nI 3), .int (nI 0), .int (nI 0), .int (nI 0), .int (nI 0), .int (nI 0), .ref thickness, .ref lumpNames, .ref lumpCells, .ref boatNames, .ref boatCells, .ref loads, .ref spoons, .ref spoonsLeft, .ref depths])), (thickness, .inl (ky 0, 36, .inl thicknessF))]) (vp_Si (fun r : Int32 => (r = nI 1 ∧ (0 ≤ x.toInt ∧ x.toInt < 4 ∧ 0 ≤ y.toInt ∧ y.toInt < 4)) ∨ (r = (-1 : Int32) ∧ ¬ (0 ≤ x.toInt ∧ x.toInt < 4 ∧ 0 ≤ y.toInt ∧ y.toInt < 4)))) 0 0 (fun _ => False) := by
  refine Met.ofW (cc := cX11_cost) (maxL := 3) (ret := (some .int)) (by decide) rfl ?_
  intro p e s m args below meth c s₁ B hml hv
  obtain ⟨rfl, hP, hK⟩ := hv
  have hx := B.exec
  have hb := B.bytes
  have hr := B.returns
  have hts := atoms_spec (ws := wsX11_cost) B.pre
  have hown : s.vm.findClass RX11 = some m.cls := findClass_of_methodNamed B.named
  have hlocks := B.notSynchronized
  have hin11 : ∀ w ∈ u_ws RX11 TX11 18, w ∈ wsX11_cost := by decide +kernel
  have hl := lv_entry ([.ref t, .int x, .int y]) (n := 3) (Nat.le_of_ble_eq_true rfl)
  rw [lg_entry_eq]
  generalize (lg_sl ([.ref t, .int x, .int y]) ++ List.replicate (3 - (lg_sl ([.ref t, .int x, .int y])).length) Slot.unset).toArray = ls at hl ⊢
  have hl : lv_has ls 3 [(0, .ref t), (1, .int x), (2, .int y)] := hl
  refine lv_aload_n hx hb dX11_cost_0 rfl (lv_at hl 0 rfl) ?_
  refine va_get (D := (dC, dI)) (ci := 11) (v := .ref sea) (C := RX11) (T := TX11) (N := 18) hx hb hts hin11 hown hK hP 0 rfl rfl 3 (by decide) (hts (.fieldLink RX11 26 "PorridgeSea" "sea" "LPorridgeSea$Sea;") (List.mem_of_getElem? (i := 1) rfl)) (fun _ h9 => h9) rfl dX11_cost_1 ?_
  refine lv_iload_n hx hb dX11_cost_4 rfl (lv_at hl 1 rfl) ?_
  refine lv_iload_n hx hb dX11_cost_5 rfl (lv_at hl 2 rfl) ?_
  refine vp_callSi (W.runV (As := [.int x, .int y]) (rest := []) ⟨hx, hb, hml, hown, hts⟩ (c_isCell l dC dI ky sea (nI 4) (nI 4) (nI 10) (nI 1) (nI 3) (nI 0) (nI 0) (nI 0) (nI 0) (nI 0) thickness lumpNames lumpCells boatNames boatCells loads spoons spoonsLeft depths x y) (cwV 2 hts gX11_cost_X7_isCell rfl rfl rfl (by decide +kernel) ⟨(Nat.le_of_ble_eq_true rfl), (Nat.le_of_ble_eq_true rfl)⟩) (pre_PV hK hP [1] rfl (ci := 7) (q0 := 1) rfl rfl) rfl rfl hl.1 rfl (lv_room (Nat.le_of_ble_eq_true rfl)) dX11_cost_6 ⟨(Nat.le_of_ble_eq_true rfl), (Nat.le_of_ble_eq_true rfl)⟩) (fun r1 p2 => ?_)
  refine lv_if_eq (tgt := 28) hx hb dX11_cost_9 (by decide) (fun c3 => ?_) (fun c3 => ?_)
  · refine lv_iconst (v := (-1 : Int32)) hx hb dX11_cost_28 (by decide) ?_
    exact W.iret (v := (-1 : Int32)) hx hb hr (fun t9 ht9 hW9 => ⟨(-1 : Int32), rfl, (lf_cost_1 t reader sea spareSea seaText book sentence spareSentence route meeting sighting draws history images chartBytes thickness lumpNames lumpCells boatNames boatCells loads spoons spoonsLeft depths thicknessF x y r1 hz p2 c3), ht9⟩) (fun _ h => absurd h List.not_mem_nil) dX11_cost_29
  · obtain ⟨xn, h4, rfl⟩ := nat_of x 4 (by decide) (lf_cost_2 t reader sea spareSea seaText book sentence spareSentence route meeting sighting draws history images chartBytes thickness lumpNames lumpCells boatNames boatCells loads spoons spoonsLeft depths thicknessF x y r1 hz p2 c3)
    obtain ⟨yn, h5, rfl⟩ := nat_of y 4 (by decide) (lf_cost_3 t reader sea spareSea seaText book sentence spareSentence route meeting sighting draws history images chartBytes thickness lumpNames lumpCells boatNames boatCells loads spoons spoonsLeft depths thicknessF y r1 xn hz p2 c3 h4)
    refine lv_aload_n hx hb dX11_cost_12 rfl (lv_at hl 0 rfl) ?_
    refine va_get (D := (dC, dI)) (ci := 11) (v := .ref sea) (C := RX11) (T := TX11) (N := 18) hx hb hts hin11 hown hK hP 0 rfl rfl 3 (by decide) (hts (.fieldLink RX11 26 "PorridgeSea" "sea" "LPorridgeSea$Sea;") (List.mem_of_getElem? (i := 1) rfl)) (fun _ h9 => h9) rfl dX11_cost_13 ?_
    refine lv_bipush (v := nI 6) hx hb dX11_cost_16 (by decide) ?_
    refine lv_iload_n hx hb dX11_cost_18 rfl (lv_at hl 2 rfl) ?_
    refine lv_imul hx hb dX11_cost_19 ?_
    refine r_ti (nI (6 * yn)) (pk_mul _ _) ?_
    refine lv_iload_n hx hb dX11_cost_20 rfl (lv_at hl 1 rfl) ?_
    refine lv_iadd hx hb dX11_cost_21 ?_
    refine r_ti (nI ((6 * yn) + xn)) (nI_add _ _) ?_
    refine vp_callSi (W.runV (As := [.int (nI ((6 * yn) + xn))]) (rest := []) ⟨hx, hb, hml, hown, hts⟩ (c_stepCost0 l dC dI ky sea (nI 10) (nI 1) (nI 3) (nI 0) (nI 0) (nI 0) thickness lumpNames lumpCells boatNames boatCells loads spoons spoonsLeft depths thicknessF ((6 * yn) + xn) hz (by omega)) (cwV 1 hts gX11_cost_X7_stepCost rfl rfl rfl (by decide +kernel) ⟨(Nat.le_of_ble_eq_true rfl), (Nat.le_of_ble_eq_true rfl)⟩) (pre_PV hK hP [1, 2] rfl (ci := 7) (q0 := 1) rfl rfl) rfl rfl hl.1 rfl (lv_room (Nat.le_of_ble_eq_true rfl)) dX11_cost_22 ⟨(Nat.le_of_ble_eq_true rfl), (Nat.le_of_ble_eq_true rfl)⟩) (fun r6 p7 => ?_)
    subst p7
    refine lv_goto (tgt := 29) hx hb dX11_cost_25 (by decide) ?_
    exact W.iret (v := nI 1) hx hb hr (fun t9 ht9 hW9 => ⟨nI 1, rfl, (lf_cost_4 t reader sea spareSea seaText book sentence spareSentence route meeting sighting draws history images chartBytes thickness lumpNames lumpCells boatNames boatCells loads spoons spoonsLeft depths thicknessF r1 xn yn hz p2 c3 h4 h5), ht9⟩) (fun _ h => absurd h List.not_mem_nil) dX11_cost_29
set_option maxHeartbeats 4000000 in
set_option maxRecDepth 100000 in
theorem c_lump (l : Launch) (dC : Nat → ClassId) (dI : Nat → Nat → Nat) (ky : Nat → ClassId) (t : Nat) (reader : Nat) (sea : Nat) (spareSea : Nat) (seaText : Nat) (book : Nat) (sentence : Nat) (spareSentence : Nat) (route : Nat) (meeting : Nat) (sighting : Nat) (draws : Nat) (history : Nat) (images : Nat) (chartBytes : Nat) (thickness : Nat) (lumpNames : Nat) (lumpCells : Nat) (boatNames : Nat) (boatCells : Nat) (loads : Nat) (spoons : Nat) (spoonsLeft : Nat) (depths : Nat) (x : Int32) (y : Int32)  : Met l yX11_lump wsX11_lump ({ frames := 1, cells := 0, slots := 0, locals := 21 }) (PcP dC dI ky [.ref t, .int x, .int y] [(t, .inr (11, [.ref reader, .int (nI 0), .int (nI 0), .ref sea, .ref spareSea, .ref seaText, .ref book, .ref sentence, .ref spareSentence, .ref route, .ref meeting, .ref sighting, .ref draws, .ref history, .ref images, .ref chartBytes, .int (nI 0), .int (-1 : Int32)])), (sea, .inr (7, [.int (nI 4), .int (nI 4), .int (nI 10), .int (nI 1), .int (nI 3), .int (nI 0), .int (nI 0), .int (nI 0), .int (nI 0), .int (nI 0), .ref thickness, .ref lumpNames, .ref lumpCells, .ref boatNames, .ref boatCells, .ref loads, .ref spoons, .ref spoonsLeft, .ref depths]))]) (vp_Si (fun r : Int32 => r = (-1 : Int32))) 0 0 (fun _ => False) := by
  refine Met.ofW (cc := cX11_lump) (maxL := 3) (ret := (some .int)) (by decide) rfl ?_
  intro p e s m args below meth c s₁ B hml hv
  obtain ⟨rfl, hP, hK⟩ := hv
  have hx := B.exec
  have hb := B.bytes
  have hr := B.returns
  have hts := atoms_spec (ws := wsX11_lump) B.pre
  have hown : s.vm.findClass RX11 = some m.cls := findClass_of_methodNamed B.named
  have hlocks := B.notSynchronized
  have hin11 : ∀ w ∈ u_ws RX11 TX11 18, w ∈ wsX11_lump := by decide +kernel
  have hl := lv_entry ([.ref t, .int x, .int y]) (n := 3) (Nat.le_of_ble_eq_true rfl)
  rw [lg_entry_eq]
  generalize (lg_sl ([.ref t, .int x, .int y]) ++ List.replicate (3 - (lg_sl ([.ref t, .int x, .int y])).length) Slot.unset).toArray = ls at hl ⊢
  have hl : lv_has ls 3 [(0, .ref t), (1, .int x), (2, .int y)] := hl
  refine lv_aload_n hx hb dX11_lump_0 rfl (lv_at hl 0 rfl) ?_
  refine va_get (D := (dC, dI)) (ci := 11) (v := .ref sea) (C := RX11) (T := TX11) (N := 18) hx hb hts hin11 hown hK hP 0 rfl rfl 3 (by decide) (hts (.fieldLink RX11 26 "PorridgeSea" "sea" "LPorridgeSea$Sea;") (List.mem_of_getElem? (i := 1) rfl)) (fun _ h9 => h9) rfl dX11_lump_1 ?_
  refine lv_iload_n hx hb dX11_lump_4 rfl (lv_at hl 1 rfl) ?_
  refine vp_callSi (W.runV (As := [.int x]) (rest := []) ⟨hx, hb, hml, hown, hts⟩ (c_isLump0 l dC dI ky sea (nI 10) (nI 1) (nI 3) (nI 0) (nI 0) (nI 0) thickness lumpNames lumpCells boatNames boatCells loads spoons spoonsLeft depths x) (cwV 1 hts gX11_lump_X7_isLump rfl rfl rfl (by decide +kernel) ⟨(Nat.le_of_ble_eq_true rfl), (Nat.le_of_ble_eq_true rfl)⟩) (pre_PV hK hP [1] rfl (ci := 7) (q0 := 1) rfl rfl) rfl rfl hl.1 rfl (lv_room (Nat.le_of_ble_eq_true rfl)) dX11_lump_5 ⟨(Nat.le_of_ble_eq_true rfl), (Nat.le_of_ble_eq_true rfl)⟩) (fun r1 p2 => ?_)
  subst p2
  refine lv_if_eq (tgt := 20) hx hb dX11_lump_8 (by decide) (fun c3 => ?_) (fun c3 => absurd (by decide) c3)
  refine lv_iconst (v := (-1 : Int32)) hx hb dX11_lump_20 (by decide) ?_
  exact W.iret (v := (-1 : Int32)) hx hb hr (fun t9 ht9 hW9 => ⟨(-1 : Int32), rfl, rfl, ht9⟩) (fun _ h => absurd h List.not_mem_nil) dX11_lump_21
set_option maxRecDepth 20000 in
theorem lf_now_1 (t : Nat) (reader : Nat) (sea : Nat) (spareSea : Nat) (seaText : Nat) (book : Nat) (sentence : Nat) (spareSentence : Nat) (route : Nat) (meeting : Nat) (sighting : Nat) (draws : Nat) (history : Nat) (images : Nat) (chartBytes : Nat) (thickness : Nat) (lumpNames : Nat) (lumpCells : Nat) (boatNames : Nat) (boatCells : Nat) (loads : Nat) (spoons : Nat) (spoonsLeft : Nat) (depths : Nat) (thicknessF : Nat → Int32) (x : Int32) (hz : ∀ j, j < 36 → thicknessF j = nI 0) (hsw : x.toInt < 0 ∨ 7 < x.toInt) : (x.toInt = 1 ∧ (-1 : Int32) = nI 10) ∨ ((x.toInt = 0 ∨ (2 ≤ x.toInt ∧ x.toInt ≤ 7)) ∧ (-1 : Int32) = nI 0) ∨ ((x.toInt < 0 ∨ 7 < x.toInt) ∧ (-1 : Int32) = (-1 : Int32)) := by
  have k_0 := ia_n 0 (by decide)
  have k_1 := ia_n 10 (by decide)
  simp only [ia_lt, ia_le, ia_eq, ia_m1, ia_0, ia_1, ne_eq, true_and, and_true, false_and, and_false, or_false, false_or, or_true, true_or, not_true_eq_false, not_false_eq_true] at *
  all_goals omega
set_option maxRecDepth 20000 in
theorem lf_now_2 (t : Nat) (reader : Nat) (sea : Nat) (spareSea : Nat) (seaText : Nat) (book : Nat) (sentence : Nat) (spareSentence : Nat) (route : Nat) (meeting : Nat) (sighting : Nat) (draws : Nat) (history : Nat) (images : Nat) (chartBytes : Nat) (thickness : Nat) (lumpNames : Nat) (lumpCells : Nat) (boatNames : Nat) (boatCells : Nat) (loads : Nat) (spoons : Nat) (spoonsLeft : Nat) (depths : Nat) (thicknessF : Nat → Int32) (hz : ∀ j, j < 36 → thicknessF j = nI 0) : ((nI 0).toInt = 1 ∧ (nI 0) = nI 10) ∨ (((nI 0).toInt = 0 ∨ (2 ≤ (nI 0).toInt ∧ (nI 0).toInt ≤ 7)) ∧ (nI 0) = nI 0) ∨ (((nI 0).toInt < 0 ∨ 7 < (nI 0).toInt) ∧ (nI 0) = (-1 : Int32)) := by
  have k_0 := ia_n 0 (by decide)
  have k_1 := ia_n 10 (by decide)
  simp only [ia_lt, ia_le, ia_eq, ia_m1, ia_0, ia_1, ne_eq, true_and, and_true, false_and, and_false, or_false, false_or, or_true, true_or, not_true_eq_false, not_false_eq_true] at *
  all_goals omega
set_option maxRecDepth 20000 in
theorem lf_now_3 (t : Nat) (reader : Nat) (sea : Nat) (spareSea : Nat) (seaText : Nat) (book : Nat) (sentence : Nat) (spareSentence : Nat) (route : Nat) (meeting : Nat) (sighting : Nat) (draws : Nat) (history : Nat) (images : Nat) (chartBytes : Nat) (thickness : Nat) (lumpNames : Nat) (lumpCells : Nat) (boatNames : Nat) (boatCells : Nat) (loads : Nat) (spoons : Nat) (spoonsLeft : Nat) (depths : Nat) (thicknessF : Nat → Int32) (hz : ∀ j, j < 36 → thicknessF j = nI 0) : ((nI 1).toInt = 1 ∧ (nI 10) = nI 10) ∨ (((nI 1).toInt = 0 ∨ (2 ≤ (nI 1).toInt ∧ (nI 1).toInt ≤ 7)) ∧ (nI 10) = nI 0) ∨ (((nI 1).toInt < 0 ∨ 7 < (nI 1).toInt) ∧ (nI 10) = (-1 : Int32)) := by
  have k_0 := ia_n 0 (by decide)
  have k_1 := ia_n 1 (by decide)
  have k_2 := ia_n 10 (by decide)
  simp only [ia_lt, ia_le, ia_eq, ia_m1, ia_0, ia_1, ne_eq, true_and, and_true, false_and, and_false, or_false, false_or, or_true, true_or, not_true_eq_false, not_false_eq_true] at *
  all_goals omega
set_option maxRecDepth 20000 in
theorem lf_now_4 (t : Nat) (reader : Nat) (sea : Nat) (spareSea : Nat) (seaText : Nat) (book : Nat) (sentence : Nat) (spareSentence : Nat) (route : Nat) (meeting : Nat) (sighting : Nat) (draws : Nat) (history : Nat) (images : Nat) (chartBytes : Nat) (thickness : Nat) (lumpNames : Nat) (lumpCells : Nat) (boatNames : Nat) (boatCells : Nat) (loads : Nat) (spoons : Nat) (spoonsLeft : Nat) (depths : Nat) (thicknessF : Nat → Int32) (r2 : Int32) (hz : ∀ j, j < 36 → thicknessF j = nI 0) (p3 : (r2 = nI 1 ∧ (nI 10).toInt ≤ (nI 3).toInt) ∨ (r2 = nI 0 ∧ (nI 3).toInt < (nI 10).toInt)) (c4 : r2 = 0) : ((nI 2).toInt = 1 ∧ (nI 0) = nI 10) ∨ (((nI 2).toInt = 0 ∨ (2 ≤ (nI 2).toInt ∧ (nI 2).toInt ≤ 7)) ∧ (nI 0) = nI 0) ∨ (((nI 2).toInt < 0 ∨ 7 < (nI 2).toInt) ∧ (nI 0) = (-1 : Int32)) := by
  have k_0 := ia_n 0 (by decide)
  have k_1 := ia_n 1 (by decide)
  have k_2 := ia_n 10 (by decide)
  have k_3 := ia_n 3 (by decide)
  have k_4 := ia_n 2 (by decide)
  simp only [ia_lt, ia_le, ia_eq, ia_m1, ia_0, ia_1, ne_eq, true_and, and_true, false_and, and_false, or_false, false_or, or_true, true_or, not_true_eq_false, not_false_eq_true] at *
  all_goals omega
set_option maxRecDepth 20000 in
theorem lf_now_5 (t : Nat) (reader : Nat) (sea : Nat) (spareSea : Nat) (seaText : Nat) (book : Nat) (sentence : Nat) (spareSentence : Nat) (route : Nat) (meeting : Nat) (sighting : Nat) (draws : Nat) (history : Nat) (images : Nat) (chartBytes : Nat) (thickness : Nat) (lumpNames : Nat) (lumpCells : Nat) (boatNames : Nat) (boatCells : Nat) (loads : Nat) (spoons : Nat) (spoonsLeft : Nat) (depths : Nat) (thicknessF : Nat → Int32) (r2 : Int32) (hz : ∀ j, j < 36 → thicknessF j = nI 0) (p3 : (r2 = nI 1 ∧ (nI 10).toInt ≤ (nI 3).toInt) ∨ (r2 = nI 0 ∧ (nI 3).toInt < (nI 10).toInt)) (c4 : ¬ r2 = 0) : ((nI 2).toInt = 1 ∧ (nI 1) = nI 10) ∨ (((nI 2).toInt = 0 ∨ (2 ≤ (nI 2).toInt ∧ (nI 2).toInt ≤ 7)) ∧ (nI 1) = nI 0) ∨ (((nI 2).toInt < 0 ∨ 7 < (nI 2).toInt) ∧ (nI 1) = (-1 : Int32)) := by
  have k_0 := ia_n 0 (by decide)
  have k_1 := ia_n 1 (by decide)
  have k_2 := ia_n 10 (by decide)
  have k_3 := ia_n 3 (by decide)
  have k_4 := ia_n 2 (by decide)
  simp only [ia_lt, ia_le, ia_eq, ia_m1, ia_0, ia_1, ne_eq, true_and, and_true, false_and, and_false, or_false, false_or, or_true, true_or, not_true_eq_false, not_false_eq_true] at *
  all_goals omega
set_option maxRecDepth 20000 in
theorem lf_now_6 (t : Nat) (reader : Nat) (sea : Nat) (spareSea : Nat) (seaText : Nat) (book : Nat) (sentence : Nat) (spareSentence : Nat) (route : Nat) (meeting : Nat) (sighting : Nat) (draws : Nat) (history : Nat) (images : Nat) (chartBytes : Nat) (thickness : Nat) (lumpNames : Nat) (lumpCells : Nat) (boatNames : Nat) (boatCells : Nat) (loads : Nat) (spoons : Nat) (spoonsLeft : Nat) (depths : Nat) (thicknessF : Nat → Int32) (hz : ∀ j, j < 36 → thicknessF j = nI 0) : ((nI 3).toInt = 1 ∧ (nI 0) = nI 10) ∨ (((nI 3).toInt = 0 ∨ (2 ≤ (nI 3).toInt ∧ (nI 3).toInt ≤ 7)) ∧ (nI 0) = nI 0) ∨ (((nI 3).toInt < 0 ∨ 7 < (nI 3).toInt) ∧ (nI 0) = (-1 : Int32)) := by
  have k_0 := ia_n 0 (by decide)
  have k_1 := ia_n 3 (by decide)
  have k_2 := ia_n 10 (by decide)
  simp only [ia_lt, ia_le, ia_eq, ia_m1, ia_0, ia_1, ne_eq, true_and, and_true, false_and, and_false, or_false, false_or, or_true, true_or, not_true_eq_false, not_false_eq_true] at *
  all_goals omega
set_option maxRecDepth 20000 in
theorem lf_now_7 (t : Nat) (reader : Nat) (sea : Nat) (spareSea : Nat) (seaText : Nat) (book : Nat) (sentence : Nat) (spareSentence : Nat) (route : Nat) (meeting : Nat) (sighting : Nat) (draws : Nat) (history : Nat) (images : Nat) (chartBytes : Nat) (thickness : Nat) (lumpNames : Nat) (lumpCells : Nat) (boatNames : Nat) (boatCells : Nat) (loads : Nat) (spoons : Nat) (spoonsLeft : Nat) (depths : Nat) (thicknessF : Nat → Int32) (hz : ∀ j, j < 36 → thicknessF j = nI 0) : ((nI 4).toInt = 1 ∧ (nI 0) = nI 10) ∨ (((nI 4).toInt = 0 ∨ (2 ≤ (nI 4).toInt ∧ (nI 4).toInt ≤ 7)) ∧ (nI 0) = nI 0) ∨ (((nI 4).toInt < 0 ∨ 7 < (nI 4).toInt) ∧ (nI 0) = (-1 : Int32)) := by
  have k_0 := ia_n 0 (by decide)
  have k_1 := ia_n 4 (by decide)
  have k_2 := ia_n 10 (by decide)
  simp only [ia_lt, ia_le, ia_eq, ia_m1, ia_0, ia_1, ne_eq, true_and, and_true, false_and, and_false, or_false, false_or, or_true, true_or, not_true_eq_false, not_false_eq_true] at *
  all_goals omega
set_option maxRecDepth 20000 in
theorem lf_now_8 (t : Nat) (reader : Nat) (sea : Nat) (spareSea : Nat) (seaText : Nat) (book : Nat) (sentence : Nat) (spareSentence : Nat) (route : Nat) (meeting : Nat) (sighting : Nat) (draws : Nat) (history : Nat) (images : Nat) (chartBytes : Nat) (thickness : Nat) (lumpNames : Nat) (lumpCells : Nat) (boatNames : Nat) (boatCells : Nat) (loads : Nat) (spoons : Nat) (spoonsLeft : Nat) (depths : Nat) (thicknessF : Nat → Int32) (hz : ∀ j, j < 36 → thicknessF j = nI 0) : ((nI 5).toInt = 1 ∧ (nI 0) = nI 10) ∨ (((nI 5).toInt = 0 ∨ (2 ≤ (nI 5).toInt ∧ (nI 5).toInt ≤ 7)) ∧ (nI 0) = nI 0) ∨ (((nI 5).toInt < 0 ∨ 7 < (nI 5).toInt) ∧ (nI 0) = (-1 : Int32)) := by
  have k_0 := ia_n 0 (by decide)
  have k_1 := ia_n 5 (by decide)
  have k_2 := ia_n 10 (by decide)
  simp only [ia_lt, ia_le, ia_eq, ia_m1, ia_0, ia_1, ne_eq, true_and, and_true, false_and, and_false, or_false, false_or, or_true, true_or, not_true_eq_false, not_false_eq_true] at *
  all_goals omega
set_option maxRecDepth 20000 in
theorem lf_now_9 (t : Nat) (reader : Nat) (sea : Nat) (spareSea : Nat) (seaText : Nat) (book : Nat) (sentence : Nat) (spareSentence : Nat) (route : Nat) (meeting : Nat) (sighting : Nat) (draws : Nat) (history : Nat) (images : Nat) (chartBytes : Nat) (thickness : Nat) (lumpNames : Nat) (lumpCells : Nat) (boatNames : Nat) (boatCells : Nat) (loads : Nat) (spoons : Nat) (spoonsLeft : Nat) (depths : Nat) (thicknessF : Nat → Int32) (hz : ∀ j, j < 36 → thicknessF j = nI 0) : ((nI 6).toInt = 1 ∧ (nI 0) = nI 10) ∨ (((nI 6).toInt = 0 ∨ (2 ≤ (nI 6).toInt ∧ (nI 6).toInt ≤ 7)) ∧ (nI 0) = nI 0) ∨ (((nI 6).toInt < 0 ∨ 7 < (nI 6).toInt) ∧ (nI 0) = (-1 : Int32)) := by
  have k_0 := ia_n 0 (by decide)
  have k_1 := ia_n 6 (by decide)
  have k_2 := ia_n 10 (by decide)
  simp only [ia_lt, ia_le, ia_eq, ia_m1, ia_0, ia_1, ne_eq, true_and, and_true, false_and, and_false, or_false, false_or, or_true, true_or, not_true_eq_false, not_false_eq_true] at *
  all_goals omega
set_option maxRecDepth 20000 in
theorem lf_now_10 (t : Nat) (reader : Nat) (sea : Nat) (spareSea : Nat) (seaText : Nat) (book : Nat) (sentence : Nat) (spareSentence : Nat) (route : Nat) (meeting : Nat) (sighting : Nat) (draws : Nat) (history : Nat) (images : Nat) (chartBytes : Nat) (thickness : Nat) (lumpNames : Nat) (lumpCells : Nat) (boatNames : Nat) (boatCells : Nat) (loads : Nat) (spoons : Nat) (spoonsLeft : Nat) (depths : Nat) (thicknessF : Nat → Int32) (hz : ∀ j, j < 36 → thicknessF j = nI 0) : ((nI 7).toInt = 1 ∧ (nI 0) = nI 10) ∨ (((nI 7).toInt = 0 ∨ (2 ≤ (nI 7).toInt ∧ (nI 7).toInt ≤ 7)) ∧ (nI 0) = nI 0) ∨ (((nI 7).toInt < 0 ∨ 7 < (nI 7).toInt) ∧ (nI 0) = (-1 : Int32)) := by
  have k_0 := ia_n 0 (by decide)
  have k_1 := ia_n 7 (by decide)
  have k_2 := ia_n 10 (by decide)
  simp only [ia_lt, ia_le, ia_eq, ia_m1, ia_0, ia_1, ne_eq, true_and, and_true, false_and, and_false, or_false, false_or, or_true, true_or, not_true_eq_false, not_false_eq_true] at *
  all_goals omega
set_option maxHeartbeats 4000000 in
set_option maxRecDepth 100000 in
theorem c_now (l : Launch) (dC : Nat → ClassId) (dI : Nat → Nat → Nat) (ky : Nat → ClassId) (t : Nat) (reader : Nat) (sea : Nat) (spareSea : Nat) (seaText : Nat) (book : Nat) (sentence : Nat) (spareSentence : Nat) (route : Nat) (meeting : Nat) (sighting : Nat) (draws : Nat) (history : Nat) (images : Nat) (chartBytes : Nat) (thickness : Nat) (lumpNames : Nat) (lumpCells : Nat) (boatNames : Nat) (boatCells : Nat) (loads : Nat) (spoons : Nat) (spoonsLeft : Nat) (depths : Nat) (thicknessF : Nat → Int32) (x : Int32) (hz : ∀ j, j < 36 → thicknessF j = nI 0) : Met l yX11_now wsX11_now ({ frames := 1, cells := 0, slots := 0, locals := 22 }) (PcP dC dI ky [.ref t, .int x] [(t, .inr (11, [.ref reader, .int (nI 0), .int (nI 0), .ref sea, .ref spareSea, .ref seaText, .ref book, .ref sentence, .ref spareSentence, .ref route, .ref meeting, .ref sighting, .ref draws, .ref history, .ref images, .ref chartBytes, .int (nI 0), .int (-1 : Int32)])), (sea, .inr (7, [.int (nI 4), .int (nI 4), .int (nI 10), .int (nI 1), .int (nI 3), .int (nI 0), .int (nI 0), .int (nI 0), .int (nI 0), .int (nI 0), .ref thickness, .ref lumpNames, .ref lumpCells, .ref boatNames, .ref boatCells, .ref loads, .ref spoons, .ref spoonsLeft, .ref depths])), (thickness, .inl (ky 0, 36, .inl thicknessF))]) (vp_Si (fun r : Int32 => (x.toInt = 1 ∧ r = nI 10) ∨ ((x.toInt = 0 ∨ (2 ≤ x.toInt ∧ x.toInt ≤ 7)) ∧ r = nI 0) ∨ ((x.toInt < 0 ∨ 7 < x.toInt) ∧ r = (-1 : Int32)))) 0 0 (fun _ => False) := by
  refine Met.ofW (cc := cX11_now) (maxL := 2) (ret := (some .int)) (by decide) rfl ?_
  intro p e s m args below meth c s₁ B hml hv
  obtain ⟨rfl, hP, hK⟩ := hv
  have hx := B.exec
  have hb := B.bytes
  have hr := B.returns
  have hts := atoms_spec (ws := wsX11_now) B.pre
  have hown : s.vm.findClass RX11 = some m.cls := findClass_of_methodNamed B.named
  have hlocks := B.notSynchronized
  have hin7 : ∀ w ∈ u_ws RX7 TX7 19, w ∈ wsX11_now := by decide +kernel
  have hin11 : ∀ w ∈ u_ws RX11 TX11 18, w ∈ wsX11_now := by decide +kernel
  have hl := lv_entry ([.ref t, .int x]) (n := 2) (Nat.le_of_ble_eq_true rfl)
  rw [lg_entry_eq]
  generalize (lg_sl ([.ref t, .int x]) ++ List.replicate (2 - (lg_sl ([.ref t, .int x])).length) Slot.unset).toArray = ls at hl ⊢
  have hl : lv_has ls 2 [(0, .ref t), (1, .int x)] := hl
  refine lv_iload_n hx hb dX11_now_0 rfl (lv_at hl 1 rfl) ?_
  rcases sw_in x 7 7 (by decide) (by decide) with hsw | ⟨ksw, hk1, rfl⟩
  · refine lv_tableOut (tgt := 120) hx hb dX11_now_1 hsw (by decide) ?_
    refine lv_iconst (v := (-1 : Int32)) hx hb dX11_now_120 (by decide) ?_
    exact W.iret (v := (-1 : Int32)) hx hb hr (fun t9 ht9 hW9 => ⟨(-1 : Int32), rfl, (lf_now_1 t reader sea spareSea seaText book sentence spareSentence route meeting sighting draws history images chartBytes thickness lumpNames lumpCells boatNames boatCells loads spoons spoonsLeft depths thicknessF x hz hsw), ht9⟩) (fun _ h => absurd h List.not_mem_nil) dX11_now_121
  · rcases (show ksw = 0 ∨ ksw = 1 ∨ ksw = 2 ∨ ksw = 3 ∨ ksw = 4 ∨ ksw = 5 ∨ ksw = 6 ∨ ksw = 7 by omega) with rfl | rfl | rfl | rfl | rfl | rfl | rfl | rfl
    · refine lv_tableIn (off := 47) (tgt := 48) hx hb dX11_now_1 (by decide) (by decide) rfl (by decide) ?_
      refine lv_aload_n hx hb dX11_now_48 rfl (lv_at hl 0 rfl) ?_
      refine va_get (D := (dC, dI)) (ci := 11) (v := .ref sea) (C := RX11) (T := TX11) (N := 18) hx hb hts hin11 hown hK hP 0 rfl rfl 3 (by decide) (hts (.fieldLink RX11 26 "PorridgeSea" "sea" "LPorridgeSea$Sea;") (List.mem_of_getElem? (i := 1) rfl)) (fun _ h9 => h9) rfl dX11_now_49 ?_
      refine va_get (D := (dC, dI)) (ci := 7) (v := .int (nI 0)) (C := RX7) (T := TX7) (N := 19) hx hb hts hin7 hown hK hP 1 rfl rfl 5 (by decide) (hts (.fieldLink RX11 171 "PorridgeSea$Sea" "today" "I") (List.mem_of_getElem? (i := 2) rfl)) (fun _ h9 => h9) rfl dX11_now_52 ?_
      exact W.iret (v := nI 0) hx hb hr (fun t9 ht9 hW9 => ⟨nI 0, rfl, (lf_now_2 t reader sea spareSea seaText book sentence spareSentence route meeting sighting draws history images chartBytes thickness lumpNames lumpCells boatNames boatCells loads spoons spoonsLeft depths thicknessF hz), ht9⟩) (fun _ h => absurd h List.not_mem_nil) dX11_now_55
    · refine lv_tableIn (off := 55) (tgt := 56) hx hb dX11_now_1 (by decide) (by decide) rfl (by decide) ?_
      refine lv_aload_n hx hb dX11_now_56 rfl (lv_at hl 0 rfl) ?_
      refine va_get (D := (dC, dI)) (ci := 11) (v := .ref sea) (C := RX11) (T := TX11) (N := 18) hx hb hts hin11 hown hK hP 0 rfl rfl 3 (by decide) (hts (.fieldLink RX11 26 "PorridgeSea" "sea" "LPorridgeSea$Sea;") (List.mem_of_getElem? (i := 1) rfl)) (fun _ h9 => h9) rfl dX11_now_57 ?_
      refine va_get (D := (dC, dI)) (ci := 7) (v := .int (nI 10)) (C := RX7) (T := TX7) (N := 19) hx hb hts hin7 hown hK hP 1 rfl rfl 2 (by decide) (hts (.fieldLink RX11 174 "PorridgeSea$Sea" "heat" "I") (List.mem_of_getElem? (i := 3) rfl)) (fun _ h9 => h9) rfl dX11_now_60 ?_
      exact W.iret (v := nI 10) hx hb hr (fun t9 ht9 hW9 => ⟨nI 10, rfl, (lf_now_3 t reader sea spareSea seaText book sentence spareSentence route meeting sighting draws history images chartBytes thickness lumpNames lumpCells boatNames boatCells loads spoons spoonsLeft depths thicknessF hz), ht9⟩) (fun _ h => absurd h List.not_mem_nil) dX11_now_63
    · refine lv_tableIn (off := 63) (tgt := 64) hx hb dX11_now_1 (by decide) (by decide) rfl (by decide) ?_
      refine lv_aload_n hx hb dX11_now_64 rfl (lv_at hl 0 rfl) ?_
      refine va_get (D := (dC, dI)) (ci := 11) (v := .ref sea) (C := RX11) (T := TX11) (N := 18) hx hb hts hin11 hown hK hP 0 rfl rfl 3 (by decide) (hts (.fieldLink RX11 26 "PorridgeSea" "sea" "LPorridgeSea$Sea;") (List.mem_of_getElem? (i := 1) rfl)) (fun _ h9 => h9) rfl dX11_now_65 ?_
      refine vp_callSi (W.runV (As := []) (rest := []) ⟨hx, hb, hml, hown, hts⟩ (c_hasSkin l dC dI ky sea (nI 4) (nI 4) (nI 10) (nI 1) (nI 3) (nI 0) (nI 0) (nI 0) (nI 0) (nI 0) thickness lumpNames lumpCells boatNames boatCells loads spoons spoonsLeft depths) (cwV 0 hts gX11_now_X7_hasSkin rfl rfl rfl (by decide +kernel) ⟨(Nat.le_of_ble_eq_true rfl), (Nat.le_of_ble_eq_true rfl)⟩) (pre_PV hK hP [1] rfl (ci := 7) (q0 := 1) rfl rfl) rfl rfl hl.1 rfl (lv_room (Nat.le_of_ble_eq_true rfl)) dX11_now_68 ⟨(Nat.le_of_ble_eq_true rfl), (Nat.le_of_ble_eq_true rfl)⟩) (fun r2 p3 => ?_)
      refine lv_if_eq (tgt := 78) hx hb dX11_now_71 (by decide) (fun c4 => ?_) (fun c4 => ?_)
      · refine lv_iconst (v := nI 0) hx hb dX11_now_78 (by decide) ?_
        exact W.iret (v := nI 0) hx hb hr (fun t9 ht9 hW9 => ⟨nI 0, rfl, (lf_now_4 t reader sea spareSea seaText book sentence spareSentence route meeting sighting draws history images chartBytes thickness lumpNames lumpCells boatNames boatCells loads spoons spoonsLeft depths thicknessF r2 hz p3 c4), ht9⟩) (fun _ h => absurd h List.not_mem_nil) dX11_now_79
      · refine lv_iconst (v := nI 1) hx hb dX11_now_74 (by decide) ?_
        refine lv_goto (tgt := 79) hx hb dX11_now_75 (by decide) ?_
        exact W.iret (v := nI 1) hx hb hr (fun t9 ht9 hW9 => ⟨nI 1, rfl, (lf_now_5 t reader sea spareSea seaText book sentence spareSentence route meeting sighting draws history images chartBytes thickness lumpNames lumpCells boatNames boatCells loads spoons spoonsLeft depths thicknessF r2 hz p3 c4), ht9⟩) (fun _ h => absurd h List.not_mem_nil) dX11_now_79
    · refine lv_tableIn (off := 79) (tgt := 80) hx hb dX11_now_1 (by decide) (by decide) rfl (by decide) ?_
      refine lv_aload_n hx hb dX11_now_80 rfl (lv_at hl 0 rfl) ?_
      refine va_get (D := (dC, dI)) (ci := 11) (v := .ref sea) (C := RX11) (T := TX11) (N := 18) hx hb hts hin11 hown hK hP 0 rfl rfl 3 (by decide) (hts (.fieldLink RX11 26 "PorridgeSea" "sea" "LPorridgeSea$Sea;") (List.mem_of_getElem? (i := 1) rfl)) (fun _ h9 => h9) rfl dX11_now_81 ?_
      refine vp_callSi (W.runV (As := []) (rest := []) ⟨hx, hb, hml, hown, hts⟩ (c_eatenBits0 l dC dI ky sea (nI 10) (nI 1) (nI 3) (nI 0) (nI 0) (nI 0) thickness lumpNames lumpCells boatNames boatCells loads spoons spoonsLeft depths) (cwV 0 hts gX11_now_X7_eatenBits rfl rfl rfl (by decide +kernel) ⟨(Nat.le_of_ble_eq_true rfl), (Nat.le_of_ble_eq_true rfl)⟩) (pre_PV hK hP [1] rfl (ci := 7) (q0 := 1) rfl rfl) rfl rfl hl.1 rfl (lv_room (Nat.le_of_ble_eq_true rfl)) dX11_now_84 ⟨(Nat.le_of_ble_eq_true rfl), (Nat.le_of_ble_eq_true rfl)⟩) (fun r5 p6 => ?_)
      subst p6
      exact W.iret (v := nI 0) hx hb hr (fun t9 ht9 hW9 => ⟨nI 0, rfl, (lf_now_6 t reader sea spareSea seaText book sentence spareSentence route meeting sighting draws history images chartBytes thickness lumpNames lumpCells boatNames boatCells loads spoons spoonsLeft depths thicknessF hz), ht9⟩) (fun _ h => absurd h List.not_mem_nil) dX11_now_87
    · refine lv_tableIn (off := 87) (tgt := 88) hx hb dX11_now_1 (by decide) (by decide) rfl (by decide) ?_
      refine lv_aload_n hx hb dX11_now_88 rfl (lv_at hl 0 rfl) ?_
      refine va_get (D := (dC, dI)) (ci := 11) (v := .ref sea) (C := RX11) (T := TX11) (N := 18) hx hb hts hin11 hown hK hP 0 rfl rfl 3 (by decide) (hts (.fieldLink RX11 26 "PorridgeSea" "sea" "LPorridgeSea$Sea;") (List.mem_of_getElem? (i := 1) rfl)) (fun _ h9 => h9) rfl dX11_now_89 ?_
      refine vp_callSi (W.runV (As := []) (rest := []) ⟨hx, hb, hml, hown, hts⟩ (c_afloatBits0 l dC dI ky sea (nI 10) (nI 1) (nI 3) (nI 0) (nI 0) (nI 0) thickness lumpNames lumpCells boatNames boatCells loads spoons spoonsLeft depths) (cwV 0 hts gX11_now_X7_afloatBits rfl rfl rfl (by decide +kernel) ⟨(Nat.le_of_ble_eq_true rfl), (Nat.le_of_ble_eq_true rfl)⟩) (pre_PV hK hP [1] rfl (ci := 7) (q0 := 1) rfl rfl) rfl rfl hl.1 rfl (lv_room (Nat.le_of_ble_eq_true rfl)) dX11_now_92 ⟨(Nat.le_of_ble_eq_true rfl), (Nat.le_of_ble_eq_true rfl)⟩) (fun r7 p8 => ?_)
      subst p8
      exact W.iret (v := nI 0) hx hb hr (fun t9 ht9 hW9 => ⟨nI 0, rfl, (lf_now_7 t reader sea spareSea seaText book sentence spareSentence route meeting sighting draws history images chartBytes thickness lumpNames lumpCells boatNames boatCells loads spoons spoonsLeft depths thicknessF hz), ht9⟩) (fun _ h => absurd h List.not_mem_nil) dX11_now_95
    · refine lv_tableIn (off := 95) (tgt := 96) hx hb dX11_now_1 (by decide) (by decide) rfl (by decide) ?_
      refine lv_aload_n hx hb dX11_now_96 rfl (lv_at hl 0 rfl) ?_
      refine va_get (D := (dC, dI)) (ci := 11) (v := .ref sea) (C := RX11) (T := TX11) (N := 18) hx hb hts hin11 hown hK hP 0 rfl rfl 3 (by decide) (hts (.fieldLink RX11 26 "PorridgeSea" "sea" "LPorridgeSea$Sea;") (List.mem_of_getElem? (i := 1) rfl)) (fun _ h9 => h9) rfl dX11_now_97 ?_
      refine vp_callSi (W.runV (As := []) (rest := []) ⟨hx, hb, hml, hown, hts⟩ (c_allThickness0 l dC dI ky sea (nI 10) (nI 1) (nI 3) (nI 0) (nI 0) (nI 0) thickness lumpNames lumpCells boatNames boatCells loads spoons spoonsLeft depths thicknessF hz) (cwV 0 hts gX11_now_X7_allThickness rfl rfl rfl (by decide +kernel) ⟨(Nat.le_of_ble_eq_true rfl), (Nat.le_of_ble_eq_true rfl)⟩) (pre_PV hK hP [1, 2] rfl (ci := 7) (q0 := 1) rfl rfl) rfl rfl hl.1 rfl (lv_room (Nat.le_of_ble_eq_true rfl)) dX11_now_100 ⟨(Nat.le_of_ble_eq_true rfl), (Nat.le_of_ble_eq_true rfl)⟩) (fun r9 p10 => ?_)
      subst p10
      exact W.iret (v := nI 0) hx hb hr (fun t9 ht9 hW9 => ⟨nI 0, rfl, (lf_now_8 t reader sea spareSea seaText book sentence spareSentence route meeting sighting draws history images chartBytes thickness lumpNames lumpCells boatNames boatCells loads spoons spoonsLeft depths thicknessF hz), ht9⟩) (fun _ h => absurd h List.not_mem_nil) dX11_now_103
    · refine lv_tableIn (off := 103) (tgt := 104) hx hb dX11_now_1 (by decide) (by decide) rfl (by decide) ?_
      refine lv_aload_n hx hb dX11_now_104 rfl (lv_at hl 0 rfl) ?_
      refine va_get (D := (dC, dI)) (ci := 11) (v := .ref sea) (C := RX11) (T := TX11) (N := 18) hx hb hts hin11 hown hK hP 0 rfl rfl 3 (by decide) (hts (.fieldLink RX11 26 "PorridgeSea" "sea" "LPorridgeSea$Sea;") (List.mem_of_getElem? (i := 1) rfl)) (fun _ h9 => h9) rfl dX11_now_105 ?_
      refine va_get (D := (dC, dI)) (ci := 7) (v := .int (nI 0)) (C := RX7) (T := TX7) (N := 19) hx hb hts hin7 hown hK hP 1 rfl rfl 6 (by decide) (hts (.fieldLink RX11 191 "PorridgeSea$Sea" "stirs" "I") (List.mem_of_getElem? (i := 4) rfl)) (fun _ h9 => h9) rfl dX11_now_108 ?_
      exact W.iret (v := nI 0) hx hb hr (fun t9 ht9 hW9 => ⟨nI 0, rfl, (lf_now_9 t reader sea spareSea seaText book sentence spareSentence route meeting sighting draws history images chartBytes thickness lumpNames lumpCells boatNames boatCells loads spoons spoonsLeft depths thicknessF hz), ht9⟩) (fun _ h => absurd h List.not_mem_nil) dX11_now_111
    · refine lv_tableIn (off := 111) (tgt := 112) hx hb dX11_now_1 (by decide) (by decide) rfl (by decide) ?_
      refine lv_aload_n hx hb dX11_now_112 rfl (lv_at hl 0 rfl) ?_
      refine va_get (D := (dC, dI)) (ci := 11) (v := .ref sea) (C := RX11) (T := TX11) (N := 18) hx hb hts hin11 hown hK hP 0 rfl rfl 3 (by decide) (hts (.fieldLink RX11 26 "PorridgeSea" "sea" "LPorridgeSea$Sea;") (List.mem_of_getElem? (i := 1) rfl)) (fun _ h9 => h9) rfl dX11_now_113 ?_
      refine va_get (D := (dC, dI)) (ci := 7) (v := .int (nI 0)) (C := RX7) (T := TX7) (N := 19) hx hb hts hin7 hown hK hP 1 rfl rfl 7 (by decide) (hts (.fieldLink RX11 194 "PorridgeSea$Sea" "steps" "I") (List.mem_of_getElem? (i := 5) rfl)) (fun _ h9 => h9) rfl dX11_now_116 ?_
      exact W.iret (v := nI 0) hx hb hr (fun t9 ht9 hW9 => ⟨nI 0, rfl, (lf_now_10 t reader sea spareSea seaText book sentence spareSentence route meeting sighting draws history images chartBytes thickness lumpNames lumpCells boatNames boatCells loads spoons spoonsLeft depths thicknessF hz), ht9⟩) (fun _ h => absurd h List.not_mem_nil) dX11_now_119
set_option maxRecDepth 20000 in
theorem lf_count_1 (t : Nat) (reader : Nat) (sea : Nat) (spareSea : Nat) (seaText : Nat) (book : Nat) (sentence : Nat) (spareSentence : Nat) (route : Nat) (meeting : Nat) (sighting : Nat) (draws : Nat) (history : Nat) (images : Nat) (chartBytes : Nat) (thickness : Nat) (lumpNames : Nat) (lumpCells : Nat) (boatNames : Nat) (boatCells : Nat) (loads : Nat) (spoons : Nat) (spoonsLeft : Nat) (depths : Nat) (x : Int32) (hsw : x.toInt < 0 ∨ 6 < x.toInt) : ((x.toInt = 0 ∨ x.toInt = 1) ∧ (-1 : Int32) = nI 4) ∨ ((x.toInt = 2 ∨ x.toInt = 3 ∨ x.toInt = 6) ∧ (-1 : Int32) = nI 0) ∨ (x.toInt = 4 ∧ (-1 : Int32) = nI 1) ∨ (x.toInt = 5 ∧ (-1 : Int32) = nI 3) ∨ ((x.toInt < 0 ∨ 6 < x.toInt) ∧ (-1 : Int32) = (-1 : Int32)) := by
  have k_0 := ia_n 4 (by decide)
  have k_1 := ia_n 0 (by decide)
  have k_2 := ia_n 1 (by decide)
  have k_3 := ia_n 3 (by decide)
  simp only [ia_lt, ia_le, ia_eq, ia_m1, ia_0, ia_1, ne_eq, true_and, and_true, false_and, and_false, or_false, false_or, or_true, true_or, not_true_eq_false, not_false_eq_true] at *
  all_goals omega
set_option maxRecDepth 20000 in
theorem lf_count_2 (t : Nat) (reader : Nat) (sea : Nat) (spareSea : Nat) (seaText : Nat) (book : Nat) (sentence : Nat) (spareSentence : Nat) (route : Nat) (meeting : Nat) (sighting : Nat) (draws : Nat) (history : Nat) (images : Nat) (chartBytes : Nat) (thickness : Nat) (lumpNames : Nat) (lumpCells : Nat) (boatNames : Nat) (boatCells : Nat) (loads : Nat) (spoons : Nat) (spoonsLeft : Nat) (depths : Nat)  : (((nI 0).toInt = 0 ∨ (nI 0).toInt = 1) ∧ (nI 4) = nI 4) ∨ (((nI 0).toInt = 2 ∨ (nI 0).toInt = 3 ∨ (nI 0).toInt = 6) ∧ (nI 4) = nI 0) ∨ ((nI 0).toInt = 4 ∧ (nI 4) = nI 1) ∨ ((nI 0).toInt = 5 ∧ (nI 4) = nI 3) ∨ (((nI 0).toInt < 0 ∨ 6 < (nI 0).toInt) ∧ (nI 4) = (-1 : Int32)) := by
  have k_0 := ia_n 0 (by decide)
  have k_1 := ia_n 4 (by decide)
  have k_2 := ia_n 1 (by decide)
  have k_3 := ia_n 3 (by decide)
  simp only [ia_lt, ia_le, ia_eq, ia_m1, ia_0, ia_1, ne_eq, true_and, and_true, false_and, and_false, or_false, false_or, or_true, true_or, not_true_eq_false, not_false_eq_true] at *
  all_goals omega
set_option maxRecDepth 20000 in
theorem lf_count_3 (t : Nat) (reader : Nat) (sea : Nat) (spareSea : Nat) (seaText : Nat) (book : Nat) (sentence : Nat) (spareSentence : Nat) (route : Nat) (meeting : Nat) (sighting : Nat) (draws : Nat) (history : Nat) (images : Nat) (chartBytes : Nat) (thickness : Nat) (lumpNames : Nat) (lumpCells : Nat) (boatNames : Nat) (boatCells : Nat) (loads : Nat) (spoons : Nat) (spoonsLeft : Nat) (depths : Nat)  : (((nI 1).toInt = 0 ∨ (nI 1).toInt = 1) ∧ (nI 4) = nI 4) ∨ (((nI 1).toInt = 2 ∨ (nI 1).toInt = 3 ∨ (nI 1).toInt = 6) ∧ (nI 4) = nI 0) ∨ ((nI 1).toInt = 4 ∧ (nI 4) = nI 1) ∨ ((nI 1).toInt = 5 ∧ (nI 4) = nI 3) ∨ (((nI 1).toInt < 0 ∨ 6 < (nI 1).toInt) ∧ (nI 4) = (-1 : Int32)) := by
  have k_0 := ia_n 1 (by decide)
  have k_1 := ia_n 4 (by decide)
  have k_2 := ia_n 0 (by decide)
  have k_3 := ia_n 3 (by decide)
  simp only [ia_lt, ia_le, ia_eq, ia_m1, ia_0, ia_1, ne_eq, true_and, and_true, false_and, and_false, or_false, false_or, or_true, true_or, not_true_eq_false, not_false_eq_true] at *
  all_goals omega
set_option maxRecDepth 20000 in
theorem lf_count_4 (t : Nat) (reader : Nat) (sea : Nat) (spareSea : Nat) (seaText : Nat) (book : Nat) (sentence : Nat) (spareSentence : Nat) (route : Nat) (meeting : Nat) (sighting : Nat) (draws : Nat) (history : Nat) (images : Nat) (chartBytes : Nat) (thickness : Nat) (lumpNames : Nat) (lumpCells : Nat) (boatNames : Nat) (boatCells : Nat) (loads : Nat) (spoons : Nat) (spoonsLeft : Nat) (depths : Nat)  : (((nI 2).toInt = 0 ∨ (nI 2).toInt = 1) ∧ (nI 0) = nI 4) ∨ (((nI 2).toInt = 2 ∨ (nI 2).toInt = 3 ∨ (nI 2).toInt = 6) ∧ (nI 0) = nI 0) ∨ ((nI 2).toInt = 4 ∧ (nI 0) = nI 1) ∨ ((nI 2).toInt = 5 ∧ (nI 0) = nI 3) ∨ (((nI 2).toInt < 0 ∨ 6 < (nI 2).toInt) ∧ (nI 0) = (-1 : Int32)) := by
  have k_0 := ia_n 2 (by decide)
  have k_1 := ia_n 0 (by decide)
  have k_2 := ia_n 4 (by decide)
  have k_3 := ia_n 1 (by decide)
  have k_4 := ia_n 3 (by decide)
  simp only [ia_lt, ia_le, ia_eq, ia_m1, ia_0, ia_1, ne_eq, true_and, and_true, false_and, and_false, or_false, false_or, or_true, true_or, not_true_eq_false, not_false_eq_true] at *
  all_goals omega
set_option maxRecDepth 20000 in
theorem lf_count_5 (t : Nat) (reader : Nat) (sea : Nat) (spareSea : Nat) (seaText : Nat) (book : Nat) (sentence : Nat) (spareSentence : Nat) (route : Nat) (meeting : Nat) (sighting : Nat) (draws : Nat) (history : Nat) (images : Nat) (chartBytes : Nat) (thickness : Nat) (lumpNames : Nat) (lumpCells : Nat) (boatNames : Nat) (boatCells : Nat) (loads : Nat) (spoons : Nat) (spoonsLeft : Nat) (depths : Nat)  : (((nI 3).toInt = 0 ∨ (nI 3).toInt = 1) ∧ (nI 0) = nI 4) ∨ (((nI 3).toInt = 2 ∨ (nI 3).toInt = 3 ∨ (nI 3).toInt = 6) ∧ (nI 0) = nI 0) ∨ ((nI 3).toInt = 4 ∧ (nI 0) = nI 1) ∨ ((nI 3).toInt = 5 ∧ (nI 0) = nI 3) ∨ (((nI 3).toInt < 0 ∨ 6 < (nI 3).toInt) ∧ (nI 0) = (-1 : Int32)) := by
  have k_0 := ia_n 3 (by decide)
  have k_1 := ia_n 0 (by decide)
  have k_2 := ia_n 4 (by decide)
  have k_3 := ia_n 1 (by decide)
  simp only [ia_lt, ia_le, ia_eq, ia_m1, ia_0, ia_1, ne_eq, true_and, and_true, false_and, and_false, or_false, false_or, or_true, true_or, not_true_eq_false, not_false_eq_true] at *
  all_goals omega
set_option maxRecDepth 20000 in
theorem lf_count_6 (t : Nat) (reader : Nat) (sea : Nat) (spareSea : Nat) (seaText : Nat) (book : Nat) (sentence : Nat) (spareSentence : Nat) (route : Nat) (meeting : Nat) (sighting : Nat) (draws : Nat) (history : Nat) (images : Nat) (chartBytes : Nat) (thickness : Nat) (lumpNames : Nat) (lumpCells : Nat) (boatNames : Nat) (boatCells : Nat) (loads : Nat) (spoons : Nat) (spoonsLeft : Nat) (depths : Nat)  : (((nI 4).toInt = 0 ∨ (nI 4).toInt = 1) ∧ (nI 1) = nI 4) ∨ (((nI 4).toInt = 2 ∨ (nI 4).toInt = 3 ∨ (nI 4).toInt = 6) ∧ (nI 1) = nI 0) ∨ ((nI 4).toInt = 4 ∧ (nI 1) = nI 1) ∨ ((nI 4).toInt = 5 ∧ (nI 1) = nI 3) ∨ (((nI 4).toInt < 0 ∨ 6 < (nI 4).toInt) ∧ (nI 1) = (-1 : Int32)) := by
  have k_0 := ia_n 4 (by decide)
  have k_1 := ia_n 1 (by decide)
  have k_2 := ia_n 0 (by decide)
  have k_3 := ia_n 3 (by decide)
  simp only [ia_lt, ia_le, ia_eq, ia_m1, ia_0, ia_1, ne_eq, true_and, and_true, false_and, and_false, or_false, false_or, or_true, true_or, not_true_eq_false, not_false_eq_true] at *
  all_goals omega
set_option maxRecDepth 20000 in
theorem lf_count_7 (t : Nat) (reader : Nat) (sea : Nat) (spareSea : Nat) (seaText : Nat) (book : Nat) (sentence : Nat) (spareSentence : Nat) (route : Nat) (meeting : Nat) (sighting : Nat) (draws : Nat) (history : Nat) (images : Nat) (chartBytes : Nat) (thickness : Nat) (lumpNames : Nat) (lumpCells : Nat) (boatNames : Nat) (boatCells : Nat) (loads : Nat) (spoons : Nat) (spoonsLeft : Nat) (depths : Nat)  : (((nI 5).toInt = 0 ∨ (nI 5).toInt = 1) ∧ (nI 3) = nI 4) ∨ (((nI 5).toInt = 2 ∨ (nI 5).toInt = 3 ∨ (nI 5).toInt = 6) ∧ (nI 3) = nI 0) ∨ ((nI 5).toInt = 4 ∧ (nI 3) = nI 1) ∨ ((nI 5).toInt = 5 ∧ (nI 3) = nI 3) ∨ (((nI 5).toInt < 0 ∨ 6 < (nI 5).toInt) ∧ (nI 3) = (-1 : Int32)) := by
  have k_0 := ia_n 5 (by decide)
  have k_1 := ia_n 3 (by decide)
  have k_2 := ia_n 4 (by decide)
  have k_3 := ia_n 0 (by decide)
  have k_4 := ia_n 1 (by decide)
  simp only [ia_lt, ia_le, ia_eq, ia_m1, ia_0, ia_1, ne_eq, true_and, and_true, false_and, and_false, or_false, false_or, or_true, true_or, not_true_eq_false, not_false_eq_true] at *
  all_goals omega
set_option maxRecDepth 20000 in
theorem lf_count_8 (t : Nat) (reader : Nat) (sea : Nat) (spareSea : Nat) (seaText : Nat) (book : Nat) (sentence : Nat) (spareSentence : Nat) (route : Nat) (meeting : Nat) (sighting : Nat) (draws : Nat) (history : Nat) (images : Nat) (chartBytes : Nat) (thickness : Nat) (lumpNames : Nat) (lumpCells : Nat) (boatNames : Nat) (boatCells : Nat) (loads : Nat) (spoons : Nat) (spoonsLeft : Nat) (depths : Nat)  : (((nI 6).toInt = 0 ∨ (nI 6).toInt = 1) ∧ (nI 0) = nI 4) ∨ (((nI 6).toInt = 2 ∨ (nI 6).toInt = 3 ∨ (nI 6).toInt = 6) ∧ (nI 0) = nI 0) ∨ ((nI 6).toInt = 4 ∧ (nI 0) = nI 1) ∨ ((nI 6).toInt = 5 ∧ (nI 0) = nI 3) ∨ (((nI 6).toInt < 0 ∨ 6 < (nI 6).toInt) ∧ (nI 0) = (-1 : Int32)) := by
  have k_0 := ia_n 6 (by decide)
  have k_1 := ia_n 0 (by decide)
  have k_2 := ia_n 4 (by decide)
  have k_3 := ia_n 1 (by decide)
  have k_4 := ia_n 3 (by decide)
  simp only [ia_lt, ia_le, ia_eq, ia_m1, ia_0, ia_1, ne_eq, true_and, and_true, false_and, and_false, or_false, false_or, or_true, true_or, not_true_eq_false, not_false_eq_true] at *
  all_goals omega
set_option maxHeartbeats 4000000 in
set_option maxRecDepth 100000 in
theorem c_count (l : Launch) (dC : Nat → ClassId) (dI : Nat → Nat → Nat) (ky : Nat → ClassId) (t : Nat) (reader : Nat) (sea : Nat) (spareSea : Nat) (seaText : Nat) (book : Nat) (sentence : Nat) (spareSentence : Nat) (route : Nat) (meeting : Nat) (sighting : Nat) (draws : Nat) (history : Nat) (images : Nat) (chartBytes : Nat) (thickness : Nat) (lumpNames : Nat) (lumpCells : Nat) (boatNames : Nat) (boatCells : Nat) (loads : Nat) (spoons : Nat) (spoonsLeft : Nat) (depths : Nat) (x : Int32)  : Met l yX11_count wsX11_count ({ frames := 0, cells := 0, slots := 0, locals := 0 }) (PcP dC dI ky [.ref t, .int x] [(t, .inr (11, [.ref reader, .int (nI 0), .int (nI 0), .ref sea, .ref spareSea, .ref seaText, .ref book, .ref sentence, .ref spareSentence, .ref route, .ref meeting, .ref sighting, .ref draws, .ref history, .ref images, .ref chartBytes, .int (nI 0), .int (-1 : Int32)])), (sea, .inr (7, [.int (nI 4), .int (nI 4), .int (nI 10), .int (nI 1), .int (nI 3), .int (nI 0), .int (nI 0), .int (nI 0), .int (nI 0), .int (nI 0), .ref thickness, .ref lumpNames, .ref lumpCells, .ref boatNames, .ref boatCells, .ref loads, .ref spoons, .ref spoonsLeft, .ref depths]))]) (vp_Si (fun r : Int32 => ((x.toInt = 0 ∨ x.toInt = 1) ∧ r = nI 4) ∨ ((x.toInt = 2 ∨ x.toInt = 3 ∨ x.toInt = 6) ∧ r = nI 0) ∨ (x.toInt = 4 ∧ r = nI 1) ∨ (x.toInt = 5 ∧ r = nI 3) ∨ ((x.toInt < 0 ∨ 6 < x.toInt) ∧ r = (-1 : Int32)))) 0 0 (fun _ => False) := by
  refine Met.ofW (cc := cX11_count) (maxL := 2) (ret := (some .int)) (by decide) rfl ?_
  intro p e s m args below meth c s₁ B hml hv
  obtain ⟨rfl, hP, hK⟩ := hv
  have hx := B.exec
  have hb := B.bytes
  have hr := B.returns
  have hts := atoms_spec (ws := wsX11_count) B.pre
  have hown : s.vm.findClass RX11 = some m.cls := findClass_of_methodNamed B.named
  have hlocks := B.notSynchronized
  have hin7 : ∀ w ∈ u_ws RX7 TX7 19, w ∈ wsX11_count := by decide +kernel
  have hin11 : ∀ w ∈ u_ws RX11 TX11 18, w ∈ wsX11_count := by decide +kernel
  have hl := lv_entry ([.ref t, .int x]) (n := 2) (Nat.le_of_ble_eq_true rfl)
  rw [lg_entry_eq]
  generalize (lg_sl ([.ref t, .int x]) ++ List.replicate (2 - (lg_sl ([.ref t, .int x])).length) Slot.unset).toArray = ls at hl ⊢
  have hl : lv_has ls 2 [(0, .ref t), (1, .int x)] := hl
  refine lv_iload_n hx hb dX11_count_0 rfl (lv_at hl 1 rfl) ?_
  rcases sw_in x 6 6 (by decide) (by decide) with hsw | ⟨ksw, hk1, rfl⟩
  · refine lv_tableOut (tgt := 97) hx hb dX11_count_1 hsw (by decide) ?_
    refine lv_iconst (v := (-1 : Int32)) hx hb dX11_count_97 (by decide) ?_
    exact W.iret (v := (-1 : Int32)) hx hb hr (fun t9 ht9 hW9 => ⟨(-1 : Int32), rfl, (lf_count_1 t reader sea spareSea seaText book sentence spareSentence route meeting sighting draws history images chartBytes thickness lumpNames lumpCells boatNames boatCells loads spoons spoonsLeft depths x hsw), ht9⟩) (fun _ h => absurd h List.not_mem_nil) dX11_count_98
  · rcases (show ksw = 0 ∨ ksw = 1 ∨ ksw = 2 ∨ ksw = 3 ∨ ksw = 4 ∨ ksw = 5 ∨ ksw = 6 by omega) with rfl | rfl | rfl | rfl | rfl | rfl | rfl
    · refine lv_tableIn (off := 43) (tgt := 44) hx hb dX11_count_1 (by decide) (by decide) rfl (by decide) ?_
      refine lv_aload_n hx hb dX11_count_44 rfl (lv_at hl 0 rfl) ?_
      refine va_get (D := (dC, dI)) (ci := 11) (v := .ref sea) (C := RX11) (T := TX11) (N := 18) hx hb hts hin11 hown hK hP 0 rfl rfl 3 (by decide) (hts (.fieldLink RX11 26 "PorridgeSea" "sea" "LPorridgeSea$Sea;") (List.mem_of_getElem? (i := 1) rfl)) (fun _ h9 => h9) rfl dX11_count_45 ?_
      refine va_get (D := (dC, dI)) (ci := 7) (v := .int (nI 4)) (C := RX7) (T := TX7) (N := 19) hx hb hts hin7 hown hK hP 1 rfl rfl 0 (by decide) (hts (.fieldLink RX11 197 "PorridgeSea$Sea" "wide" "I") (List.mem_of_getElem? (i := 2) rfl)) (fun _ h9 => h9) rfl dX11_count_48 ?_
      exact W.iret (v := nI 4) hx hb hr (fun t9 ht9 hW9 => ⟨nI 4, rfl, (lf_count_2 t reader sea spareSea seaText book sentence spareSentence route meeting sighting draws history images chartBytes thickness lumpNames lumpCells boatNames boatCells loads spoons spoonsLeft depths), ht9⟩) (fun _ h => absurd h List.not_mem_nil) dX11_count_51
    · refine lv_tableIn (off := 51) (tgt := 52) hx hb dX11_count_1 (by decide) (by decide) rfl (by decide) ?_
      refine lv_aload_n hx hb dX11_count_52 rfl (lv_at hl 0 rfl) ?_
      refine va_get (D := (dC, dI)) (ci := 11) (v := .ref sea) (C := RX11) (T := TX11) (N := 18) hx hb hts hin11 hown hK hP 0 rfl rfl 3 (by decide) (hts (.fieldLink RX11 26 "PorridgeSea" "sea" "LPorridgeSea$Sea;") (List.mem_of_getElem? (i := 1) rfl)) (fun _ h9 => h9) rfl dX11_count_53 ?_
      refine va_get (D := (dC, dI)) (ci := 7) (v := .int (nI 4)) (C := RX7) (T := TX7) (N := 19) hx hb hts hin7 hown hK hP 1 rfl rfl 1 (by decide) (hts (.fieldLink RX11 200 "PorridgeSea$Sea" "high" "I") (List.mem_of_getElem? (i := 3) rfl)) (fun _ h9 => h9) rfl dX11_count_56 ?_
      exact W.iret (v := nI 4) hx hb hr (fun t9 ht9 hW9 => ⟨nI 4, rfl, (lf_count_3 t reader sea spareSea seaText book sentence spareSentence route meeting sighting draws history images chartBytes thickness lumpNames lumpCells boatNames boatCells loads spoons spoonsLeft depths), ht9⟩) (fun _ h => absurd h List.not_mem_nil) dX11_count_59
    · refine lv_tableIn (off := 59) (tgt := 60) hx hb dX11_count_1 (by decide) (by decide) rfl (by decide) ?_
      refine lv_aload_n hx hb dX11_count_60 rfl (lv_at hl 0 rfl) ?_
      refine va_get (D := (dC, dI)) (ci := 11) (v := .ref sea) (C := RX11) (T := TX11) (N := 18) hx hb hts hin11 hown hK hP 0 rfl rfl 3 (by decide) (hts (.fieldLink RX11 26 "PorridgeSea" "sea" "LPorridgeSea$Sea;") (List.mem_of_getElem? (i := 1) rfl)) (fun _ h9 => h9) rfl dX11_count_61 ?_
      refine va_get (D := (dC, dI)) (ci := 7) (v := .int (nI 0)) (C := RX7) (T := TX7) (N := 19) hx hb hts hin7 hown hK hP 1 rfl rfl 8 (by decide) (hts (.fieldLink RX11 203 "PorridgeSea$Sea" "lumps" "I") (List.mem_of_getElem? (i := 4) rfl)) (fun _ h9 => h9) rfl dX11_count_64 ?_
      exact W.iret (v := nI 0) hx hb hr (fun t9 ht9 hW9 => ⟨nI 0, rfl, (lf_count_4 t reader sea spareSea seaText book sentence spareSentence route meeting sighting draws history images chartBytes thickness lumpNames lumpCells boatNames boatCells loads spoons spoonsLeft depths), ht9⟩) (fun _ h => absurd h List.not_mem_nil) dX11_count_67
    · refine lv_tableIn (off := 67) (tgt := 68) hx hb dX11_count_1 (by decide) (by decide) rfl (by decide) ?_
      refine lv_aload_n hx hb dX11_count_68 rfl (lv_at hl 0 rfl) ?_
      refine va_get (D := (dC, dI)) (ci := 11) (v := .ref sea) (C := RX11) (T := TX11) (N := 18) hx hb hts hin11 hown hK hP 0 rfl rfl 3 (by decide) (hts (.fieldLink RX11 26 "PorridgeSea" "sea" "LPorridgeSea$Sea;") (List.mem_of_getElem? (i := 1) rfl)) (fun _ h9 => h9) rfl dX11_count_69 ?_
      refine va_get (D := (dC, dI)) (ci := 7) (v := .int (nI 0)) (C := RX7) (T := TX7) (N := 19) hx hb hts hin7 hown hK hP 1 rfl rfl 9 (by decide) (hts (.fieldLink RX11 206 "PorridgeSea$Sea" "boats" "I") (List.mem_of_getElem? (i := 5) rfl)) (fun _ h9 => h9) rfl dX11_count_72 ?_
      exact W.iret (v := nI 0) hx hb hr (fun t9 ht9 hW9 => ⟨nI 0, rfl, (lf_count_5 t reader sea spareSea seaText book sentence spareSentence route meeting sighting draws history images chartBytes thickness lumpNames lumpCells boatNames boatCells loads spoons spoonsLeft depths), ht9⟩) (fun _ h => absurd h List.not_mem_nil) dX11_count_75
    · refine lv_tableIn (off := 75) (tgt := 76) hx hb dX11_count_1 (by decide) (by decide) rfl (by decide) ?_
      refine lv_aload_n hx hb dX11_count_76 rfl (lv_at hl 0 rfl) ?_
      refine va_get (D := (dC, dI)) (ci := 11) (v := .ref sea) (C := RX11) (T := TX11) (N := 18) hx hb hts hin11 hown hK hP 0 rfl rfl 3 (by decide) (hts (.fieldLink RX11 26 "PorridgeSea" "sea" "LPorridgeSea$Sea;") (List.mem_of_getElem? (i := 1) rfl)) (fun _ h9 => h9) rfl dX11_count_77 ?_
      refine va_get (D := (dC, dI)) (ci := 7) (v := .int (nI 1)) (C := RX7) (T := TX7) (N := 19) hx hb hts hin7 hown hK hP 1 rfl rfl 3 (by decide) (hts (.fieldLink RX11 209 "PorridgeSea$Sea" "cools" "I") (List.mem_of_getElem? (i := 6) rfl)) (fun _ h9 => h9) rfl dX11_count_80 ?_
      exact W.iret (v := nI 1) hx hb hr (fun t9 ht9 hW9 => ⟨nI 1, rfl, (lf_count_6 t reader sea spareSea seaText book sentence spareSentence route meeting sighting draws history images chartBytes thickness lumpNames lumpCells boatNames boatCells loads spoons spoonsLeft depths), ht9⟩) (fun _ h => absurd h List.not_mem_nil) dX11_count_83
    · refine lv_tableIn (off := 83) (tgt := 84) hx hb dX11_count_1 (by decide) (by decide) rfl (by decide) ?_
      refine lv_aload_n hx hb dX11_count_84 rfl (lv_at hl 0 rfl) ?_
      refine va_get (D := (dC, dI)) (ci := 11) (v := .ref sea) (C := RX11) (T := TX11) (N := 18) hx hb hts hin11 hown hK hP 0 rfl rfl 3 (by decide) (hts (.fieldLink RX11 26 "PorridgeSea" "sea" "LPorridgeSea$Sea;") (List.mem_of_getElem? (i := 1) rfl)) (fun _ h9 => h9) rfl dX11_count_85 ?_
      refine va_get (D := (dC, dI)) (ci := 7) (v := .int (nI 3)) (C := RX7) (T := TX7) (N := 19) hx hb hts hin7 hown hK hP 1 rfl rfl 4 (by decide) (hts (.fieldLink RX11 212 "PorridgeSea$Sea" "skinHeat" "I") (List.mem_of_getElem? (i := 7) rfl)) (fun _ h9 => h9) rfl dX11_count_88 ?_
      exact W.iret (v := nI 3) hx hb hr (fun t9 ht9 hW9 => ⟨nI 3, rfl, (lf_count_7 t reader sea spareSea seaText book sentence spareSentence route meeting sighting draws history images chartBytes thickness lumpNames lumpCells boatNames boatCells loads spoons spoonsLeft depths), ht9⟩) (fun _ h => absurd h List.not_mem_nil) dX11_count_91
    · refine lv_tableIn (off := 91) (tgt := 92) hx hb dX11_count_1 (by decide) (by decide) rfl (by decide) ?_
      refine lv_aload_n hx hb dX11_count_92 rfl (lv_at hl 0 rfl) ?_
      refine va_get (D := (dC, dI)) (ci := 11) (v := .int (nI 0)) (C := RX11) (T := TX11) (N := 18) hx hb hts hin11 hown hK hP 0 rfl rfl 1 (by decide) (hts (.fieldLink RX11 16 "PorridgeSea" "tapeLength" "I") (List.mem_of_getElem? (i := 8) rfl)) (fun _ h9 => h9) rfl dX11_count_93 ?_
      exact W.iret (v := nI 0) hx hb hr (fun t9 ht9 hW9 => ⟨nI 0, rfl, (lf_count_8 t reader sea spareSea seaText book sentence spareSentence route meeting sighting draws history images chartBytes thickness lumpNames lumpCells boatNames boatCells loads spoons spoonsLeft depths), ht9⟩) (fun _ h => absurd h List.not_mem_nil) dX11_count_96
