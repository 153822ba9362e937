theorem dX2_init_0 : decode cX2_init 0 = .ok (.aload_n 0, 1) := by decide +kernel
theorem dX2_init_1 : decode cX2_init 1 = .ok (.invokespecial 3, 3) := by decide +kernel
theorem dX2_init_4 : decode cX2_init 4 = .ok (.aload_n 0, 1) := by decide +kernel
theorem dX2_init_5 : decode cX2_init 5 = .ok (.bipush 8, 2) := by decide +kernel
theorem dX2_init_7 : decode cX2_init 7 = .ok (.anewarray 11, 3) := by decide +kernel
theorem dX2_init_10 : decode cX2_init 10 = .ok (.putfield 13, 3) := by decide +kernel
theorem dX2_init_13 : decode cX2_init 13 = .ok (.iconst 0, 1) := by decide +kernel
theorem dX2_init_14 : decode cX2_init 14 = .ok (.istore_n 1, 1) := by decide +kernel
theorem dX2_init_15 : decode cX2_init 15 = .ok (.iload_n 1, 1) := by decide +kernel
theorem dX2_init_16 : decode cX2_init 16 = .ok (.bipush 8, 2) := by decide +kernel
theorem dX2_init_18 : decode cX2_init 18 = .ok (.if_icmp .ge 22, 3) := by decide +kernel
theorem dX2_init_21 : decode cX2_init 21 = .ok (.aload_n 0, 1) := by decide +kernel
theorem dX2_init_22 : decode cX2_init 22 = .ok (.getfield 13, 3) := by decide +kernel
theorem dX2_init_25 : decode cX2_init 25 = .ok (.iload_n 1, 1) := by decide +kernel
theorem dX2_init_26 : decode cX2_init 26 = .ok (.new 11, 3) := by decide +kernel
theorem dX2_init_29 : decode cX2_init 29 = .ok (.dup, 1) := by decide +kernel
theorem dX2_init_30 : decode cX2_init 30 = .ok (.invokespecial 17, 3) := by decide +kernel
theorem dX2_init_33 : decode cX2_init 33 = .ok (.aastore, 1) := by decide +kernel
theorem dX2_init_34 : decode cX2_init 34 = .ok (.iinc 1 1, 3) := by decide +kernel
theorem dX2_init_37 : decode cX2_init 37 = .ok (.goto (-22), 3) := by decide +kernel
theorem dX2_init_40 : decode cX2_init 40 = .ok (.aload_n 0, 1) := by decide +kernel
theorem dX2_init_41 : decode cX2_init 41 = .ok (.iconst 0, 1) := by decide +kernel
theorem dX2_init_42 : decode cX2_init 42 = .ok (.putfield 18, 3) := by decide +kernel
theorem dX2_init_45 : decode cX2_init 45 = .ok (.aload_n 0, 1) := by decide +kernel
theorem dX2_init_46 : decode cX2_init 46 = .ok (.iconst 0, 1) := by decide +kernel
theorem dX2_init_47 : decode cX2_init 47 = .ok (.putfield 22, 3) := by decide +kernel
theorem dX2_init_50 : decode cX2_init 50 = .ok (.return_, 1) := by decide +kernel
theorem dX2_keep_0 : decode cX2_keep 0 = .ok (.aload_n 1, 1) := by decide +kernel
theorem dX2_keep_1 : decode cX2_keep 1 = .ok (.aload_n 0, 1) := by decide +kernel
theorem dX2_keep_2 : decode cX2_keep 2 = .ok (.getfield 13, 3) := by decide +kernel
theorem dX2_keep_5 : decode cX2_keep 5 = .ok (.aload_n 0, 1) := by decide +kernel
theorem dX2_keep_6 : decode cX2_keep 6 = .ok (.getfield 18, 3) := by decide +kernel
theorem dX2_keep_9 : decode cX2_keep 9 = .ok (.aaload, 1) := by decide +kernel
theorem dX2_keep_10 : decode cX2_keep 10 = .ok (.invokestatic 25, 3) := by decide +kernel
theorem dX2_keep_13 : decode cX2_keep 13 = .ok (.aload_n 0, 1) := by decide +kernel
theorem dX2_keep_14 : decode cX2_keep 14 = .ok (.aload_n 0, 1) := by decide +kernel
theorem dX2_keep_15 : decode cX2_keep 15 = .ok (.getfield 18, 3) := by decide +kernel
theorem dX2_keep_18 : decode cX2_keep 18 = .ok (.iconst 1, 1) := by decide +kernel
theorem dX2_keep_19 : decode cX2_keep 19 = .ok (.iadd, 1) := by decide +kernel
theorem dX2_keep_20 : decode cX2_keep 20 = .ok (.bipush 8, 2) := by decide +kernel
theorem dX2_keep_22 : decode cX2_keep 22 = .ok (.irem, 1) := by decide +kernel
theorem dX2_keep_23 : decode cX2_keep 23 = .ok (.putfield 18, 3) := by decide +kernel
theorem dX2_keep_26 : decode cX2_keep 26 = .ok (.aload_n 0, 1) := by decide +kernel
theorem dX2_keep_27 : decode cX2_keep 27 = .ok (.bipush 8, 2) := by decide +kernel
theorem dX2_keep_29 : decode cX2_keep 29 = .ok (.aload_n 0, 1) := by decide +kernel
theorem dX2_keep_30 : decode cX2_keep 30 = .ok (.getfield 22, 3) := by decide +kernel
theorem dX2_keep_33 : decode cX2_keep 33 = .ok (.iconst 1, 1) := by decide +kernel
theorem dX2_keep_34 : decode cX2_keep 34 = .ok (.iadd, 1) := by decide +kernel
theorem dX2_keep_35 : decode cX2_keep 35 = .ok (.invokestatic 29, 3) := by decide +kernel
theorem dX2_keep_38 : decode cX2_keep 38 = .ok (.putfield 22, 3) := by decide +kernel
theorem dX2_keep_41 : decode cX2_keep 41 = .ok (.return_, 1) := by decide +kernel
theorem dX2_forget_0 : decode cX2_forget 0 = .ok (.aload_n 0, 1) := by decide +kernel
theorem dX2_forget_1 : decode cX2_forget 1 = .ok (.iconst 0, 1) := by decide +kernel
theorem dX2_forget_2 : decode cX2_forget 2 = .ok (.putfield 22, 3) := by decide +kernel
theorem dX2_forget_5 : decode cX2_forget 5 = .ok (.return_, 1) := by decide +kernel
theorem dX2_takeBack_0 : decode cX2_takeBack 0 = .ok (.aload_n 0, 1) := by decide +kernel
theorem dX2_takeBack_1 : decode cX2_takeBack 1 = .ok (.getfield 22, 3) := by decide +kernel
theorem dX2_takeBack_4 : decode cX2_takeBack 4 = .ok (.ifCond .ne 5, 3) := by decide +kernel
theorem dX2_takeBack_7 : decode cX2_takeBack 7 = .ok (.iconst (-1), 1) := by decide +kernel
theorem dX2_takeBack_8 : decode cX2_takeBack 8 = .ok (.ireturn, 1) := by decide +kernel
theorem dX5_init_0 : decode cX5_init 0 = .ok (.aload_n 0, 1) := by decide +kernel
theorem dX5_init_1 : decode cX5_init 1 = .ok (.invokespecial 3, 3) := by decide +kernel
theorem dX5_init_4 : decode cX5_init 4 = .ok (.aload_n 0, 1) := by decide +kernel
theorem dX5_init_5 : decode cX5_init 5 = .ok (.sipush 940, 3) := by decide +kernel
theorem dX5_init_8 : decode cX5_init 8 = .ok (.newarray .byte, 2) := by decide +kernel
theorem dX5_init_10 : decode cX5_init 10 = .ok (.putfield 9, 3) := by decide +kernel
theorem dX5_init_13 : decode cX5_init 13 = .ok (.return_, 1) := by decide +kernel
theorem dX5_advance_0 : decode cX5_advance 0 = .ok (.aload_n 0, 1) := by decide +kernel
theorem dX5_advance_1 : decode cX5_advance 1 = .ok (.getfield 28, 3) := by decide +kernel
theorem dX5_advance_4 : decode cX5_advance 4 = .ok (.aload_n 0, 1) := by decide +kernel
theorem dX5_advance_5 : decode cX5_advance 5 = .ok (.getfield 21, 3) := by decide +kernel
theorem dX5_advance_8 : decode cX5_advance 8 = .ok (.if_icmp .ge 44, 3) := by decide +kernel
theorem dX5_advance_52 : decode cX5_advance 52 = .ok (.aload_n 0, 1) := by decide +kernel
theorem dX5_advance_53 : decode cX5_advance 53 = .ok (.aload_n 0, 1) := by decide +kernel
theorem dX5_advance_54 : decode cX5_advance 54 = .ok (.getfield 28, 3) := by decide +kernel
theorem dX5_advance_57 : decode cX5_advance 57 = .ok (.putfield 40, 3) := by decide +kernel
theorem dX5_advance_60 : decode cX5_advance 60 = .ok (.aload_n 0, 1) := by decide +kernel
theorem dX5_advance_61 : decode cX5_advance 61 = .ok (.iconst (-1), 1) := by decide +kernel
theorem dX5_advance_62 : decode cX5_advance 62 = .ok (.putfield 43, 3) := by decide +kernel
theorem dX5_advance_65 : decode cX5_advance 65 = .ok (.aload_n 0, 1) := by decide +kernel
theorem dX5_advance_66 : decode cX5_advance 66 = .ok (.getfield 21, 3) := by decide +kernel
theorem dX5_advance_69 : decode cX5_advance 69 = .ok (.aload_n 0, 1) := by decide +kernel
theorem dX5_advance_70 : decode cX5_advance 70 = .ok (.getfield 25, 3) := by decide +kernel
theorem dX5_advance_73 : decode cX5_advance 73 = .ok (.if_icmp .le 30, 3) := by decide +kernel
theorem dX5_advance_103 : decode cX5_advance 103 = .ok (.aload_n 0, 1) := by decide +kernel
theorem dX5_advance_104 : decode cX5_advance 104 = .ok (.getfield 28, 3) := by decide +kernel
theorem dX5_advance_107 : decode cX5_advance 107 = .ok (.aload_n 0, 1) := by decide +kernel
theorem dX5_advance_108 : decode cX5_advance 108 = .ok (.getfield 21, 3) := by decide +kernel
theorem dX5_advance_111 : decode cX5_advance 111 = .ok (.if_icmp .lt 11, 3) := by decide +kernel
theorem dX5_advance_114 : decode cX5_advance 114 = .ok (.aload_n 0, 1) := by decide +kernel
theorem dX5_advance_115 : decode cX5_advance 115 = .ok (.iconst 0, 1) := by decide +kernel
theorem dX5_advance_116 : decode cX5_advance 116 = .ok (.putfield 46, 3) := by decide +kernel
theorem dX5_advance_119 : decode cX5_advance 119 = .ok (.goto 44, 3) := by decide +kernel
theorem dX5_advance_163 : decode cX5_advance 163 = .ok (.aload_n 0, 1) := by decide +kernel
theorem dX5_advance_164 : decode cX5_advance 164 = .ok (.getfield 46, 3) := by decide +kernel
theorem dX5_advance_167 : decode cX5_advance 167 = .ok (.iconst 2, 1) := by decide +kernel
theorem dX5_advance_168 : decode cX5_advance 168 = .ok (.if_icmp .ne 70, 3) := by decide +kernel
theorem dX5_advance_238 : decode cX5_advance 238 = .ok (.return_, 1) := by decide +kernel
theorem dX5_open_0 : decode cX5_open 0 = .ok (.aload_n 0, 1) := by decide +kernel
theorem dX5_open_1 : decode cX5_open 1 = .ok (.iload_n 1, 1) := by decide +kernel
theorem dX5_open_2 : decode cX5_open 2 = .ok (.sipush 940, 3) := by decide +kernel
theorem dX5_open_5 : decode cX5_open 5 = .ok (.invokestatic 15, 3) := by decide +kernel
theorem dX5_open_8 : decode cX5_open 8 = .ok (.putfield 21, 3) := by decide +kernel
theorem dX5_open_11 : decode cX5_open 11 = .ok (.aload_n 0, 1) := by decide +kernel
theorem dX5_open_12 : decode cX5_open 12 = .ok (.iload_n 2, 1) := by decide +kernel
theorem dX5_open_13 : decode cX5_open 13 = .ok (.putfield 25, 3) := by decide +kernel
theorem dX5_open_16 : decode cX5_open 16 = .ok (.aload_n 0, 1) := by decide +kernel
theorem dX5_open_17 : decode cX5_open 17 = .ok (.iconst 0, 1) := by decide +kernel
theorem dX5_open_18 : decode cX5_open 18 = .ok (.putfield 28, 3) := by decide +kernel
theorem dX5_open_21 : decode cX5_open 21 = .ok (.aload_n 0, 1) := by decide +kernel
theorem dX5_open_22 : decode cX5_open 22 = .ok (.iconst 0, 1) := by decide +kernel
theorem dX5_open_23 : decode cX5_open 23 = .ok (.putfield 31, 3) := by decide +kernel
theorem dX5_open_26 : decode cX5_open 26 = .ok (.aload_n 0, 1) := by decide +kernel
theorem dX5_open_27 : decode cX5_open 27 = .ok (.iconst 0, 1) := by decide +kernel
theorem dX5_open_28 : decode cX5_open 28 = .ok (.putfield 34, 3) := by decide +kernel
theorem dX5_open_31 : decode cX5_open 31 = .ok (.aload_n 0, 1) := by decide +kernel
theorem dX5_open_32 : decode cX5_open 32 = .ok (.invokevirtual 37, 3) := by decide +kernel
theorem dX5_open_35 : decode cX5_open 35 = .ok (.return_, 1) := by decide +kernel
theorem dX5_nextWord_0 : decode cX5_nextWord 0 = .ok (.aload_n 0, 1) := by decide +kernel
theorem dX5_nextWord_1 : decode cX5_nextWord 1 = .ok (.getfield 43, 3) := by decide +kernel
theorem dX5_nextWord_4 : decode cX5_nextWord 4 = .ok (.ireturn, 1) := by decide +kernel
theorem dX5_refuseAt_0 : decode cX5_refuseAt 0 = .ok (.aload_n 0, 1) := by decide +kernel
theorem dX5_refuseAt_1 : decode cX5_refuseAt 1 = .ok (.iload_n 1, 1) := by decide +kernel
theorem dX5_refuseAt_2 : decode cX5_refuseAt 2 = .ok (.putfield 31, 3) := by decide +kernel
theorem dX5_refuseAt_5 : decode cX5_refuseAt 5 = .ok (.aload_n 0, 1) := by decide +kernel
theorem dX5_refuseAt_6 : decode cX5_refuseAt 6 = .ok (.iload_n 2, 1) := by decide +kernel
theorem dX5_refuseAt_7 : decode cX5_refuseAt 7 = .ok (.putfield 34, 3) := by decide +kernel
theorem dX5_refuseAt_10 : decode cX5_refuseAt 10 = .ok (.iconst 0, 1) := by decide +kernel
theorem dX5_refuseAt_11 : decode cX5_refuseAt 11 = .ok (.ireturn, 1) := by decide +kernel
theorem dX5_refuse_0 : decode cX5_refuse 0 = .ok (.aload_n 0, 1) := by decide +kernel
theorem dX5_refuse_1 : decode cX5_refuse 1 = .ok (.iload_n 1, 1) := by decide +kernel
theorem dX5_refuse_2 : decode cX5_refuse 2 = .ok (.aload_n 0, 1) := by decide +kernel
theorem dX5_refuse_3 : decode cX5_refuse 3 = .ok (.getfield 40, 3) := by decide +kernel
theorem dX5_refuse_6 : decode cX5_refuse 6 = .ok (.invokevirtual 88, 3) := by decide +kernel
theorem dX5_refuse_9 : decode cX5_refuse 9 = .ok (.ireturn, 1) := by decide +kernel
theorem dX8_init_0 : decode cX8_init 0 = .ok (.aload_n 0, 1) := by decide +kernel
theorem dX8_init_1 : decode cX8_init 1 = .ok (.invokespecial 5, 3) := by decide +kernel
theorem dX8_init_4 : decode cX8_init 4 = .ok (.return_, 1) := by decide +kernel
theorem dX8_read_0 : decode cX8_read 0 = .ok (.aload_n 2, 1) := by decide +kernel
theorem dX8_read_1 : decode cX8_read 1 = .ok (.invokevirtual 11, 3) := by decide +kernel
theorem dX8_read_4 : decode cX8_read 4 = .ok (.aload_n 0, 1) := by decide +kernel
theorem dX8_read_5 : decode cX8_read 5 = .ok (.iconst 0, 1) := by decide +kernel
theorem dX8_read_6 : decode cX8_read 6 = .ok (.putfield 16, 3) := by decide +kernel
theorem dX8_read_9 : decode cX8_read 9 = .ok (.iconst 0, 1) := by decide +kernel
theorem dX8_read_10 : decode cX8_read 10 = .ok (.istore_n 3, 1) := by decide +kernel
theorem dX8_read_11 : decode cX8_read 11 = .ok (.iload_n 3, 1) := by decide +kernel
theorem dX8_read_12 : decode cX8_read 12 = .ok (.sipush 900, 3) := by decide +kernel
theorem dX8_read_15 : decode cX8_read 15 = .ok (.if_icmp .ge 160, 3) := by decide +kernel
theorem dX8_read_18 : decode cX8_read 18 = .ok (.aload_n 1, 1) := by decide +kernel
theorem dX8_read_19 : decode cX8_read 19 = .ok (.getfield 22, 3) := by decide +kernel
theorem dX8_read_22 : decode cX8_read 22 = .ok (.ifCond .eq 153, 3) := by decide +kernel
theorem dX8_read_175 : decode cX8_read 175 = .ok (.iload_n 3, 1) := by decide +kernel
theorem dX8_read_176 : decode cX8_read 176 = .ok (.ireturn, 1) := by decide +kernel
theorem dX0_init_0 : decode cX0_init 0 = .ok (.aload_n 0, 1) := by decide +kernel
theorem dX0_init_1 : decode cX0_init 1 = .ok (.invokespecial 3, 3) := by decide +kernel
theorem dX0_init_4 : decode cX0_init 4 = .ok (.aload_n 0, 1) := by decide +kernel
theorem dX0_init_5 : decode cX0_init 5 = .ok (.sipush 160, 3) := by decide +kernel
theorem dX0_init_8 : decode cX0_init 8 = .ok (.newarray .int, 2) := by decide +kernel
theorem dX0_init_10 : decode cX0_init 10 = .ok (.putfield 11, 3) := by decide +kernel
theorem dX0_init_13 : decode cX0_init 13 = .ok (.aload_n 0, 1) := by decide +kernel
theorem dX0_init_14 : decode cX0_init 14 = .ok (.iconst 0, 1) := by decide +kernel
theorem dX0_init_15 : decode cX0_init 15 = .ok (.putfield 15, 3) := by decide +kernel
theorem dX0_init_18 : decode cX0_init 18 = .ok (.aload_n 0, 1) := by decide +kernel
theorem dX0_init_19 : decode cX0_init 19 = .ok (.iconst 0, 1) := by decide +kernel
theorem dX0_init_20 : decode cX0_init 20 = .ok (.putfield 19, 3) := by decide +kernel
theorem dX0_init_23 : decode cX0_init 23 = .ok (.return_, 1) := by decide +kernel
theorem dX0_read_0 : decode cX0_read 0 = .ok (.aload_n 0, 1) := by decide +kernel
theorem dX0_read_1 : decode cX0_read 1 = .ok (.iconst 0, 1) := by decide +kernel
theorem dX0_read_2 : decode cX0_read 2 = .ok (.putfield 15, 3) := by decide +kernel
theorem dX0_read_5 : decode cX0_read 5 = .ok (.aload_n 0, 1) := by decide +kernel
theorem dX0_read_6 : decode cX0_read 6 = .ok (.getfield 15, 3) := by decide +kernel
theorem dX0_read_9 : decode cX0_read 9 = .ok (.bipush 40, 2) := by decide +kernel
theorem dX0_read_11 : decode cX0_read 11 = .ok (.if_icmp .gt 104, 3) := by decide +kernel
theorem dX0_read_14 : decode cX0_read 14 = .ok (.aload_n 1, 1) := by decide +kernel
theorem dX0_read_15 : decode cX0_read 15 = .ok (.getfield 23, 3) := by decide +kernel
theorem dX0_read_18 : decode cX0_read 18 = .ok (.ifCond .eq 97, 3) := by decide +kernel
theorem dX0_read_115 : decode cX0_read 115 = .ok (.iconst 1, 1) := by decide +kernel
theorem dX0_read_116 : decode cX0_read 116 = .ok (.ireturn, 1) := by decide +kernel
theorem dX0_live_0 : decode cX0_live 0 = .ok (.iconst 0, 1) := by decide +kernel
theorem dX0_live_1 : decode cX0_live 1 = .ok (.istore_n 2, 1) := by decide +kernel
theorem dX0_live_2 : decode cX0_live 2 = .ok (.iconst 0, 1) := by decide +kernel
theorem dX0_live_3 : decode cX0_live 3 = .ok (.istore_n 3, 1) := by decide +kernel
theorem dX0_live_4 : decode cX0_live 4 = .ok (.iload_n 3, 1) := by decide +kernel
theorem dX0_live_5 : decode cX0_live 5 = .ok (.aload_n 0, 1) := by decide +kernel
theorem dX0_live_6 : decode cX0_live 6 = .ok (.getfield 15, 3) := by decide +kernel
theorem dX0_live_9 : decode cX0_live 9 = .ok (.if_icmp .ge 29, 3) := by decide +kernel
theorem dX0_live_38 : decode cX0_live 38 = .ok (.aload_n 0, 1) := by decide +kernel
theorem dX0_live_39 : decode cX0_live 39 = .ok (.iconst 1, 1) := by decide +kernel
theorem dX0_live_40 : decode cX0_live 40 = .ok (.putfield 19, 3) := by decide +kernel
theorem dX0_live_43 : decode cX0_live 43 = .ok (.aload_n 0, 1) := by decide +kernel
theorem dX0_live_44 : decode cX0_live 44 = .ok (.iload_n 2, 1) := by decide +kernel
theorem dX0_live_45 : decode cX0_live 45 = .ok (.putfield 75, 3) := by decide +kernel
theorem dX0_live_48 : decode cX0_live 48 = .ok (.aload_n 0, 1) := by decide +kernel
theorem dX0_live_49 : decode cX0_live 49 = .ok (.iload_n 3, 1) := by decide +kernel
theorem dX0_live_50 : decode cX0_live 50 = .ok (.putfield 78, 3) := by decide +kernel
theorem dX0_live_53 : decode cX0_live 53 = .ok (.aload_n 0, 1) := by decide +kernel
theorem dX0_live_54 : decode cX0_live 54 = .ok (.aload_n 1, 1) := by decide +kernel
theorem dX0_live_55 : decode cX0_live 55 = .ok (.getfield 81, 3) := by decide +kernel
theorem dX0_live_58 : decode cX0_live 58 = .ok (.putfield 84, 3) := by decide +kernel
theorem dX0_live_61 : decode cX0_live 61 = .ok (.aload_n 0, 1) := by decide +kernel
theorem dX0_live_62 : decode cX0_live 62 = .ok (.aload_n 1, 1) := by decide +kernel
theorem dX0_live_63 : decode cX0_live 63 = .ok (.invokevirtual 87, 3) := by decide +kernel
theorem dX0_live_66 : decode cX0_live 66 = .ok (.putfield 90, 3) := by decide +kernel
theorem dX0_live_69 : decode cX0_live 69 = .ok (.iload_n 2, 1) := by decide +kernel
theorem dX0_live_70 : decode cX0_live 70 = .ok (.ifCond .ne 7, 3) := by decide +kernel
theorem dX0_live_73 : decode cX0_live 73 = .ok (.iconst (-1), 1) := by decide +kernel
theorem dX0_live_74 : decode cX0_live 74 = .ok (.goto 4, 3) := by decide +kernel
theorem dX0_live_78 : decode cX0_live 78 = .ok (.ireturn, 1) := by decide +kernel
theorem dX0_factThen_0 : decode cX0_factThen 0 = .ok (.aload_n 0, 1) := by decide +kernel
theorem dX0_factThen_1 : decode cX0_factThen 1 = .ok (.getfield 19, 3) := by decide +kernel
theorem dX0_factThen_4 : decode cX0_factThen 4 = .ok (.ifCond .ne 5, 3) := by decide +kernel
theorem dX0_factThen_7 : decode cX0_factThen 7 = .ok (.iconst (-1), 1) := by decide +kernel
theorem dX0_factThen_8 : decode cX0_factThen 8 = .ok (.ireturn, 1) := by decide +kernel
theorem dX9_init_0 : decode cX9_init 0 = .ok (.aload_n 0, 1) := by decide +kernel
theorem dX9_init_1 : decode cX9_init 1 = .ok (.invokespecial 3, 3) := by decide +kernel
theorem dX9_init_4 : decode cX9_init 4 = .ok (.aload_n 0, 1) := by decide +kernel
theorem dX9_init_5 : decode cX9_init 5 = .ok (.bipush 40, 2) := by decide +kernel
theorem dX9_init_7 : decode cX9_init 7 = .ok (.newarray .int, 2) := by decide +kernel
theorem dX9_init_9 : decode cX9_init 9 = .ok (.putfield 11, 3) := by decide +kernel
theorem dX9_init_12 : decode cX9_init 12 = .ok (.aload_n 0, 1) := by decide +kernel
theorem dX9_init_13 : decode cX9_init 13 = .ok (.iconst 0, 1) := by decide +kernel
theorem dX9_init_14 : decode cX9_init 14 = .ok (.putfield 15, 3) := by decide +kernel
theorem dX9_init_17 : decode cX9_init 17 = .ok (.aload_n 0, 1) := by decide +kernel
theorem dX9_init_18 : decode cX9_init 18 = .ok (.iconst 0, 1) := by decide +kernel
theorem dX9_init_19 : decode cX9_init 19 = .ok (.putfield 19, 3) := by decide +kernel
theorem dX9_init_22 : decode cX9_init 22 = .ok (.return_, 1) := by decide +kernel
theorem dX9_forget_0 : decode cX9_forget 0 = .ok (.aload_n 0, 1) := by decide +kernel
theorem dX9_forget_1 : decode cX9_forget 1 = .ok (.iconst 0, 1) := by decide +kernel
theorem dX9_forget_2 : decode cX9_forget 2 = .ok (.putfield 15, 3) := by decide +kernel
theorem dX9_forget_5 : decode cX9_forget 5 = .ok (.aload_n 0, 1) := by decide +kernel
theorem dX9_forget_6 : decode cX9_forget 6 = .ok (.iconst 0, 1) := by decide +kernel
theorem dX9_forget_7 : decode cX9_forget 7 = .ok (.putfield 19, 3) := by decide +kernel
theorem dX9_forget_10 : decode cX9_forget 10 = .ok (.return_, 1) := by decide +kernel
theorem dX9_isThere_0 : decode cX9_isThere 0 = .ok (.aload_n 0, 1) := by decide +kernel
theorem dX9_isThere_1 : decode cX9_isThere 1 = .ok (.getfield 15, 3) := by decide +kernel
theorem dX9_isThere_4 : decode cX9_isThere 4 = .ok (.ifCond .le 7, 3) := by decide +kernel
theorem dX9_isThere_11 : decode cX9_isThere 11 = .ok (.iconst 0, 1) := by decide +kernel
theorem dX9_isThere_12 : decode cX9_isThere 12 = .ok (.ireturn, 1) := by decide +kernel
theorem dX9_copy_0 : decode cX9_copy 0 = .ok (.aload_n 0, 1) := by decide +kernel
theorem dX9_copy_1 : decode cX9_copy 1 = .ok (.ifnull 7, 3) := by decide +kernel
theorem dX9_copy_4 : decode cX9_copy 4 = .ok (.aload_n 1, 1) := by decide +kernel
theorem dX9_copy_5 : decode cX9_copy 5 = .ok (.ifnonnull 4, 3) := by decide +kernel
theorem dX9_copy_9 : decode cX9_copy 9 = .ok (.aload_n 0, 1) := by decide +kernel
theorem dX9_copy_10 : decode cX9_copy 10 = .ok (.getfield 11, 3) := by decide +kernel
theorem dX9_copy_13 : decode cX9_copy 13 = .ok (.iconst 0, 1) := by decide +kernel
theorem dX9_copy_14 : decode cX9_copy 14 = .ok (.aload_n 1, 1) := by decide +kernel
theorem dX9_copy_15 : decode cX9_copy 15 = .ok (.getfield 11, 3) := by decide +kernel
theorem dX9_copy_18 : decode cX9_copy 18 = .ok (.iconst 0, 1) := by decide +kernel
theorem dX9_copy_19 : decode cX9_copy 19 = .ok (.bipush 40, 2) := by decide +kernel
theorem dX9_copy_21 : decode cX9_copy 21 = .ok (.invokestatic 22, 3) := by decide +kernel
theorem dX9_copy_24 : decode cX9_copy 24 = .ok (.aload_n 1, 1) := by decide +kernel
theorem dX9_copy_25 : decode cX9_copy 25 = .ok (.aload_n 0, 1) := by decide +kernel
theorem dX9_copy_26 : decode cX9_copy 26 = .ok (.getfield 15, 3) := by decide +kernel
theorem dX9_copy_29 : decode cX9_copy 29 = .ok (.putfield 15, 3) := by decide +kernel
theorem dX9_copy_32 : decode cX9_copy 32 = .ok (.aload_n 1, 1) := by decide +kernel
theorem dX9_copy_33 : decode cX9_copy 33 = .ok (.aload_n 0, 1) := by decide +kernel
theorem dX9_copy_34 : decode cX9_copy 34 = .ok (.getfield 19, 3) := by decide +kernel
theorem dX9_copy_37 : decode cX9_copy 37 = .ok (.putfield 19, 3) := by decide +kernel
theorem dX9_copy_40 : decode cX9_copy 40 = .ok (.return_, 1) := by decide +kernel
theorem dX9_readOne_0 : decode cX9_readOne 0 = .ok (.aload_n 1, 1) := by decide +kernel
theorem dX9_readOne_1 : decode cX9_readOne 1 = .ok (.invokevirtual 47, 3) := by decide +kernel
theorem dX9_readOne_4 : decode cX9_readOne 4 = .ok (.istore 4, 2) := by decide +kernel
theorem dX9_readOne_6 : decode cX9_readOne 6 = .ok (.aload_n 1, 1) := by decide +kernel
theorem dX9_readOne_7 : decode cX9_readOne 7 = .ok (.getfield 35, 3) := by decide +kernel
theorem dX9_readOne_10 : decode cX9_readOne 10 = .ok (.bipush 40, 2) := by decide +kernel
theorem dX9_readOne_12 : decode cX9_readOne 12 = .ok (.if_icmp .ne 7, 3) := by decide +kernel
theorem dX9_readOne_19 : decode cX9_readOne 19 = .ok (.iconst 0, 1) := by decide +kernel
theorem dX9_readOne_20 : decode cX9_readOne 20 = .ok (.istore 5, 2) := by decide +kernel
theorem dX9_readOne_22 : decode cX9_readOne 22 = .ok (.iload 5, 2) := by decide +kernel
theorem dX9_readOne_24 : decode cX9_readOne 24 = .ok (.ifCond .ne 23, 3) := by decide +kernel
theorem dX9_readOne_27 : decode cX9_readOne 27 = .ok (.iload 4, 2) := by decide +kernel
theorem dX9_readOne_29 : decode cX9_readOne 29 = .ok (.bipush 22, 2) := by decide +kernel
theorem dX9_readOne_31 : decode cX9_readOne 31 = .ok (.if_icmp .lt 10, 3) := by decide +kernel
theorem dX9_readOne_41 : decode cX9_readOne 41 = .ok (.aload_n 1, 1) := by decide +kernel
theorem dX9_readOne_42 : decode cX9_readOne 42 = .ok (.iconst 1, 1) := by decide +kernel
theorem dX9_readOne_43 : decode cX9_readOne 43 = .ok (.invokevirtual 40, 3) := by decide +kernel
theorem dX9_readOne_46 : decode cX9_readOne 46 = .ok (.ireturn, 1) := by decide +kernel
theorem dX9_readAll_0 : decode cX9_readAll 0 = .ok (.aload_n 0, 1) := by decide +kernel
theorem dX9_readAll_1 : decode cX9_readAll 1 = .ok (.aload_n 1, 1) := by decide +kernel
theorem dX9_readAll_2 : decode cX9_readAll 2 = .ok (.aload_n 2, 1) := by decide +kernel
theorem dX9_readAll_3 : decode cX9_readAll 3 = .ok (.iload_n 3, 1) := by decide +kernel
theorem dX9_readAll_4 : decode cX9_readAll 4 = .ok (.invokevirtual 57, 3) := by decide +kernel
theorem dX9_readAll_7 : decode cX9_readAll 7 = .ok (.istore 4, 2) := by decide +kernel
theorem dX9_readAll_9 : decode cX9_readAll 9 = .ok (.iconst 0, 1) := by decide +kernel
theorem dX9_readAll_10 : decode cX9_readAll 10 = .ok (.istore 5, 2) := by decide +kernel
theorem dX9_readAll_12 : decode cX9_readAll 12 = .ok (.iload 5, 2) := by decide +kernel
theorem dX9_readAll_14 : decode cX9_readAll 14 = .ok (.bipush 20, 2) := by decide +kernel
theorem dX9_readAll_16 : decode cX9_readAll 16 = .ok (.if_icmp .ge 53, 3) := by decide +kernel
theorem dX9_readAll_19 : decode cX9_readAll 19 = .ok (.iload 4, 2) := by decide +kernel
theorem dX9_readAll_21 : decode cX9_readAll 21 = .ok (.ifCond .eq 48, 3) := by decide +kernel
theorem dX9_readAll_69 : decode cX9_readAll 69 = .ok (.iload 4, 2) := by decide +kernel
theorem dX9_readAll_71 : decode cX9_readAll 71 = .ok (.ireturn, 1) := by decide +kernel
theorem dX9_readCond_0 : decode cX9_readCond 0 = .ok (.aload_n 0, 1) := by decide +kernel
theorem dX9_readCond_1 : decode cX9_readCond 1 = .ok (.aload_n 1, 1) := by decide +kernel
theorem dX9_readCond_2 : decode cX9_readCond 2 = .ok (.aload_n 2, 1) := by decide +kernel
theorem dX9_readCond_3 : decode cX9_readCond 3 = .ok (.iload_n 3, 1) := by decide +kernel
theorem dX9_readCond_4 : decode cX9_readCond 4 = .ok (.invokevirtual 44, 3) := by decide +kernel
theorem dX9_readCond_7 : decode cX9_readCond 7 = .ok (.istore 4, 2) := by decide +kernel
theorem dX9_readCond_9 : decode cX9_readCond 9 = .ok (.iconst 0, 1) := by decide +kernel
theorem dX9_readCond_10 : decode cX9_readCond 10 = .ok (.istore 5, 2) := by decide +kernel
theorem dX9_readCond_12 : decode cX9_readCond 12 = .ok (.iload 5, 2) := by decide +kernel
theorem dX9_readCond_14 : decode cX9_readCond 14 = .ok (.bipush 20, 2) := by decide +kernel
theorem dX9_readCond_16 : decode cX9_readCond 16 = .ok (.if_icmp .ge 53, 3) := by decide +kernel
theorem dX9_readCond_19 : decode cX9_readCond 19 = .ok (.iload 4, 2) := by decide +kernel
theorem dX9_readCond_21 : decode cX9_readCond 21 = .ok (.ifCond .eq 48, 3) := by decide +kernel
theorem dX9_readCond_69 : decode cX9_readCond 69 = .ok (.iload 4, 2) := by decide +kernel
theorem dX9_readCond_71 : decode cX9_readCond 71 = .ok (.ireturn, 1) := by decide +kernel
theorem dX9_read_0 : decode cX9_read 0 = .ok (.aload_n 0, 1) := by decide +kernel
theorem dX9_read_1 : decode cX9_read 1 = .ok (.invokevirtual 28, 3) := by decide +kernel
theorem dX9_read_4 : decode cX9_read 4 = .ok (.aload_n 0, 1) := by decide +kernel
theorem dX9_read_5 : decode cX9_read 5 = .ok (.aload_n 1, 1) := by decide +kernel
theorem dX9_read_6 : decode cX9_read 6 = .ok (.aload_n 2, 1) := by decide +kernel
theorem dX9_read_7 : decode cX9_read 7 = .ok (.iconst 1, 1) := by decide +kernel
theorem dX9_read_8 : decode cX9_read 8 = .ok (.invokevirtual 31, 3) := by decide +kernel
theorem dX9_read_11 : decode cX9_read 11 = .ok (.ifCond .ne 5, 3) := by decide +kernel
theorem dX9_read_14 : decode cX9_read 14 = .ok (.iconst 0, 1) := by decide +kernel
theorem dX9_read_15 : decode cX9_read 15 = .ok (.ireturn, 1) := by decide +kernel
theorem dX6_init_0 : decode cX6_init 0 = .ok (.aload_n 0, 1) := by decide +kernel
theorem dX6_init_1 : decode cX6_init 1 = .ok (.invokespecial 3, 3) := by decide +kernel
theorem dX6_init_4 : decode cX6_init 4 = .ok (.aload_n 0, 1) := by decide +kernel
theorem dX6_init_5 : decode cX6_init 5 = .ok (.bipush 36, 2) := by decide +kernel
theorem dX6_init_7 : decode cX6_init 7 = .ok (.newarray .int, 2) := by decide +kernel
theorem dX6_init_9 : decode cX6_init 9 = .ok (.putfield 9, 3) := by decide +kernel
theorem dX6_init_12 : decode cX6_init 12 = .ok (.aload_n 0, 1) := by decide +kernel
theorem dX6_init_13 : decode cX6_init 13 = .ok (.bipush 36, 2) := by decide +kernel
theorem dX6_init_15 : decode cX6_init 15 = .ok (.newarray .int, 2) := by decide +kernel
theorem dX6_init_17 : decode cX6_init 17 = .ok (.putfield 15, 3) := by decide +kernel
theorem dX6_init_20 : decode cX6_init 20 = .ok (.aload_n 0, 1) := by decide +kernel
theorem dX6_init_21 : decode cX6_init 21 = .ok (.iconst 0, 1) := by decide +kernel
theorem dX6_init_22 : decode cX6_init 22 = .ok (.putfield 18, 3) := by decide +kernel
theorem dX6_init_25 : decode cX6_init 25 = .ok (.aload_n 0, 1) := by decide +kernel
theorem dX6_init_26 : decode cX6_init 26 = .ok (.iconst (-1), 1) := by decide +kernel
theorem dX6_init_27 : decode cX6_init 27 = .ok (.putfield 22, 3) := by decide +kernel
theorem dX6_init_30 : decode cX6_init 30 = .ok (.return_, 1) := by decide +kernel
theorem dX6_find_0 : decode cX6_find 0 = .ok (.aload_n 1, 1) := by decide +kernel
theorem dX6_find_1 : decode cX6_find 1 = .ok (.iload_n 2, 1) := by decide +kernel
theorem dX6_find_2 : decode cX6_find 2 = .ok (.invokevirtual 25, 3) := by decide +kernel
theorem dX6_find_5 : decode cX6_find 5 = .ok (.ifCond .eq 19, 3) := by decide +kernel
theorem dX6_find_24 : decode cX6_find 24 = .ok (.iconst (-1), 1) := by decide +kernel
theorem dX6_find_25 : decode cX6_find 25 = .ok (.ireturn, 1) := by decide +kernel
theorem dX6_sideAt_0 : decode cX6_sideAt 0 = .ok (.iload_n 1, 1) := by decide +kernel
theorem dX6_sideAt_1 : decode cX6_sideAt 1 = .ok (.ifCond .lt 20, 3) := by decide +kernel
theorem dX6_sideAt_21 : decode cX6_sideAt 21 = .ok (.iconst (-1), 1) := by decide +kernel
theorem dX6_sideAt_22 : decode cX6_sideAt 22 = .ok (.ireturn, 1) := by decide +kernel
theorem dX6_sideAt_4 : decode cX6_sideAt 4 = .ok (.iload_n 1, 1) := by decide +kernel
theorem dX6_sideAt_5 : decode cX6_sideAt 5 = .ok (.aload_n 0, 1) := by decide +kernel
theorem dX6_sideAt_6 : decode cX6_sideAt 6 = .ok (.getfield 18, 3) := by decide +kernel
theorem dX6_sideAt_9 : decode cX6_sideAt 9 = .ok (.if_icmp .ge 12, 3) := by decide +kernel
theorem dX4_init_0 : decode cX4_init 0 = .ok (.aload_n 0, 1) := by decide +kernel
theorem dX4_init_1 : decode cX4_init 1 = .ok (.invokespecial 3, 3) := by decide +kernel
theorem dX4_init_4 : decode cX4_init 4 = .ok (.aload_n 0, 1) := by decide +kernel
theorem dX4_init_5 : decode cX4_init 5 = .ok (.iconst 3, 1) := by decide +kernel
theorem dX4_init_6 : decode cX4_init 6 = .ok (.newarray .int, 2) := by decide +kernel
theorem dX4_init_8 : decode cX4_init 8 = .ok (.putfield 11, 3) := by decide +kernel
theorem dX4_init_11 : decode cX4_init 11 = .ok (.aload_n 0, 1) := by decide +kernel
theorem dX4_init_12 : decode cX4_init 12 = .ok (.iconst 3, 1) := by decide +kernel
theorem dX4_init_13 : decode cX4_init 13 = .ok (.newarray .int, 2) := by decide +kernel
theorem dX4_init_15 : decode cX4_init 15 = .ok (.putfield 15, 3) := by decide +kernel
theorem dX4_init_18 : decode cX4_init 18 = .ok (.aload_n 0, 1) := by decide +kernel
theorem dX4_init_19 : decode cX4_init 19 = .ok (.iconst 0, 1) := by decide +kernel
theorem dX4_init_20 : decode cX4_init 20 = .ok (.putfield 18, 3) := by decide +kernel
theorem dX4_init_23 : decode cX4_init 23 = .ok (.return_, 1) := by decide +kernel
theorem dX4_find_0 : decode cX4_find 0 = .ok (.aload_n 1, 1) := by decide +kernel
theorem dX4_find_1 : decode cX4_find 1 = .ok (.iload_n 2, 1) := by decide +kernel
theorem dX4_find_2 : decode cX4_find 2 = .ok (.invokevirtual 22, 3) := by decide +kernel
theorem dX4_find_5 : decode cX4_find 5 = .ok (.ifCond .eq 19, 3) := by decide +kernel
theorem dX4_find_24 : decode cX4_find 24 = .ok (.iconst (-1), 1) := by decide +kernel
theorem dX4_find_25 : decode cX4_find 25 = .ok (.ireturn, 1) := by decide +kernel
theorem dX4_stirAt_0 : decode cX4_stirAt 0 = .ok (.iload_n 1, 1) := by decide +kernel
theorem dX4_stirAt_1 : decode cX4_stirAt 1 = .ok (.ifCond .lt 11, 3) := by decide +kernel
theorem dX4_stirAt_12 : decode cX4_stirAt 12 = .ok (.iconst (-1), 1) := by decide +kernel
theorem dX4_stirAt_13 : decode cX4_stirAt 13 = .ok (.ireturn, 1) := by decide +kernel
theorem dX4_stirAt_4 : decode cX4_stirAt 4 = .ok (.iload_n 1, 1) := by decide +kernel
theorem dX4_stirAt_5 : decode cX4_stirAt 5 = .ok (.aload_n 0, 1) := by decide +kernel
theorem dX4_stirAt_6 : decode cX4_stirAt 6 = .ok (.getfield 18, 3) := by decide +kernel
theorem dX4_stirAt_9 : decode cX4_stirAt 9 = .ok (.if_icmp .lt 5, 3) := by decide +kernel
theorem dX10_init_0 : decode cX10_init 0 = .ok (.aload_n 0, 1) := by decide +kernel
theorem dX10_init_1 : decode cX10_init 1 = .ok (.invokespecial 3, 3) := by decide +kernel
theorem dX10_init_4 : decode cX10_init 4 = .ok (.aload_n 0, 1) := by decide +kernel
theorem dX10_init_5 : decode cX10_init 5 = .ok (.lconst 0, 1) := by decide +kernel
theorem dX10_init_6 : decode cX10_init 6 = .ok (.putfield 9, 3) := by decide +kernel
theorem dX10_init_9 : decode cX10_init 9 = .ok (.aload_n 0, 1) := by decide +kernel
theorem dX10_init_10 : decode cX10_init 10 = .ok (.iconst (-1), 1) := by decide +kernel
theorem dX10_init_11 : decode cX10_init 11 = .ok (.putfield 15, 3) := by decide +kernel
theorem dX10_init_14 : decode cX10_init 14 = .ok (.return_, 1) := by decide +kernel
theorem dX10_arePairs_0 : decode cX10_arePairs 0 = .ok (.iload_n 2, 1) := by decide +kernel
theorem dX10_arePairs_1 : decode cX10_arePairs 1 = .ok (.iconst 2, 1) := by decide +kernel
theorem dX10_arePairs_2 : decode cX10_arePairs 2 = .ok (.if_icmp .lt 21, 3) := by decide +kernel
theorem dX10_arePairs_23 : decode cX10_arePairs 23 = .ok (.iconst 0, 1) := by decide +kernel
theorem dX10_arePairs_24 : decode cX10_arePairs 24 = .ok (.ireturn, 1) := by decide +kernel
theorem dX10_look_0 : decode cX10_look 0 = .ok (.aload_n 1, 1) := by decide +kernel
theorem dX10_look_1 : decode cX10_look 1 = .ok (.aload_n 2, 1) := by decide +kernel
theorem dX10_look_2 : decode cX10_look 2 = .ok (.iload_n 3, 1) := by decide +kernel
theorem dX10_look_3 : decode cX10_look 3 = .ok (.invokestatic 19, 3) := by decide +kernel
theorem dX10_look_6 : decode cX10_look 6 = .ok (.ifCond .ne 5, 3) := by decide +kernel
theorem dX10_look_9 : decode cX10_look 9 = .ok (.iconst (-1), 1) := by decide +kernel
theorem dX10_look_10 : decode cX10_look 10 = .ok (.ireturn, 1) := by decide +kernel
theorem dX10_cellAt_0 : decode cX10_cellAt 0 = .ok (.iconst 0, 1) := by decide +kernel
theorem dX10_cellAt_1 : decode cX10_cellAt 1 = .ok (.istore_n 2, 1) := by decide +kernel
theorem dX10_cellAt_2 : decode cX10_cellAt 2 = .ok (.iconst 0, 1) := by decide +kernel
theorem dX10_cellAt_3 : decode cX10_cellAt 3 = .ok (.istore_n 3, 1) := by decide +kernel
theorem dX10_cellAt_4 : decode cX10_cellAt 4 = .ok (.iload_n 3, 1) := by decide +kernel
theorem dX10_cellAt_5 : decode cX10_cellAt 5 = .ok (.bipush 36, 2) := by decide +kernel
theorem dX10_cellAt_7 : decode cX10_cellAt 7 = .ok (.if_icmp .ge 36, 3) := by decide +kernel
theorem dX10_cellAt_10 : decode cX10_cellAt 10 = .ok (.iload_n 1, 1) := by decide +kernel
theorem dX10_cellAt_11 : decode cX10_cellAt 11 = .ok (.ifCond .lt 32, 3) := by decide +kernel
theorem dX10_cellAt_43 : decode cX10_cellAt 43 = .ok (.iconst (-1), 1) := by decide +kernel
theorem dX10_cellAt_44 : decode cX10_cellAt 44 = .ok (.ireturn, 1) := by decide +kernel
theorem dX10_cellAt_14 : decode cX10_cellAt 14 = .ok (.aload_n 0, 1) := by decide +kernel
theorem dX10_cellAt_15 : decode cX10_cellAt 15 = .ok (.getfield 9, 3) := by decide +kernel
theorem dX10_cellAt_18 : decode cX10_cellAt 18 = .ok (.iload_n 3, 1) := by decide +kernel
theorem dX10_cellAt_19 : decode cX10_cellAt 19 = .ok (.lshr, 1) := by decide +kernel
theorem dX10_cellAt_20 : decode cX10_cellAt 20 = .ok (.lconst 1, 1) := by decide +kernel
theorem dX10_cellAt_21 : decode cX10_cellAt 21 = .ok (.land, 1) := by decide +kernel
theorem dX10_cellAt_22 : decode cX10_cellAt 22 = .ok (.lconst 1, 1) := by decide +kernel
theorem dX10_cellAt_23 : decode cX10_cellAt 23 = .ok (.lcmp, 1) := by decide +kernel
theorem dX10_cellAt_24 : decode cX10_cellAt 24 = .ok (.ifCond .ne 13, 3) := by decide +kernel
theorem dX10_cellAt_37 : decode cX10_cellAt 37 = .ok (.iinc 3 1, 3) := by decide +kernel
theorem dX10_cellAt_40 : decode cX10_cellAt 40 = .ok (.goto (-36), 3) := by decide +kernel
theorem dX1_init_0 : decode cX1_init 0 = .ok (.aload_n 0, 1) := by decide +kernel
theorem dX1_init_1 : decode cX1_init 1 = .ok (.invokespecial 3, 3) := by decide +kernel
theorem dX1_init_4 : decode cX1_init 4 = .ok (.return_, 1) := by decide +kernel
theorem dX1_draw_0 : decode cX1_draw 0 = .ok (.aload_n 0, 1) := by decide +kernel
theorem dX1_draw_1 : decode cX1_draw 1 = .ok (.aload_n 0, 1) := by decide +kernel
theorem dX1_draw_2 : decode cX1_draw 2 = .ok (.getfield 9, 3) := by decide +kernel
theorem dX1_draw_5 : decode cX1_draw 5 = .ok (.ldc 15, 2) := by decide +kernel
theorem dX1_draw_7 : decode cX1_draw 7 = .ok (.imul, 1) := by decide +kernel
theorem dX1_draw_8 : decode cX1_draw 8 = .ok (.sipush 12345, 3) := by decide +kernel
theorem dX1_draw_11 : decode cX1_draw 11 = .ok (.iadd, 1) := by decide +kernel
theorem dX1_draw_12 : decode cX1_draw 12 = .ok (.putfield 9, 3) := by decide +kernel
theorem dX1_draw_15 : decode cX1_draw 15 = .ok (.iload_n 1, 1) := by decide +kernel
theorem dX1_draw_16 : decode cX1_draw 16 = .ok (.ifCond .le 15, 3) := by decide +kernel
theorem dX1_draw_19 : decode cX1_draw 19 = .ok (.aload_n 0, 1) := by decide +kernel
theorem dX1_draw_20 : decode cX1_draw 20 = .ok (.getfield 9, 3) := by decide +kernel
theorem dX1_draw_23 : decode cX1_draw 23 = .ok (.bipush 8, 2) := by decide +kernel
theorem dX1_draw_25 : decode cX1_draw 25 = .ok (.iushr, 1) := by decide +kernel
theorem dX1_draw_26 : decode cX1_draw 26 = .ok (.iload_n 1, 1) := by decide +kernel
theorem dX1_draw_27 : decode cX1_draw 27 = .ok (.irem, 1) := by decide +kernel
theorem dX1_draw_28 : decode cX1_draw 28 = .ok (.goto 4, 3) := by decide +kernel
theorem dX1_draw_32 : decode cX1_draw 32 = .ok (.ireturn, 1) := by decide +kernel
theorem dX1_stirByDraw_0 : decode cX1_stirByDraw 0 = .ok (.aload_n 0, 1) := by decide +kernel
theorem dX1_stirByDraw_1 : decode cX1_stirByDraw 1 = .ok (.iconst 3, 1) := by decide +kernel
theorem dX1_stirByDraw_2 : decode cX1_stirByDraw 2 = .ok (.invokevirtual 38, 3) := by decide +kernel
theorem dX1_stirByDraw_5 : decode cX1_stirByDraw 5 = .ok (.ifCond .eq 4, 3) := by decide +kernel
theorem dX1_stirByDraw_9 : decode cX1_stirByDraw 9 = .ok (.aload_n 0, 1) := by decide +kernel
theorem dX1_stirByDraw_10 : decode cX1_stirByDraw 10 = .ok (.iconst 2, 1) := by decide +kernel
theorem dX1_stirByDraw_11 : decode cX1_stirByDraw 11 = .ok (.invokevirtual 38, 3) := by decide +kernel
theorem dX1_stirByDraw_14 : decode cX1_stirByDraw 14 = .ok (.istore_n 2, 1) := by decide +kernel
theorem dX1_stirByDraw_15 : decode cX1_stirByDraw 15 = .ok (.aload_n 0, 1) := by decide +kernel
theorem dX1_stirByDraw_16 : decode cX1_stirByDraw 16 = .ok (.iload_n 2, 1) := by decide +kernel
theorem dX1_stirByDraw_17 : decode cX1_stirByDraw 17 = .ok (.ifCond .ne 10, 3) := by decide +kernel
theorem dX1_stirByDraw_27 : decode cX1_stirByDraw 27 = .ok (.aload_n 1, 1) := by decide +kernel
theorem dX1_stirByDraw_28 : decode cX1_stirByDraw 28 = .ok (.getfield 45, 3) := by decide +kernel
theorem dX1_stirByDraw_31 : decode cX1_stirByDraw 31 = .ok (.invokevirtual 38, 3) := by decide +kernel
theorem dX1_stirByDraw_34 : decode cX1_stirByDraw 34 = .ok (.istore_n 3, 1) := by decide +kernel
theorem dX1_stirByDraw_35 : decode cX1_stirByDraw 35 = .ok (.aload_n 0, 1) := by decide +kernel
theorem dX1_stirByDraw_36 : decode cX1_stirByDraw 36 = .ok (.iconst 2, 1) := by decide +kernel
theorem dX1_stirByDraw_37 : decode cX1_stirByDraw 37 = .ok (.invokevirtual 38, 3) := by decide +kernel
theorem dX1_stirByDraw_40 : decode cX1_stirByDraw 40 = .ok (.istore 4, 2) := by decide +kernel
theorem dX1_stirByDraw_42 : decode cX1_stirByDraw 42 = .ok (.aload_n 1, 1) := by decide +kernel
theorem dX1_stirByDraw_43 : decode cX1_stirByDraw 43 = .ok (.iload_n 2, 1) := by decide +kernel
theorem dX1_stirByDraw_44 : decode cX1_stirByDraw 44 = .ok (.iload_n 3, 1) := by decide +kernel
theorem dX1_stirByDraw_45 : decode cX1_stirByDraw 45 = .ok (.iload 4, 2) := by decide +kernel
theorem dX1_stirByDraw_47 : decode cX1_stirByDraw 47 = .ok (.invokevirtual 48, 3) := by decide +kernel
theorem dX1_stirByDraw_50 : decode cX1_stirByDraw 50 = .ok (.ifCond .ne 11, 3) := by decide +kernel
theorem dX1_stirByDraw_61 : decode cX1_stirByDraw 61 = .ok (.return_, 1) := by decide +kernel
theorem dX1_stirByDraw_53 : decode cX1_stirByDraw 53 = .ok (.aload_n 1, 1) := by decide +kernel
theorem dX1_stirByDraw_54 : decode cX1_stirByDraw 54 = .ok (.iload_n 2, 1) := by decide +kernel
theorem dX1_stirByDraw_55 : decode cX1_stirByDraw 55 = .ok (.iload_n 3, 1) := by decide +kernel
theorem dX1_stirByDraw_56 : decode cX1_stirByDraw 56 = .ok (.iload 4, 2) := by decide +kernel
theorem dX1_stirByDraw_58 : decode cX1_stirByDraw 58 = .ok (.invokevirtual 52, 3) := by decide +kernel
theorem dX1_stirByDraw_20 : decode cX1_stirByDraw 20 = .ok (.aload_n 1, 1) := by decide +kernel
theorem dX1_stirByDraw_21 : decode cX1_stirByDraw 21 = .ok (.getfield 42, 3) := by decide +kernel
theorem dX1_stirByDraw_24 : decode cX1_stirByDraw 24 = .ok (.goto 7, 3) := by decide +kernel
theorem dX1_stirByDraw_8 : decode cX1_stirByDraw 8 = .ok (.return_, 1) := by decide +kernel
theorem dX1_rowByDraw_0 : decode cX1_rowByDraw 0 = .ok (.iconst 0, 1) := by decide +kernel
theorem dX1_rowByDraw_1 : decode cX1_rowByDraw 1 = .ok (.istore_n 2, 1) := by decide +kernel
theorem dX1_rowByDraw_2 : decode cX1_rowByDraw 2 = .ok (.iload_n 2, 1) := by decide +kernel
theorem dX1_rowByDraw_3 : decode cX1_rowByDraw 3 = .ok (.aload_n 1, 1) := by decide +kernel
theorem dX1_rowByDraw_4 : decode cX1_rowByDraw 4 = .ok (.getfield 56, 3) := by decide +kernel
theorem dX1_rowByDraw_7 : decode cX1_rowByDraw 7 = .ok (.if_icmp .ge 46, 3) := by decide +kernel
theorem dX1_rowByDraw_53 : decode cX1_rowByDraw 53 = .ok (.return_, 1) := by decide +kernel
theorem dX1_passDays_0 : decode cX1_passDays 0 = .ok (.aload_n 0, 1) := by decide +kernel
theorem dX1_passDays_1 : decode cX1_passDays 1 = .ok (.iload_n 3, 1) := by decide +kernel
theorem dX1_passDays_2 : decode cX1_passDays 2 = .ok (.putfield 9, 3) := by decide +kernel
theorem dX1_passDays_5 : decode cX1_passDays 5 = .ok (.iload_n 2, 1) := by decide +kernel
theorem dX1_passDays_6 : decode cX1_passDays 6 = .ok (.aload_n 1, 1) := by decide +kernel
theorem dX1_passDays_7 : decode cX1_passDays 7 = .ok (.invokevirtual 16, 3) := by decide +kernel
theorem dX1_passDays_10 : decode cX1_passDays 10 = .ok (.invokestatic 22, 3) := by decide +kernel
theorem dX1_passDays_13 : decode cX1_passDays 13 = .ok (.istore 4, 2) := by decide +kernel
theorem dX1_passDays_15 : decode cX1_passDays 15 = .ok (.iconst 0, 1) := by decide +kernel
theorem dX1_passDays_16 : decode cX1_passDays 16 = .ok (.istore 5, 2) := by decide +kernel
theorem dX1_passDays_18 : decode cX1_passDays 18 = .ok (.iload 5, 2) := by decide +kernel
theorem dX1_passDays_20 : decode cX1_passDays 20 = .ok (.iload 4, 2) := by decide +kernel
theorem dX1_passDays_22 : decode cX1_passDays 22 = .ok (.if_icmp .ge 23, 3) := by decide +kernel
theorem dX1_passDays_25 : decode cX1_passDays 25 = .ok (.aload_n 0, 1) := by decide +kernel
theorem dX1_passDays_26 : decode cX1_passDays 26 = .ok (.aload_n 1, 1) := by decide +kernel
theorem dX1_passDays_27 : decode cX1_passDays 27 = .ok (.invokevirtual 28, 3) := by decide +kernel
theorem dX1_passDays_30 : decode cX1_passDays 30 = .ok (.aload_n 0, 1) := by decide +kernel
theorem dX1_passDays_31 : decode cX1_passDays 31 = .ok (.aload_n 1, 1) := by decide +kernel
theorem dX1_passDays_32 : decode cX1_passDays 32 = .ok (.invokevirtual 32, 3) := by decide +kernel
theorem dX1_passDays_35 : decode cX1_passDays 35 = .ok (.aload_n 1, 1) := by decide +kernel
theorem dX1_passDays_36 : decode cX1_passDays 36 = .ok (.invokevirtual 35, 3) := by decide +kernel
theorem dX1_passDays_39 : decode cX1_passDays 39 = .ok (.iinc 5 1, 3) := by decide +kernel
theorem dX1_passDays_42 : decode cX1_passDays 42 = .ok (.goto (-24), 3) := by decide +kernel
theorem dX1_passDays_45 : decode cX1_passDays 45 = .ok (.iload 4, 2) := by decide +kernel
theorem dX1_passDays_47 : decode cX1_passDays 47 = .ok (.ireturn, 1) := by decide +kernel
theorem dX3_init_0 : decode cX3_init 0 = .ok (.aload_n 0, 1) := by decide +kernel
theorem dX3_init_1 : decode cX3_init 1 = .ok (.invokespecial 1, 3) := by decide +kernel
theorem dX3_init_4 : decode cX3_init 4 = .ok (.aload_n 0, 1) := by decide +kernel
theorem dX3_init_5 : decode cX3_init 5 = .ok (.new 7, 3) := by decide +kernel
theorem dX3_init_8 : decode cX3_init 8 = .ok (.dup, 1) := by decide +kernel
theorem dX3_init_9 : decode cX3_init 9 = .ok (.invokespecial 9, 3) := by decide +kernel
theorem dX3_init_12 : decode cX3_init 12 = .ok (.putfield 10, 3) := by decide +kernel
theorem dX3_init_15 : decode cX3_init 15 = .ok (.aload_n 0, 1) := by decide +kernel
theorem dX3_init_16 : decode cX3_init 16 = .ok (.new 16, 3) := by decide +kernel
theorem dX3_init_19 : decode cX3_init 19 = .ok (.dup, 1) := by decide +kernel
theorem dX3_init_20 : decode cX3_init 20 = .ok (.invokespecial 18, 3) := by decide +kernel
theorem dX3_init_23 : decode cX3_init 23 = .ok (.putfield 19, 3) := by decide +kernel
theorem dX3_init_26 : decode cX3_init 26 = .ok (.aload_n 0, 1) := by decide +kernel
theorem dX3_init_27 : decode cX3_init 27 = .ok (.iconst 0, 1) := by decide +kernel
theorem dX3_init_28 : decode cX3_init 28 = .ok (.putfield 23, 3) := by decide +kernel
theorem dX3_init_31 : decode cX3_init 31 = .ok (.return_, 1) := by decide +kernel
set_option maxRecDepth 20000 in
theorem ggX2_init_X7_init : GoodIn wsX2_init wsX7_init := goodIn_r _ [12, 13, 2, 3, 14, 15, 16, 17, 18, 19, 20, 21, 22, 23, 24, 25, 26, 27, 7, 28, 29, 30, 31, 32, 33, 34, 35, 36, 37, 38, 42, 43, 44, 45, 46, 47, 48, 49, 50, 51, 52, 53, 54, 55, 56, 57, 58, 59, 60] (by decide +kernel) (by decide +kernel)
set_option maxRecDepth 20000 in
theorem ggX2_keep_X7_copy : GoodIn wsX2_keep wsX7_copy := goodIn_r _ [11, 12, 13, 14, 15, 16, 17, 18, 19, 20, 21, 22, 23, 24, 25, 26, 27, 28, 29, 30, 31, 32, 33, 34, 38, 39, 40, 41, 42, 43, 44, 45, 46, 47, 48, 49, 50, 51, 52, 53, 54, 55, 56] (by decide +kernel) (by decide +kernel)
set_option maxRecDepth 20000 in
theorem ggX5_open_X5_advance : GoodIn wsX5_open wsX5_advance := goodIn_r _ [14, 7, 5, 15, 16, 17, 6, 18, 19, 20, 13, 21, 22, 23, 24, 25, 26, 27, 28, 29, 30, 31, 32, 33, 34, 35, 36, 37, 38, 39, 40, 41, 42, 43, 44, 45, 46, 47, 48, 49, 50, 51, 52, 53, 54, 55, 56, 57, 58, 59, 60, 61, 62, 63, 64, 65, 66, 67, 68, 69, 70, 71, 72, 73, 74, 75, 76, 77, 78, 79, 80, 81, 82, 83, 84, 85, 86, 87, 88, 89, 90, 91, 92, 93, 94, 95, 96, 97, 98] (by decide +kernel) (by decide +kernel)
set_option maxRecDepth 20000 in
theorem ggX5_refuse_X5_refuseAt : GoodIn wsX5_refuse wsX5_refuseAt := goodIn_r _ [6, 7, 8, 9, 10, 11, 12, 13, 14, 15, 16, 17, 18, 19] (by decide +kernel) (by decide +kernel)
set_option maxRecDepth 20000 in
theorem ggX8_read_X7_empty : GoodIn wsX8_read wsX7_empty := goodIn_r _ [7, 8, 9, 10, 11, 12, 13, 14, 15, 16, 17, 18, 208, 209, 210, 211, 212, 213, 214, 215, 216, 217, 218, 219, 220, 221, 222, 223, 224, 225, 226] (by decide +kernel) (by decide +kernel)
set_option maxRecDepth 20000 in
theorem ggX0_live_X7_eatenBits : GoodIn wsX0_live wsX7_eatenBits := goodIn_r _ [149, 44, 45, 46, 47, 20, 48, 49, 40, 41, 42, 43, 157, 158, 159, 160, 161, 162, 163, 164, 165, 166, 167, 168, 169, 170, 171, 172, 173, 174, 175] (by decide +kernel) (by decide +kernel)
set_option maxRecDepth 20000 in
theorem ggX9_readOne_X5_nextWord : GoodIn wsX9_readOne wsX5_nextWord := goodIn_r _ [7, 8, 142, 143, 144, 145, 146, 147, 148, 149, 150, 151, 152] (by decide +kernel) (by decide +kernel)
set_option maxRecDepth 20000 in
theorem ggX9_readOne_X5_refuse : GoodIn wsX9_readOne wsX5_refuse := goodIn_r _ [12, 13, 14, 15, 16, 6, 17, 18, 19, 142, 143, 144, 145, 146, 147, 148, 149, 150, 151, 152] (by decide +kernel) (by decide +kernel)
set_option maxRecDepth 20000 in
theorem ggX9_readAll_X9_readOne : GoodIn wsX9_readAll wsX9_readOne := goodIn_r _ [100, 101, 102, 5, 6, 7, 8, 9, 10, 103, 104, 105, 106, 18, 107, 108, 109, 110, 111, 112, 11, 12, 13, 14, 15, 16, 17, 19, 20, 21, 22, 23, 24, 25, 26, 27, 28, 29, 30, 31, 32, 33, 34, 35, 36, 37, 38, 39, 40, 41, 42, 43, 44, 45, 46, 47, 48, 49, 50, 51, 52, 53, 54, 55, 56, 57, 58, 59, 60, 61, 62, 63, 64, 65, 66, 67, 68, 69, 70, 71, 72, 73, 74, 75, 76, 77, 78, 79, 80, 81, 82, 83, 84, 85, 86, 87, 88, 89, 113, 114, 115, 4, 116, 117, 118, 119, 120, 121, 1, 2, 3, 90, 91, 92, 93, 94, 95, 122, 123, 124, 125, 126, 127, 128, 129, 130, 131, 132, 133, 134, 135, 136, 137, 138, 139, 140, 141, 0, 96, 97, 98, 99, 142, 143, 144, 145, 146, 147, 148, 149, 150, 151, 152, 153, 154, 155, 156, 157, 158, 159, 160, 161, 162, 163, 164, 165, 166, 167, 168, 169, 170, 171, 172, 173, 174] (by decide +kernel) (by decide +kernel)
set_option maxRecDepth 20000 in
theorem ggX9_readCond_X9_readAll : GoodIn wsX9_readCond wsX9_readAll := goodIn_r _ [96, 97, 98, 99, 4, 5, 6, 7, 8, 9, 10, 11, 12, 13, 14, 15, 16, 17, 18, 19, 20, 21, 22, 23, 24, 25, 26, 27, 28, 29, 30, 31, 32, 33, 34, 35, 36, 37, 38, 39, 40, 41, 42, 43, 44, 45, 46, 47, 48, 49, 50, 51, 52, 53, 54, 55, 56, 57, 58, 59, 60, 61, 62, 63, 64, 65, 66, 67, 68, 69, 70, 71, 72, 73, 74, 75, 76, 77, 78, 79, 80, 81, 82, 83, 84, 85, 86, 87, 88, 89, 90, 91, 92, 93, 94, 95, 0, 1, 2, 3, 100, 101, 102, 103, 104, 105, 106, 107, 108, 109, 110, 111, 112, 113, 114, 115, 116, 117, 118, 119, 120, 121, 122, 123, 124, 125, 126, 127, 128, 129, 130, 131, 132, 133, 134, 135, 136, 137, 138, 139, 140, 141, 142, 143, 144, 145, 146, 147, 148, 149, 150, 151, 152, 153, 154, 155, 156, 157, 158, 159, 160, 161, 162, 163, 164, 165, 166, 167, 168, 169, 170, 171, 172, 173, 174] (by decide +kernel) (by decide +kernel)
set_option maxRecDepth 20000 in
theorem ggX9_read_X9_forget : GoodIn wsX9_read wsX9_forget := goodIn_r _ [6, 7, 8, 158, 159, 160] (by decide +kernel) (by decide +kernel)
set_option maxRecDepth 20000 in
theorem ggX9_read_X9_readCond : GoodIn wsX9_read wsX9_readCond := goodIn_r _ [12, 13, 14, 15, 5, 16, 17, 18, 19, 20, 21, 22, 23, 24, 25, 26, 27, 28, 29, 30, 31, 32, 33, 34, 35, 36, 37, 38, 39, 40, 41, 42, 43, 44, 45, 46, 47, 48, 49, 50, 51, 52, 53, 54, 55, 56, 57, 58, 59, 60, 61, 62, 63, 64, 65, 66, 67, 68, 69, 70, 71, 72, 73, 74, 75, 76, 77, 78, 79, 80, 81, 82, 83, 84, 85, 86, 87, 88, 89, 90, 91, 92, 93, 94, 95, 96, 97, 98, 99, 100, 101, 102, 103, 104, 7, 105, 106, 107, 108, 109, 110, 1, 8, 111, 112, 113, 114, 115, 116, 117, 118, 119, 120, 9, 10, 11, 121, 122, 123, 124, 125, 126, 127, 128, 129, 130, 131, 132, 133, 134, 135, 136, 137, 138, 139, 140, 141, 142, 143, 144, 145, 146, 147, 148, 149, 150, 151, 152, 153, 154, 155, 156, 157, 158, 159, 160, 161, 162, 163, 164, 165, 166, 167, 168, 169, 170, 171, 172, 173, 174, 175, 176, 177, 178, 179] (by decide +kernel) (by decide +kernel)
set_option maxRecDepth 20000 in
theorem ggX6_find_X7_isBoat : GoodIn wsX6_find wsX7_isBoat := goodIn_r _ [9, 10, 78, 79, 80, 81, 82, 83, 84, 85, 86, 87, 88, 89, 90, 91, 92, 93, 94, 95, 96] (by decide +kernel) (by decide +kernel)
set_option maxRecDepth 20000 in
theorem ggX4_find_X7_isBoat : GoodIn wsX4_find wsX7_isBoat := goodIn_r _ [14, 15, 58, 59, 60, 61, 62, 63, 64, 65, 66, 67, 68, 69, 70, 71, 72, 73, 74, 75, 76] (by decide +kernel) (by decide +kernel)
set_option maxRecDepth 20000 in
theorem ggX10_look_X10_arePairs : GoodIn wsX10_look wsX10_arePairs := goodIn_r _ [6, 7, 8, 9, 10, 11, 12, 67, 68, 69, 70, 71, 72, 73, 74, 75, 76, 77, 78, 79, 80, 81, 82, 83, 84, 85] (by decide +kernel) (by decide +kernel)
set_option maxRecDepth 20000 in
theorem ggX1_stirByDraw_X1_draw : GoodIn wsX1_stirByDraw wsX1_draw := goodIn_r _ [7, 8, 9, 76] (by decide +kernel) (by decide +kernel)
set_option maxRecDepth 20000 in
theorem ggX1_stirByDraw_X7_whyNotStirred : GoodIn wsX1_stirByDraw wsX7_whyNotStirred := goodIn_r _ [14, 15, 16, 17, 13, 18, 19, 20, 21, 22, 23, 24, 25, 26, 57, 58, 59, 60, 61, 62, 63, 64, 65, 66, 67, 68, 69, 70, 71, 72, 73, 74, 75] (by decide +kernel) (by decide +kernel)
set_option maxRecDepth 20000 in
theorem ggX1_stirByDraw_X7_stirLine : GoodIn wsX1_stirByDraw wsX7_stirLine := goodIn_r _ [30, 31, 32, 33, 34, 35, 15, 16, 17, 13, 18, 19, 20, 36, 37, 38, 39, 40, 41, 42, 43, 44, 45, 46, 47, 48, 49, 50, 51, 52, 53, 54, 55, 56, 57, 58, 59, 60, 61, 62, 63, 64, 65, 66, 67, 68, 69, 70, 71, 72, 73, 74, 75] (by decide +kernel) (by decide +kernel)
set_option maxRecDepth 20000 in
theorem ggX1_passDays_X7_daysLeft : GoodIn wsX1_passDays wsX7_daysLeft := goodIn_r _ [10, 11, 125, 126, 127, 128, 129, 130, 131, 132, 133, 134, 135, 136, 137, 138, 139, 140, 141, 142, 143] (by decide +kernel) (by decide +kernel)
set_option maxRecDepth 20000 in
theorem ggX1_passDays_X1_stirByDraw : GoodIn wsX1_passDays wsX1_stirByDraw := goodIn_r _ [16, 17, 18, 19, 20, 21, 15, 22, 1, 23, 24, 25, 26, 9, 27, 28, 29, 30, 31, 32, 33, 34, 35, 36, 37, 38, 39, 40, 41, 42, 43, 44, 45, 46, 47, 48, 49, 50, 51, 52, 53, 54, 55, 56, 57, 58, 59, 60, 61, 62, 63, 64, 65, 66, 67, 68, 69, 125, 126, 127, 128, 129, 130, 131, 132, 133, 134, 135, 136, 137, 138, 139, 140, 141, 142, 143, 124] (by decide +kernel) (by decide +kernel)
set_option maxRecDepth 20000 in
theorem ggX1_passDays_X1_rowByDraw : GoodIn wsX1_passDays wsX1_rowByDraw := goodIn_r _ [73, 74, 75, 62, 63, 9, 64, 65, 66, 67, 68, 69, 46, 19, 20, 21, 15, 22, 1, 23, 76, 77, 78, 79, 47, 80, 61, 81, 82, 83, 84, 85, 86, 87, 88, 32, 33, 89, 90, 91, 92, 34, 35, 36, 37, 38, 39, 93, 94, 95, 96, 53, 97, 98, 99, 100, 101, 125, 126, 127, 128, 129, 130, 131, 132, 133, 134, 135, 136, 137, 138, 139, 140, 141, 142, 143, 124] (by decide +kernel) (by decide +kernel)
set_option maxRecDepth 20000 in
theorem ggX1_passDays_X7_passDay : GoodIn wsX1_passDays wsX7_passDay := goodIn_r _ [105, 46, 65, 80, 106, 38, 107, 108, 109, 4, 110, 11, 61, 62, 63, 9, 64, 66, 67, 68, 69, 111, 112, 113, 114, 47, 115, 116, 117, 118, 119, 34, 35, 36, 37, 39, 120, 121, 122, 123, 44, 45, 93, 94, 95, 96, 53, 125, 126, 127, 128, 129, 130, 131, 132, 133, 134, 135, 136, 137, 138, 139, 140, 141, 142, 143] (by decide +kernel) (by decide +kernel)
set_option maxRecDepth 20000 in
theorem ggX3_init_X7_init : GoodIn wsX3_init wsX7_init := goodIn_r _ [15, 16, 2, 3, 17, 18, 19, 20, 21, 22, 23, 24, 25, 26, 27, 28, 29, 30, 6, 31, 32, 33, 34, 35, 36, 37, 38, 39, 40, 41, 49, 50, 51, 52, 53, 54, 55, 56, 57, 58, 59, 60, 61, 62, 63, 64, 65, 66, 67] (by decide +kernel) (by decide +kernel)
set_option maxRecDepth 20000 in
theorem ggX3_init_X9_init : GoodIn wsX3_init wsX9_init := goodIn_r _ [44, 45, 2, 3, 17, 46, 47, 48, 71, 72, 73] (by decide +kernel) (by decide +kernel)
set_option maxRecDepth 20000 in
theorem gX2_init_X7_init : GoodIn wsX2_init (wsX7_init) := ggX2_init_X7_init
set_option maxRecDepth 20000 in
theorem gX2_keep_X7_copy : GoodIn wsX2_keep (va_wsS RX2 25 yX7_copy wsX7_copy) := goodIn_app (goodIn_of _ (by decide +kernel)) ggX2_keep_X7_copy
set_option maxRecDepth 20000 in
theorem gX5_open_X5_advance : GoodIn wsX5_open (wsV RX5 37 RX5 yX5_advance wsX5_advance) := goodIn_app (goodIn_of _ (by decide +kernel)) ggX5_open_X5_advance
set_option maxRecDepth 20000 in
theorem gX5_refuse_X5_refuseAt : GoodIn wsX5_refuse (wsV RX5 88 RX5 yX5_refuseAt wsX5_refuseAt) := goodIn_app (goodIn_of _ (by decide +kernel)) ggX5_refuse_X5_refuseAt
set_option maxRecDepth 20000 in
theorem gX8_read_X7_empty : GoodIn wsX8_read (wsV RX8 11 RX7 yX7_empty wsX7_empty) := goodIn_app (goodIn_of _ (by decide +kernel)) ggX8_read_X7_empty
set_option maxRecDepth 20000 in
theorem gX0_live_X7_eatenBits : GoodIn wsX0_live (wsV RX0 87 RX7 yX7_eatenBits wsX7_eatenBits) := goodIn_app (goodIn_of _ (by decide +kernel)) ggX0_live_X7_eatenBits
set_option maxRecDepth 20000 in
theorem gX9_readOne_X5_nextWord : GoodIn wsX9_readOne (wsV RX9 47 RX5 yX5_nextWord wsX5_nextWord) := goodIn_app (goodIn_of _ (by decide +kernel)) ggX9_readOne_X5_nextWord
set_option maxRecDepth 20000 in
theorem gX9_readOne_X5_refuse : GoodIn wsX9_readOne (wsV RX9 40 RX5 yX5_refuse wsX5_refuse) := goodIn_app (goodIn_of _ (by decide +kernel)) ggX9_readOne_X5_refuse
set_option maxRecDepth 20000 in
theorem gX9_readAll_X9_readOne : GoodIn wsX9_readAll (wsV RX9 57 RX9 yX9_readOne wsX9_readOne) := goodIn_app (goodIn_of _ (by decide +kernel)) ggX9_readAll_X9_readOne
set_option maxRecDepth 20000 in
theorem gX9_readCond_X9_readAll : GoodIn wsX9_readCond (wsV RX9 44 RX9 yX9_readAll wsX9_readAll) := goodIn_app (goodIn_of _ (by decide +kernel)) ggX9_readCond_X9_readAll
set_option maxRecDepth 20000 in
theorem gX9_read_X9_forget : GoodIn wsX9_read (wsV RX9 28 RX9 yX9_forget wsX9_forget) := goodIn_app (goodIn_of _ (by decide +kernel)) ggX9_read_X9_forget
set_option maxRecDepth 20000 in
theorem gX9_read_X9_readCond : GoodIn wsX9_read (wsV RX9 31 RX9 yX9_readCond wsX9_readCond) := goodIn_app (goodIn_of _ (by decide +kernel)) ggX9_read_X9_readCond
set_option maxRecDepth 20000 in
theorem gX6_find_X7_isBoat : GoodIn wsX6_find (wsV RX6 25 RX7 yX7_isBoat wsX7_isBoat) := goodIn_app (goodIn_of _ (by decide +kernel)) ggX6_find_X7_isBoat
set_option maxRecDepth 20000 in
theorem gX4_find_X7_isBoat : GoodIn wsX4_find (wsV RX4 22 RX7 yX7_isBoat wsX7_isBoat) := goodIn_app (goodIn_of _ (by decide +kernel)) ggX4_find_X7_isBoat
set_option maxRecDepth 20000 in
theorem gX10_look_X10_arePairs : GoodIn wsX10_look (va_wsS RX10 19 yX10_arePairs wsX10_arePairs) := goodIn_app (goodIn_of _ (by decide +kernel)) ggX10_look_X10_arePairs
set_option maxRecDepth 20000 in
theorem gX1_stirByDraw_X1_draw : GoodIn wsX1_stirByDraw (wsV RX1 38 RX1 yX1_draw wsX1_draw) := goodIn_app (goodIn_of _ (by decide +kernel)) ggX1_stirByDraw_X1_draw
set_option maxRecDepth 20000 in
theorem gX1_stirByDraw_X7_whyNotStirred : GoodIn wsX1_stirByDraw (wsV RX1 48 RX7 yX7_whyNotStirred wsX7_whyNotStirred) := goodIn_app (goodIn_of _ (by decide +kernel)) ggX1_stirByDraw_X7_whyNotStirred
set_option maxRecDepth 20000 in
theorem gX1_stirByDraw_X7_stirLine : GoodIn wsX1_stirByDraw (wsV RX1 52 RX7 yX7_stirLine wsX7_stirLine) := goodIn_app (goodIn_of _ (by decide +kernel)) ggX1_stirByDraw_X7_stirLine
set_option maxRecDepth 20000 in
theorem gX1_passDays_X7_daysLeft : GoodIn wsX1_passDays (wsV RX1 16 RX7 yX7_daysLeft wsX7_daysLeft) := goodIn_app (goodIn_of _ (by decide +kernel)) ggX1_passDays_X7_daysLeft
set_option maxRecDepth 20000 in
theorem gX1_passDays_X1_stirByDraw : GoodIn wsX1_passDays (wsV RX1 28 RX1 yX1_stirByDraw wsX1_stirByDraw) := goodIn_app (goodIn_of _ (by decide +kernel)) ggX1_passDays_X1_stirByDraw
set_option maxRecDepth 20000 in
theorem gX1_passDays_X1_rowByDraw : GoodIn wsX1_passDays (wsV RX1 32 RX1 yX1_rowByDraw wsX1_rowByDraw) := goodIn_app (goodIn_of _ (by decide +kernel)) ggX1_passDays_X1_rowByDraw
set_option maxRecDepth 20000 in
theorem gX1_passDays_X7_passDay : GoodIn wsX1_passDays (wsV RX1 35 RX7 yX7_passDay wsX7_passDay) := goodIn_app (goodIn_of _ (by decide +kernel)) ggX1_passDays_X7_passDay
set_option maxRecDepth 20000 in
theorem gX3_init_X7_init : GoodIn wsX3_init (wsX7_init) := ggX3_init_X7_init
set_option maxRecDepth 20000 in
theorem gX3_init_X9_init : GoodIn wsX3_init (wsX9_init) := ggX3_init_X9_init
set_option maxRecDepth 20000 in
theorem lf_History_init_1 (history : Nat) (q1 : Nat) (q3 : Nat) (thickness_6 : Nat) (lumpNames_7 : Nat) (lumpCells_8 : Nat) (boatNames_9 : Nat) (boatCells_10 : Nat) (loads_11 : Nat) (spoons_12 : Nat) (spoonsLeft_13 : Nat) (depths_14 : Nat) (thicknessG_15 : Nat → Int32) (g17 : Nat → Option Nat) (q21 : Nat) (thickness_24 : Nat) (lumpNames_25 : Nat) (lumpCells_26 : Nat) (boatNames_27 : Nat) (boatCells_28 : Nat) (loads_29 : Nat) (spoons_30 : Nat) (spoonsLeft_31 : Nat) (depths_32 : Nat) (thicknessG_33 : Nat → Int32) (g35 : Nat → Option Nat) (q39 : Nat) (thickness_42 : Nat) (lumpNames_43 : Nat) (lumpCells_44 : Nat) (boatNames_45 : Nat) (boatCells_46 : Nat) (loads_47 : Nat) (spoons_48 : Nat) (spoonsLeft_49 : Nat) (depths_50 : Nat) (thicknessG_51 : Nat → Int32) (g53 : Nat → Option Nat) (q57 : Nat) (thickness_60 : Nat) (lumpNames_61 : Nat) (lumpCells_62 : Nat) (boatNames_63 : Nat) (boatCells_64 : Nat) (loads_65 : Nat) (spoons_66 : Nat) (spoonsLeft_67 : Nat) (depths_68 : Nat) (thicknessG_69 : Nat → Int32) (g71 : Nat → Option Nat) (q75 : Nat) (thickness_78 : Nat) (lumpNames_79 : Nat) (lumpCells_80 : Nat) (boatNames_81 : Nat) (boatCells_82 : Nat) (loads_83 : Nat) (spoons_84 : Nat) (spoonsLeft_85 : Nat) (depths_86 : Nat) (thicknessG_87 : Nat → Int32) (g89 : Nat → Option Nat) (q93 : Nat) (thickness_96 : Nat) (lumpNames_97 : Nat) (lumpCells_98 : Nat) (boatNames_99 : Nat) (boatCells_100 : Nat) (loads_101 : Nat) (spoons_102 : Nat) (spoonsLeft_103 : Nat) (depths_104 : Nat) (thicknessG_105 : Nat → Int32) (g107 : Nat → Option Nat) (q111 : Nat) (thickness_114 : Nat) (lumpNames_115 : Nat) (lumpCells_116 : Nat) (boatNames_117 : Nat) (boatCells_118 : Nat) (loads_119 : Nat) (spoons_120 : Nat) (spoonsLeft_121 : Nat) (depths_122 : Nat) (thicknessG_123 : Nat → Int32) (g125 : Nat → Option Nat) (q129 : Nat) (thickness_132 : Nat) (lumpNames_133 : Nat) (lumpCells_134 : Nat) (boatNames_135 : Nat) (boatCells_136 : Nat) (loads_137 : Nat) (spoons_138 : Nat) (spoonsLeft_139 : Nat) (depths_140 : Nat) (thicknessG_141 : Nat → Int32) (g143 : Nat → Option Nat) (p16 : ∀ j, j < 36 → thicknessG_15 j = nI 0) (p34 : ∀ j, j < 36 → thicknessG_33 j = nI 0) (p52 : ∀ j, j < 36 → thicknessG_51 j = nI 0) (p70 : ∀ j, j < 36 → thicknessG_69 j = nI 0) (p88 : ∀ j, j < 36 → thicknessG_87 j = nI 0) (p106 : ∀ j, j < 36 → thicknessG_105 j = nI 0) (p124 : ∀ j, j < 36 → thicknessG_123 j = nI 0) (p142 : ∀ j, j < 36 → thicknessG_141 j = nI 0) (z145 : g143 0 = some q3) : g143 0 = some q3 := by
  assumption
set_option maxHeartbeats 4000000 in
set_option maxRecDepth 100000 in
theorem c_History_init (l : Launch) (dC : Nat → ClassId) (dI : Nat → Nat → Nat) (ky : Nat → ClassId) (sz : Nat) (history : Nat)  : Met l yX2_init wsX2_init ({ frames := 2, cells := 81, slots := 832, locals := 41 }) (PcX dC dI ky [.ref history] [(history, .inr (2, [.null, .int (nI 0), .int (nI 0)]))] sz) (va_Qv (fun (u : Nat × Nat × (Nat → Option Nat) × Nat × Nat × Nat × Nat × Nat × Nat × Nat × Nat × Nat × (Nat → Int32) × (Nat → Int64) × (Nat → Int32) × (Nat → Int64) × (Nat → Int32) × (Nat → Int32) × (Nat → Int32) × (Nat → Int32) × (Nat → Int32)) => match u with | (ring, rg, ringF, gthickness, glumpNames, glumpCells, gboatNames, gboatCells, gloads, gspoons, gspoonsLeft, gdepths, gthicknessG, glumpNamesG, glumpCellsG, gboatNamesG, gboatCellsG, gloadsG, gspoonsG, gspoonsLeftG, gdepthsG) => ringF 0 = some rg) (BU dC dI ky (fun (u : Nat × Nat × (Nat → Option Nat) × Nat × Nat × Nat × Nat × Nat × Nat × Nat × Nat × Nat × (Nat → Int32) × (Nat → Int64) × (Nat → Int32) × (Nat → Int64) × (Nat → Int32) × (Nat → Int32) × (Nat → Int32) × (Nat → Int32) × (Nat → Int32)) => match u with | (ring, rg, ringF, gthickness, glumpNames, glumpCells, gboatNames, gboatCells, gloads, gspoons, gspoonsLeft, gdepths, gthicknessG, glumpNamesG, glumpCellsG, gboatNamesG, gboatCellsG, gloadsG, gspoonsG, gspoonsLeftG, gdepthsG) => [(history, .inr (2, [.ref ring, .int (nI 0), .int (nI 0)])), (ring, .inl (ky 4, 8, .inr (.inr (.inr (.inr ringF))))), (rg, .inr (7, [.int (nI 4), .int (nI 4), .int (nI 10), .int (nI 1), .int (nI 3), .int (nI 0), .int (nI 0), .int (nI 0), .int (nI 0), .int (nI 0), .ref gthickness, .ref glumpNames, .ref glumpCells, .ref gboatNames, .ref gboatCells, .ref gloads, .ref gspoons, .ref gspoonsLeft, .ref gdepths])), (gthickness, .inl (ky 0, 36, .inl gthicknessG)), (glumpNames, .inl (ky 1, 6, .inr (.inl glumpNamesG))), (glumpCells, .inl (ky 0, 6, .inl glumpCellsG)), (gboatNames, .inl (ky 1, 6, .inr (.inl gboatNamesG))), (gboatCells, .inl (ky 0, 6, .inl gboatCellsG)), (gloads, .inl (ky 0, 6, .inl gloadsG)), (gspoons, .inl (ky 0, 6, .inl gspoonsG)), (gspoonsLeft, .inl (ky 0, 6, .inl gspoonsLeftG)), (gdepths, .inl (ky 0, 6, .inl gdepthsG))]) (va_A [(history, .inr (2, [.null, .int (nI 0), .int (nI 0)]))] sz)) (va_A [(history, .inr (2, [.null, .int (nI 0), .int (nI 0)]))] sz)) 81 832 (va_A [(history, .inr (2, [.null, .int (nI 0), .int (nI 0)]))] sz) := by
  refine Met.ofW (cc := cX2_init) (maxL := 2) (ret := none) (by decide) rfl ?_
  intro p e s m args below meth c s₁ B hml hv
  obtain ⟨rfl, hsz, hP, hK, hD0, hE⟩ := hv
  have hx := B.exec
  have hb := B.bytes
  have hr := B.returns
  have hts := atoms_spec (ws := wsX2_init) B.pre
  have hown : s.vm.findClass RX2 = some m.cls := findClass_of_methodNamed B.named
  have hlocks := B.notSynchronized
  have hini0 : meth.name = "<init>" := (name_of_methodNamed B.named B.method).1
  have hin2 : ∀ w ∈ u_ws RX2 TX2 3, w ∈ wsX2_init := by decide +kernel
  have hin7 : ∀ w ∈ u_ws RX7 TX7 19, w ∈ wsX2_init := by decide +kernel
  subst hsz
  have hD := hD0.self (sz := s.heap.size)
  generalize hAe : va_A [(history, .inr (2, [.null, .int (nI 0), .int (nI 0)]))] s.heap.size = A at hD ⊢
  have hA : ∀ q : Nat, s.heap.size ≤ q → A q := fun q h => by rw [← hAe]; exact Or.inr h
  have hS : va_S A s.heap s.heap [] := va_S.rf
  have hP : va_P (dC, dI) vwCl [(history, .inr (2, [.null, .int (nI 0), .int (nI 0)]))] s.heap := hP
  have hl := lv_entry ([.ref history]) (n := 2) (Nat.le_of_ble_eq_true rfl)
  rw [lg_entry_eq]
  generalize (lg_sl ([.ref history]) ++ List.replicate (2 - (lg_sl ([.ref history])).length) Slot.unset).toArray = ls at hl ⊢
  have hl : lv_has ls 2 [(0, .ref history)] := hl
  have hH0 : True := trivial
  refine lv_aload_n hx hb dX2_init_0 rfl (lv_at hl 0 rfl) ?_
  refine W.objInit hx hb hown (hts _ (List.mem_of_getElem? (i := 1) rfl)) (hts _ (List.mem_of_getElem? (i := 2) rfl)) (hts _ (List.mem_of_getElem? (i := 3) rfl)) rfl (by rw [hml]; exact hl.1) rfl dX2_init_1 (Nat.le_of_ble_eq_true rfl) (Nat.le_of_ble_eq_true rfl) ?_
  refine W.eq (g2 := F0 m 4 ls []) rfl ?_
  refine lv_aload_n hx hb dX2_init_4 rfl (lv_at hl 0 rfl) ?_
  refine lv_bipush (v := nI 8) hx hb dX2_init_5 (by decide) ?_
  refine r_newQ 4 (C := "PorridgeSea$Sea") hx hb hown (hts (.classLink RX2 11 RX7) (List.mem_of_getElem? (i := 4) rfl)) (va_AO.use hE.1) hK rfl hP hD hS hA (by decide) (by decide) (Nat.le_of_ble_eq_true rfl) (Nat.le_of_ble_eq_true rfl) dX2_init_7 (fun q1 H hP hD hS => ?_)
  refine W.widen (k := 1) (n := 8) (Nat.le_of_ble_eq_true rfl) (Nat.le_of_ble_eq_true rfl) ?_
  have hP : va_P (dC, dI) vwCl [(history, .inr (2, [.null, .int (nI 0), .int (nI 0)])), (q1, .inl (ky 4, 8, .inr (.inr (.inr (.inr (fun _ => none))))))] H := hP
  have hD : va_D A [(history, .inr (2, [.null, .int (nI 0), .int (nI 0)])), (q1, .inl (ky 4, 8, .inr (.inr (.inr (.inr (fun _ => none))))))] := hD
  refine va_putF (D := (dC, dI)) (ci := 2) (v := .ref q1) (ty := .array (.object "PorridgeSea$Sea")) (C := RX2) (T := TX2) (N := 3) hx hb hts hin2 tyX2 tyX2_ok nmX2 hown hK hP hD hS 0 rfl rfl 0 (by decide) (hts (.fieldLink RX2 13 "PorridgeSea$History" "ring" "[LPorridgeSea$Sea;") (List.mem_of_getElem? (i := 5) rfl)) (fun _ h9 => h9) rfl hini0 rfl (by decide +kernel) rfl rfl (Nat.le_of_ble_eq_true rfl) dX2_init_10 (fun H locs hP hD hS => ?_)
  have hP : va_P (dC, dI) vwCl [(history, .inr (2, [.ref q1, .int (nI 0), .int (nI 0)])), (q1, .inl (ky 4, 8, .inr (.inr (.inr (.inr (fun _ => none))))))] H := hP
  have hD : va_D A [(history, .inr (2, [.ref q1, .int (nI 0), .int (nI 0)])), (q1, .inl (ky 4, 8, .inr (.inr (.inr (.inr (fun _ => none))))))] := hD
  refine lv_iconst (v := nI 0) hx hb dX2_init_13 (by decide) ?_
  refine lv_istore_n (lv' := [(1, .int (nI 0)), (0, .ref history)]) hx hb dX2_init_14 rfl hl (by decide) rfl (fun ls hl => ?_)
  refine lv_iload_n hx hb dX2_init_15 rfl (lv_at hl 0 rfl) ?_
  refine lv_bipush (v := nI 8) hx hb dX2_init_16 (by decide) ?_
  refine lv_icmp_ge (tgt := 40) hx hb dX2_init_18 (by decide) (fun c2 => absurd c2 (by decide)) (fun c2 => ?_)
  refine lv_aload_n hx hb dX2_init_21 rfl (lv_at hl 1 rfl) ?_
  refine va_get (D := (dC, dI)) (ci := 2) (v := .ref q1) (C := RX2) (T := TX2) (N := 3) hx hb hts hin2 hown hK hP 0 rfl rfl 0 (by decide) (hts (.fieldLink RX2 13 "PorridgeSea$History" "ring" "[LPorridgeSea$Sea;") (List.mem_of_getElem? (i := 5) rfl)) (fun _ h9 => h9) rfl dX2_init_22 ?_
  refine lv_iload_n hx hb dX2_init_25 rfl (lv_at hl 0 rfl) ?_
  refine va_new (ci := 7) (fs := [.int (nI 0), .int (nI 0), .int (nI 0), .int (nI 0), .int (nI 0), .int (nI 0), .int (nI 0), .int (nI 0), .int (nI 0), .int (nI 0), .null, .null, .null, .null, .null, .null, .null, .null, .null]) (C := RX7) (T := TX7) (N := 19) hx hb hts hin7 tyX7 tyX7_ok hown (hts (.classLink RX2 11 RX7) (List.mem_of_getElem? (i := 4) rfl)) (hts (.instantiable RX7 19) (List.mem_of_getElem? (i := 6) rfl)) (hts (.initialized RX7) (List.mem_of_getElem? (i := 7) rfl)) hK hP hD hS hA rfl (by decide +kernel) (Nat.le_of_ble_eq_true rfl) (Nat.le_of_ble_eq_true rfl) dX2_init_26 (fun q3 H hP hD hS => ?_)
  refine W.widen (k := 2) (n := 27) (Nat.le_of_ble_eq_true rfl) (Nat.le_of_ble_eq_true rfl) ?_
  have hP : va_P (dC, dI) vwCl [(history, .inr (2, [.ref q1, .int (nI 0), .int (nI 0)])), (q1, .inl (ky 4, 8, .inr (.inr (.inr (.inr (fun _ => none)))))), (q3, .inr (7, [.int (nI 0), .int (nI 0), .int (nI 0), .int (nI 0), .int (nI 0), .int (nI 0), .int (nI 0), .int (nI 0), .int (nI 0), .int (nI 0), .null, .null, .null, .null, .null, .null, .null, .null, .null]))] H := hP
  have hD : va_D A [(history, .inr (2, [.ref q1, .int (nI 0), .int (nI 0)])), (q1, .inl (ky 4, 8, .inr (.inr (.inr (.inr (fun _ => none)))))), (q3, .inr (7, [.int (nI 0), .int (nI 0), .int (nI 0), .int (nI 0), .int (nI 0), .int (nI 0), .int (nI 0), .int (nI 0), .int (nI 0), .int (nI 0), .null, .null, .null, .null, .null, .null, .null, .null, .null]))] := hD
  refine lv_dup hx hb dX2_init_29 rfl ?_
  refine r_call_v (wr := [(history, .inr (2, [.ref q1, .int (nI 0), .int (nI 0)])), (q1, .inl (ky 4, 8, .inr (.inr (.inr (.inr (fun _ => none))))))]) (va_runI (As := []) (rest := [.ref q3, .int (nI 0), .ref q1]) ⟨hx, hb, hml, hown, hts⟩ (c_Sea_init l dC dI ky H.size q3) (cwI 0 hts gX2_init_X7_init rfl rfl rfl (hts (.initialized RX7) (List.mem_of_getElem? (i := 7) rfl)) (hts (.methodLink RX2 17 yX7_init) (List.mem_of_getElem? (i := 10) rfl)) (hts (.instanceMethod yX7_init) (List.mem_of_getElem? (i := 11) rfl)) rfl (by decide +kernel) ⟨(Nat.le_of_ble_eq_true rfl), (Nat.le_of_ble_eq_true rfl)⟩) (pre_US hK hP hD [2] (by decide) rfl) rfl rfl hl.1 rfl (lv_room (Nat.le_of_ble_eq_true rfl)) dX2_init_30 ⟨(Nat.le_of_ble_eq_true rfl), (Nat.le_of_ble_eq_true rfl)⟩) hP hD hS hA [2] [0, 1] rfl rfl (by decide) (by decide) (fun  u4 H locs p5 hP hD hS => ?_)
  obtain ⟨thickness_6, lumpNames_7, lumpCells_8, boatNames_9, boatCells_10, loads_11, spoons_12, spoonsLeft_13, depths_14, thicknessG_15⟩ := u4
  try dsimp only at p5
  have p16 := p5
  refine W.widen (k := 11) (n := 111) (Nat.le_of_ble_eq_true rfl) (Nat.le_of_ble_eq_true rfl) ?_
  have hP : va_P (dC, dI) vwCl [(history, .inr (2, [.ref q1, .int (nI 0), .int (nI 0)])), (q1, .inl (ky 4, 8, .inr (.inr (.inr (.inr (fun _ => none)))))), (q3, .inr (7, [.int (nI 4), .int (nI 4), .int (nI 10), .int (nI 1), .int (nI 3), .int (nI 0), .int (nI 0), .int (nI 0), .int (nI 0), .int (nI 0), .ref thickness_6, .ref lumpNames_7, .ref lumpCells_8, .ref boatNames_9, .ref boatCells_10, .ref loads_11, .ref spoons_12, .ref spoonsLeft_13, .ref depths_14])), (thickness_6, .inl (ky 0, 36, .inl thicknessG_15)), (lumpNames_7, .inl (ky 1, 6, .inr (.inl (fun _ => 0)))), (lumpCells_8, .inl (ky 0, 6, .inl (fun _ => 0))), (boatNames_9, .inl (ky 1, 6, .inr (.inl (fun _ => 0)))), (boatCells_10, .inl (ky 0, 6, .inl (fun _ => 0))), (loads_11, .inl (ky 0, 6, .inl (fun _ => 0))), (spoons_12, .inl (ky 0, 6, .inl (fun _ => 0))), (spoonsLeft_13, .inl (ky 0, 6, .inl (fun _ => 0))), (depths_14, .inl (ky 0, 6, .inl (fun _ => 0)))] H := hP
  have hD : va_D A [(history, .inr (2, [.ref q1, .int (nI 0), .int (nI 0)])), (q1, .inl (ky 4, 8, .inr (.inr (.inr (.inr (fun _ => none)))))), (q3, .inr (7, [.int (nI 4), .int (nI 4), .int (nI 10), .int (nI 1), .int (nI 3), .int (nI 0), .int (nI 0), .int (nI 0), .int (nI 0), .int (nI 0), .ref thickness_6, .ref lumpNames_7, .ref lumpCells_8, .ref boatNames_9, .ref boatCells_10, .ref loads_11, .ref spoons_12, .ref spoonsLeft_13, .ref depths_14])), (thickness_6, .inl (ky 0, 36, .inl thicknessG_15)), (lumpNames_7, .inl (ky 1, 6, .inr (.inl (fun _ => 0)))), (lumpCells_8, .inl (ky 0, 6, .inl (fun _ => 0))), (boatNames_9, .inl (ky 1, 6, .inr (.inl (fun _ => 0)))), (boatCells_10, .inl (ky 0, 6, .inl (fun _ => 0))), (loads_11, .inl (ky 0, 6, .inl (fun _ => 0))), (spoons_12, .inl (ky 0, 6, .inl (fun _ => 0))), (spoonsLeft_13, .inl (ky 0, 6, .inl (fun _ => 0))), (depths_14, .inl (ky 0, 6, .inl (fun _ => 0)))] := hD
  refine r_aast hx hb hK hP hD hS 1 4 2 7 rfl rfl rfl rfl 0 (by decide) (by decide) dX2_init_33 (fun H locs hP hD hS => ?_)
  have hP : va_P (dC, dI) vwCl [(history, .inr (2, [.ref q1, .int (nI 0), .int (nI 0)])), (q1, .inl (ky 4, 8, .inr (.inr (.inr (.inr (va_up (fun _ => none) 0 (some q3))))))), (q3, .inr (7, [.int (nI 4), .int (nI 4), .int (nI 10), .int (nI 1), .int (nI 3), .int (nI 0), .int (nI 0), .int (nI 0), .int (nI 0), .int (nI 0), .ref thickness_6, .ref lumpNames_7, .ref lumpCells_8, .ref boatNames_9, .ref boatCells_10, .ref loads_11, .ref spoons_12, .ref spoonsLeft_13, .ref depths_14])), (thickness_6, .inl (ky 0, 36, .inl thicknessG_15)), (lumpNames_7, .inl (ky 1, 6, .inr (.inl (fun _ => 0)))), (lumpCells_8, .inl (ky 0, 6, .inl (fun _ => 0))), (boatNames_9, .inl (ky 1, 6, .inr (.inl (fun _ => 0)))), (boatCells_10, .inl (ky 0, 6, .inl (fun _ => 0))), (loads_11, .inl (ky 0, 6, .inl (fun _ => 0))), (spoons_12, .inl (ky 0, 6, .inl (fun _ => 0))), (spoonsLeft_13, .inl (ky 0, 6, .inl (fun _ => 0))), (depths_14, .inl (ky 0, 6, .inl (fun _ => 0)))] H := hP
  have hD : va_D A [(history, .inr (2, [.ref q1, .int (nI 0), .int (nI 0)])), (q1, .inl (ky 4, 8, .inr (.inr (.inr (.inr (va_up (fun _ => none) 0 (some q3))))))), (q3, .inr (7, [.int (nI 4), .int (nI 4), .int (nI 10), .int (nI 1), .int (nI 3), .int (nI 0), .int (nI 0), .int (nI 0), .int (nI 0), .int (nI 0), .ref thickness_6, .ref lumpNames_7, .ref lumpCells_8, .ref boatNames_9, .ref boatCells_10, .ref loads_11, .ref spoons_12, .ref spoonsLeft_13, .ref depths_14])), (thickness_6, .inl (ky 0, 36, .inl thicknessG_15)), (lumpNames_7, .inl (ky 1, 6, .inr (.inl (fun _ => 0)))), (lumpCells_8, .inl (ky 0, 6, .inl (fun _ => 0))), (boatNames_9, .inl (ky 1, 6, .inr (.inl (fun _ => 0)))), (boatCells_10, .inl (ky 0, 6, .inl (fun _ => 0))), (loads_11, .inl (ky 0, 6, .inl (fun _ => 0))), (spoons_12, .inl (ky 0, 6, .inl (fun _ => 0))), (spoonsLeft_13, .inl (ky 0, 6, .inl (fun _ => 0))), (depths_14, .inl (ky 0, 6, .inl (fun _ => 0)))] := hD
  obtain ⟨g17, e18⟩ : ∃ z9, z9 = va_up (fun _ => none) 0 (some q3) := ⟨_, rfl⟩
  rw [← e18] at hP hD
  have z19 : g17 0 = some q3 := by rw [e18]; rfl
  have hP : va_P (dC, dI) vwCl [(history, .inr (2, [.ref q1, .int (nI 0), .int (nI 0)])), (q1, .inl (ky 4, 8, .inr (.inr (.inr (.inr g17))))), (q3, .inr (7, [.int (nI 4), .int (nI 4), .int (nI 10), .int (nI 1), .int (nI 3), .int (nI 0), .int (nI 0), .int (nI 0), .int (nI 0), .int (nI 0), .ref thickness_6, .ref lumpNames_7, .ref lumpCells_8, .ref boatNames_9, .ref boatCells_10, .ref loads_11, .ref spoons_12, .ref spoonsLeft_13, .ref depths_14])), (thickness_6, .inl (ky 0, 36, .inl thicknessG_15)), (lumpNames_7, .inl (ky 1, 6, .inr (.inl (fun _ => 0)))), (lumpCells_8, .inl (ky 0, 6, .inl (fun _ => 0))), (boatNames_9, .inl (ky 1, 6, .inr (.inl (fun _ => 0)))), (boatCells_10, .inl (ky 0, 6, .inl (fun _ => 0))), (loads_11, .inl (ky 0, 6, .inl (fun _ => 0))), (spoons_12, .inl (ky 0, 6, .inl (fun _ => 0))), (spoonsLeft_13, .inl (ky 0, 6, .inl (fun _ => 0))), (depths_14, .inl (ky 0, 6, .inl (fun _ => 0)))] H := hP.sub [0, 1, 2, 3, 4, 5, 6, 7, 8, 9, 10, 11] rfl
  have hD : va_D A [(history, .inr (2, [.ref q1, .int (nI 0), .int (nI 0)])), (q1, .inl (ky 4, 8, .inr (.inr (.inr (.inr g17))))), (q3, .inr (7, [.int (nI 4), .int (nI 4), .int (nI 10), .int (nI 1), .int (nI 3), .int (nI 0), .int (nI 0), .int (nI 0), .int (nI 0), .int (nI 0), .ref thickness_6, .ref lumpNames_7, .ref lumpCells_8, .ref boatNames_9, .ref boatCells_10, .ref loads_11, .ref spoons_12, .ref spoonsLeft_13, .ref depths_14])), (thickness_6, .inl (ky 0, 36, .inl thicknessG_15)), (lumpNames_7, .inl (ky 1, 6, .inr (.inl (fun _ => 0)))), (lumpCells_8, .inl (ky 0, 6, .inl (fun _ => 0))), (boatNames_9, .inl (ky 1, 6, .inr (.inl (fun _ => 0)))), (boatCells_10, .inl (ky 0, 6, .inl (fun _ => 0))), (loads_11, .inl (ky 0, 6, .inl (fun _ => 0))), (spoons_12, .inl (ky 0, 6, .inl (fun _ => 0))), (spoonsLeft_13, .inl (ky 0, 6, .inl (fun _ => 0))), (depths_14, .inl (ky 0, 6, .inl (fun _ => 0)))] := hD.sub [0, 1, 2, 3, 4, 5, 6, 7, 8, 9, 10, 11] (by decide) rfl
  refine lv_iinc (v := nI 1) (lv' := [(1, .int (nI 1)), (0, .ref history)]) hx hb dX2_init_34 hl (k := 0) rfl (by decide) (by decide) rfl (fun ls hl => ?_)
  refine lv_goto (tgt := 15) hx hb dX2_init_37 (by decide) ?_
  refine lv_iload_n hx hb dX2_init_15 rfl (lv_at hl 0 rfl) ?_
  refine lv_bipush (v := nI 8) hx hb dX2_init_16 (by decide) ?_
  refine lv_icmp_ge (tgt := 40) hx hb dX2_init_18 (by decide) (fun c20 => absurd c20 (by decide)) (fun c20 => ?_)
  refine lv_aload_n hx hb dX2_init_21 rfl (lv_at hl 1 rfl) ?_
  refine va_get (D := (dC, dI)) (ci := 2) (v := .ref q1) (C := RX2) (T := TX2) (N := 3) hx hb hts hin2 hown hK hP 0 rfl rfl 0 (by decide) (hts (.fieldLink RX2 13 "PorridgeSea$History" "ring" "[LPorridgeSea$Sea;") (List.mem_of_getElem? (i := 5) rfl)) (fun _ h9 => h9) rfl dX2_init_22 ?_
  refine lv_iload_n hx hb dX2_init_25 rfl (lv_at hl 0 rfl) ?_
  refine va_new (ci := 7) (fs := [.int (nI 0), .int (nI 0), .int (nI 0), .int (nI 0), .int (nI 0), .int (nI 0), .int (nI 0), .int (nI 0), .int (nI 0), .int (nI 0), .null, .null, .null, .null, .null, .null, .null, .null, .null]) (C := RX7) (T := TX7) (N := 19) hx hb hts hin7 tyX7 tyX7_ok hown (hts (.classLink RX2 11 RX7) (List.mem_of_getElem? (i := 4) rfl)) (hts (.instantiable RX7 19) (List.mem_of_getElem? (i := 6) rfl)) (hts (.initialized RX7) (List.mem_of_getElem? (i := 7) rfl)) hK hP hD hS hA rfl (by decide +kernel) (Nat.le_of_ble_eq_true rfl) (Nat.le_of_ble_eq_true rfl) dX2_init_26 (fun q21 H hP hD hS => ?_)
  refine W.widen (k := 12) (n := 130) (Nat.le_of_ble_eq_true rfl) (Nat.le_of_ble_eq_true rfl) ?_
  have hP : va_P (dC, dI) vwCl [(history, .inr (2, [.ref q1, .int (nI 0), .int (nI 0)])), (q1, .inl (ky 4, 8, .inr (.inr (.inr (.inr g17))))), (q3, .inr (7, [.int (nI 4), .int (nI 4), .int (nI 10), .int (nI 1), .int (nI 3), .int (nI 0), .int (nI 0), .int (nI 0), .int (nI 0), .int (nI 0), .ref thickness_6, .ref lumpNames_7, .ref lumpCells_8, .ref boatNames_9, .ref boatCells_10, .ref loads_11, .ref spoons_12, .ref spoonsLeft_13, .ref depths_14])), (thickness_6, .inl (ky 0, 36, .inl thicknessG_15)), (lumpNames_7, .inl (ky 1, 6, .inr (.inl (fun _ => 0)))), (lumpCells_8, .inl (ky 0, 6, .inl (fun _ => 0))), (boatNames_9, .inl (ky 1, 6, .inr (.inl (fun _ => 0)))), (boatCells_10, .inl (ky 0, 6, .inl (fun _ => 0))), (loads_11, .inl (ky 0, 6, .inl (fun _ => 0))), (spoons_12, .inl (ky 0, 6, .inl (fun _ => 0))), (spoonsLeft_13, .inl (ky 0, 6, .inl (fun _ => 0))), (depths_14, .inl (ky 0, 6, .inl (fun _ => 0))), (q21, .inr (7, [.int (nI 0), .int (nI 0), .int (nI 0), .int (nI 0), .int (nI 0), .int (nI 0), .int (nI 0), .int (nI 0), .int (nI 0), .int (nI 0), .null, .null, .null, .null, .null, .null, .null, .null, .null]))] H := hP
  have hD : va_D A [(history, .inr (2, [.ref q1, .int (nI 0), .int (nI 0)])), (q1, .inl (ky 4, 8, .inr (.inr (.inr (.inr g17))))), (q3, .inr (7, [.int (nI 4), .int (nI 4), .int (nI 10), .int (nI 1), .int (nI 3), .int (nI 0), .int (nI 0), .int (nI 0), .int (nI 0), .int (nI 0), .ref thickness_6, .ref lumpNames_7, .ref lumpCells_8, .ref boatNames_9, .ref boatCells_10, .ref loads_11, .ref spoons_12, .ref spoonsLeft_13, .ref depths_14])), (thickness_6, .inl (ky 0, 36, .inl thicknessG_15)), (lumpNames_7, .inl (ky 1, 6, .inr (.inl (fun _ => 0)))), (lumpCells_8, .inl (ky 0, 6, .inl (fun _ => 0))), (boatNames_9, .inl (ky 1, 6, .inr (.inl (fun _ => 0)))), (boatCells_10, .inl (ky 0, 6, .inl (fun _ => 0))), (loads_11, .inl (ky 0, 6, .inl (fun _ => 0))), (spoons_12, .inl (ky 0, 6, .inl (fun _ => 0))), (spoonsLeft_13, .inl (ky 0, 6, .inl (fun _ => 0))), (depths_14, .inl (ky 0, 6, .inl (fun _ => 0))), (q21, .inr (7, [.int (nI 0), .int (nI 0), .int (nI 0), .int (nI 0), .int (nI 0), .int (nI 0), .int (nI 0), .int (nI 0), .int (nI 0), .int (nI 0), .null, .null, .null, .null, .null, .null, .null, .null, .null]))] := hD
  refine lv_dup hx hb dX2_init_29 rfl ?_
  refine r_call_v (wr := [(history, .inr (2, [.ref q1, .int (nI 0), .int (nI 0)])), (q1, .inl (ky 4, 8, .inr (.inr (.inr (.inr g17))))), (q3, .inr (7, [.int (nI 4), .int (nI 4), .int (nI 10), .int (nI 1), .int (nI 3), .int (nI 0), .int (nI 0), .int (nI 0), .int (nI 0), .int (nI 0), .ref thickness_6, .ref lumpNames_7, .ref lumpCells_8, .ref boatNames_9, .ref boatCells_10, .ref loads_11, .ref spoons_12, .ref spoonsLeft_13, .ref depths_14])), (thickness_6, .inl (ky 0, 36, .inl thicknessG_15)), (lumpNames_7, .inl (ky 1, 6, .inr (.inl (fun _ => 0)))), (lumpCells_8, .inl (ky 0, 6, .inl (fun _ => 0))), (boatNames_9, .inl (ky 1, 6, .inr (.inl (fun _ => 0)))), (boatCells_10, .inl (ky 0, 6, .inl (fun _ => 0))), (loads_11, .inl (ky 0, 6, .inl (fun _ => 0))), (spoons_12, .inl (ky 0, 6, .inl (fun _ => 0))), (spoonsLeft_13, .inl (ky 0, 6, .inl (fun _ => 0))), (depths_14, .inl (ky 0, 6, .inl (fun _ => 0)))]) (va_runI (As := []) (rest := [.ref q21, .int (nI 1), .ref q1]) ⟨hx, hb, hml, hown, hts⟩ (c_Sea_init l dC dI ky H.size q21) (cwI 0 hts gX2_init_X7_init rfl rfl rfl (hts (.initialized RX7) (List.mem_of_getElem? (i := 7) rfl)) (hts (.methodLink RX2 17 yX7_init) (List.mem_of_getElem? (i := 10) rfl)) (hts (.instanceMethod yX7_init) (List.mem_of_getElem? (i := 11) rfl)) rfl (by decide +kernel) ⟨(Nat.le_of_ble_eq_true rfl), (Nat.le_of_ble_eq_true rfl)⟩) (pre_US hK hP hD [12] (by decide) rfl) rfl rfl hl.1 rfl (lv_room (Nat.le_of_ble_eq_true rfl)) dX2_init_30 ⟨(Nat.le_of_ble_eq_true rfl), (Nat.le_of_ble_eq_true rfl)⟩) hP hD hS hA [12] [0, 1, 2, 3, 4, 5, 6, 7, 8, 9, 10, 11] rfl rfl (by decide) (by decide) (fun  u22 H locs p23 hP hD hS => ?_)
  obtain ⟨thickness_24, lumpNames_25, lumpCells_26, boatNames_27, boatCells_28, loads_29, spoons_30, spoonsLeft_31, depths_32, thicknessG_33⟩ := u22
  try dsimp only at p23
  have p34 := p23
  refine W.widen (k := 21) (n := 214) (Nat.le_of_ble_eq_true rfl) (Nat.le_of_ble_eq_true rfl) ?_
  have hP : va_P (dC, dI) vwCl [(history, .inr (2, [.ref q1, .int (nI 0), .int (nI 0)])), (q1, .inl (ky 4, 8, .inr (.inr (.inr (.inr g17))))), (q3, .inr (7, [.int (nI 4), .int (nI 4), .int (nI 10), .int (nI 1), .int (nI 3), .int (nI 0), .int (nI 0), .int (nI 0), .int (nI 0), .int (nI 0), .ref thickness_6, .ref lumpNames_7, .ref lumpCells_8, .ref boatNames_9, .ref boatCells_10, .ref loads_11, .ref spoons_12, .ref spoonsLeft_13, .ref depths_14])), (thickness_6, .inl (ky 0, 36, .inl thicknessG_15)), (lumpNames_7, .inl (ky 1, 6, .inr (.inl (fun _ => 0)))), (lumpCells_8, .inl (ky 0, 6, .inl (fun _ => 0))), (boatNames_9, .inl (ky 1, 6, .inr (.inl (fun _ => 0)))), (boatCells_10, .inl (ky 0, 6, .inl (fun _ => 0))), (loads_11, .inl (ky 0, 6, .inl (fun _ => 0))), (spoons_12, .inl (ky 0, 6, .inl (fun _ => 0))), (spoonsLeft_13, .inl (ky 0, 6, .inl (fun _ => 0))), (depths_14, .inl (ky 0, 6, .inl (fun _ => 0))), (q21, .inr (7, [.int (nI 4), .int (nI 4), .int (nI 10), .int (nI 1), .int (nI 3), .int (nI 0), .int (nI 0), .int (nI 0), .int (nI 0), .int (nI 0), .ref thickness_24, .ref lumpNames_25, .ref lumpCells_26, .ref boatNames_27, .ref boatCells_28, .ref loads_29, .ref spoons_30, .ref spoonsLeft_31, .ref depths_32])), (thickness_24, .inl (ky 0, 36, .inl thicknessG_33)), (lumpNames_25, .inl (ky 1, 6, .inr (.inl (fun _ => 0)))), (lumpCells_26, .inl (ky 0, 6, .inl (fun _ => 0))), (boatNames_27, .inl (ky 1, 6, .inr (.inl (fun _ => 0)))), (boatCells_28, .inl (ky 0, 6, .inl (fun _ => 0))), (loads_29, .inl (ky 0, 6, .inl (fun _ => 0))), (spoons_30, .inl (ky 0, 6, .inl (fun _ => 0))), (spoonsLeft_31, .inl (ky 0, 6, .inl (fun _ => 0))), (depths_32, .inl (ky 0, 6, .inl (fun _ => 0)))] H := hP
  have hD : va_D A [(history, .inr (2, [.ref q1, .int (nI 0), .int (nI 0)])), (q1, .inl (ky 4, 8, .inr (.inr (.inr (.inr g17))))), (q3, .inr (7, [.int (nI 4), .int (nI 4), .int (nI 10), .int (nI 1), .int (nI 3), .int (nI 0), .int (nI 0), .int (nI 0), .int (nI 0), .int (nI 0), .ref thickness_6, .ref lumpNames_7, .ref lumpCells_8, .ref boatNames_9, .ref boatCells_10, .ref loads_11, .ref spoons_12, .ref spoonsLeft_13, .ref depths_14])), (thickness_6, .inl (ky 0, 36, .inl thicknessG_15)), (lumpNames_7, .inl (ky 1, 6, .inr (.inl (fun _ => 0)))), (lumpCells_8, .inl (ky 0, 6, .inl (fun _ => 0))), (boatNames_9, .inl (ky 1, 6, .inr (.inl (fun _ => 0)))), (boatCells_10, .inl (ky 0, 6, .inl (fun _ => 0))), (loads_11, .inl (ky 0, 6, .inl (fun _ => 0))), (spoons_12, .inl (ky 0, 6, .inl (fun _ => 0))), (spoonsLeft_13, .inl (ky 0, 6, .inl (fun _ => 0))), (depths_14, .inl (ky 0, 6, .inl (fun _ => 0))), (q21, .inr (7, [.int (nI 4), .int (nI 4), .int (nI 10), .int (nI 1), .int (nI 3), .int (nI 0), .int (nI 0), .int (nI 0), .int (nI 0), .int (nI 0), .ref thickness_24, .ref lumpNames_25, .ref lumpCells_26, .ref boatNames_27, .ref boatCells_28, .ref loads_29, .ref spoons_30, .ref spoonsLeft_31, .ref depths_32])), (thickness_24, .inl (ky 0, 36, .inl thicknessG_33)), (lumpNames_25, .inl (ky 1, 6, .inr (.inl (fun _ => 0)))), (lumpCells_26, .inl (ky 0, 6, .inl (fun _ => 0))), (boatNames_27, .inl (ky 1, 6, .inr (.inl (fun _ => 0)))), (boatCells_28, .inl (ky 0, 6, .inl (fun _ => 0))), (loads_29, .inl (ky 0, 6, .inl (fun _ => 0))), (spoons_30, .inl (ky 0, 6, .inl (fun _ => 0))), (spoonsLeft_31, .inl (ky 0, 6, .inl (fun _ => 0))), (depths_32, .inl (ky 0, 6, .inl (fun _ => 0)))] := hD
  refine r_aast hx hb hK hP hD hS 1 4 12 7 rfl rfl rfl rfl 1 (by decide) (by decide) dX2_init_33 (fun H locs hP hD hS => ?_)
  have hP : va_P (dC, dI) vwCl [(history, .inr (2, [.ref q1, .int (nI 0), .int (nI 0)])), (q1, .inl (ky 4, 8, .inr (.inr (.inr (.inr (va_up g17 1 (some q21))))))), (q3, .inr (7, [.int (nI 4), .int (nI 4), .int (nI 10), .int (nI 1), .int (nI 3), .int (nI 0), .int (nI 0), .int (nI 0), .int (nI 0), .int (nI 0), .ref thickness_6, .ref lumpNames_7, .ref lumpCells_8, .ref boatNames_9, .ref boatCells_10, .ref loads_11, .ref spoons_12, .ref spoonsLeft_13, .ref depths_14])), (thickness_6, .inl (ky 0, 36, .inl thicknessG_15)), (lumpNames_7, .inl (ky 1, 6, .inr (.inl (fun _ => 0)))), (lumpCells_8, .inl (ky 0, 6, .inl (fun _ => 0))), (boatNames_9, .inl (ky 1, 6, .inr (.inl (fun _ => 0)))), (boatCells_10, .inl (ky 0, 6, .inl (fun _ => 0))), (loads_11, .inl (ky 0, 6, .inl (fun _ => 0))), (spoons_12, .inl (ky 0, 6, .inl (fun _ => 0))), (spoonsLeft_13, .inl (ky 0, 6, .inl (fun _ => 0))), (depths_14, .inl (ky 0, 6, .inl (fun _ => 0))), (q21, .inr (7, [.int (nI 4), .int (nI 4), .int (nI 10), .int (nI 1), .int (nI 3), .int (nI 0), .int (nI 0), .int (nI 0), .int (nI 0), .int (nI 0), .ref thickness_24, .ref lumpNames_25, .ref lumpCells_26, .ref boatNames_27, .ref boatCells_28, .ref loads_29, .ref spoons_30, .ref spoonsLeft_31, .ref depths_32])), (thickness_24, .inl (ky 0, 36, .inl thicknessG_33)), (lumpNames_25, .inl (ky 1, 6, .inr (.inl (fun _ => 0)))), (lumpCells_26, .inl (ky 0, 6, .inl (fun _ => 0))), (boatNames_27, .inl (ky 1, 6, .inr (.inl (fun _ => 0)))), (boatCells_28, .inl (ky 0, 6, .inl (fun _ => 0))), (loads_29, .inl (ky 0, 6, .inl (fun _ => 0))), (spoons_30, .inl (ky 0, 6, .inl (fun _ => 0))), (spoonsLeft_31, .inl (ky 0, 6, .inl (fun _ => 0))), (depths_32, .inl (ky 0, 6, .inl (fun _ => 0)))] H := hP
  have hD : va_D A [(history, .inr (2, [.ref q1, .int (nI 0), .int (nI 0)])), (q1, .inl (ky 4, 8, .inr (.inr (.inr (.inr (va_up g17 1 (some q21))))))), (q3, .inr (7, [.int (nI 4), .int (nI 4), .int (nI 10), .int (nI 1), .int (nI 3), .int (nI 0), .int (nI 0), .int (nI 0), .int (nI 0), .int (nI 0), .ref thickness_6, .ref lumpNames_7, .ref lumpCells_8, .ref boatNames_9, .ref boatCells_10, .ref loads_11, .ref spoons_12, .ref spoonsLeft_13, .ref depths_14])), (thickness_6, .inl (ky 0, 36, .inl thicknessG_15)), (lumpNames_7, .inl (ky 1, 6, .inr (.inl (fun _ => 0)))), (lumpCells_8, .inl (ky 0, 6, .inl (fun _ => 0))), (boatNames_9, .inl (ky 1, 6, .inr (.inl (fun _ => 0)))), (boatCells_10, .inl (ky 0, 6, .inl (fun _ => 0))), (loads_11, .inl (ky 0, 6, .inl (fun _ => 0))), (spoons_12, .inl (ky 0, 6, .inl (fun _ => 0))), (spoonsLeft_13, .inl (ky 0, 6, .inl (fun _ => 0))), (depths_14, .inl (ky 0, 6, .inl (fun _ => 0))), (q21, .inr (7, [.int (nI 4), .int (nI 4), .int (nI 10), .int (nI 1), .int (nI 3), .int (nI 0), .int (nI 0), .int (nI 0), .int (nI 0), .int (nI 0), .ref thickness_24, .ref lumpNames_25, .ref lumpCells_26, .ref boatNames_27, .ref boatCells_28, .ref loads_29, .ref spoons_30, .ref spoonsLeft_31, .ref depths_32])), (thickness_24, .inl (ky 0, 36, .inl thicknessG_33)), (lumpNames_25, .inl (ky 1, 6, .inr (.inl (fun _ => 0)))), (lumpCells_26, .inl (ky 0, 6, .inl (fun _ => 0))), (boatNames_27, .inl (ky 1, 6, .inr (.inl (fun _ => 0)))), (boatCells_28, .inl (ky 0, 6, .inl (fun _ => 0))), (loads_29, .inl (ky 0, 6, .inl (fun _ => 0))), (spoons_30, .inl (ky 0, 6, .inl (fun _ => 0))), (spoonsLeft_31, .inl (ky 0, 6, .inl (fun _ => 0))), (depths_32, .inl (ky 0, 6, .inl (fun _ => 0)))] := hD
  obtain ⟨g35, e36⟩ : ∃ z9, z9 = va_up g17 1 (some q21) := ⟨_, rfl⟩
  rw [← e36] at hP hD
  have z37 : g35 0 = some q3 := by rw [e36]; exact z19
  have hP : va_P (dC, dI) vwCl [(history, .inr (2, [.ref q1, .int (nI 0), .int (nI 0)])), (q1, .inl (ky 4, 8, .inr (.inr (.inr (.inr g35))))), (q3, .inr (7, [.int (nI 4), .int (nI 4), .int (nI 10), .int (nI 1), .int (nI 3), .int (nI 0), .int (nI 0), .int (nI 0), .int (nI 0), .int (nI 0), .ref thickness_6, .ref lumpNames_7, .ref lumpCells_8, .ref boatNames_9, .ref boatCells_10, .ref loads_11, .ref spoons_12, .ref spoonsLeft_13, .ref depths_14])), (thickness_6, .inl (ky 0, 36, .inl thicknessG_15)), (lumpNames_7, .inl (ky 1, 6, .inr (.inl (fun _ => 0)))), (lumpCells_8, .inl (ky 0, 6, .inl (fun _ => 0))), (boatNames_9, .inl (ky 1, 6, .inr (.inl (fun _ => 0)))), (boatCells_10, .inl (ky 0, 6, .inl (fun _ => 0))), (loads_11, .inl (ky 0, 6, .inl (fun _ => 0))), (spoons_12, .inl (ky 0, 6, .inl (fun _ => 0))), (spoonsLeft_13, .inl (ky 0, 6, .inl (fun _ => 0))), (depths_14, .inl (ky 0, 6, .inl (fun _ => 0)))] H := hP.sub [0, 1, 2, 3, 4, 5, 6, 7, 8, 9, 10, 11] rfl
  have hD : va_D A [(history, .inr (2, [.ref q1, .int (nI 0), .int (nI 0)])), (q1, .inl (ky 4, 8, .inr (.inr (.inr (.inr g35))))), (q3, .inr (7, [.int (nI 4), .int (nI 4), .int (nI 10), .int (nI 1), .int (nI 3), .int (nI 0), .int (nI 0), .int (nI 0), .int (nI 0), .int (nI 0), .ref thickness_6, .ref lumpNames_7, .ref lumpCells_8, .ref boatNames_9, .ref boatCells_10, .ref loads_11, .ref spoons_12, .ref spoonsLeft_13, .ref depths_14])), (thickness_6, .inl (ky 0, 36, .inl thicknessG_15)), (lumpNames_7, .inl (ky 1, 6, .inr (.inl (fun _ => 0)))), (lumpCells_8, .inl (ky 0, 6, .inl (fun _ => 0))), (boatNames_9, .inl (ky 1, 6, .inr (.inl (fun _ => 0)))), (boatCells_10, .inl (ky 0, 6, .inl (fun _ => 0))), (loads_11, .inl (ky 0, 6, .inl (fun _ => 0))), (spoons_12, .inl (ky 0, 6, .inl (fun _ => 0))), (spoonsLeft_13, .inl (ky 0, 6, .inl (fun _ => 0))), (depths_14, .inl (ky 0, 6, .inl (fun _ => 0)))] := hD.sub [0, 1, 2, 3, 4, 5, 6, 7, 8, 9, 10, 11] (by decide) rfl
  refine lv_iinc (v := nI 2) (lv' := [(1, .int (nI 2)), (0, .ref history)]) hx hb dX2_init_34 hl (k := 0) rfl (by decide) (by decide) rfl (fun ls hl => ?_)
  refine lv_goto (tgt := 15) hx hb dX2_init_37 (by decide) ?_
  refine lv_iload_n hx hb dX2_init_15 rfl (lv_at hl 0 rfl) ?_
  refine lv_bipush (v := nI 8) hx hb dX2_init_16 (by decide) ?_
  refine lv_icmp_ge (tgt := 40) hx hb dX2_init_18 (by decide) (fun c38 => absurd c38 (by decide)) (fun c38 => ?_)
  refine lv_aload_n hx hb dX2_init_21 rfl (lv_at hl 1 rfl) ?_
  refine va_get (D := (dC, dI)) (ci := 2) (v := .ref q1) (C := RX2) (T := TX2) (N := 3) hx hb hts hin2 hown hK hP 0 rfl rfl 0 (by decide) (hts (.fieldLink RX2 13 "PorridgeSea$History" "ring" "[LPorridgeSea$Sea;") (List.mem_of_getElem? (i := 5) rfl)) (fun _ h9 => h9) rfl dX2_init_22 ?_
  refine lv_iload_n hx hb dX2_init_25 rfl (lv_at hl 0 rfl) ?_
  refine va_new (ci := 7) (fs := [.int (nI 0), .int (nI 0), .int (nI 0), .int (nI 0), .int (nI 0), .int (nI 0), .int (nI 0), .int (nI 0), .int (nI 0), .int (nI 0), .null, .null, .null, .null, .null, .null, .null, .null, .null]) (C := RX7) (T := TX7) (N := 19) hx hb hts hin7 tyX7 tyX7_ok hown (hts (.classLink RX2 11 RX7) (List.mem_of_getElem? (i := 4) rfl)) (hts (.instantiable RX7 19) (List.mem_of_getElem? (i := 6) rfl)) (hts (.initialized RX7) (List.mem_of_getElem? (i := 7) rfl)) hK hP hD hS hA rfl (by decide +kernel) (Nat.le_of_ble_eq_true rfl) (Nat.le_of_ble_eq_true rfl) dX2_init_26 (fun q39 H hP hD hS => ?_)
  refine W.widen (k := 22) (n := 233) (Nat.le_of_ble_eq_true rfl) (Nat.le_of_ble_eq_true rfl) ?_
  have hP : va_P (dC, dI) vwCl [(history, .inr (2, [.ref q1, .int (nI 0), .int (nI 0)])), (q1, .inl (ky 4, 8, .inr (.inr (.inr (.inr g35))))), (q3, .inr (7, [.int (nI 4), .int (nI 4), .int (nI 10), .int (nI 1), .int (nI 3), .int (nI 0), .int (nI 0), .int (nI 0), .int (nI 0), .int (nI 0), .ref thickness_6, .ref lumpNames_7, .ref lumpCells_8, .ref boatNames_9, .ref boatCells_10, .ref loads_11, .ref spoons_12, .ref spoonsLeft_13, .ref depths_14])), (thickness_6, .inl (ky 0, 36, .inl thicknessG_15)), (lumpNames_7, .inl (ky 1, 6, .inr (.inl (fun _ => 0)))), (lumpCells_8, .inl (ky 0, 6, .inl (fun _ => 0))), (boatNames_9, .inl (ky 1, 6, .inr (.inl (fun _ => 0)))), (boatCells_10, .inl (ky 0, 6, .inl (fun _ => 0))), (loads_11, .inl (ky 0, 6, .inl (fun _ => 0))), (spoons_12, .inl (ky 0, 6, .inl (fun _ => 0))), (spoonsLeft_13, .inl (ky 0, 6, .inl (fun _ => 0))), (depths_14, .inl (ky 0, 6, .inl (fun _ => 0))), (q39, .inr (7, [.int (nI 0), .int (nI 0), .int (nI 0), .int (nI 0), .int (nI 0), .int (nI 0), .int (nI 0), .int (nI 0), .int (nI 0), .int (nI 0), .null, .null, .null, .null, .null, .null, .null, .null, .null]))] H := hP
  have hD : va_D A [(history, .inr (2, [.ref q1, .int (nI 0), .int (nI 0)])), (q1, .inl (ky 4, 8, .inr (.inr (.inr (.inr g35))))), (q3, .inr (7, [.int (nI 4), .int (nI 4), .int (nI 10), .int (nI 1), .int (nI 3), .int (nI 0), .int (nI 0), .int (nI 0), .int (nI 0), .int (nI 0), .ref thickness_6, .ref lumpNames_7, .ref lumpCells_8, .ref boatNames_9, .ref boatCells_10, .ref loads_11, .ref spoons_12, .ref spoonsLeft_13, .ref depths_14])), (thickness_6, .inl (ky 0, 36, .inl thicknessG_15)), (lumpNames_7, .inl (ky 1, 6, .inr (.inl (fun _ => 0)))), (lumpCells_8, .inl (ky 0, 6, .inl (fun _ => 0))), (boatNames_9, .inl (ky 1, 6, .inr (.inl (fun _ => 0)))), (boatCells_10, .inl (ky 0, 6, .inl (fun _ => 0))), (loads_11, .inl (ky 0, 6, .inl (fun _ => 0))), (spoons_12, .inl (ky 0, 6, .inl (fun _ => 0))), (spoonsLeft_13, .inl (ky 0, 6, .inl (fun _ => 0))), (depths_14, .inl (ky 0, 6, .inl (fun _ => 0))), (q39, .inr (7, [.int (nI 0), .int (nI 0), .int (nI 0), .int (nI 0), .int (nI 0), .int (nI 0), .int (nI 0), .int (nI 0), .int (nI 0), .int (nI 0), .null, .null, .null, .null, .null, .null, .null, .null, .null]))] := hD
  refine lv_dup hx hb dX2_init_29 rfl ?_
  refine r_call_v (wr := [(history, .inr (2, [.ref q1, .int (nI 0), .int (nI 0)])), (q1, .inl (ky 4, 8, .inr (.inr (.inr (.inr g35))))), (q3, .inr (7, [.int (nI 4), .int (nI 4), .int (nI 10), .int (nI 1), .int (nI 3), .int (nI 0), .int (nI 0), .int (nI 0), .int (nI 0), .int (nI 0), .ref thickness_6, .ref lumpNames_7, .ref lumpCells_8, .ref boatNames_9, .ref boatCells_10, .ref loads_11, .ref spoons_12, .ref spoonsLeft_13, .ref depths_14])), (thickness_6, .inl (ky 0, 36, .inl thicknessG_15)), (lumpNames_7, .inl (ky 1, 6, .inr (.inl (fun _ => 0)))), (lumpCells_8, .inl (ky 0, 6, .inl (fun _ => 0))), (boatNames_9, .inl (ky 1, 6, .inr (.inl (fun _ => 0)))), (boatCells_10, .inl (ky 0, 6, .inl (fun _ => 0))), (loads_11, .inl (ky 0, 6, .inl (fun _ => 0))), (spoons_12, .inl (ky 0, 6, .inl (fun _ => 0))), (spoonsLeft_13, .inl (ky 0, 6, .inl (fun _ => 0))), (depths_14, .inl (ky 0, 6, .inl (fun _ => 0)))]) (va_runI (As := []) (rest := [.ref q39, .int (nI 2), .ref q1]) ⟨hx, hb, hml, hown, hts⟩ (c_Sea_init l dC dI ky H.size q39) (cwI 0 hts gX2_init_X7_init rfl rfl rfl (hts (.initialized RX7) (List.mem_of_getElem? (i := 7) rfl)) (hts (.methodLink RX2 17 yX7_init) (List.mem_of_getElem? (i := 10) rfl)) (hts (.instanceMethod yX7_init) (List.mem_of_getElem? (i := 11) rfl)) rfl (by decide +kernel) ⟨(Nat.le_of_ble_eq_true rfl), (Nat.le_of_ble_eq_true rfl)⟩) (pre_US hK hP hD [12] (by decide) rfl) rfl rfl hl.1 rfl (lv_room (Nat.le_of_ble_eq_true rfl)) dX2_init_30 ⟨(Nat.le_of_ble_eq_true rfl), (Nat.le_of_ble_eq_true rfl)⟩) hP hD hS hA [12] [0, 1, 2, 3, 4, 5, 6, 7, 8, 9, 10, 11] rfl rfl (by decide) (by decide) (fun  u40 H locs p41 hP hD hS => ?_)
  obtain ⟨thickness_42, lumpNames_43, lumpCells_44, boatNames_45, boatCells_46, loads_47, spoons_48, spoonsLeft_49, depths_50, thicknessG_51⟩ := u40
  try dsimp only at p41
  have p52 := p41
  refine W.widen (k := 31) (n := 317) (Nat.le_of_ble_eq_true rfl) (Nat.le_of_ble_eq_true rfl) ?_
  have hP : va_P (dC, dI) vwCl [(history, .inr (2, [.ref q1, .int (nI 0), .int (nI 0)])), (q1, .inl (ky 4, 8, .inr (.inr (.inr (.inr g35))))), (q3, .inr (7, [.int (nI 4), .int (nI 4), .int (nI 10), .int (nI 1), .int (nI 3), .int (nI 0), .int (nI 0), .int (nI 0), .int (nI 0), .int (nI 0), .ref thickness_6, .ref lumpNames_7, .ref lumpCells_8, .ref boatNames_9, .ref boatCells_10, .ref loads_11, .ref spoons_12, .ref spoonsLeft_13, .ref depths_14])), (thickness_6, .inl (ky 0, 36, .inl thicknessG_15)), (lumpNames_7, .inl (ky 1, 6, .inr (.inl (fun _ => 0)))), (lumpCells_8, .inl (ky 0, 6, .inl (fun _ => 0))), (boatNames_9, .inl (ky 1, 6, .inr (.inl (fun _ => 0)))), (boatCells_10, .inl (ky 0, 6, .inl (fun _ => 0))), (loads_11, .inl (ky 0, 6, .inl (fun _ => 0))), (spoons_12, .inl (ky 0, 6, .inl (fun _ => 0))), (spoonsLeft_13, .inl (ky 0, 6, .inl (fun _ => 0))), (depths_14, .inl (ky 0, 6, .inl (fun _ => 0))), (q39, .inr (7, [.int (nI 4), .int (nI 4), .int (nI 10), .int (nI 1), .int (nI 3), .int (nI 0), .int (nI 0), .int (nI 0), .int (nI 0), .int (nI 0), .ref thickness_42, .ref lumpNames_43, .ref lumpCells_44, .ref boatNames_45, .ref boatCells_46, .ref loads_47, .ref spoons_48, .ref spoonsLeft_49, .ref depths_50])), (thickness_42, .inl (ky 0, 36, .inl thicknessG_51)), (lumpNames_43, .inl (ky 1, 6, .inr (.inl (fun _ => 0)))), (lumpCells_44, .inl (ky 0, 6, .inl (fun _ => 0))), (boatNames_45, .inl (ky 1, 6, .inr (.inl (fun _ => 0)))), (boatCells_46, .inl (ky 0, 6, .inl (fun _ => 0))), (loads_47, .inl (ky 0, 6, .inl (fun _ => 0))), (spoons_48, .inl (ky 0, 6, .inl (fun _ => 0))), (spoonsLeft_49, .inl (ky 0, 6, .inl (fun _ => 0))), (depths_50, .inl (ky 0, 6, .inl (fun _ => 0)))] H := hP
  have hD : va_D A [(history, .inr (2, [.ref q1, .int (nI 0), .int (nI 0)])), (q1, .inl (ky 4, 8, .inr (.inr (.inr (.inr g35))))), (q3, .inr (7, [.int (nI 4), .int (nI 4), .int (nI 10), .int (nI 1), .int (nI 3), .int (nI 0), .int (nI 0), .int (nI 0), .int (nI 0), .int (nI 0), .ref thickness_6, .ref lumpNames_7, .ref lumpCells_8, .ref boatNames_9, .ref boatCells_10, .ref loads_11, .ref spoons_12, .ref spoonsLeft_13, .ref depths_14])), (thickness_6, .inl (ky 0, 36, .inl thicknessG_15)), (lumpNames_7, .inl (ky 1, 6, .inr (.inl (fun _ => 0)))), (lumpCells_8, .inl (ky 0, 6, .inl (fun _ => 0))), (boatNames_9, .inl (ky 1, 6, .inr (.inl (fun _ => 0)))), (boatCells_10, .inl (ky 0, 6, .inl (fun _ => 0))), (loads_11, .inl (ky 0, 6, .inl (fun _ => 0))), (spoons_12, .inl (ky 0, 6, .inl (fun _ => 0))), (spoonsLeft_13, .inl (ky 0, 6, .inl (fun _ => 0))), (depths_14, .inl (ky 0, 6, .inl (fun _ => 0))), (q39, .inr (7, [.int (nI 4), .int (nI 4), .int (nI 10), .int (nI 1), .int (nI 3), .int (nI 0), .int (nI 0), .int (nI 0), .int (nI 0), .int (nI 0), .ref thickness_42, .ref lumpNames_43, .ref lumpCells_44, .ref boatNames_45, .ref boatCells_46, .ref loads_47, .ref spoons_48, .ref spoonsLeft_49, .ref depths_50])), (thickness_42, .inl (ky 0, 36, .inl thicknessG_51)), (lumpNames_43, .inl (ky 1, 6, .inr (.inl (fun _ => 0)))), (lumpCells_44, .inl (ky 0, 6, .inl (fun _ => 0))), (boatNames_45, .inl (ky 1, 6, .inr (.inl (fun _ => 0)))), (boatCells_46, .inl (ky 0, 6, .inl (fun _ => 0))), (loads_47, .inl (ky 0, 6, .inl (fun _ => 0))), (spoons_48, .inl (ky 0, 6, .inl (fun _ => 0))), (spoonsLeft_49, .inl (ky 0, 6, .inl (fun _ => 0))), (depths_50, .inl (ky 0, 6, .inl (fun _ => 0)))] := hD
  refine r_aast hx hb hK hP hD hS 1 4 12 7 rfl rfl rfl rfl 2 (by decide) (by decide) dX2_init_33 (fun H locs hP hD hS => ?_)
  have hP : va_P (dC, dI) vwCl [(history, .inr (2, [.ref q1, .int (nI 0), .int (nI 0)])), (q1, .inl (ky 4, 8, .inr (.inr (.inr (.inr (va_up g35 2 (some q39))))))), (q3, .inr (7, [.int (nI 4), .int (nI 4), .int (nI 10), .int (nI 1), .int (nI 3), .int (nI 0), .int (nI 0), .int (nI 0), .int (nI 0), .int (nI 0), .ref thickness_6, .ref lumpNames_7, .ref lumpCells_8, .ref boatNames_9, .ref boatCells_10, .ref loads_11, .ref spoons_12, .ref spoonsLeft_13, .ref depths_14])), (thickness_6, .inl (ky 0, 36, .inl thicknessG_15)), (lumpNames_7, .inl (ky 1, 6, .inr (.inl (fun _ => 0)))), (lumpCells_8, .inl (ky 0, 6, .inl (fun _ => 0))), (boatNames_9, .inl (ky 1, 6, .inr (.inl (fun _ => 0)))), (boatCells_10, .inl (ky 0, 6, .inl (fun _ => 0))), (loads_11, .inl (ky 0, 6, .inl (fun _ => 0))), (spoons_12, .inl (ky 0, 6, .inl (fun _ => 0))), (spoonsLeft_13, .inl (ky 0, 6, .inl (fun _ => 0))), (depths_14, .inl (ky 0, 6, .inl (fun _ => 0))), (q39, .inr (7, [.int (nI 4), .int (nI 4), .int (nI 10), .int (nI 1), .int (nI 3), .int (nI 0), .int (nI 0), .int (nI 0), .int (nI 0), .int (nI 0), .ref thickness_42, .ref lumpNames_43, .ref lumpCells_44, .ref boatNames_45, .ref boatCells_46, .ref loads_47, .ref spoons_48, .ref spoonsLeft_49, .ref depths_50])), (thickness_42, .inl (ky 0, 36, .inl thicknessG_51)), (lumpNames_43, .inl (ky 1, 6, .inr (.inl (fun _ => 0)))), (lumpCells_44, .inl (ky 0, 6, .inl (fun _ => 0))), (boatNames_45, .inl (ky 1, 6, .inr (.inl (fun _ => 0)))), (boatCells_46, .inl (ky 0, 6, .inl (fun _ => 0))), (loads_47, .inl (ky 0, 6, .inl (fun _ => 0))), (spoons_48, .inl (ky 0, 6, .inl (fun _ => 0))), (spoonsLeft_49, .inl (ky 0, 6, .inl (fun _ => 0))), (depths_50, .inl (ky 0, 6, .inl (fun _ => 0)))] H := hP
  have hD : va_D A [(history, .inr (2, [.ref q1, .int (nI 0), .int (nI 0)])), (q1, .inl (ky 4, 8, .inr (.inr (.inr (.inr (va_up g35 2 (some q39))))))), (q3, .inr (7, [.int (nI 4), .int (nI 4), .int (nI 10), .int (nI 1), .int (nI 3), .int (nI 0), .int (nI 0), .int (nI 0), .int (nI 0), .int (nI 0), .ref thickness_6, .ref lumpNames_7, .ref lumpCells_8, .ref boatNames_9, .ref boatCells_10, .ref loads_11, .ref spoons_12, .ref spoonsLeft_13, .ref depths_14])), (thickness_6, .inl (ky 0, 36, .inl thicknessG_15)), (lumpNames_7, .inl (ky 1, 6, .inr (.inl (fun _ => 0)))), (lumpCells_8, .inl (ky 0, 6, .inl (fun _ => 0))), (boatNames_9, .inl (ky 1, 6, .inr (.inl (fun _ => 0)))), (boatCells_10, .inl (ky 0, 6, .inl (fun _ => 0))), (loads_11, .inl (ky 0, 6, .inl (fun _ => 0))), (spoons_12, .inl (ky 0, 6, .inl (fun _ => 0))), (spoonsLeft_13, .inl (ky 0, 6, .inl (fun _ => 0))), (depths_14, .inl (ky 0, 6, .inl (fun _ => 0))), (q39, .inr (7, [.int (nI 4), .int (nI 4), .int (nI 10), .int (nI 1), .int (nI 3), .int (nI 0), .int (nI 0), .int (nI 0), .int (nI 0), .int (nI 0), .ref thickness_42, .ref lumpNames_43, .ref lumpCells_44, .ref boatNames_45, .ref boatCells_46, .ref loads_47, .ref spoons_48, .ref spoonsLeft_49, .ref depths_50])), (thickness_42, .inl (ky 0, 36, .inl thicknessG_51)), (lumpNames_43, .inl (ky 1, 6, .inr (.inl (fun _ => 0)))), (lumpCells_44, .inl (ky 0, 6, .inl (fun _ => 0))), (boatNames_45, .inl (ky 1, 6, .inr (.inl (fun _ => 0)))), (boatCells_46, .inl (ky 0, 6, .inl (fun _ => 0))), (loads_47, .inl (ky 0, 6, .inl (fun _ => 0))), (spoons_48, .inl (ky 0, 6, .inl (fun _ => 0))), (spoonsLeft_49, .inl (ky 0, 6, .inl (fun _ => 0))), (depths_50, .inl (ky 0, 6, .inl (fun _ => 0)))] := hD
  obtain ⟨g53, e54⟩ : ∃ z9, z9 = va_up g35 2 (some q39) := ⟨_, rfl⟩
  rw [← e54] at hP hD
  have z55 : g53 0 = some q3 := by rw [e54]; exact z37
  have hP : va_P (dC, dI) vwCl [(history, .inr (2, [.ref q1, .int (nI 0), .int (nI 0)])), (q1, .inl (ky 4, 8, .inr (.inr (.inr (.inr g53))))), (q3, .inr (7, [.int (nI 4), .int (nI 4), .int (nI 10), .int (nI 1), .int (nI 3), .int (nI 0), .int (nI 0), .int (nI 0), .int (nI 0), .int (nI 0), .ref thickness_6, .ref lumpNames_7, .ref lumpCells_8, .ref boatNames_9, .ref boatCells_10, .ref loads_11, .ref spoons_12, .ref spoonsLeft_13, .ref depths_14])), (thickness_6, .inl (ky 0, 36, .inl thicknessG_15)), (lumpNames_7, .inl (ky 1, 6, .inr (.inl (fun _ => 0)))), (lumpCells_8, .inl (ky 0, 6, .inl (fun _ => 0))), (boatNames_9, .inl (ky 1, 6, .inr (.inl (fun _ => 0)))), (boatCells_10, .inl (ky 0, 6, .inl (fun _ => 0))), (loads_11, .inl (ky 0, 6, .inl (fun _ => 0))), (spoons_12, .inl (ky 0, 6, .inl (fun _ => 0))), (spoonsLeft_13, .inl (ky 0, 6, .inl (fun _ => 0))), (depths_14, .inl (ky 0, 6, .inl (fun _ => 0)))] H := hP.sub [0, 1, 2, 3, 4, 5, 6, 7, 8, 9, 10, 11] rfl
  have hD : va_D A [(history, .inr (2, [.ref q1, .int (nI 0), .int (nI 0)])), (q1, .inl (ky 4, 8, .inr (.inr (.inr (.inr g53))))), (q3, .inr (7, [.int (nI 4), .int (nI 4), .int (nI 10), .int (nI 1), .int (nI 3), .int (nI 0), .int (nI 0), .int (nI 0), .int (nI 0), .int (nI 0), .ref thickness_6, .ref lumpNames_7, .ref lumpCells_8, .ref boatNames_9, .ref boatCells_10, .ref loads_11, .ref spoons_12, .ref spoonsLeft_13, .ref depths_14])), (thickness_6, .inl (ky 0, 36, .inl thicknessG_15)), (lumpNames_7, .inl (ky 1, 6, .inr (.inl (fun _ => 0)))), (lumpCells_8, .inl (ky 0, 6, .inl (fun _ => 0))), (boatNames_9, .inl (ky 1, 6, .inr (.inl (fun _ => 0)))), (boatCells_10, .inl (ky 0, 6, .inl (fun _ => 0))), (loads_11, .inl (ky 0, 6, .inl (fun _ => 0))), (spoons_12, .inl (ky 0, 6, .inl (fun _ => 0))), (spoonsLeft_13, .inl (ky 0, 6, .inl (fun _ => 0))), (depths_14, .inl (ky 0, 6, .inl (fun _ => 0)))] := hD.sub [0, 1, 2, 3, 4, 5, 6, 7, 8, 9, 10, 11] (by decide) rfl
  refine lv_iinc (v := nI 3) (lv' := [(1, .int (nI 3)), (0, .ref history)]) hx hb dX2_init_34 hl (k := 0) rfl (by decide) (by decide) rfl (fun ls hl => ?_)
  refine lv_goto (tgt := 15) hx hb dX2_init_37 (by decide) ?_
  refine lv_iload_n hx hb dX2_init_15 rfl (lv_at hl 0 rfl) ?_
  refine lv_bipush (v := nI 8) hx hb dX2_init_16 (by decide) ?_
  refine lv_icmp_ge (tgt := 40) hx hb dX2_init_18 (by decide) (fun c56 => absurd c56 (by decide)) (fun c56 => ?_)
  refine lv_aload_n hx hb dX2_init_21 rfl (lv_at hl 1 rfl) ?_
  refine va_get (D := (dC, dI)) (ci := 2) (v := .ref q1) (C := RX2) (T := TX2) (N := 3) hx hb hts hin2 hown hK hP 0 rfl rfl 0 (by decide) (hts (.fieldLink RX2 13 "PorridgeSea$History" "ring" "[LPorridgeSea$Sea;") (List.mem_of_getElem? (i := 5) rfl)) (fun _ h9 => h9) rfl dX2_init_22 ?_
  refine lv_iload_n hx hb dX2_init_25 rfl (lv_at hl 0 rfl) ?_
  refine va_new (ci := 7) (fs := [.int (nI 0), .int (nI 0), .int (nI 0), .int (nI 0), .int (nI 0), .int (nI 0), .int (nI 0), .int (nI 0), .int (nI 0), .int (nI 0), .null, .null, .null, .null, .null, .null, .null, .null, .null]) (C := RX7) (T := TX7) (N := 19) hx hb hts hin7 tyX7 tyX7_ok hown (hts (.classLink RX2 11 RX7) (List.mem_of_getElem? (i := 4) rfl)) (hts (.instantiable RX7 19) (List.mem_of_getElem? (i := 6) rfl)) (hts (.initialized RX7) (List.mem_of_getElem? (i := 7) rfl)) hK hP hD hS hA rfl (by decide +kernel) (Nat.le_of_ble_eq_true rfl) (Nat.le_of_ble_eq_true rfl) dX2_init_26 (fun q57 H hP hD hS => ?_)
  refine W.widen (k := 32) (n := 336) (Nat.le_of_ble_eq_true rfl) (Nat.le_of_ble_eq_true rfl) ?_
  have hP : va_P (dC, dI) vwCl [(history, .inr (2, [.ref q1, .int (nI 0), .int (nI 0)])), (q1, .inl (ky 4, 8, .inr (.inr (.inr (.inr g53))))), (q3, .inr (7, [.int (nI 4), .int (nI 4), .int (nI 10), .int (nI 1), .int (nI 3), .int (nI 0), .int (nI 0), .int (nI 0), .int (nI 0), .int (nI 0), .ref thickness_6, .ref lumpNames_7, .ref lumpCells_8, .ref boatNames_9, .ref boatCells_10, .ref loads_11, .ref spoons_12, .ref spoonsLeft_13, .ref depths_14])), (thickness_6, .inl (ky 0, 36, .inl thicknessG_15)), (lumpNames_7, .inl (ky 1, 6, .inr (.inl (fun _ => 0)))), (lumpCells_8, .inl (ky 0, 6, .inl (fun _ => 0))), (boatNames_9, .inl (ky 1, 6, .inr (.inl (fun _ => 0)))), (boatCells_10, .inl (ky 0, 6, .inl (fun _ => 0))), (loads_11, .inl (ky 0, 6, .inl (fun _ => 0))), (spoons_12, .inl (ky 0, 6, .inl (fun _ => 0))), (spoonsLeft_13, .inl (ky 0, 6, .inl (fun _ => 0))), (depths_14, .inl (ky 0, 6, .inl (fun _ => 0))), (q57, .inr (7, [.int (nI 0), .int (nI 0), .int (nI 0), .int (nI 0), .int (nI 0), .int (nI 0), .int (nI 0), .int (nI 0), .int (nI 0), .int (nI 0), .null, .null, .null, .null, .null, .null, .null, .null, .null]))] H := hP
  have hD : va_D A [(history, .inr (2, [.ref q1, .int (nI 0), .int (nI 0)])), (q1, .inl (ky 4, 8, .inr (.inr (.inr (.inr g53))))), (q3, .inr (7, [.int (nI 4), .int (nI 4), .int (nI 10), .int (nI 1), .int (nI 3), .int (nI 0), .int (nI 0), .int (nI 0), .int (nI 0), .int (nI 0), .ref thickness_6, .ref lumpNames_7, .ref lumpCells_8, .ref boatNames_9, .ref boatCells_10, .ref loads_11, .ref spoons_12, .ref spoonsLeft_13, .ref depths_14])), (thickness_6, .inl (ky 0, 36, .inl thicknessG_15)), (lumpNames_7, .inl (ky 1, 6, .inr (.inl (fun _ => 0)))), (lumpCells_8, .inl (ky 0, 6, .inl (fun _ => 0))), (boatNames_9, .inl (ky 1, 6, .inr (.inl (fun _ => 0)))), (boatCells_10, .inl (ky 0, 6, .inl (fun _ => 0))), (loads_11, .inl (ky 0, 6, .inl (fun _ => 0))), (spoons_12, .inl (ky 0, 6, .inl (fun _ => 0))), (spoonsLeft_13, .inl (ky 0, 6, .inl (fun _ => 0))), (depths_14, .inl (ky 0, 6, .inl (fun _ => 0))), (q57, .inr (7, [.int (nI 0), .int (nI 0), .int (nI 0), .int (nI 0), .int (nI 0), .int (nI 0), .int (nI 0), .int (nI 0), .int (nI 0), .int (nI 0), .null, .null, .null, .null, .null, .null, .null, .null, .null]))] := hD
  refine lv_dup hx hb dX2_init_29 rfl ?_
  refine r_call_v (wr := [(history, .inr (2, [.ref q1, .int (nI 0), .int (nI 0)])), (q1, .inl (ky 4, 8, .inr (.inr (.inr (.inr g53))))), (q3, .inr (7, [.int (nI 4), .int (nI 4), .int (nI 10), .int (nI 1), .int (nI 3), .int (nI 0), .int (nI 0), .int (nI 0), .int (nI 0), .int (nI 0), .ref thickness_6, .ref lumpNames_7, .ref lumpCells_8, .ref boatNames_9, .ref boatCells_10, .ref loads_11, .ref spoons_12, .ref spoonsLeft_13, .ref depths_14])), (thickness_6, .inl (ky 0, 36, .inl thicknessG_15)), (lumpNames_7, .inl (ky 1, 6, .inr (.inl (fun _ => 0)))), (lumpCells_8, .inl (ky 0, 6, .inl (fun _ => 0))), (boatNames_9, .inl (ky 1, 6, .inr (.inl (fun _ => 0)))), (boatCells_10, .inl (ky 0, 6, .inl (fun _ => 0))), (loads_11, .inl (ky 0, 6, .inl (fun _ => 0))), (spoons_12, .inl (ky 0, 6, .inl (fun _ => 0))), (spoonsLeft_13, .inl (ky 0, 6, .inl (fun _ => 0))), (depths_14, .inl (ky 0, 6, .inl (fun _ => 0)))]) (va_runI (As := []) (rest := [.ref q57, .int (nI 3), .ref q1]) ⟨hx, hb, hml, hown, hts⟩ (c_Sea_init l dC dI ky H.size q57) (cwI 0 hts gX2_init_X7_init rfl rfl rfl (hts (.initialized RX7) (List.mem_of_getElem? (i := 7) rfl)) (hts (.methodLink RX2 17 yX7_init) (List.mem_of_getElem? (i := 10) rfl)) (hts (.instanceMethod yX7_init) (List.mem_of_getElem? (i := 11) rfl)) rfl (by decide +kernel) ⟨(Nat.le_of_ble_eq_true rfl), (Nat.le_of_ble_eq_true rfl)⟩) (pre_US hK hP hD [12] (by decide) rfl) rfl rfl hl.1 rfl (lv_room (Nat.le_of_ble_eq_true rfl)) dX2_init_30 ⟨(Nat.le_of_ble_eq_true rfl), (Nat.le_of_ble_eq_true rfl)⟩) hP hD hS hA [12] [0, 1, 2, 3, 4, 5, 6, 7, 8, 9, 10, 11] rfl rfl (by decide) (by decide) (fun  u58 H locs p59 hP hD hS => ?_)
  obtain ⟨thickness_60, lumpNames_61, lumpCells_62, boatNames_63, boatCells_64, loads_65, spoons_66, spoonsLeft_67, depths_68, thicknessG_69⟩ := u58
  try dsimp only at p59
  have p70 := p59
  refine W.widen (k := 41) (n := 420) (Nat.le_of_ble_eq_true rfl) (Nat.le_of_ble_eq_true rfl) ?_
  have hP : va_P (dC, dI) vwCl [(history, .inr (2, [.ref q1, .int (nI 0), .int (nI 0)])), (q1, .inl (ky 4, 8, .inr (.inr (.inr (.inr g53))))), (q3, .inr (7, [.int (nI 4), .int (nI 4), .int (nI 10), .int (nI 1), .int (nI 3), .int (nI 0), .int (nI 0), .int (nI 0), .int (nI 0), .int (nI 0), .ref thickness_6, .ref lumpNames_7, .ref lumpCells_8, .ref boatNames_9, .ref boatCells_10, .ref loads_11, .ref spoons_12, .ref spoonsLeft_13, .ref depths_14])), (thickness_6, .inl (ky 0, 36, .inl thicknessG_15)), (lumpNames_7, .inl (ky 1, 6, .inr (.inl (fun _ => 0)))), (lumpCells_8, .inl (ky 0, 6, .inl (fun _ => 0))), (boatNames_9, .inl (ky 1, 6, .inr (.inl (fun _ => 0)))), (boatCells_10, .inl (ky 0, 6, .inl (fun _ => 0))), (loads_11, .inl (ky 0, 6, .inl (fun _ => 0))), (spoons_12, .inl (ky 0, 6, .inl (fun _ => 0))), (spoonsLeft_13, .inl (ky 0, 6, .inl (fun _ => 0))), (depths_14, .inl (ky 0, 6, .inl (fun _ => 0))), (q57, .inr (7, [.int (nI 4), .int (nI 4), .int (nI 10), .int (nI 1), .int (nI 3), .int (nI 0), .int (nI 0), .int (nI 0), .int (nI 0), .int (nI 0), .ref thickness_60, .ref lumpNames_61, .ref lumpCells_62, .ref boatNames_63, .ref boatCells_64, .ref loads_65, .ref spoons_66, .ref spoonsLeft_67, .ref depths_68])), (thickness_60, .inl (ky 0, 36, .inl thicknessG_69)), (lumpNames_61, .inl (ky 1, 6, .inr (.inl (fun _ => 0)))), (lumpCells_62, .inl (ky 0, 6, .inl (fun _ => 0))), (boatNames_63, .inl (ky 1, 6, .inr (.inl (fun _ => 0)))), (boatCells_64, .inl (ky 0, 6, .inl (fun _ => 0))), (loads_65, .inl (ky 0, 6, .inl (fun _ => 0))), (spoons_66, .inl (ky 0, 6, .inl (fun _ => 0))), (spoonsLeft_67, .inl (ky 0, 6, .inl (fun _ => 0))), (depths_68, .inl (ky 0, 6, .inl (fun _ => 0)))] H := hP
  have hD : va_D A [(history, .inr (2, [.ref q1, .int (nI 0), .int (nI 0)])), (q1, .inl (ky 4, 8, .inr (.inr (.inr (.inr g53))))), (q3, .inr (7, [.int (nI 4), .int (nI 4), .int (nI 10), .int (nI 1), .int (nI 3), .int (nI 0), .int (nI 0), .int (nI 0), .int (nI 0), .int (nI 0), .ref thickness_6, .ref lumpNames_7, .ref lumpCells_8, .ref boatNames_9, .ref boatCells_10, .ref loads_11, .ref spoons_12, .ref spoonsLeft_13, .ref depths_14])), (thickness_6, .inl (ky 0, 36, .inl thicknessG_15)), (lumpNames_7, .inl (ky 1, 6, .inr (.inl (fun _ => 0)))), (lumpCells_8, .inl (ky 0, 6, .inl (fun _ => 0))), (boatNames_9, .inl (ky 1, 6, .inr (.inl (fun _ => 0)))), (boatCells_10, .inl (ky 0, 6, .inl (fun _ => 0))), (loads_11, .inl (ky 0, 6, .inl (fun _ => 0))), (spoons_12, .inl (ky 0, 6, .inl (fun _ => 0))), (spoonsLeft_13, .inl (ky 0, 6, .inl (fun _ => 0))), (depths_14, .inl (ky 0, 6, .inl (fun _ => 0))), (q57, .inr (7, [.int (nI 4), .int (nI 4), .int (nI 10), .int (nI 1), .int (nI 3), .int (nI 0), .int (nI 0), .int (nI 0), .int (nI 0), .int (nI 0), .ref thickness_60, .ref lumpNames_61, .ref lumpCells_62, .ref boatNames_63, .ref boatCells_64, .ref loads_65, .ref spoons_66, .ref spoonsLeft_67, .ref depths_68])), (thickness_60, .inl (ky 0, 36, .inl thicknessG_69)), (lumpNames_61, .inl (ky 1, 6, .inr (.inl (fun _ => 0)))), (lumpCells_62, .inl (ky 0, 6, .inl (fun _ => 0))), (boatNames_63, .inl (ky 1, 6, .inr (.inl (fun _ => 0)))), (boatCells_64, .inl (ky 0, 6, .inl (fun _ => 0))), (loads_65, .inl (ky 0, 6, .inl (fun _ => 0))), (spoons_66, .inl (ky 0, 6, .inl (fun _ => 0))), (spoonsLeft_67, .inl (ky 0, 6, .inl (fun _ => 0))), (depths_68, .inl (ky 0, 6, .inl (fun _ => 0)))] := hD
  refine r_aast hx hb hK hP hD hS 1 4 12 7 rfl rfl rfl rfl 3 (by decide) (by decide) dX2_init_33 (fun H locs hP hD hS => ?_)
  have hP : va_P (dC, dI) vwCl [(history, .inr (2, [.ref q1, .int (nI 0), .int (nI 0)])), (q1, .inl (ky 4, 8, .inr (.inr (.inr (.inr (va_up g53 3 (some q57))))))), (q3, .inr (7, [.int (nI 4), .int (nI 4), .int (nI 10), .int (nI 1), .int (nI 3), .int (nI 0), .int (nI 0), .int (nI 0), .int (nI 0), .int (nI 0), .ref thickness_6, .ref lumpNames_7, .ref lumpCells_8, .ref boatNames_9, .ref boatCells_10, .ref loads_11, .ref spoons_12, .ref spoonsLeft_13, .ref depths_14])), (thickness_6, .inl (ky 0, 36, .inl thicknessG_15)), (lumpNames_7, .inl (ky 1, 6, .inr (.inl (fun _ => 0)))), (lumpCells_8, .inl (ky 0, 6, .inl (fun _ => 0))), (boatNames_9, .inl (ky 1, 6, .inr (.inl (fun _ => 0)))), (boatCells_10, .inl (ky 0, 6, .inl (fun _ => 0))), (loads_11, .inl (ky 0, 6, .inl (fun _ => 0))), (spoons_12, .inl (ky 0, 6, .inl (fun _ => 0))), (spoonsLeft_13, .inl (ky 0, 6, .inl (fun _ => 0))), (depths_14, .inl (ky 0, 6, .inl (fun _ => 0))), (q57, .inr (7, [.int (nI 4), .int (nI 4), .int (nI 10), .int (nI 1), .int (nI 3), .int (nI 0), .int (nI 0), .int (nI 0), .int (nI 0), .int (nI 0), .ref thickness_60, .ref lumpNames_61, .ref lumpCells_62, .ref boatNames_63, .ref boatCells_64, .ref loads_65, .ref spoons_66, .ref spoonsLeft_67, .ref depths_68])), (thickness_60, .inl (ky 0, 36, .inl thicknessG_69)), (lumpNames_61, .inl (ky 1, 6, .inr (.inl (fun _ => 0)))), (lumpCells_62, .inl (ky 0, 6, .inl (fun _ => 0))), (boatNames_63, .inl (ky 1, 6, .inr (.inl (fun _ => 0)))), (boatCells_64, .inl (ky 0, 6, .inl (fun _ => 0))), (loads_65, .inl (ky 0, 6, .inl (fun _ => 0))), (spoons_66, .inl (ky 0, 6, .inl (fun _ => 0))), (spoonsLeft_67, .inl (ky 0, 6, .inl (fun _ => 0))), (depths_68, .inl (ky 0, 6, .inl (fun _ => 0)))] H := hP
  have hD : va_D A [(history, .inr (2, [.ref q1, .int (nI 0), .int (nI 0)])), (q1, .inl (ky 4, 8, .inr (.inr (.inr (.inr (va_up g53 3 (some q57))))))), (q3, .inr (7, [.int (nI 4), .int (nI 4), .int (nI 10), .int (nI 1), .int (nI 3), .int (nI 0), .int (nI 0), .int (nI 0), .int (nI 0), .int (nI 0), .ref thickness_6, .ref lumpNames_7, .ref lumpCells_8, .ref boatNames_9, .ref boatCells_10, .ref loads_11, .ref spoons_12, .ref spoonsLeft_13, .ref depths_14])), (thickness_6, .inl (ky 0, 36, .inl thicknessG_15)), (lumpNames_7, .inl (ky 1, 6, .inr (.inl (fun _ => 0)))), (lumpCells_8, .inl (ky 0, 6, .inl (fun _ => 0))), (boatNames_9, .inl (ky 1, 6, .inr (.inl (fun _ => 0)))), (boatCells_10, .inl (ky 0, 6, .inl (fun _ => 0))), (loads_11, .inl (ky 0, 6, .inl (fun _ => 0))), (spoons_12, .inl (ky 0, 6, .inl (fun _ => 0))), (spoonsLeft_13, .inl (ky 0, 6, .inl (fun _ => 0))), (depths_14, .inl (ky 0, 6, .inl (fun _ => 0))), (q57, .inr (7, [.int (nI 4), .int (nI 4), .int (nI 10), .int (nI 1), .int (nI 3), .int (nI 0), .int (nI 0), .int (nI 0), .int (nI 0), .int (nI 0), .ref thickness_60, .ref lumpNames_61, .ref lumpCells_62, .ref boatNames_63, .ref boatCells_64, .ref loads_65, .ref spoons_66, .ref spoonsLeft_67, .ref depths_68])), (thickness_60, .inl (ky 0, 36, .inl thicknessG_69)), (lumpNames_61, .inl (ky 1, 6, .inr (.inl (fun _ => 0)))), (lumpCells_62, .inl (ky 0, 6, .inl (fun _ => 0))), (boatNames_63, .inl (ky 1, 6, .inr (.inl (fun _ => 0)))), (boatCells_64, .inl (ky 0, 6, .inl (fun _ => 0))), (loads_65, .inl (ky 0, 6, .inl (fun _ => 0))), (spoons_66, .inl (ky 0, 6, .inl (fun _ => 0))), (spoonsLeft_67, .inl (ky 0, 6, .inl (fun _ => 0))), (depths_68, .inl (ky 0, 6, .inl (fun _ => 0)))] := hD
  obtain ⟨g71, e72⟩ : ∃ z9, z9 = va_up g53 3 (some q57) := ⟨_, rfl⟩
  rw [← e72] at hP hD
  have z73 : g71 0 = some q3 := by rw [e72]; exact z55
  have hP : va_P (dC, dI) vwCl [(history, .inr (2, [.ref q1, .int (nI 0), .int (nI 0)])), (q1, .inl (ky 4, 8, .inr (.inr (.inr (.inr g71))))), (q3, .inr (7, [.int (nI 4), .int (nI 4), .int (nI 10), .int (nI 1), .int (nI 3), .int (nI 0), .int (nI 0), .int (nI 0), .int (nI 0), .int (nI 0), .ref thickness_6, .ref lumpNames_7, .ref lumpCells_8, .ref boatNames_9, .ref boatCells_10, .ref loads_11, .ref spoons_12, .ref spoonsLeft_13, .ref depths_14])), (thickness_6, .inl (ky 0, 36, .inl thicknessG_15)), (lumpNames_7, .inl (ky 1, 6, .inr (.inl (fun _ => 0)))), (lumpCells_8, .inl (ky 0, 6, .inl (fun _ => 0))), (boatNames_9, .inl (ky 1, 6, .inr (.inl (fun _ => 0)))), (boatCells_10, .inl (ky 0, 6, .inl (fun _ => 0))), (loads_11, .inl (ky 0, 6, .inl (fun _ => 0))), (spoons_12, .inl (ky 0, 6, .inl (fun _ => 0))), (spoonsLeft_13, .inl (ky 0, 6, .inl (fun _ => 0))), (depths_14, .inl (ky 0, 6, .inl (fun _ => 0)))] H := hP.sub [0, 1, 2, 3, 4, 5, 6, 7, 8, 9, 10, 11] rfl
  have hD : va_D A [(history, .inr (2, [.ref q1, .int (nI 0), .int (nI 0)])), (q1, .inl (ky 4, 8, .inr (.inr (.inr (.inr g71))))), (q3, .inr (7, [.int (nI 4), .int (nI 4), .int (nI 10), .int (nI 1), .int (nI 3), .int (nI 0), .int (nI 0), .int (nI 0), .int (nI 0), .int (nI 0), .ref thickness_6, .ref lumpNames_7, .ref lumpCells_8, .ref boatNames_9, .ref boatCells_10, .ref loads_11, .ref spoons_12, .ref spoonsLeft_13, .ref depths_14])), (thickness_6, .inl (ky 0, 36, .inl thicknessG_15)), (lumpNames_7, .inl (ky 1, 6, .inr (.inl (fun _ => 0)))), (lumpCells_8, .inl (ky 0, 6, .inl (fun _ => 0))), (boatNames_9, .inl (ky 1, 6, .inr (.inl (fun _ => 0)))), (boatCells_10, .inl (ky 0, 6, .inl (fun _ => 0))), (loads_11, .inl (ky 0, 6, .inl (fun _ => 0))), (spoons_12, .inl (ky 0, 6, .inl (fun _ => 0))), (spoonsLeft_13, .inl (ky 0, 6, .inl (fun _ => 0))), (depths_14, .inl (ky 0, 6, .inl (fun _ => 0)))] := hD.sub [0, 1, 2, 3, 4, 5, 6, 7, 8, 9, 10, 11] (by decide) rfl
  refine lv_iinc (v := nI 4) (lv' := [(1, .int (nI 4)), (0, .ref history)]) hx hb dX2_init_34 hl (k := 0) rfl (by decide) (by decide) rfl (fun ls hl => ?_)
  refine lv_goto (tgt := 15) hx hb dX2_init_37 (by decide) ?_
  refine lv_iload_n hx hb dX2_init_15 rfl (lv_at hl 0 rfl) ?_
  refine lv_bipush (v := nI 8) hx hb dX2_init_16 (by decide) ?_
  refine lv_icmp_ge (tgt := 40) hx hb dX2_init_18 (by decide) (fun c74 => absurd c74 (by decide)) (fun c74 => ?_)
  refine lv_aload_n hx hb dX2_init_21 rfl (lv_at hl 1 rfl) ?_
  refine va_get (D := (dC, dI)) (ci := 2) (v := .ref q1) (C := RX2) (T := TX2) (N := 3) hx hb hts hin2 hown hK hP 0 rfl rfl 0 (by decide) (hts (.fieldLink RX2 13 "PorridgeSea$History" "ring" "[LPorridgeSea$Sea;") (List.mem_of_getElem? (i := 5) rfl)) (fun _ h9 => h9) rfl dX2_init_22 ?_
  refine lv_iload_n hx hb dX2_init_25 rfl (lv_at hl 0 rfl) ?_
  refine va_new (ci := 7) (fs := [.int (nI 0), .int (nI 0), .int (nI 0), .int (nI 0), .int (nI 0), .int (nI 0), .int (nI 0), .int (nI 0), .int (nI 0), .int (nI 0), .null, .null, .null, .null, .null, .null, .null, .null, .null]) (C := RX7) (T := TX7) (N := 19) hx hb hts hin7 tyX7 tyX7_ok hown (hts (.classLink RX2 11 RX7) (List.mem_of_getElem? (i := 4) rfl)) (hts (.instantiable RX7 19) (List.mem_of_getElem? (i := 6) rfl)) (hts (.initialized RX7) (List.mem_of_getElem? (i := 7) rfl)) hK hP hD hS hA rfl (by decide +kernel) (Nat.le_of_ble_eq_true rfl) (Nat.le_of_ble_eq_true rfl) dX2_init_26 (fun q75 H hP hD hS => ?_)
  refine W.widen (k := 42) (n := 439) (Nat.le_of_ble_eq_true rfl) (Nat.le_of_ble_eq_true rfl) ?_
  have hP : va_P (dC, dI) vwCl [(history, .inr (2, [.ref q1, .int (nI 0), .int (nI 0)])), (q1, .inl (ky 4, 8, .inr (.inr (.inr (.inr g71))))), (q3, .inr (7, [.int (nI 4), .int (nI 4), .int (nI 10), .int (nI 1), .int (nI 3), .int (nI 0), .int (nI 0), .int (nI 0), .int (nI 0), .int (nI 0), .ref thickness_6, .ref lumpNames_7, .ref lumpCells_8, .ref boatNames_9, .ref boatCells_10, .ref loads_11, .ref spoons_12, .ref spoonsLeft_13, .ref depths_14])), (thickness_6, .inl (ky 0, 36, .inl thicknessG_15)), (lumpNames_7, .inl (ky 1, 6, .inr (.inl (fun _ => 0)))), (lumpCells_8, .inl (ky 0, 6, .inl (fun _ => 0))), (boatNames_9, .inl (ky 1, 6, .inr (.inl (fun _ => 0)))), (boatCells_10, .inl (ky 0, 6, .inl (fun _ => 0))), (loads_11, .inl (ky 0, 6, .inl (fun _ => 0))), (spoons_12, .inl (ky 0, 6, .inl (fun _ => 0))), (spoonsLeft_13, .inl (ky 0, 6, .inl (fun _ => 0))), (depths_14, .inl (ky 0, 6, .inl (fun _ => 0))), (q75, .inr (7, [.int (nI 0), .int (nI 0), .int (nI 0), .int (nI 0), .int (nI 0), .int (nI 0), .int (nI 0), .int (nI 0), .int (nI 0), .int (nI 0), .null, .null, .null, .null, .null, .null, .null, .null, .null]))] H := hP
  have hD : va_D A [(history, .inr (2, [.ref q1, .int (nI 0), .int (nI 0)])), (q1, .inl (ky 4, 8, .inr (.inr (.inr (.inr g71))))), (q3, .inr (7, [.int (nI 4), .int (nI 4), .int (nI 10), .int (nI 1), .int (nI 3), .int (nI 0), .int (nI 0), .int (nI 0), .int (nI 0), .int (nI 0), .ref thickness_6, .ref lumpNames_7, .ref lumpCells_8, .ref boatNames_9, .ref boatCells_10, .ref loads_11, .ref spoons_12, .ref spoonsLeft_13, .ref depths_14])), (thickness_6, .inl (ky 0, 36, .inl thicknessG_15)), (lumpNames_7, .inl (ky 1, 6, .inr (.inl (fun _ => 0)))), (lumpCells_8, .inl (ky 0, 6, .inl (fun _ => 0))), (boatNames_9, .inl (ky 1, 6, .inr (.inl (fun _ => 0)))), (boatCells_10, .inl (ky 0, 6, .inl (fun _ => 0))), (loads_11, .inl (ky 0, 6, .inl (fun _ => 0))), (spoons_12, .inl (ky 0, 6, .inl (fun _ => 0))), (spoonsLeft_13, .inl (ky 0, 6, .inl (fun _ => 0))), (depths_14, .inl (ky 0, 6, .inl (fun _ => 0))), (q75, .inr (7, [.int (nI 0), .int (nI 0), .int (nI 0), .int (nI 0), .int (nI 0), .int (nI 0), .int (nI 0), .int (nI 0), .int (nI 0), .int (nI 0), .null, .null, .null, .null, .null, .null, .null, .null, .null]))] := hD
  refine lv_dup hx hb dX2_init_29 rfl ?_
  refine r_call_v (wr := [(history, .inr (2, [.ref q1, .int (nI 0), .int (nI 0)])), (q1, .inl (ky 4, 8, .inr (.inr (.inr (.inr g71))))), (q3, .inr (7, [.int (nI 4), .int (nI 4), .int (nI 10), .int (nI 1), .int (nI 3), .int (nI 0), .int (nI 0), .int (nI 0), .int (nI 0), .int (nI 0), .ref thickness_6, .ref lumpNames_7, .ref lumpCells_8, .ref boatNames_9, .ref boatCells_10, .ref loads_11, .ref spoons_12, .ref spoonsLeft_13, .ref depths_14])), (thickness_6, .inl (ky 0, 36, .inl thicknessG_15)), (lumpNames_7, .inl (ky 1, 6, .inr (.inl (fun _ => 0)))), (lumpCells_8, .inl (ky 0, 6, .inl (fun _ => 0))), (boatNames_9, .inl (ky 1, 6, .inr (.inl (fun _ => 0)))), (boatCells_10, .inl (ky 0, 6, .inl (fun _ => 0))), (loads_11, .inl (ky 0, 6, .inl (fun _ => 0))), (spoons_12, .inl (ky 0, 6, .inl (fun _ => 0))), (spoonsLeft_13, .inl (ky 0, 6, .inl (fun _ => 0))), (depths_14, .inl (ky 0, 6, .inl (fun _ => 0)))]) (va_runI (As := []) (rest := [.ref q75, .int (nI 4), .ref q1]) ⟨hx, hb, hml, hown, hts⟩ (c_Sea_init l dC dI ky H.size q75) (cwI 0 hts gX2_init_X7_init rfl rfl rfl (hts (.initialized RX7) (List.mem_of_getElem? (i := 7) rfl)) (hts (.methodLink RX2 17 yX7_init) (List.mem_of_getElem? (i := 10) rfl)) (hts (.instanceMethod yX7_init) (List.mem_of_getElem? (i := 11) rfl)) rfl (by decide +kernel) ⟨(Nat.le_of_ble_eq_true rfl), (Nat.le_of_ble_eq_true rfl)⟩) (pre_US hK hP hD [12] (by decide) rfl) rfl rfl hl.1 rfl (lv_room (Nat.le_of_ble_eq_true rfl)) dX2_init_30 ⟨(Nat.le_of_ble_eq_true rfl), (Nat.le_of_ble_eq_true rfl)⟩) hP hD hS hA [12] [0, 1, 2, 3, 4, 5, 6, 7, 8, 9, 10, 11] rfl rfl (by decide) (by decide) (fun  u76 H locs p77 hP hD hS => ?_)
  obtain ⟨thickness_78, lumpNames_79, lumpCells_80, boatNames_81, boatCells_82, loads_83, spoons_84, spoonsLeft_85, depths_86, thicknessG_87⟩ := u76
  try dsimp only at p77
  have p88 := p77
  refine W.widen (k := 51) (n := 523) (Nat.le_of_ble_eq_true rfl) (Nat.le_of_ble_eq_true rfl) ?_
  have hP : va_P (dC, dI) vwCl [(history, .inr (2, [.ref q1, .int (nI 0), .int (nI 0)])), (q1, .inl (ky 4, 8, .inr (.inr (.inr (.inr g71))))), (q3, .inr (7, [.int (nI 4), .int (nI 4), .int (nI 10), .int (nI 1), .int (nI 3), .int (nI 0), .int (nI 0), .int (nI 0), .int (nI 0), .int (nI 0), .ref thickness_6, .ref lumpNames_7, .ref lumpCells_8, .ref boatNames_9, .ref boatCells_10, .ref loads_11, .ref spoons_12, .ref spoonsLeft_13, .ref depths_14])), (thickness_6, .inl (ky 0, 36, .inl thicknessG_15)), (lumpNames_7, .inl (ky 1, 6, .inr (.inl (fun _ => 0)))), (lumpCells_8, .inl (ky 0, 6, .inl (fun _ => 0))), (boatNames_9, .inl (ky 1, 6, .inr (.inl (fun _ => 0)))), (boatCells_10, .inl (ky 0, 6, .inl (fun _ => 0))), (loads_11, .inl (ky 0, 6, .inl (fun _ => 0))), (spoons_12, .inl (ky 0, 6, .inl (fun _ => 0))), (spoonsLeft_13, .inl (ky 0, 6, .inl (fun _ => 0))), (depths_14, .inl (ky 0, 6, .inl (fun _ => 0))), (q75, .inr (7, [.int (nI 4), .int (nI 4), .int (nI 10), .int (nI 1), .int (nI 3), .int (nI 0), .int (nI 0), .int (nI 0), .int (nI 0), .int (nI 0), .ref thickness_78, .ref lumpNames_79, .ref lumpCells_80, .ref boatNames_81, .ref boatCells_82, .ref loads_83, .ref spoons_84, .ref spoonsLeft_85, .ref depths_86])), (thickness_78, .inl (ky 0, 36, .inl thicknessG_87)), (lumpNames_79, .inl (ky 1, 6, .inr (.inl (fun _ => 0)))), (lumpCells_80, .inl (ky 0, 6, .inl (fun _ => 0))), (boatNames_81, .inl (ky 1, 6, .inr (.inl (fun _ => 0)))), (boatCells_82, .inl (ky 0, 6, .inl (fun _ => 0))), (loads_83, .inl (ky 0, 6, .inl (fun _ => 0))), (spoons_84, .inl (ky 0, 6, .inl (fun _ => 0))), (spoonsLeft_85, .inl (ky 0, 6, .inl (fun _ => 0))), (depths_86, .inl (ky 0, 6, .inl (fun _ => 0)))] H := hP
  have hD : va_D A [(history, .inr (2, [.ref q1, .int (nI 0), .int (nI 0)])), (q1, .inl (ky 4, 8, .inr (.inr (.inr (.inr g71))))), (q3, .inr (7, [.int (nI 4), .int (nI 4), .int (nI 10), .int (nI 1), .int (nI 3), .int (nI 0), .int (nI 0), .int (nI 0), .int (nI 0), .int (nI 0), .ref thickness_6, .ref lumpNames_7, .ref lumpCells_8, .ref boatNames_9, .ref boatCells_10, .ref loads_11, .ref spoons_12, .ref spoonsLeft_13, .ref depths_14])), (thickness_6, .inl (ky 0, 36, .inl thicknessG_15)), (lumpNames_7, .inl (ky 1, 6, .inr (.inl (fun _ => 0)))), (lumpCells_8, .inl (ky 0, 6, .inl (fun _ => 0))), (boatNames_9, .inl (ky 1, 6, .inr (.inl (fun _ => 0)))), (boatCells_10, .inl (ky 0, 6, .inl (fun _ => 0))), (loads_11, .inl (ky 0, 6, .inl (fun _ => 0))), (spoons_12, .inl (ky 0, 6, .inl (fun _ => 0))), (spoonsLeft_13, .inl (ky 0, 6, .inl (fun _ => 0))), (depths_14, .inl (ky 0, 6, .inl (fun _ => 0))), (q75, .inr (7, [.int (nI 4), .int (nI 4), .int (nI 10), .int (nI 1), .int (nI 3), .int (nI 0), .int (nI 0), .int (nI 0), .int (nI 0), .int (nI 0), .ref thickness_78, .ref lumpNames_79, .ref lumpCells_80, .ref boatNames_81, .ref boatCells_82, .ref loads_83, .ref spoons_84, .ref spoonsLeft_85, .ref depths_86])), (thickness_78, .inl (ky 0, 36, .inl thicknessG_87)), (lumpNames_79, .inl (ky 1, 6, .inr (.inl (fun _ => 0)))), (lumpCells_80, .inl (ky 0, 6, .inl (fun _ => 0))), (boatNames_81, .inl (ky 1, 6, .inr (.inl (fun _ => 0)))), (boatCells_82, .inl (ky 0, 6, .inl (fun _ => 0))), (loads_83, .inl (ky 0, 6, .inl (fun _ => 0))), (spoons_84, .inl (ky 0, 6, .inl (fun _ => 0))), (spoonsLeft_85, .inl (ky 0, 6, .inl (fun _ => 0))), (depths_86, .inl (ky 0, 6, .inl (fun _ => 0)))] := hD
  refine r_aast hx hb hK hP hD hS 1 4 12 7 rfl rfl rfl rfl 4 (by decide) (by decide) dX2_init_33 (fun H locs hP hD hS => ?_)
  have hP : va_P (dC, dI) vwCl [(history, .inr (2, [.ref q1, .int (nI 0), .int (nI 0)])), (q1, .inl (ky 4, 8, .inr (.inr (.inr (.inr (va_up g71 4 (some q75))))))), (q3, .inr (7, [.int (nI 4), .int (nI 4), .int (nI 10), .int (nI 1), .int (nI 3), .int (nI 0), .int (nI 0), .int (nI 0), .int (nI 0), .int (nI 0), .ref thickness_6, .ref lumpNames_7, .ref lumpCells_8, .ref boatNames_9, .ref boatCells_10, .ref loads_11, .ref spoons_12, .ref spoonsLeft_13, .ref depths_14])), (thickness_6, .inl (ky 0, 36, .inl thicknessG_15)), (lumpNames_7, .inl (ky 1, 6, .inr (.inl (fun _ => 0)))), (lumpCells_8, .inl (ky 0, 6, .inl (fun _ => 0))), (boatNames_9, .inl (ky 1, 6, .inr (.inl (fun _ => 0)))), (boatCells_10, .inl (ky 0, 6, .inl (fun _ => 0))), (loads_11, .inl (ky 0, 6, .inl (fun _ => 0))), (spoons_12, .inl (ky 0, 6, .inl (fun _ => 0))), (spoonsLeft_13, .inl (ky 0, 6, .inl (fun _ => 0))), (depths_14, .inl (ky 0, 6, .inl (fun _ => 0))), (q75, .inr (7, [.int (nI 4), .int (nI 4), .int (nI 10), .int (nI 1), .int (nI 3), .int (nI 0), .int (nI 0), .int (nI 0), .int (nI 0), .int (nI 0), .ref thickness_78, .ref lumpNames_79, .ref lumpCells_80, .ref boatNames_81, .ref boatCells_82, .ref loads_83, .ref spoons_84, .ref spoonsLeft_85, .ref depths_86])), (thickness_78, .inl (ky 0, 36, .inl thicknessG_87)), (lumpNames_79, .inl (ky 1, 6, .inr (.inl (fun _ => 0)))), (lumpCells_80, .inl (ky 0, 6, .inl (fun _ => 0))), (boatNames_81, .inl (ky 1, 6, .inr (.inl (fun _ => 0)))), (boatCells_82, .inl (ky 0, 6, .inl (fun _ => 0))), (loads_83, .inl (ky 0, 6, .inl (fun _ => 0))), (spoons_84, .inl (ky 0, 6, .inl (fun _ => 0))), (spoonsLeft_85, .inl (ky 0, 6, .inl (fun _ => 0))), (depths_86, .inl (ky 0, 6, .inl (fun _ => 0)))] H := hP
  have hD : va_D A [(history, .inr (2, [.ref q1, .int (nI 0), .int (nI 0)])), (q1, .inl (ky 4, 8, .inr (.inr (.inr (.inr (va_up g71 4 (some q75))))))), (q3, .inr (7, [.int (nI 4), .int (nI 4), .int (nI 10), .int (nI 1), .int (nI 3), .int (nI 0), .int (nI 0), .int (nI 0), .int (nI 0), .int (nI 0), .ref thickness_6, .ref lumpNames_7, .ref lumpCells_8, .ref boatNames_9, .ref boatCells_10, .ref loads_11, .ref spoons_12, .ref spoonsLeft_13, .ref depths_14])), (thickness_6, .inl (ky 0, 36, .inl thicknessG_15)), (lumpNames_7, .inl (ky 1, 6, .inr (.inl (fun _ => 0)))), (lumpCells_8, .inl (ky 0, 6, .inl (fun _ => 0))), (boatNames_9, .inl (ky 1, 6, .inr (.inl (fun _ => 0)))), (boatCells_10, .inl (ky 0, 6, .inl (fun _ => 0))), (loads_11, .inl (ky 0, 6, .inl (fun _ => 0))), (spoons_12, .inl (ky 0, 6, .inl (fun _ => 0))), (spoonsLeft_13, .inl (ky 0, 6, .inl (fun _ => 0))), (depths_14, .inl (ky 0, 6, .inl (fun _ => 0))), (q75, .inr (7, [.int (nI 4), .int (nI 4), .int (nI 10), .int (nI 1), .int (nI 3), .int (nI 0), .int (nI 0), .int (nI 0), .int (nI 0), .int (nI 0), .ref thickness_78, .ref lumpNames_79, .ref lumpCells_80, .ref boatNames_81, .ref boatCells_82, .ref loads_83, .ref spoons_84, .ref spoonsLeft_85, .ref depths_86])), (thickness_78, .inl (ky 0, 36, .inl thicknessG_87)), (lumpNames_79, .inl (ky 1, 6, .inr (.inl (fun _ => 0)))), (lumpCells_80, .inl (ky 0, 6, .inl (fun _ => 0))), (boatNames_81, .inl (ky 1, 6, .inr (.inl (fun _ => 0)))), (boatCells_82, .inl (ky 0, 6, .inl (fun _ => 0))), (loads_83, .inl (ky 0, 6, .inl (fun _ => 0))), (spoons_84, .inl (ky 0, 6, .inl (fun _ => 0))), (spoonsLeft_85, .inl (ky 0, 6, .inl (fun _ => 0))), (depths_86, .inl (ky 0, 6, .inl (fun _ => 0)))] := hD
  obtain ⟨g89, e90⟩ : ∃ z9, z9 = va_up g71 4 (some q75) := ⟨_, rfl⟩
  rw [← e90] at hP hD
  have z91 : g89 0 = some q3 := by rw [e90]; exact z73
  have hP : va_P (dC, dI) vwCl [(history, .inr (2, [.ref q1, .int (nI 0), .int (nI 0)])), (q1, .inl (ky 4, 8, .inr (.inr (.inr (.inr g89))))), (q3, .inr (7, [.int (nI 4), .int (nI 4), .int (nI 10), .int (nI 1), .int (nI 3), .int (nI 0), .int (nI 0), .int (nI 0), .int (nI 0), .int (nI 0), .ref thickness_6, .ref lumpNames_7, .ref lumpCells_8, .ref boatNames_9, .ref boatCells_10, .ref loads_11, .ref spoons_12, .ref spoonsLeft_13, .ref depths_14])), (thickness_6, .inl (ky 0, 36, .inl thicknessG_15)), (lumpNames_7, .inl (ky 1, 6, .inr (.inl (fun _ => 0)))), (lumpCells_8, .inl (ky 0, 6, .inl (fun _ => 0))), (boatNames_9, .inl (ky 1, 6, .inr (.inl (fun _ => 0)))), (boatCells_10, .inl (ky 0, 6, .inl (fun _ => 0))), (loads_11, .inl (ky 0, 6, .inl (fun _ => 0))), (spoons_12, .inl (ky 0, 6, .inl (fun _ => 0))), (spoonsLeft_13, .inl (ky 0, 6, .inl (fun _ => 0))), (depths_14, .inl (ky 0, 6, .inl (fun _ => 0)))] H := hP.sub [0, 1, 2, 3, 4, 5, 6, 7, 8, 9, 10, 11] rfl
  have hD : va_D A [(history, .inr (2, [.ref q1, .int (nI 0), .int (nI 0)])), (q1, .inl (ky 4, 8, .inr (.inr (.inr (.inr g89))))), (q3, .inr (7, [.int (nI 4), .int (nI 4), .int (nI 10), .int (nI 1), .int (nI 3), .int (nI 0), .int (nI 0), .int (nI 0), .int (nI 0), .int (nI 0), .ref thickness_6, .ref lumpNames_7, .ref lumpCells_8, .ref boatNames_9, .ref boatCells_10, .ref loads_11, .ref spoons_12, .ref spoonsLeft_13, .ref depths_14])), (thickness_6, .inl (ky 0, 36, .inl thicknessG_15)), (lumpNames_7, .inl (ky 1, 6, .inr (.inl (fun _ => 0)))), (lumpCells_8, .inl (ky 0, 6, .inl (fun _ => 0))), (boatNames_9, .inl (ky 1, 6, .inr (.inl (fun _ => 0)))), (boatCells_10, .inl (ky 0, 6, .inl (fun _ => 0))), (loads_11, .inl (ky 0, 6, .inl (fun _ => 0))), (spoons_12, .inl (ky 0, 6, .inl (fun _ => 0))), (spoonsLeft_13, .inl (ky 0, 6, .inl (fun _ => 0))), (depths_14, .inl (ky 0, 6, .inl (fun _ => 0)))] := hD.sub [0, 1, 2, 3, 4, 5, 6, 7, 8, 9, 10, 11] (by decide) rfl
  refine lv_iinc (v := nI 5) (lv' := [(1, .int (nI 5)), (0, .ref history)]) hx hb dX2_init_34 hl (k := 0) rfl (by decide) (by decide) rfl (fun ls hl => ?_)
  refine lv_goto (tgt := 15) hx hb dX2_init_37 (by decide) ?_
  refine lv_iload_n hx hb dX2_init_15 rfl (lv_at hl 0 rfl) ?_
  refine lv_bipush (v := nI 8) hx hb dX2_init_16 (by decide) ?_
  refine lv_icmp_ge (tgt := 40) hx hb dX2_init_18 (by decide) (fun c92 => absurd c92 (by decide)) (fun c92 => ?_)
  refine lv_aload_n hx hb dX2_init_21 rfl (lv_at hl 1 rfl) ?_
  refine va_get (D := (dC, dI)) (ci := 2) (v := .ref q1) (C := RX2) (T := TX2) (N := 3) hx hb hts hin2 hown hK hP 0 rfl rfl 0 (by decide) (hts (.fieldLink RX2 13 "PorridgeSea$History" "ring" "[LPorridgeSea$Sea;") (List.mem_of_getElem? (i := 5) rfl)) (fun _ h9 => h9) rfl dX2_init_22 ?_
  refine lv_iload_n hx hb dX2_init_25 rfl (lv_at hl 0 rfl) ?_
  refine va_new (ci := 7) (fs := [.int (nI 0), .int (nI 0), .int (nI 0), .int (nI 0), .int (nI 0), .int (nI 0), .int (nI 0), .int (nI 0), .int (nI 0), .int (nI 0), .null, .null, .null, .null, .null, .null, .null, .null, .null]) (C := RX7) (T := TX7) (N := 19) hx hb hts hin7 tyX7 tyX7_ok hown (hts (.classLink RX2 11 RX7) (List.mem_of_getElem? (i := 4) rfl)) (hts (.instantiable RX7 19) (List.mem_of_getElem? (i := 6) rfl)) (hts (.initialized RX7) (List.mem_of_getElem? (i := 7) rfl)) hK hP hD hS hA rfl (by decide +kernel) (Nat.le_of_ble_eq_true rfl) (Nat.le_of_ble_eq_true rfl) dX2_init_26 (fun q93 H hP hD hS => ?_)
  refine W.widen (k := 52) (n := 542) (Nat.le_of_ble_eq_true rfl) (Nat.le_of_ble_eq_true rfl) ?_
  have hP : va_P (dC, dI) vwCl [(history, .inr (2, [.ref q1, .int (nI 0), .int (nI 0)])), (q1, .inl (ky 4, 8, .inr (.inr (.inr (.inr g89))))), (q3, .inr (7, [.int (nI 4), .int (nI 4), .int (nI 10), .int (nI 1), .int (nI 3), .int (nI 0), .int (nI 0), .int (nI 0), .int (nI 0), .int (nI 0), .ref thickness_6, .ref lumpNames_7, .ref lumpCells_8, .ref boatNames_9, .ref boatCells_10, .ref loads_11, .ref spoons_12, .ref spoonsLeft_13, .ref depths_14])), (thickness_6, .inl (ky 0, 36, .inl thicknessG_15)), (lumpNames_7, .inl (ky 1, 6, .inr (.inl (fun _ => 0)))), (lumpCells_8, .inl (ky 0, 6, .inl (fun _ => 0))), (boatNames_9, .inl (ky 1, 6, .inr (.inl (fun _ => 0)))), (boatCells_10, .inl (ky 0, 6, .inl (fun _ => 0))), (loads_11, .inl (ky 0, 6, .inl (fun _ => 0))), (spoons_12, .inl (ky 0, 6, .inl (fun _ => 0))), (spoonsLeft_13, .inl (ky 0, 6, .inl (fun _ => 0))), (depths_14, .inl (ky 0, 6, .inl (fun _ => 0))), (q93, .inr (7, [.int (nI 0), .int (nI 0), .int (nI 0), .int (nI 0), .int (nI 0), .int (nI 0), .int (nI 0), .int (nI 0), .int (nI 0), .int (nI 0), .null, .null, .null, .null, .null, .null, .null, .null, .null]))] H := hP
  have hD : va_D A [(history, .inr (2, [.ref q1, .int (nI 0), .int (nI 0)])), (q1, .inl (ky 4, 8, .inr (.inr (.inr (.inr g89))))), (q3, .inr (7, [.int (nI 4), .int (nI 4), .int (nI 10), .int (nI 1), .int (nI 3), .int (nI 0), .int (nI 0), .int (nI 0), .int (nI 0), .int (nI 0), .ref thickness_6, .ref lumpNames_7, .ref lumpCells_8, .ref boatNames_9, .ref boatCells_10, .ref loads_11, .ref spoons_12, .ref spoonsLeft_13, .ref depths_14])), (thickness_6, .inl (ky 0, 36, .inl thicknessG_15)), (lumpNames_7, .inl (ky 1, 6, .inr (.inl (fun _ => 0)))), (lumpCells_8, .inl (ky 0, 6, .inl (fun _ => 0))), (boatNames_9, .inl (ky 1, 6, .inr (.inl (fun _ => 0)))), (boatCells_10, .inl (ky 0, 6, .inl (fun _ => 0))), (loads_11, .inl (ky 0, 6, .inl (fun _ => 0))), (spoons_12, .inl (ky 0, 6, .inl (fun _ => 0))), (spoonsLeft_13, .inl (ky 0, 6, .inl (fun _ => 0))), (depths_14, .inl (ky 0, 6, .inl (fun _ => 0))), (q93, .inr (7, [.int (nI 0), .int (nI 0), .int (nI 0), .int (nI 0), .int (nI 0), .int (nI 0), .int (nI 0), .int (nI 0), .int (nI 0), .int (nI 0), .null, .null, .null, .null, .null, .null, .null, .null, .null]))] := hD
  refine lv_dup hx hb dX2_init_29 rfl ?_
  refine r_call_v (wr := [(history, .inr (2, [.ref q1, .int (nI 0), .int (nI 0)])), (q1, .inl (ky 4, 8, .inr (.inr (.inr (.inr g89))))), (q3, .inr (7, [.int (nI 4), .int (nI 4), .int (nI 10), .int (nI 1), .int (nI 3), .int (nI 0), .int (nI 0), .int (nI 0), .int (nI 0), .int (nI 0), .ref thickness_6, .ref lumpNames_7, .ref lumpCells_8, .ref boatNames_9, .ref boatCells_10, .ref loads_11, .ref spoons_12, .ref spoonsLeft_13, .ref depths_14])), (thickness_6, .inl (ky 0, 36, .inl thicknessG_15)), (lumpNames_7, .inl (ky 1, 6, .inr (.inl (fun _ => 0)))), (lumpCells_8, .inl (ky 0, 6, .inl (fun _ => 0))), (boatNames_9, .inl (ky 1, 6, .inr (.inl (fun _ => 0)))), (boatCells_10, .inl (ky 0, 6, .inl (fun _ => 0))), (loads_11, .inl (ky 0, 6, .inl (fun _ => 0))), (spoons_12, .inl (ky 0, 6, .inl (fun _ => 0))), (spoonsLeft_13, .inl (ky 0, 6, .inl (fun _ => 0))), (depths_14, .inl (ky 0, 6, .inl (fun _ => 0)))]) (va_runI (As := []) (rest := [.ref q93, .int (nI 5), .ref q1]) ⟨hx, hb, hml, hown, hts⟩ (c_Sea_init l dC dI ky H.size q93) (cwI 0 hts gX2_init_X7_init rfl rfl rfl (hts (.initialized RX7) (List.mem_of_getElem? (i := 7) rfl)) (hts (.methodLink RX2 17 yX7_init) (List.mem_of_getElem? (i := 10) rfl)) (hts (.instanceMethod yX7_init) (List.mem_of_getElem? (i := 11) rfl)) rfl (by decide +kernel) ⟨(Nat.le_of_ble_eq_true rfl), (Nat.le_of_ble_eq_true rfl)⟩) (pre_US hK hP hD [12] (by decide) rfl) rfl rfl hl.1 rfl (lv_room (Nat.le_of_ble_eq_true rfl)) dX2_init_30 ⟨(Nat.le_of_ble_eq_true rfl), (Nat.le_of_ble_eq_true rfl)⟩) hP hD hS hA [12] [0, 1, 2, 3, 4, 5, 6, 7, 8, 9, 10, 11] rfl rfl (by decide) (by decide) (fun  u94 H locs p95 hP hD hS => ?_)
  obtain ⟨thickness_96, lumpNames_97, lumpCells_98, boatNames_99, boatCells_100, loads_101, spoons_102, spoonsLeft_103, depths_104, thicknessG_105⟩ := u94
  try dsimp only at p95
  have p106 := p95
  refine W.widen (k := 61) (n := 626) (Nat.le_of_ble_eq_true rfl) (Nat.le_of_ble_eq_true rfl) ?_
  have hP : va_P (dC, dI) vwCl [(history, .inr (2, [.ref q1, .int (nI 0), .int (nI 0)])), (q1, .inl (ky 4, 8, .inr (.inr (.inr (.inr g89))))), (q3, .inr (7, [.int (nI 4), .int (nI 4), .int (nI 10), .int (nI 1), .int (nI 3), .int (nI 0), .int (nI 0), .int (nI 0), .int (nI 0), .int (nI 0), .ref thickness_6, .ref lumpNames_7, .ref lumpCells_8, .ref boatNames_9, .ref boatCells_10, .ref loads_11, .ref spoons_12, .ref spoonsLeft_13, .ref depths_14])), (thickness_6, .inl (ky 0, 36, .inl thicknessG_15)), (lumpNames_7, .inl (ky 1, 6, .inr (.inl (fun _ => 0)))), (lumpCells_8, .inl (ky 0, 6, .inl (fun _ => 0))), (boatNames_9, .inl (ky 1, 6, .inr (.inl (fun _ => 0)))), (boatCells_10, .inl (ky 0, 6, .inl (fun _ => 0))), (loads_11, .inl (ky 0, 6, .inl (fun _ => 0))), (spoons_12, .inl (ky 0, 6, .inl (fun _ => 0))), (spoonsLeft_13, .inl (ky 0, 6, .inl (fun _ => 0))), (depths_14, .inl (ky 0, 6, .inl (fun _ => 0))), (q93, .inr (7, [.int (nI 4), .int (nI 4), .int (nI 10), .int (nI 1), .int (nI 3), .int (nI 0), .int (nI 0), .int (nI 0), .int (nI 0), .int (nI 0), .ref thickness_96, .ref lumpNames_97, .ref lumpCells_98, .ref boatNames_99, .ref boatCells_100, .ref loads_101, .ref spoons_102, .ref spoonsLeft_103, .ref depths_104])), (thickness_96, .inl (ky 0, 36, .inl thicknessG_105)), (lumpNames_97, .inl (ky 1, 6, .inr (.inl (fun _ => 0)))), (lumpCells_98, .inl (ky 0, 6, .inl (fun _ => 0))), (boatNames_99, .inl (ky 1, 6, .inr (.inl (fun _ => 0)))), (boatCells_100, .inl (ky 0, 6, .inl (fun _ => 0))), (loads_101, .inl (ky 0, 6, .inl (fun _ => 0))), (spoons_102, .inl (ky 0, 6, .inl (fun _ => 0))), (spoonsLeft_103, .inl (ky 0, 6, .inl (fun _ => 0))), (depths_104, .inl (ky 0, 6, .inl (fun _ => 0)))] H := hP
  have hD : va_D A [(history, .inr (2, [.ref q1, .int (nI 0), .int (nI 0)])), (q1, .inl (ky 4, 8, .inr (.inr (.inr (.inr g89))))), (q3, .inr (7, [.int (nI 4), .int (nI 4), .int (nI 10), .int (nI 1), .int (nI 3), .int (nI 0), .int (nI 0), .int (nI 0), .int (nI 0), .int (nI 0), .ref thickness_6, .ref lumpNames_7, .ref lumpCells_8, .ref boatNames_9, .ref boatCells_10, .ref loads_11, .ref spoons_12, .ref spoonsLeft_13, .ref depths_14])), (thickness_6, .inl (ky 0, 36, .inl thicknessG_15)), (lumpNames_7, .inl (ky 1, 6, .inr (.inl (fun _ => 0)))), (lumpCells_8, .inl (ky 0, 6, .inl (fun _ => 0))), (boatNames_9, .inl (ky 1, 6, .inr (.inl (fun _ => 0)))), (boatCells_10, .inl (ky 0, 6, .inl (fun _ => 0))), (loads_11, .inl (ky 0, 6, .inl (fun _ => 0))), (spoons_12, .inl (ky 0, 6, .inl (fun _ => 0))), (spoonsLeft_13, .inl (ky 0, 6, .inl (fun _ => 0))), (depths_14, .inl (ky 0, 6, .inl (fun _ => 0))), (q93, .inr (7, [.int (nI 4), .int (nI 4), .int (nI 10), .int (nI 1), .int (nI 3), .int (nI 0), .int (nI 0), .int (nI 0), .int (nI 0), .int (nI 0), .ref thickness_96, .ref lumpNames_97, .ref lumpCells_98, .ref boatNames_99, .ref boatCells_100, .ref loads_101, .ref spoons_102, .ref spoonsLeft_103, .ref depths_104])), (thickness_96, .inl (ky 0, 36, .inl thicknessG_105)), (lumpNames_97, .inl (ky 1, 6, .inr (.inl (fun _ => 0)))), (lumpCells_98, .inl (ky 0, 6, .inl (fun _ => 0))), (boatNames_99, .inl (ky 1, 6, .inr (.inl (fun _ => 0)))), (boatCells_100, .inl (ky 0, 6, .inl (fun _ => 0))), (loads_101, .inl (ky 0, 6, .inl (fun _ => 0))), (spoons_102, .inl (ky 0, 6, .inl (fun _ => 0))), (spoonsLeft_103, .inl (ky 0, 6, .inl (fun _ => 0))), (depths_104, .inl (ky 0, 6, .inl (fun _ => 0)))] := hD
  refine r_aast hx hb hK hP hD hS 1 4 12 7 rfl rfl rfl rfl 5 (by decide) (by decide) dX2_init_33 (fun H locs hP hD hS => ?_)
  have hP : va_P (dC, dI) vwCl [(history, .inr (2, [.ref q1, .int (nI 0), .int (nI 0)])), (q1, .inl (ky 4, 8, .inr (.inr (.inr (.inr (va_up g89 5 (some q93))))))), (q3, .inr (7, [.int (nI 4), .int (nI 4), .int (nI 10), .int (nI 1), .int (nI 3), .int (nI 0), .int (nI 0), .int (nI 0), .int (nI 0), .int (nI 0), .ref thickness_6, .ref lumpNames_7, .ref lumpCells_8, .ref boatNames_9, .ref boatCells_10, .ref loads_11, .ref spoons_12, .ref spoonsLeft_13, .ref depths_14])), (thickness_6, .inl (ky 0, 36, .inl thicknessG_15)), (lumpNames_7, .inl (ky 1, 6, .inr (.inl (fun _ => 0)))), (lumpCells_8, .inl (ky 0, 6, .inl (fun _ => 0))), (boatNames_9, .inl (ky 1, 6, .inr (.inl (fun _ => 0)))), (boatCells_10, .inl (ky 0, 6, .inl (fun _ => 0))), (loads_11, .inl (ky 0, 6, .inl (fun _ => 0))), (spoons_12, .inl (ky 0, 6, .inl (fun _ => 0))), (spoonsLeft_13, .inl (ky 0, 6, .inl (fun _ => 0))), (depths_14, .inl (ky 0, 6, .inl (fun _ => 0))), (q93, .inr (7, [.int (nI 4), .int (nI 4), .int (nI 10), .int (nI 1), .int (nI 3), .int (nI 0), .int (nI 0), .int (nI 0), .int (nI 0), .int (nI 0), .ref thickness_96, .ref lumpNames_97, .ref lumpCells_98, .ref boatNames_99, .ref boatCells_100, .ref loads_101, .ref spoons_102, .ref spoonsLeft_103, .ref depths_104])), (thickness_96, .inl (ky 0, 36, .inl thicknessG_105)), (lumpNames_97, .inl (ky 1, 6, .inr (.inl (fun _ => 0)))), (lumpCells_98, .inl (ky 0, 6, .inl (fun _ => 0))), (boatNames_99, .inl (ky 1, 6, .inr (.inl (fun _ => 0)))), (boatCells_100, .inl (ky 0, 6, .inl (fun _ => 0))), (loads_101, .inl (ky 0, 6, .inl (fun _ => 0))), (spoons_102, .inl (ky 0, 6, .inl (fun _ => 0))), (spoonsLeft_103, .inl (ky 0, 6, .inl (fun _ => 0))), (depths_104, .inl (ky 0, 6, .inl (fun _ => 0)))] H := hP
  have hD : va_D A [(history, .inr (2, [.ref q1, .int (nI 0), .int (nI 0)])), (q1, .inl (ky 4, 8, .inr (.inr (.inr (.inr (va_up g89 5 (some q93))))))), (q3, .inr (7, [.int (nI 4), .int (nI 4), .int (nI 10), .int (nI 1), .int (nI 3), .int (nI 0), .int (nI 0), .int (nI 0), .int (nI 0), .int (nI 0), .ref thickness_6, .ref lumpNames_7, .ref lumpCells_8, .ref boatNames_9, .ref boatCells_10, .ref loads_11, .ref spoons_12, .ref spoonsLeft_13, .ref depths_14])), (thickness_6, .inl (ky 0, 36, .inl thicknessG_15)), (lumpNames_7, .inl (ky 1, 6, .inr (.inl (fun _ => 0)))), (lumpCells_8, .inl (ky 0, 6, .inl (fun _ => 0))), (boatNames_9, .inl (ky 1, 6, .inr (.inl (fun _ => 0)))), (boatCells_10, .inl (ky 0, 6, .inl (fun _ => 0))), (loads_11, .inl (ky 0, 6, .inl (fun _ => 0))), (spoons_12, .inl (ky 0, 6, .inl (fun _ => 0))), (spoonsLeft_13, .inl (ky 0, 6, .inl (fun _ => 0))), (depths_14, .inl (ky 0, 6, .inl (fun _ => 0))), (q93, .inr (7, [.int (nI 4), .int (nI 4), .int (nI 10), .int (nI 1), .int (nI 3), .int (nI 0), .int (nI 0), .int (nI 0), .int (nI 0), .int (nI 0), .ref thickness_96, .ref lumpNames_97, .ref lumpCells_98, .ref boatNames_99, .ref boatCells_100, .ref loads_101, .ref spoons_102, .ref spoonsLeft_103, .ref depths_104])), (thickness_96, .inl (ky 0, 36, .inl thicknessG_105)), (lumpNames_97, .inl (ky 1, 6, .inr (.inl (fun _ => 0)))), (lumpCells_98, .inl (ky 0, 6, .inl (fun _ => 0))), (boatNames_99, .inl (ky 1, 6, .inr (.inl (fun _ => 0)))), (boatCells_100, .inl (ky 0, 6, .inl (fun _ => 0))), (loads_101, .inl (ky 0, 6, .inl (fun _ => 0))), (spoons_102, .inl (ky 0, 6, .inl (fun _ => 0))), (spoonsLeft_103, .inl (ky 0, 6, .inl (fun _ => 0))), (depths_104, .inl (ky 0, 6, .inl (fun _ => 0)))] := hD
  obtain ⟨g107, e108⟩ : ∃ z9, z9 = va_up g89 5 (some q93) := ⟨_, rfl⟩
  rw [← e108] at hP hD
  have z109 : g107 0 = some q3 := by rw [e108]; exact z91
  have hP : va_P (dC, dI) vwCl [(history, .inr (2, [.ref q1, .int (nI 0), .int (nI 0)])), (q1, .inl (ky 4, 8, .inr (.inr (.inr (.inr g107))))), (q3, .inr (7, [.int (nI 4), .int (nI 4), .int (nI 10), .int (nI 1), .int (nI 3), .int (nI 0), .int (nI 0), .int (nI 0), .int (nI 0), .int (nI 0), .ref thickness_6, .ref lumpNames_7, .ref lumpCells_8, .ref boatNames_9, .ref boatCells_10, .ref loads_11, .ref spoons_12, .ref spoonsLeft_13, .ref depths_14])), (thickness_6, .inl (ky 0, 36, .inl thicknessG_15)), (lumpNames_7, .inl (ky 1, 6, .inr (.inl (fun _ => 0)))), (lumpCells_8, .inl (ky 0, 6, .inl (fun _ => 0))), (boatNames_9, .inl (ky 1, 6, .inr (.inl (fun _ => 0)))), (boatCells_10, .inl (ky 0, 6, .inl (fun _ => 0))), (loads_11, .inl (ky 0, 6, .inl (fun _ => 0))), (spoons_12, .inl (ky 0, 6, .inl (fun _ => 0))), (spoonsLeft_13, .inl (ky 0, 6, .inl (fun _ => 0))), (depths_14, .inl (ky 0, 6, .inl (fun _ => 0)))] H := hP.sub [0, 1, 2, 3, 4, 5, 6, 7, 8, 9, 10, 11] rfl
  have hD : va_D A [(history, .inr (2, [.ref q1, .int (nI 0), .int (nI 0)])), (q1, .inl (ky 4, 8, .inr (.inr (.inr (.inr g107))))), (q3, .inr (7, [.int (nI 4), .int (nI 4), .int (nI 10), .int (nI 1), .int (nI 3), .int (nI 0), .int (nI 0), .int (nI 0), .int (nI 0), .int (nI 0), .ref thickness_6, .ref lumpNames_7, .ref lumpCells_8, .ref boatNames_9, .ref boatCells_10, .ref loads_11, .ref spoons_12, .ref spoonsLeft_13, .ref depths_14])), (thickness_6, .inl (ky 0, 36, .inl thicknessG_15)), (lumpNames_7, .inl (ky 1, 6, .inr (.inl (fun _ => 0)))), (lumpCells_8, .inl (ky 0, 6, .inl (fun _ => 0))), (boatNames_9, .inl (ky 1, 6, .inr (.inl (fun _ => 0)))), (boatCells_10, .inl (ky 0, 6, .inl (fun _ => 0))), (loads_11, .inl (ky 0, 6, .inl (fun _ => 0))), (spoons_12, .inl (ky 0, 6, .inl (fun _ => 0))), (spoonsLeft_13, .inl (ky 0, 6, .inl (fun _ => 0))), (depths_14, .inl (ky 0, 6, .inl (fun _ => 0)))] := hD.sub [0, 1, 2, 3, 4, 5, 6, 7, 8, 9, 10, 11] (by decide) rfl
  refine lv_iinc (v := nI 6) (lv' := [(1, .int (nI 6)), (0, .ref history)]) hx hb dX2_init_34 hl (k := 0) rfl (by decide) (by decide) rfl (fun ls hl => ?_)
  refine lv_goto (tgt := 15) hx hb dX2_init_37 (by decide) ?_
  refine lv_iload_n hx hb dX2_init_15 rfl (lv_at hl 0 rfl) ?_
  refine lv_bipush (v := nI 8) hx hb dX2_init_16 (by decide) ?_
  refine lv_icmp_ge (tgt := 40) hx hb dX2_init_18 (by decide) (fun c110 => absurd c110 (by decide)) (fun c110 => ?_)
  refine lv_aload_n hx hb dX2_init_21 rfl (lv_at hl 1 rfl) ?_
  refine va_get (D := (dC, dI)) (ci := 2) (v := .ref q1) (C := RX2) (T := TX2) (N := 3) hx hb hts hin2 hown hK hP 0 rfl rfl 0 (by decide) (hts (.fieldLink RX2 13 "PorridgeSea$History" "ring" "[LPorridgeSea$Sea;") (List.mem_of_getElem? (i := 5) rfl)) (fun _ h9 => h9) rfl dX2_init_22 ?_
  refine lv_iload_n hx hb dX2_init_25 rfl (lv_at hl 0 rfl) ?_
  refine va_new (ci := 7) (fs := [.int (nI 0), .int (nI 0), .int (nI 0), .int (nI 0), .int (nI 0), .int (nI 0), .int (nI 0), .int (nI 0), .int (nI 0), .int (nI 0), .null, .null, .null, .null, .null, .null, .null, .null, .null]) (C := RX7) (T := TX7) (N := 19) hx hb hts hin7 tyX7 tyX7_ok hown (hts (.classLink RX2 11 RX7) (List.mem_of_getElem? (i := 4) rfl)) (hts (.instantiable RX7 19) (List.mem_of_getElem? (i := 6) rfl)) (hts (.initialized RX7) (List.mem_of_getElem? (i := 7) rfl)) hK hP hD hS hA rfl (by decide +kernel) (Nat.le_of_ble_eq_true rfl) (Nat.le_of_ble_eq_true rfl) dX2_init_26 (fun q111 H hP hD hS => ?_)
  refine W.widen (k := 62) (n := 645) (Nat.le_of_ble_eq_true rfl) (Nat.le_of_ble_eq_true rfl) ?_
  have hP : va_P (dC, dI) vwCl [(history, .inr (2, [.ref q1, .int (nI 0), .int (nI 0)])), (q1, .inl (ky 4, 8, .inr (.inr (.inr (.inr g107))))), (q3, .inr (7, [.int (nI 4), .int (nI 4), .int (nI 10), .int (nI 1), .int (nI 3), .int (nI 0), .int (nI 0), .int (nI 0), .int (nI 0), .int (nI 0), .ref thickness_6, .ref lumpNames_7, .ref lumpCells_8, .ref boatNames_9, .ref boatCells_10, .ref loads_11, .ref spoons_12, .ref spoonsLeft_13, .ref depths_14])), (thickness_6, .inl (ky 0, 36, .inl thicknessG_15)), (lumpNames_7, .inl (ky 1, 6, .inr (.inl (fun _ => 0)))), (lumpCells_8, .inl (ky 0, 6, .inl (fun _ => 0))), (boatNames_9, .inl (ky 1, 6, .inr (.inl (fun _ => 0)))), (boatCells_10, .inl (ky 0, 6, .inl (fun _ => 0))), (loads_11, .inl (ky 0, 6, .inl (fun _ => 0))), (spoons_12, .inl (ky 0, 6, .inl (fun _ => 0))), (spoonsLeft_13, .inl (ky 0, 6, .inl (fun _ => 0))), (depths_14, .inl (ky 0, 6, .inl (fun _ => 0))), (q111, .inr (7, [.int (nI 0), .int (nI 0), .int (nI 0), .int (nI 0), .int (nI 0), .int (nI 0), .int (nI 0), .int (nI 0), .int (nI 0), .int (nI 0), .null, .null, .null, .null, .null, .null, .null, .null, .null]))] H := hP
  have hD : va_D A [(history, .inr (2, [.ref q1, .int (nI 0), .int (nI 0)])), (q1, .inl (ky 4, 8, .inr (.inr (.inr (.inr g107))))), (q3, .inr (7, [.int (nI 4), .int (nI 4), .int (nI 10), .int (nI 1), .int (nI 3), .int (nI 0), .int (nI 0), .int (nI 0), .int (nI 0), .int (nI 0), .ref thickness_6, .ref lumpNames_7, .ref lumpCells_8, .ref boatNames_9, .ref boatCells_10, .ref loads_11, .ref spoons_12, .ref spoonsLeft_13, .ref depths_14])), (thickness_6, .inl (ky 0, 36, .inl thicknessG_15)), (lumpNames_7, .inl (ky 1, 6, .inr (.inl (fun _ => 0)))), (lumpCells_8, .inl (ky 0, 6, .inl (fun _ => 0))), (boatNames_9, .inl (ky 1, 6, .inr (.inl (fun _ => 0)))), (boatCells_10, .inl (ky 0, 6, .inl (fun _ => 0))), (loads_11, .inl (ky 0, 6, .inl (fun _ => 0))), (spoons_12, .inl (ky 0, 6, .inl (fun _ => 0))), (spoonsLeft_13, .inl (ky 0, 6, .inl (fun _ => 0))), (depths_14, .inl (ky 0, 6, .inl (fun _ => 0))), (q111, .inr (7, [.int (nI 0), .int (nI 0), .int (nI 0), .int (nI 0), .int (nI 0), .int (nI 0), .int (nI 0), .int (nI 0), .int (nI 0), .int (nI 0), .null, .null, .null, .null, .null, .null, .null, .null, .null]))] := hD
  refine lv_dup hx hb dX2_init_29 rfl ?_
  refine r_call_v (wr := [(history, .inr (2, [.ref q1, .int (nI 0), .int (nI 0)])), (q1, .inl (ky 4, 8, .inr (.inr (.inr (.inr g107))))), (q3, .inr (7, [.int (nI 4), .int (nI 4), .int (nI 10), .int (nI 1), .int (nI 3), .int (nI 0), .int (nI 0), .int (nI 0), .int (nI 0), .int (nI 0), .ref thickness_6, .ref lumpNames_7, .ref lumpCells_8, .ref boatNames_9, .ref boatCells_10, .ref loads_11, .ref spoons_12, .ref spoonsLeft_13, .ref depths_14])), (thickness_6, .inl (ky 0, 36, .inl thicknessG_15)), (lumpNames_7, .inl (ky 1, 6, .inr (.inl (fun _ => 0)))), (lumpCells_8, .inl (ky 0, 6, .inl (fun _ => 0))), (boatNames_9, .inl (ky 1, 6, .inr (.inl (fun _ => 0)))), (boatCells_10, .inl (ky 0, 6, .inl (fun _ => 0))), (loads_11, .inl (ky 0, 6, .inl (fun _ => 0))), (spoons_12, .inl (ky 0, 6, .inl (fun _ => 0))), (spoonsLeft_13, .inl (ky 0, 6, .inl (fun _ => 0))), (depths_14, .inl (ky 0, 6, .inl (fun _ => 0)))]) (va_runI (As := []) (rest := [.ref q111, .int (nI 6), .ref q1]) ⟨hx, hb, hml, hown, hts⟩ (c_Sea_init l dC dI ky H.size q111) (cwI 0 hts gX2_init_X7_init rfl rfl rfl (hts (.initialized RX7) (List.mem_of_getElem? (i := 7) rfl)) (hts (.methodLink RX2 17 yX7_init) (List.mem_of_getElem? (i := 10) rfl)) (hts (.instanceMethod yX7_init) (List.mem_of_getElem? (i := 11) rfl)) rfl (by decide +kernel) ⟨(Nat.le_of_ble_eq_true rfl), (Nat.le_of_ble_eq_true rfl)⟩) (pre_US hK hP hD [12] (by decide) rfl) rfl rfl hl.1 rfl (lv_room (Nat.le_of_ble_eq_true rfl)) dX2_init_30 ⟨(Nat.le_of_ble_eq_true rfl), (Nat.le_of_ble_eq_true rfl)⟩) hP hD hS hA [12] [0, 1, 2, 3, 4, 5, 6, 7, 8, 9, 10, 11] rfl rfl (by decide) (by decide) (fun  u112 H locs p113 hP hD hS => ?_)
  obtain ⟨thickness_114, lumpNames_115, lumpCells_116, boatNames_117, boatCells_118, loads_119, spoons_120, spoonsLeft_121, depths_122, thicknessG_123⟩ := u112
  try dsimp only at p113
  have p124 := p113
  refine W.widen (k := 71) (n := 729) (Nat.le_of_ble_eq_true rfl) (Nat.le_of_ble_eq_true rfl) ?_
  have hP : va_P (dC, dI) vwCl [(history, .inr (2, [.ref q1, .int (nI 0), .int (nI 0)])), (q1, .inl (ky 4, 8, .inr (.inr (.inr (.inr g107))))), (q3, .inr (7, [.int (nI 4), .int (nI 4), .int (nI 10), .int (nI 1), .int (nI 3), .int (nI 0), .int (nI 0), .int (nI 0), .int (nI 0), .int (nI 0), .ref thickness_6, .ref lumpNames_7, .ref lumpCells_8, .ref boatNames_9, .ref boatCells_10, .ref loads_11, .ref spoons_12, .ref spoonsLeft_13, .ref depths_14])), (thickness_6, .inl (ky 0, 36, .inl thicknessG_15)), (lumpNames_7, .inl (ky 1, 6, .inr (.inl (fun _ => 0)))), (lumpCells_8, .inl (ky 0, 6, .inl (fun _ => 0))), (boatNames_9, .inl (ky 1, 6, .inr (.inl (fun _ => 0)))), (boatCells_10, .inl (ky 0, 6, .inl (fun _ => 0))), (loads_11, .inl (ky 0, 6, .inl (fun _ => 0))), (spoons_12, .inl (ky 0, 6, .inl (fun _ => 0))), (spoonsLeft_13, .inl (ky 0, 6, .inl (fun _ => 0))), (depths_14, .inl (ky 0, 6, .inl (fun _ => 0))), (q111, .inr (7, [.int (nI 4), .int (nI 4), .int (nI 10), .int (nI 1), .int (nI 3), .int (nI 0), .int (nI 0), .int (nI 0), .int (nI 0), .int (nI 0), .ref thickness_114, .ref lumpNames_115, .ref lumpCells_116, .ref boatNames_117, .ref boatCells_118, .ref loads_119, .ref spoons_120, .ref spoonsLeft_121, .ref depths_122])), (thickness_114, .inl (ky 0, 36, .inl thicknessG_123)), (lumpNames_115, .inl (ky 1, 6, .inr (.inl (fun _ => 0)))), (lumpCells_116, .inl (ky 0, 6, .inl (fun _ => 0))), (boatNames_117, .inl (ky 1, 6, .inr (.inl (fun _ => 0)))), (boatCells_118, .inl (ky 0, 6, .inl (fun _ => 0))), (loads_119, .inl (ky 0, 6, .inl (fun _ => 0))), (spoons_120, .inl (ky 0, 6, .inl (fun _ => 0))), (spoonsLeft_121, .inl (ky 0, 6, .inl (fun _ => 0))), (depths_122, .inl (ky 0, 6, .inl (fun _ => 0)))] H := hP
  have hD : va_D A [(history, .inr (2, [.ref q1, .int (nI 0), .int (nI 0)])), (q1, .inl (ky 4, 8, .inr (.inr (.inr (.inr g107))))), (q3, .inr (7, [.int (nI 4), .int (nI 4), .int (nI 10), .int (nI 1), .int (nI 3), .int (nI 0), .int (nI 0), .int (nI 0), .int (nI 0), .int (nI 0), .ref thickness_6, .ref lumpNames_7, .ref lumpCells_8, .ref boatNames_9, .ref boatCells_10, .ref loads_11, .ref spoons_12, .ref spoonsLeft_13, .ref depths_14])), (thickness_6, .inl (ky 0, 36, .inl thicknessG_15)), (lumpNames_7, .inl (ky 1, 6, .inr (.inl (fun _ => 0)))), (lumpCells_8, .inl (ky 0, 6, .inl (fun _ => 0))), (boatNames_9, .inl (ky 1, 6, .inr (.inl (fun _ => 0)))), (boatCells_10, .inl (ky 0, 6, .inl (fun _ => 0))), (loads_11, .inl (ky 0, 6, .inl (fun _ => 0))), (spoons_12, .inl (ky 0, 6, .inl (fun _ => 0))), (spoonsLeft_13, .inl (ky 0, 6, .inl (fun _ => 0))), (depths_14, .inl (ky 0, 6, .inl (fun _ => 0))), (q111, .inr (7, [.int (nI 4), .int (nI 4), .int (nI 10), .int (nI 1), .int (nI 3), .int (nI 0), .int (nI 0), .int (nI 0), .int (nI 0), .int (nI 0), .ref thickness_114, .ref lumpNames_115, .ref lumpCells_116, .ref boatNames_117, .ref boatCells_118, .ref loads_119, .ref spoons_120, .ref spoonsLeft_121, .ref depths_122])), (thickness_114, .inl (ky 0, 36, .inl thicknessG_123)), (lumpNames_115, .inl (ky 1, 6, .inr (.inl (fun _ => 0)))), (lumpCells_116, .inl (ky 0, 6, .inl (fun _ => 0))), (boatNames_117, .inl (ky 1, 6, .inr (.inl (fun _ => 0)))), (boatCells_118, .inl (ky 0, 6, .inl (fun _ => 0))), (loads_119, .inl (ky 0, 6, .inl (fun _ => 0))), (spoons_120, .inl (ky 0, 6, .inl (fun _ => 0))), (spoonsLeft_121, .inl (ky 0, 6, .inl (fun _ => 0))), (depths_122, .inl (ky 0, 6, .inl (fun _ => 0)))] := hD
  refine r_aast hx hb hK hP hD hS 1 4 12 7 rfl rfl rfl rfl 6 (by decide) (by decide) dX2_init_33 (fun H locs hP hD hS => ?_)
  have hP : va_P (dC, dI) vwCl [(history, .inr (2, [.ref q1, .int (nI 0), .int (nI 0)])), (q1, .inl (ky 4, 8, .inr (.inr (.inr (.inr (va_up g107 6 (some q111))))))), (q3, .inr (7, [.int (nI 4), .int (nI 4), .int (nI 10), .int (nI 1), .int (nI 3), .int (nI 0), .int (nI 0), .int (nI 0), .int (nI 0), .int (nI 0), .ref thickness_6, .ref lumpNames_7, .ref lumpCells_8, .ref boatNames_9, .ref boatCells_10, .ref loads_11, .ref spoons_12, .ref spoonsLeft_13, .ref depths_14])), (thickness_6, .inl (ky 0, 36, .inl thicknessG_15)), (lumpNames_7, .inl (ky 1, 6, .inr (.inl (fun _ => 0)))), (lumpCells_8, .inl (ky 0, 6, .inl (fun _ => 0))), (boatNames_9, .inl (ky 1, 6, .inr (.inl (fun _ => 0)))), (boatCells_10, .inl (ky 0, 6, .inl (fun _ => 0))), (loads_11, .inl (ky 0, 6, .inl (fun _ => 0))), (spoons_12, .inl (ky 0, 6, .inl (fun _ => 0))), (spoonsLeft_13, .inl (ky 0, 6, .inl (fun _ => 0))), (depths_14, .inl (ky 0, 6, .inl (fun _ => 0))), (q111, .inr (7, [.int (nI 4), .int (nI 4), .int (nI 10), .int (nI 1), .int (nI 3), .int (nI 0), .int (nI 0), .int (nI 0), .int (nI 0), .int (nI 0), .ref thickness_114, .ref lumpNames_115, .ref lumpCells_116, .ref boatNames_117, .ref boatCells_118, .ref loads_119, .ref spoons_120, .ref spoonsLeft_121, .ref depths_122])), (thickness_114, .inl (ky 0, 36, .inl thicknessG_123)), (lumpNames_115, .inl (ky 1, 6, .inr (.inl (fun _ => 0)))), (lumpCells_116, .inl (ky 0, 6, .inl (fun _ => 0))), (boatNames_117, .inl (ky 1, 6, .inr (.inl (fun _ => 0)))), (boatCells_118, .inl (ky 0, 6, .inl (fun _ => 0))), (loads_119, .inl (ky 0, 6, .inl (fun _ => 0))), (spoons_120, .inl (ky 0, 6, .inl (fun _ => 0))), (spoonsLeft_121, .inl (ky 0, 6, .inl (fun _ => 0))), (depths_122, .inl (ky 0, 6, .inl (fun _ => 0)))] H := hP
  have hD : va_D A [(history, .inr (2, [.ref q1, .int (nI 0), .int (nI 0)])), (q1, .inl (ky 4, 8, .inr (.inr (.inr (.inr (va_up g107 6 (some q111))))))), (q3, .inr (7, [.int (nI 4), .int (nI 4), .int (nI 10), .int (nI 1), .int (nI 3), .int (nI 0), .int (nI 0), .int (nI 0), .int (nI 0), .int (nI 0), .ref thickness_6, .ref lumpNames_7, .ref lumpCells_8, .ref boatNames_9, .ref boatCells_10, .ref loads_11, .ref spoons_12, .ref spoonsLeft_13, .ref depths_14])), (thickness_6, .inl (ky 0, 36, .inl thicknessG_15)), (lumpNames_7, .inl (ky 1, 6, .inr (.inl (fun _ => 0)))), (lumpCells_8, .inl (ky 0, 6, .inl (fun _ => 0))), (boatNames_9, .inl (ky 1, 6, .inr (.inl (fun _ => 0)))), (boatCells_10, .inl (ky 0, 6, .inl (fun _ => 0))), (loads_11, .inl (ky 0, 6, .inl (fun _ => 0))), (spoons_12, .inl (ky 0, 6, .inl (fun _ => 0))), (spoonsLeft_13, .inl (ky 0, 6, .inl (fun _ => 0))), (depths_14, .inl (ky 0, 6, .inl (fun _ => 0))), (q111, .inr (7, [.int (nI 4), .int (nI 4), .int (nI 10), .int (nI 1), .int (nI 3), .int (nI 0), .int (nI 0), .int (nI 0), .int (nI 0), .int (nI 0), .ref thickness_114, .ref lumpNames_115, .ref lumpCells_116, .ref boatNames_117, .ref boatCells_118, .ref loads_119, .ref spoons_120, .ref spoonsLeft_121, .ref depths_122])), (thickness_114, .inl (ky 0, 36, .inl thicknessG_123)), (lumpNames_115, .inl (ky 1, 6, .inr (.inl (fun _ => 0)))), (lumpCells_116, .inl (ky 0, 6, .inl (fun _ => 0))), (boatNames_117, .inl (ky 1, 6, .inr (.inl (fun _ => 0)))), (boatCells_118, .inl (ky 0, 6, .inl (fun _ => 0))), (loads_119, .inl (ky 0, 6, .inl (fun _ => 0))), (spoons_120, .inl (ky 0, 6, .inl (fun _ => 0))), (spoonsLeft_121, .inl (ky 0, 6, .inl (fun _ => 0))), (depths_122, .inl (ky 0, 6, .inl (fun _ => 0)))] := hD
  obtain ⟨g125, e126⟩ : ∃ z9, z9 = va_up g107 6 (some q111) := ⟨_, rfl⟩
  rw [← e126] at hP hD
  have z127 : g125 0 = some q3 := by rw [e126]; exact z109
  have hP : va_P (dC, dI) vwCl [(history, .inr (2, [.ref q1, .int (nI 0), .int (nI 0)])), (q1, .inl (ky 4, 8, .inr (.inr (.inr (.inr g125))))), (q3, .inr (7, [.int (nI 4), .int (nI 4), .int (nI 10), .int (nI 1), .int (nI 3), .int (nI 0), .int (nI 0), .int (nI 0), .int (nI 0), .int (nI 0), .ref thickness_6, .ref lumpNames_7, .ref lumpCells_8, .ref boatNames_9, .ref boatCells_10, .ref loads_11, .ref spoons_12, .ref spoonsLeft_13, .ref depths_14])), (thickness_6, .inl (ky 0, 36, .inl thicknessG_15)), (lumpNames_7, .inl (ky 1, 6, .inr (.inl (fun _ => 0)))), (lumpCells_8, .inl (ky 0, 6, .inl (fun _ => 0))), (boatNames_9, .inl (ky 1, 6, .inr (.inl (fun _ => 0)))), (boatCells_10, .inl (ky 0, 6, .inl (fun _ => 0))), (loads_11, .inl (ky 0, 6, .inl (fun _ => 0))), (spoons_12, .inl (ky 0, 6, .inl (fun _ => 0))), (spoonsLeft_13, .inl (ky 0, 6, .inl (fun _ => 0))), (depths_14, .inl (ky 0, 6, .inl (fun _ => 0)))] H := hP.sub [0, 1, 2, 3, 4, 5, 6, 7, 8, 9, 10, 11] rfl
  have hD : va_D A [(history, .inr (2, [.ref q1, .int (nI 0), .int (nI 0)])), (q1, .inl (ky 4, 8, .inr (.inr (.inr (.inr g125))))), (q3, .inr (7, [.int (nI 4), .int (nI 4), .int (nI 10), .int (nI 1), .int (nI 3), .int (nI 0), .int (nI 0), .int (nI 0), .int (nI 0), .int (nI 0), .ref thickness_6, .ref lumpNames_7, .ref lumpCells_8, .ref boatNames_9, .ref boatCells_10, .ref loads_11, .ref spoons_12, .ref spoonsLeft_13, .ref depths_14])), (thickness_6, .inl (ky 0, 36, .inl thicknessG_15)), (lumpNames_7, .inl (ky 1, 6, .inr (.inl (fun _ => 0)))), (lumpCells_8, .inl (ky 0, 6, .inl (fun _ => 0))), (boatNames_9, .inl (ky 1, 6, .inr (.inl (fun _ => 0)))), (boatCells_10, .inl (ky 0, 6, .inl (fun _ => 0))), (loads_11, .inl (ky 0, 6, .inl (fun _ => 0))), (spoons_12, .inl (ky 0, 6, .inl (fun _ => 0))), (spoonsLeft_13, .inl (ky 0, 6, .inl (fun _ => 0))), (depths_14, .inl (ky 0, 6, .inl (fun _ => 0)))] := hD.sub [0, 1, 2, 3, 4, 5, 6, 7, 8, 9, 10, 11] (by decide) rfl
  refine lv_iinc (v := nI 7) (lv' := [(1, .int (nI 7)), (0, .ref history)]) hx hb dX2_init_34 hl (k := 0) rfl (by decide) (by decide) rfl (fun ls hl => ?_)
  refine lv_goto (tgt := 15) hx hb dX2_init_37 (by decide) ?_
  refine lv_iload_n hx hb dX2_init_15 rfl (lv_at hl 0 rfl) ?_
  refine lv_bipush (v := nI 8) hx hb dX2_init_16 (by decide) ?_
  refine lv_icmp_ge (tgt := 40) hx hb dX2_init_18 (by decide) (fun c128 => absurd c128 (by decide)) (fun c128 => ?_)
  refine lv_aload_n hx hb dX2_init_21 rfl (lv_at hl 1 rfl) ?_
  refine va_get (D := (dC, dI)) (ci := 2) (v := .ref q1) (C := RX2) (T := TX2) (N := 3) hx hb hts hin2 hown hK hP 0 rfl rfl 0 (by decide) (hts (.fieldLink RX2 13 "PorridgeSea$History" "ring" "[LPorridgeSea$Sea;") (List.mem_of_getElem? (i := 5) rfl)) (fun _ h9 => h9) rfl dX2_init_22 ?_
  refine lv_iload_n hx hb dX2_init_25 rfl (lv_at hl 0 rfl) ?_
  refine va_new (ci := 7) (fs := [.int (nI 0), .int (nI 0), .int (nI 0), .int (nI 0), .int (nI 0), .int (nI 0), .int (nI 0), .int (nI 0), .int (nI 0), .int (nI 0), .null, .null, .null, .null, .null, .null, .null, .null, .null]) (C := RX7) (T := TX7) (N := 19) hx hb hts hin7 tyX7 tyX7_ok hown (hts (.classLink RX2 11 RX7) (List.mem_of_getElem? (i := 4) rfl)) (hts (.instantiable RX7 19) (List.mem_of_getElem? (i := 6) rfl)) (hts (.initialized RX7) (List.mem_of_getElem? (i := 7) rfl)) hK hP hD hS hA rfl (by decide +kernel) (Nat.le_of_ble_eq_true rfl) (Nat.le_of_ble_eq_true rfl) dX2_init_26 (fun q129 H hP hD hS => ?_)
  refine W.widen (k := 72) (n := 748) (Nat.le_of_ble_eq_true rfl) (Nat.le_of_ble_eq_true rfl) ?_
  have hP : va_P (dC, dI) vwCl [(history, .inr (2, [.ref q1, .int (nI 0), .int (nI 0)])), (q1, .inl (ky 4, 8, .inr (.inr (.inr (.inr g125))))), (q3, .inr (7, [.int (nI 4), .int (nI 4), .int (nI 10), .int (nI 1), .int (nI 3), .int (nI 0), .int (nI 0), .int (nI 0), .int (nI 0), .int (nI 0), .ref thickness_6, .ref lumpNames_7, .ref lumpCells_8, .ref boatNames_9, .ref boatCells_10, .ref loads_11, .ref spoons_12, .ref spoonsLeft_13, .ref depths_14])), (thickness_6, .inl (ky 0, 36, .inl thicknessG_15)), (lumpNames_7, .inl (ky 1, 6, .inr (.inl (fun _ => 0)))), (lumpCells_8, .inl (ky 0, 6, .inl (fun _ => 0))), (boatNames_9, .inl (ky 1, 6, .inr (.inl (fun _ => 0)))), (boatCells_10, .inl (ky 0, 6, .inl (fun _ => 0))), (loads_11, .inl (ky 0, 6, .inl (fun _ => 0))), (spoons_12, .inl (ky 0, 6, .inl (fun _ => 0))), (spoonsLeft_13, .inl (ky 0, 6, .inl (fun _ => 0))), (depths_14, .inl (ky 0, 6, .inl (fun _ => 0))), (q129, .inr (7, [.int (nI 0), .int (nI 0), .int (nI 0), .int (nI 0), .int (nI 0), .int (nI 0), .int (nI 0), .int (nI 0), .int (nI 0), .int (nI 0), .null, .null, .null, .null, .null, .null, .null, .null, .null]))] H := hP
  have hD : va_D A [(history, .inr (2, [.ref q1, .int (nI 0), .int (nI 0)])), (q1, .inl (ky 4, 8, .inr (.inr (.inr (.inr g125))))), (q3, .inr (7, [.int (nI 4), .int (nI 4), .int (nI 10), .int (nI 1), .int (nI 3), .int (nI 0), .int (nI 0), .int (nI 0), .int (nI 0), .int (nI 0), .ref thickness_6, .ref lumpNames_7, .ref lumpCells_8, .ref boatNames_9, .ref boatCells_10, .ref loads_11, .ref spoons_12, .ref spoonsLeft_13, .ref depths_14])), (thickness_6, .inl (ky 0, 36, .inl thicknessG_15)), (lumpNames_7, .inl (ky 1, 6, .inr (.inl (fun _ => 0)))), (lumpCells_8, .inl (ky 0, 6, .inl (fun _ => 0))), (boatNames_9, .inl (ky 1, 6, .inr (.inl (fun _ => 0)))), (boatCells_10, .inl (ky 0, 6, .inl (fun _ => 0))), (loads_11, .inl (ky 0, 6, .inl (fun _ => 0))), (spoons_12, .inl (ky 0, 6, .inl (fun _ => 0))), (spoonsLeft_13, .inl (ky 0, 6, .inl (fun _ => 0))), (depths_14, .inl (ky 0, 6, .inl (fun _ => 0))), (q129, .inr (7, [.int (nI 0), .int (nI 0), .int (nI 0), .int (nI 0), .int (nI 0), .int (nI 0), .int (nI 0), .int (nI 0), .int (nI 0), .int (nI 0), .null, .null, .null, .null, .null, .null, .null, .null, .null]))] := hD
  refine lv_dup hx hb dX2_init_29 rfl ?_
  refine r_call_v (wr := [(history, .inr (2, [.ref q1, .int (nI 0), .int (nI 0)])), (q1, .inl (ky 4, 8, .inr (.inr (.inr (.inr g125))))), (q3, .inr (7, [.int (nI 4), .int (nI 4), .int (nI 10), .int (nI 1), .int (nI 3), .int (nI 0), .int (nI 0), .int (nI 0), .int (nI 0), .int (nI 0), .ref thickness_6, .ref lumpNames_7, .ref lumpCells_8, .ref boatNames_9, .ref boatCells_10, .ref loads_11, .ref spoons_12, .ref spoonsLeft_13, .ref depths_14])), (thickness_6, .inl (ky 0, 36, .inl thicknessG_15)), (lumpNames_7, .inl (ky 1, 6, .inr (.inl (fun _ => 0)))), (lumpCells_8, .inl (ky 0, 6, .inl (fun _ => 0))), (boatNames_9, .inl (ky 1, 6, .inr (.inl (fun _ => 0)))), (boatCells_10, .inl (ky 0, 6, .inl (fun _ => 0))), (loads_11, .inl (ky 0, 6, .inl (fun _ => 0))), (spoons_12, .inl (ky 0, 6, .inl (fun _ => 0))), (spoonsLeft_13, .inl (ky 0, 6, .inl (fun _ => 0))), (depths_14, .inl (ky 0, 6, .inl (fun _ => 0)))]) (va_runI (As := []) (rest := [.ref q129, .int (nI 7), .ref q1]) ⟨hx, hb, hml, hown, hts⟩ (c_Sea_init l dC dI ky H.size q129) (cwI 0 hts gX2_init_X7_init rfl rfl rfl (hts (.initialized RX7) (List.mem_of_getElem? (i := 7) rfl)) (hts (.methodLink RX2 17 yX7_init) (List.mem_of_getElem? (i := 10) rfl)) (hts (.instanceMethod yX7_init) (List.mem_of_getElem? (i := 11) rfl)) rfl (by decide +kernel) ⟨(Nat.le_of_ble_eq_true rfl), (Nat.le_of_ble_eq_true rfl)⟩) (pre_US hK hP hD [12] (by decide) rfl) rfl rfl hl.1 rfl (lv_room (Nat.le_of_ble_eq_true rfl)) dX2_init_30 ⟨(Nat.le_of_ble_eq_true rfl), (Nat.le_of_ble_eq_true rfl)⟩) hP hD hS hA [12] [0, 1, 2, 3, 4, 5, 6, 7, 8, 9, 10, 11] rfl rfl (by decide) (by decide) (fun  u130 H locs p131 hP hD hS => ?_)
  obtain ⟨thickness_132, lumpNames_133, lumpCells_134, boatNames_135, boatCells_136, loads_137, spoons_138, spoonsLeft_139, depths_140, thicknessG_141⟩ := u130
  try dsimp only at p131
  have p142 := p131
  refine W.widen (k := 81) (n := 832) (Nat.le_of_ble_eq_true rfl) (Nat.le_of_ble_eq_true rfl) ?_
  have hP : va_P (dC, dI) vwCl [(history, .inr (2, [.ref q1, .int (nI 0), .int (nI 0)])), (q1, .inl (ky 4, 8, .inr (.inr (.inr (.inr g125))))), (q3, .inr (7, [.int (nI 4), .int (nI 4), .int (nI 10), .int (nI 1), .int (nI 3), .int (nI 0), .int (nI 0), .int (nI 0), .int (nI 0), .int (nI 0), .ref thickness_6, .ref lumpNames_7, .ref lumpCells_8, .ref boatNames_9, .ref boatCells_10, .ref loads_11, .ref spoons_12, .ref spoonsLeft_13, .ref depths_14])), (thickness_6, .inl (ky 0, 36, .inl thicknessG_15)), (lumpNames_7, .inl (ky 1, 6, .inr (.inl (fun _ => 0)))), (lumpCells_8, .inl (ky 0, 6, .inl (fun _ => 0))), (boatNames_9, .inl (ky 1, 6, .inr (.inl (fun _ => 0)))), (boatCells_10, .inl (ky 0, 6, .inl (fun _ => 0))), (loads_11, .inl (ky 0, 6, .inl (fun _ => 0))), (spoons_12, .inl (ky 0, 6, .inl (fun _ => 0))), (spoonsLeft_13, .inl (ky 0, 6, .inl (fun _ => 0))), (depths_14, .inl (ky 0, 6, .inl (fun _ => 0))), (q129, .inr (7, [.int (nI 4), .int (nI 4), .int (nI 10), .int (nI 1), .int (nI 3), .int (nI 0), .int (nI 0), .int (nI 0), .int (nI 0), .int (nI 0), .ref thickness_132, .ref lumpNames_133, .ref lumpCells_134, .ref boatNames_135, .ref boatCells_136, .ref loads_137, .ref spoons_138, .ref spoonsLeft_139, .ref depths_140])), (thickness_132, .inl (ky 0, 36, .inl thicknessG_141)), (lumpNames_133, .inl (ky 1, 6, .inr (.inl (fun _ => 0)))), (lumpCells_134, .inl (ky 0, 6, .inl (fun _ => 0))), (boatNames_135, .inl (ky 1, 6, .inr (.inl (fun _ => 0)))), (boatCells_136, .inl (ky 0, 6, .inl (fun _ => 0))), (loads_137, .inl (ky 0, 6, .inl (fun _ => 0))), (spoons_138, .inl (ky 0, 6, .inl (fun _ => 0))), (spoonsLeft_139, .inl (ky 0, 6, .inl (fun _ => 0))), (depths_140, .inl (ky 0, 6, .inl (fun _ => 0)))] H := hP
  have hD : va_D A [(history, .inr (2, [.ref q1, .int (nI 0), .int (nI 0)])), (q1, .inl (ky 4, 8, .inr (.inr (.inr (.inr g125))))), (q3, .inr (7, [.int (nI 4), .int (nI 4), .int (nI 10), .int (nI 1), .int (nI 3), .int (nI 0), .int (nI 0), .int (nI 0), .int (nI 0), .int (nI 0), .ref thickness_6, .ref lumpNames_7, .ref lumpCells_8, .ref boatNames_9, .ref boatCells_10, .ref loads_11, .ref spoons_12, .ref spoonsLeft_13, .ref depths_14])), (thickness_6, .inl (ky 0, 36, .inl thicknessG_15)), (lumpNames_7, .inl (ky 1, 6, .inr (.inl (fun _ => 0)))), (lumpCells_8, .inl (ky 0, 6, .inl (fun _ => 0))), (boatNames_9, .inl (ky 1, 6, .inr (.inl (fun _ => 0)))), (boatCells_10, .inl (ky 0, 6, .inl (fun _ => 0))), (loads_11, .inl (ky 0, 6, .inl (fun _ => 0))), (spoons_12, .inl (ky 0, 6, .inl (fun _ => 0))), (spoonsLeft_13, .inl (ky 0, 6, .inl (fun _ => 0))), (depths_14, .inl (ky 0, 6, .inl (fun _ => 0))), (q129, .inr (7, [.int (nI 4), .int (nI 4), .int (nI 10), .int (nI 1), .int (nI 3), .int (nI 0), .int (nI 0), .int (nI 0), .int (nI 0), .int (nI 0), .ref thickness_132, .ref lumpNames_133, .ref lumpCells_134, .ref boatNames_135, .ref boatCells_136, .ref loads_137, .ref spoons_138, .ref spoonsLeft_139, .ref depths_140])), (thickness_132, .inl (ky 0, 36, .inl thicknessG_141)), (lumpNames_133, .inl (ky 1, 6, .inr (.inl (fun _ => 0)))), (lumpCells_134, .inl (ky 0, 6, .inl (fun _ => 0))), (boatNames_135, .inl (ky 1, 6, .inr (.inl (fun _ => 0)))), (boatCells_136, .inl (ky 0, 6, .inl (fun _ => 0))), (loads_137, .inl (ky 0, 6, .inl (fun _ => 0))), (spoons_138, .inl (ky 0, 6, .inl (fun _ => 0))), (spoonsLeft_139, .inl (ky 0, 6, .inl (fun _ => 0))), (depths_140, .inl (ky 0, 6, .inl (fun _ => 0)))] := hD
  refine r_aast hx hb hK hP hD hS 1 4 12 7 rfl rfl rfl rfl 7 (by decide) (by decide) dX2_init_33 (fun H locs hP hD hS => ?_)
  have hP : va_P (dC, dI) vwCl [(history, .inr (2, [.ref q1, .int (nI 0), .int (nI 0)])), (q1, .inl (ky 4, 8, .inr (.inr (.inr (.inr (va_up g125 7 (some q129))))))), (q3, .inr (7, [.int (nI 4), .int (nI 4), .int (nI 10), .int (nI 1), .int (nI 3), .int (nI 0), .int (nI 0), .int (nI 0), .int (nI 0), .int (nI 0), .ref thickness_6, .ref lumpNames_7, .ref lumpCells_8, .ref boatNames_9, .ref boatCells_10, .ref loads_11, .ref spoons_12, .ref spoonsLeft_13, .ref depths_14])), (thickness_6, .inl (ky 0, 36, .inl thicknessG_15)), (lumpNames_7, .inl (ky 1, 6, .inr (.inl (fun _ => 0)))), (lumpCells_8, .inl (ky 0, 6, .inl (fun _ => 0))), (boatNames_9, .inl (ky 1, 6, .inr (.inl (fun _ => 0)))), (boatCells_10, .inl (ky 0, 6, .inl (fun _ => 0))), (loads_11, .inl (ky 0, 6, .inl (fun _ => 0))), (spoons_12, .inl (ky 0, 6, .inl (fun _ => 0))), (spoonsLeft_13, .inl (ky 0, 6, .inl (fun _ => 0))), (depths_14, .inl (ky 0, 6, .inl (fun _ => 0))), (q129, .inr (7, [.int (nI 4), .int (nI 4), .int (nI 10), .int (nI 1), .int (nI 3), .int (nI 0), .int (nI 0), .int (nI 0), .int (nI 0), .int (nI 0), .ref thickness_132, .ref lumpNames_133, .ref lumpCells_134, .ref boatNames_135, .ref boatCells_136, .ref loads_137, .ref spoons_138, .ref spoonsLeft_139, .ref depths_140])), (thickness_132, .inl (ky 0, 36, .inl thicknessG_141)), (lumpNames_133, .inl (ky 1, 6, .inr (.inl (fun _ => 0)))), (lumpCells_134, .inl (ky 0, 6, .inl (fun _ => 0))), (boatNames_135, .inl (ky 1, 6, .inr (.inl (fun _ => 0)))), (boatCells_136, .inl (ky 0, 6, .inl (fun _ => 0))), (loads_137, .inl (ky 0, 6, .inl (fun _ => 0))), (spoons_138, .inl (ky 0, 6, .inl (fun _ => 0))), (spoonsLeft_139, .inl (ky 0, 6, .inl (fun _ => 0))), (depths_140, .inl (ky 0, 6, .inl (fun _ => 0)))] H := hP
  have hD : va_D A [(history, .inr (2, [.ref q1, .int (nI 0), .int (nI 0)])), (q1, .inl (ky 4, 8, .inr (.inr (.inr (.inr (va_up g125 7 (some q129))))))), (q3, .inr (7, [.int (nI 4), .int (nI 4), .int (nI 10), .int (nI 1), .int (nI 3), .int (nI 0), .int (nI 0), .int (nI 0), .int (nI 0), .int (nI 0), .ref thickness_6, .ref lumpNames_7, .ref lumpCells_8, .ref boatNames_9, .ref boatCells_10, .ref loads_11, .ref spoons_12, .ref spoonsLeft_13, .ref depths_14])), (thickness_6, .inl (ky 0, 36, .inl thicknessG_15)), (lumpNames_7, .inl (ky 1, 6, .inr (.inl (fun _ => 0)))), (lumpCells_8, .inl (ky 0, 6, .inl (fun _ => 0))), (boatNames_9, .inl (ky 1, 6, .inr (.inl (fun _ => 0)))), (boatCells_10, .inl (ky 0, 6, .inl (fun _ => 0))), (loads_11, .inl (ky 0, 6, .inl (fun _ => 0))), (spoons_12, .inl (ky 0, 6, .inl (fun _ => 0))), (spoonsLeft_13, .inl (ky 0, 6, .inl (fun _ => 0))), (depths_14, .inl (ky 0, 6, .inl (fun _ => 0))), (q129, .inr (7, [.int (nI 4), .int (nI 4), .int (nI 10), .int (nI 1), .int (nI 3), .int (nI 0), .int (nI 0), .int (nI 0), .int (nI 0), .int (nI 0), .ref thickness_132, .ref lumpNames_133, .ref lumpCells_134, .ref boatNames_135, .ref boatCells_136, .ref loads_137, .ref spoons_138, .ref spoonsLeft_139, .ref depths_140])), (thickness_132, .inl (ky 0, 36, .inl thicknessG_141)), (lumpNames_133, .inl (ky 1, 6, .inr (.inl (fun _ => 0)))), (lumpCells_134, .inl (ky 0, 6, .inl (fun _ => 0))), (boatNames_135, .inl (ky 1, 6, .inr (.inl (fun _ => 0)))), (boatCells_136, .inl (ky 0, 6, .inl (fun _ => 0))), (loads_137, .inl (ky 0, 6, .inl (fun _ => 0))), (spoons_138, .inl (ky 0, 6, .inl (fun _ => 0))), (spoonsLeft_139, .inl (ky 0, 6, .inl (fun _ => 0))), (depths_140, .inl (ky 0, 6, .inl (fun _ => 0)))] := hD
  obtain ⟨g143, e144⟩ : ∃ z9, z9 = va_up g125 7 (some q129) := ⟨_, rfl⟩
  rw [← e144] at hP hD
  have z145 : g143 0 = some q3 := by rw [e144]; exact z127
  have hP : va_P (dC, dI) vwCl [(history, .inr (2, [.ref q1, .int (nI 0), .int (nI 0)])), (q1, .inl (ky 4, 8, .inr (.inr (.inr (.inr g143))))), (q3, .inr (7, [.int (nI 4), .int (nI 4), .int (nI 10), .int (nI 1), .int (nI 3), .int (nI 0), .int (nI 0), .int (nI 0), .int (nI 0), .int (nI 0), .ref thickness_6, .ref lumpNames_7, .ref lumpCells_8, .ref boatNames_9, .ref boatCells_10, .ref loads_11, .ref spoons_12, .ref spoonsLeft_13, .ref depths_14])), (thickness_6, .inl (ky 0, 36, .inl thicknessG_15)), (lumpNames_7, .inl (ky 1, 6, .inr (.inl (fun _ => 0)))), (lumpCells_8, .inl (ky 0, 6, .inl (fun _ => 0))), (boatNames_9, .inl (ky 1, 6, .inr (.inl (fun _ => 0)))), (boatCells_10, .inl (ky 0, 6, .inl (fun _ => 0))), (loads_11, .inl (ky 0, 6, .inl (fun _ => 0))), (spoons_12, .inl (ky 0, 6, .inl (fun _ => 0))), (spoonsLeft_13, .inl (ky 0, 6, .inl (fun _ => 0))), (depths_14, .inl (ky 0, 6, .inl (fun _ => 0)))] H := hP.sub [0, 1, 2, 3, 4, 5, 6, 7, 8, 9, 10, 11] rfl
  have hD : va_D A [(history, .inr (2, [.ref q1, .int (nI 0), .int (nI 0)])), (q1, .inl (ky 4, 8, .inr (.inr (.inr (.inr g143))))), (q3, .inr (7, [.int (nI 4), .int (nI 4), .int (nI 10), .int (nI 1), .int (nI 3), .int (nI 0), .int (nI 0), .int (nI 0), .int (nI 0), .int (nI 0), .ref thickness_6, .ref lumpNames_7, .ref lumpCells_8, .ref boatNames_9, .ref boatCells_10, .ref loads_11, .ref spoons_12, .ref spoonsLeft_13, .ref depths_14])), (thickness_6, .inl (ky 0, 36, .inl thicknessG_15)), (lumpNames_7, .inl (ky 1, 6, .inr (.inl (fun _ => 0)))), (lumpCells_8, .inl (ky 0, 6, .inl (fun _ => 0))), (boatNames_9, .inl (ky 1, 6, .inr (.inl (fun _ => 0)))), (boatCells_10, .inl (ky 0, 6, .inl (fun _ => 0))), (loads_11, .inl (ky 0, 6, .inl (fun _ => 0))), (spoons_12, .inl (ky 0, 6, .inl (fun _ => 0))), (spoonsLeft_13, .inl (ky 0, 6, .inl (fun _ => 0))), (depths_14, .inl (ky 0, 6, .inl (fun _ => 0)))] := hD.sub [0, 1, 2, 3, 4, 5, 6, 7, 8, 9, 10, 11] (by decide) rfl
  refine lv_iinc (v := nI 8) (lv' := [(1, .int (nI 8)), (0, .ref history)]) hx hb dX2_init_34 hl (k := 0) rfl (by decide) (by decide) rfl (fun ls hl => ?_)
  refine lv_goto (tgt := 15) hx hb dX2_init_37 (by decide) ?_
  refine lv_iload_n hx hb dX2_init_15 rfl (lv_at hl 0 rfl) ?_
  refine lv_bipush (v := nI 8) hx hb dX2_init_16 (by decide) ?_
  refine lv_icmp_ge (tgt := 40) hx hb dX2_init_18 (by decide) (fun c146 => ?_) (fun c146 => absurd (by decide) c146)
  refine lv_aload_n hx hb dX2_init_40 rfl (lv_at hl 1 rfl) ?_
  refine lv_iconst (v := nI 0) hx hb dX2_init_41 (by decide) ?_
  refine va_put (D := (dC, dI)) (ci := 2) (v := .int (nI 0)) (ty := .int) (C := RX2) (T := TX2) (N := 3) hx hb hts hin2 tyX2 tyX2_ok nmX2 hown hK hP hD hS 0 rfl rfl 1 (by decide) (hts (.fieldLink RX2 18 "PorridgeSea$History" "next" "I") (List.mem_of_getElem? (i := 8) rfl)) (fun _ h9 => h9) rfl (by decide +kernel) rfl rfl (Nat.le_of_ble_eq_true rfl) dX2_init_42 (fun H locs hP hD hS => ?_)
  have hP : va_P (dC, dI) vwCl [(history, .inr (2, [.ref q1, .int (nI 0), .int (nI 0)])), (q1, .inl (ky 4, 8, .inr (.inr (.inr (.inr g143))))), (q3, .inr (7, [.int (nI 4), .int (nI 4), .int (nI 10), .int (nI 1), .int (nI 3), .int (nI 0), .int (nI 0), .int (nI 0), .int (nI 0), .int (nI 0), .ref thickness_6, .ref lumpNames_7, .ref lumpCells_8, .ref boatNames_9, .ref boatCells_10, .ref loads_11, .ref spoons_12, .ref spoonsLeft_13, .ref depths_14])), (thickness_6, .inl (ky 0, 36, .inl thicknessG_15)), (lumpNames_7, .inl (ky 1, 6, .inr (.inl (fun _ => 0)))), (lumpCells_8, .inl (ky 0, 6, .inl (fun _ => 0))), (boatNames_9, .inl (ky 1, 6, .inr (.inl (fun _ => 0)))), (boatCells_10, .inl (ky 0, 6, .inl (fun _ => 0))), (loads_11, .inl (ky 0, 6, .inl (fun _ => 0))), (spoons_12, .inl (ky 0, 6, .inl (fun _ => 0))), (spoonsLeft_13, .inl (ky 0, 6, .inl (fun _ => 0))), (depths_14, .inl (ky 0, 6, .inl (fun _ => 0)))] H := hP
  have hD : va_D A [(history, .inr (2, [.ref q1, .int (nI 0), .int (nI 0)])), (q1, .inl (ky 4, 8, .inr (.inr (.inr (.inr g143))))), (q3, .inr (7, [.int (nI 4), .int (nI 4), .int (nI 10), .int (nI 1), .int (nI 3), .int (nI 0), .int (nI 0), .int (nI 0), .int (nI 0), .int (nI 0), .ref thickness_6, .ref lumpNames_7, .ref lumpCells_8, .ref boatNames_9, .ref boatCells_10, .ref loads_11, .ref spoons_12, .ref spoonsLeft_13, .ref depths_14])), (thickness_6, .inl (ky 0, 36, .inl thicknessG_15)), (lumpNames_7, .inl (ky 1, 6, .inr (.inl (fun _ => 0)))), (lumpCells_8, .inl (ky 0, 6, .inl (fun _ => 0))), (boatNames_9, .inl (ky 1, 6, .inr (.inl (fun _ => 0)))), (boatCells_10, .inl (ky 0, 6, .inl (fun _ => 0))), (loads_11, .inl (ky 0, 6, .inl (fun _ => 0))), (spoons_12, .inl (ky 0, 6, .inl (fun _ => 0))), (spoonsLeft_13, .inl (ky 0, 6, .inl (fun _ => 0))), (depths_14, .inl (ky 0, 6, .inl (fun _ => 0)))] := hD
  refine lv_aload_n hx hb dX2_init_45 rfl (lv_at hl 1 rfl) ?_
  refine lv_iconst (v := nI 0) hx hb dX2_init_46 (by decide) ?_
  refine va_put (D := (dC, dI)) (ci := 2) (v := .int (nI 0)) (ty := .int) (C := RX2) (T := TX2) (N := 3) hx hb hts hin2 tyX2 tyX2_ok nmX2 hown hK hP hD hS 0 rfl rfl 2 (by decide) (hts (.fieldLink RX2 22 "PorridgeSea$History" "kept" "I") (List.mem_of_getElem? (i := 9) rfl)) (fun _ h9 => h9) rfl (by decide +kernel) rfl rfl (Nat.le_of_ble_eq_true rfl) dX2_init_47 (fun H locs hP hD hS => ?_)
  have hP : va_P (dC, dI) vwCl [(history, .inr (2, [.ref q1, .int (nI 0), .int (nI 0)])), (q1, .inl (ky 4, 8, .inr (.inr (.inr (.inr g143))))), (q3, .inr (7, [.int (nI 4), .int (nI 4), .int (nI 10), .int (nI 1), .int (nI 3), .int (nI 0), .int (nI 0), .int (nI 0), .int (nI 0), .int (nI 0), .ref thickness_6, .ref lumpNames_7, .ref lumpCells_8, .ref boatNames_9, .ref boatCells_10, .ref loads_11, .ref spoons_12, .ref spoonsLeft_13, .ref depths_14])), (thickness_6, .inl (ky 0, 36, .inl thicknessG_15)), (lumpNames_7, .inl (ky 1, 6, .inr (.inl (fun _ => 0)))), (lumpCells_8, .inl (ky 0, 6, .inl (fun _ => 0))), (boatNames_9, .inl (ky 1, 6, .inr (.inl (fun _ => 0)))), (boatCells_10, .inl (ky 0, 6, .inl (fun _ => 0))), (loads_11, .inl (ky 0, 6, .inl (fun _ => 0))), (spoons_12, .inl (ky 0, 6, .inl (fun _ => 0))), (spoonsLeft_13, .inl (ky 0, 6, .inl (fun _ => 0))), (depths_14, .inl (ky 0, 6, .inl (fun _ => 0)))] H := hP
  have hD : va_D A [(history, .inr (2, [.ref q1, .int (nI 0), .int (nI 0)])), (q1, .inl (ky 4, 8, .inr (.inr (.inr (.inr g143))))), (q3, .inr (7, [.int (nI 4), .int (nI 4), .int (nI 10), .int (nI 1), .int (nI 3), .int (nI 0), .int (nI 0), .int (nI 0), .int (nI 0), .int (nI 0), .ref thickness_6, .ref lumpNames_7, .ref lumpCells_8, .ref boatNames_9, .ref boatCells_10, .ref loads_11, .ref spoons_12, .ref spoonsLeft_13, .ref depths_14])), (thickness_6, .inl (ky 0, 36, .inl thicknessG_15)), (lumpNames_7, .inl (ky 1, 6, .inr (.inl (fun _ => 0)))), (lumpCells_8, .inl (ky 0, 6, .inl (fun _ => 0))), (boatNames_9, .inl (ky 1, 6, .inr (.inl (fun _ => 0)))), (boatCells_10, .inl (ky 0, 6, .inl (fun _ => 0))), (loads_11, .inl (ky 0, 6, .inl (fun _ => 0))), (spoons_12, .inl (ky 0, 6, .inl (fun _ => 0))), (spoonsLeft_13, .inl (ky 0, 6, .inl (fun _ => 0))), (depths_14, .inl (ky 0, 6, .inl (fun _ => 0)))] := hD
  have hP9 := hP.sub (ws' := [(history, .inr (2, [.ref q1, .int (nI 0), .int (nI 0)])), (q1, .inl (ky 4, 8, .inr (.inr (.inr (.inr g143))))), (q3, .inr (7, [.int (nI 4), .int (nI 4), .int (nI 10), .int (nI 1), .int (nI 3), .int (nI 0), .int (nI 0), .int (nI 0), .int (nI 0), .int (nI 0), .ref thickness_6, .ref lumpNames_7, .ref lumpCells_8, .ref boatNames_9, .ref boatCells_10, .ref loads_11, .ref spoons_12, .ref spoonsLeft_13, .ref depths_14])), (thickness_6, .inl (ky 0, 36, .inl thicknessG_15)), (lumpNames_7, .inl (ky 1, 6, .inr (.inl (fun _ => 0)))), (lumpCells_8, .inl (ky 0, 6, .inl (fun _ => 0))), (boatNames_9, .inl (ky 1, 6, .inr (.inl (fun _ => 0)))), (boatCells_10, .inl (ky 0, 6, .inl (fun _ => 0))), (loads_11, .inl (ky 0, 6, .inl (fun _ => 0))), (spoons_12, .inl (ky 0, 6, .inl (fun _ => 0))), (spoonsLeft_13, .inl (ky 0, 6, .inl (fun _ => 0))), (depths_14, .inl (ky 0, 6, .inl (fun _ => 0)))]) [0, 1, 2, 3, 4, 5, 6, 7, 8, 9, 10, 11] rfl
  have hD9 := hD.sub (ws' := [(history, .inr (2, [.ref q1, .int (nI 0), .int (nI 0)])), (q1, .inl (ky 4, 8, .inr (.inr (.inr (.inr g143))))), (q3, .inr (7, [.int (nI 4), .int (nI 4), .int (nI 10), .int (nI 1), .int (nI 3), .int (nI 0), .int (nI 0), .int (nI 0), .int (nI 0), .int (nI 0), .ref thickness_6, .ref lumpNames_7, .ref lumpCells_8, .ref boatNames_9, .ref boatCells_10, .ref loads_11, .ref spoons_12, .ref spoonsLeft_13, .ref depths_14])), (thickness_6, .inl (ky 0, 36, .inl thicknessG_15)), (lumpNames_7, .inl (ky 1, 6, .inr (.inl (fun _ => 0)))), (lumpCells_8, .inl (ky 0, 6, .inl (fun _ => 0))), (boatNames_9, .inl (ky 1, 6, .inr (.inl (fun _ => 0)))), (boatCells_10, .inl (ky 0, 6, .inl (fun _ => 0))), (loads_11, .inl (ky 0, 6, .inl (fun _ => 0))), (spoons_12, .inl (ky 0, 6, .inl (fun _ => 0))), (spoonsLeft_13, .inl (ky 0, 6, .inl (fun _ => 0))), (depths_14, .inl (ky 0, 6, .inl (fun _ => 0)))]) [0, 1, 2, 3, 4, 5, 6, 7, 8, 9, 10, 11] (by decide) rfl
  refine W.widen (k := 81) (n := 832) (Nat.le_of_ble_eq_true rfl) (Nat.le_of_ble_eq_true rfl) ?_
  exact W.vret hx hb hr (fun t ht9 hW9 => ⟨⟨(q1, q3, g143, thickness_6, lumpNames_7, lumpCells_8, boatNames_9, boatCells_10, loads_11, spoons_12, spoonsLeft_13, depths_14, thicknessG_15, fun _ => 0, fun _ => 0, fun _ => 0, fun _ => 0, fun _ => 0, fun _ => 0, fun _ => 0, fun _ => 0), rfl, (lf_History_init_1 history q1 q3 thickness_6 lumpNames_7 lumpCells_8 boatNames_9 boatCells_10 loads_11 spoons_12 spoonsLeft_13 depths_14 thicknessG_15 g17 q21 thickness_24 lumpNames_25 lumpCells_26 boatNames_27 boatCells_28 loads_29 spoons_30 spoonsLeft_31 depths_32 thicknessG_33 g35 q39 thickness_42 lumpNames_43 lumpCells_44 boatNames_45 boatCells_46 loads_47 spoons_48 spoonsLeft_49 depths_50 thicknessG_51 g53 q57 thickness_60 lumpNames_61 lumpCells_62 boatNames_63 boatCells_64 loads_65 spoons_66 spoonsLeft_67 depths_68 thicknessG_69 g71 q75 thickness_78 lumpNames_79 lumpCells_80 boatNames_81 boatCells_82 loads_83 spoons_84 spoonsLeft_85 depths_86 thicknessG_87 g89 q93 thickness_96 lumpNames_97 lumpCells_98 boatNames_99 boatCells_100 loads_101 spoons_102 spoonsLeft_103 depths_104 thicknessG_105 g107 q111 thickness_114 lumpNames_115 lumpCells_116 boatNames_117 boatCells_118 loads_119 spoons_120 spoonsLeft_121 depths_122 thicknessG_123 g125 q129 thickness_132 lumpNames_133 lumpCells_134 boatNames_135 boatCells_136 loads_137 spoons_138 spoonsLeft_139 depths_140 thicknessG_141 g143 p16 p34 p52 p70 p88 p106 p124 p142 z145), by rw [ht9]; exact hP9, va_K.moved hW9.alike hK, hD9⟩, hS.F ht9⟩) hS.2.2 dX2_init_50
set_option maxHeartbeats 4000000 in
set_option maxRecDepth 100000 in
theorem c_keep (l : Launch) (dC : Nat → ClassId) (dI : Nat → Nat → Nat) (ky : Nat → ClassId) (sz : Nat) (history : Nat) (ring : Nat) (ringF : Nat → Option Nat) (a : Nat) (wide : Int32) (high : Int32) (heat : Int32) (cools : Int32) (skinHeat : Int32) (today : Int32) (stirs : Int32) (steps : Int32) (lumps : Int32) (boats : Int32) (thickness : Nat) (lumpNames : Nat) (lumpCells : Nat) (boatNames : Nat) (boatCells : Nat) (loads : Nat) (spoons : Nat) (spoonsLeft : Nat) (depths : Nat) (thicknessF : Nat → Int32) (lumpNamesF : Nat → Int64) (lumpCellsF : Nat → Int32) (boatNamesF : Nat → Int64) (boatCellsF : Nat → Int32) (loadsF : Nat → Int32) (spoonsF : Nat → Int32) (spoonsLeftF : Nat → Int32) (depthsF : Nat → Int32) (rg : Nat) (gwide : Int32) (ghigh : Int32) (gheat : Int32) (gcools : Int32) (gskinHeat : Int32) (gtoday : Int32) (gstirs : Int32) (gsteps : Int32) (glumps : Int32) (gboats : Int32) (gthickness : Nat) (glumpNames : Nat) (glumpCells : Nat) (gboatNames : Nat) (gboatCells : Nat) (gloads : Nat) (gspoons : Nat) (gspoonsLeft : Nat) (gdepths : Nat) (gthicknessF : Nat → Int32) (glumpNamesF : Nat → Int64) (glumpCellsF : Nat → Int32) (gboatNamesF : Nat → Int64) (gboatCellsF : Nat → Int32) (gloadsF : Nat → Int32) (gspoonsF : Nat → Int32) (gspoonsLeftF : Nat → Int32) (gdepthsF : Nat → Int32) (hr0 : ringF 0 = some rg) : Met l yX2_keep wsX2_keep ({ frames := 2, cells := 0, slots := 0, locals := 81 }) (PcU dC dI ky [.ref history, .ref a] [(history, .inr (2, [.ref ring, .int (nI 0), .int (nI 0)])), (ring, .inl (ky 4, 8, .inr (.inr (.inr (.inr ringF))))), (a, .inr (7, [.int wide, .int high, .int heat, .int cools, .int skinHeat, .int today, .int stirs, .int steps, .int lumps, .int boats, .ref thickness, .ref lumpNames, .ref lumpCells, .ref boatNames, .ref boatCells, .ref loads, .ref spoons, .ref spoonsLeft, .ref depths])), (thickness, .inl (ky 0, 36, .inl thicknessF)), (lumpNames, .inl (ky 1, 6, .inr (.inl lumpNamesF))), (lumpCells, .inl (ky 0, 6, .inl lumpCellsF)), (boatNames, .inl (ky 1, 6, .inr (.inl boatNamesF))), (boatCells, .inl (ky 0, 6, .inl boatCellsF)), (loads, .inl (ky 0, 6, .inl loadsF)), (spoons, .inl (ky 0, 6, .inl spoonsF)), (spoonsLeft, .inl (ky 0, 6, .inl spoonsLeftF)), (depths, .inl (ky 0, 6, .inl depthsF)), (rg, .inr (7, [.int gwide, .int ghigh, .int gheat, .int gcools, .int gskinHeat, .int gtoday, .int gstirs, .int gsteps, .int glumps, .int gboats, .ref gthickness, .ref glumpNames, .ref glumpCells, .ref gboatNames, .ref gboatCells, .ref gloads, .ref gspoons, .ref gspoonsLeft, .ref gdepths])), (gthickness, .inl (ky 0, 36, .inl gthicknessF)), (glumpNames, .inl (ky 1, 6, .inr (.inl glumpNamesF))), (glumpCells, .inl (ky 0, 6, .inl glumpCellsF)), (gboatNames, .inl (ky 1, 6, .inr (.inl gboatNamesF))), (gboatCells, .inl (ky 0, 6, .inl gboatCellsF)), (gloads, .inl (ky 0, 6, .inl gloadsF)), (gspoons, .inl (ky 0, 6, .inl gspoonsF)), (gspoonsLeft, .inl (ky 0, 6, .inl gspoonsLeftF)), (gdepths, .inl (ky 0, 6, .inl gdepthsF))] sz) (va_Qv (fun (_ : Unit) => True) (BU dC dI ky (fun (_ : Unit) => [(a, .inr (7, [.int wide, .int high, .int heat, .int cools, .int skinHeat, .int today, .int stirs, .int steps, .int lumps, .int boats, .ref thickness, .ref lumpNames, .ref lumpCells, .ref boatNames, .ref boatCells, .ref loads, .ref spoons, .ref spoonsLeft, .ref depths])), (thickness, .inl (ky 0, 36, .inl thicknessF)), (lumpNames, .inl (ky 1, 6, .inr (.inl lumpNamesF))), (lumpCells, .inl (ky 0, 6, .inl lumpCellsF)), (boatNames, .inl (ky 1, 6, .inr (.inl boatNamesF))), (boatCells, .inl (ky 0, 6, .inl boatCellsF)), (loads, .inl (ky 0, 6, .inl loadsF)), (spoons, .inl (ky 0, 6, .inl spoonsF)), (spoonsLeft, .inl (ky 0, 6, .inl spoonsLeftF)), (depths, .inl (ky 0, 6, .inl depthsF))]) (va_A [(history, .inr (2, [.ref ring, .int (nI 0), .int (nI 0)])), (ring, .inl (ky 4, 8, .inr (.inr (.inr (.inr ringF))))), (a, .inr (7, [.int wide, .int high, .int heat, .int cools, .int skinHeat, .int today, .int stirs, .int steps, .int lumps, .int boats, .ref thickness, .ref lumpNames, .ref lumpCells, .ref boatNames, .ref boatCells, .ref loads, .ref spoons, .ref spoonsLeft, .ref depths])), (thickness, .inl (ky 0, 36, .inl thicknessF)), (lumpNames, .inl (ky 1, 6, .inr (.inl lumpNamesF))), (lumpCells, .inl (ky 0, 6, .inl lumpCellsF)), (boatNames, .inl (ky 1, 6, .inr (.inl boatNamesF))), (boatCells, .inl (ky 0, 6, .inl boatCellsF)), (loads, .inl (ky 0, 6, .inl loadsF)), (spoons, .inl (ky 0, 6, .inl spoonsF)), (spoonsLeft, .inl (ky 0, 6, .inl spoonsLeftF)), (depths, .inl (ky 0, 6, .inl depthsF)), (rg, .inr (7, [.int gwide, .int ghigh, .int gheat, .int gcools, .int gskinHeat, .int gtoday, .int gstirs, .int gsteps, .int glumps, .int gboats, .ref gthickness, .ref glumpNames, .ref glumpCells, .ref gboatNames, .ref gboatCells, .ref gloads, .ref gspoons, .ref gspoonsLeft, .ref gdepths])), (gthickness, .inl (ky 0, 36, .inl gthicknessF)), (glumpNames, .inl (ky 1, 6, .inr (.inl glumpNamesF))), (glumpCells, .inl (ky 0, 6, .inl glumpCellsF)), (gboatNames, .inl (ky 1, 6, .inr (.inl gboatNamesF))), (gboatCells, .inl (ky 0, 6, .inl gboatCellsF)), (gloads, .inl (ky 0, 6, .inl gloadsF)), (gspoons, .inl (ky 0, 6, .inl gspoonsF)), (gspoonsLeft, .inl (ky 0, 6, .inl gspoonsLeftF)), (gdepths, .inl (ky 0, 6, .inl gdepthsF))] sz)) (va_A [(history, .inr (2, [.ref ring, .int (nI 0), .int (nI 0)])), (ring, .inl (ky 4, 8, .inr (.inr (.inr (.inr ringF))))), (a, .inr (7, [.int wide, .int high, .int heat, .int cools, .int skinHeat, .int today, .int stirs, .int steps, .int lumps, .int boats, .ref thickness, .ref lumpNames, .ref lumpCells, .ref boatNames, .ref boatCells, .ref loads, .ref spoons, .ref spoonsLeft, .ref depths])), (thickness, .inl (ky 0, 36, .inl thicknessF)), (lumpNames, .inl (ky 1, 6, .inr (.inl lumpNamesF))), (lumpCells, .inl (ky 0, 6, .inl lumpCellsF)), (boatNames, .inl (ky 1, 6, .inr (.inl boatNamesF))), (boatCells, .inl (ky 0, 6, .inl boatCellsF)), (loads, .inl (ky 0, 6, .inl loadsF)), (spoons, .inl (ky 0, 6, .inl spoonsF)), (spoonsLeft, .inl (ky 0, 6, .inl spoonsLeftF)), (depths, .inl (ky 0, 6, .inl depthsF)), (rg, .inr (7, [.int gwide, .int ghigh, .int gheat, .int gcools, .int gskinHeat, .int gtoday, .int gstirs, .int gsteps, .int glumps, .int gboats, .ref gthickness, .ref glumpNames, .ref glumpCells, .ref gboatNames, .ref gboatCells, .ref gloads, .ref gspoons, .ref gspoonsLeft, .ref gdepths])), (gthickness, .inl (ky 0, 36, .inl gthicknessF)), (glumpNames, .inl (ky 1, 6, .inr (.inl glumpNamesF))), (glumpCells, .inl (ky 0, 6, .inl glumpCellsF)), (gboatNames, .inl (ky 1, 6, .inr (.inl gboatNamesF))), (gboatCells, .inl (ky 0, 6, .inl gboatCellsF)), (gloads, .inl (ky 0, 6, .inl gloadsF)), (gspoons, .inl (ky 0, 6, .inl gspoonsF)), (gspoonsLeft, .inl (ky 0, 6, .inl gspoonsLeftF)), (gdepths, .inl (ky 0, 6, .inl gdepthsF))] sz)) 0 0 (va_A [(history, .inr (2, [.ref ring, .int (nI 0), .int (nI 0)])), (ring, .inl (ky 4, 8, .inr (.inr (.inr (.inr ringF))))), (a, .inr (7, [.int wide, .int high, .int heat, .int cools, .int skinHeat, .int today, .int stirs, .int steps, .int lumps, .int boats, .ref thickness, .ref lumpNames, .ref lumpCells, .ref boatNames, .ref boatCells, .ref loads, .ref spoons, .ref spoonsLeft, .ref depths])), (thickness, .inl (ky 0, 36, .inl thicknessF)), (lumpNames, .inl (ky 1, 6, .inr (.inl lumpNamesF))), (lumpCells, .inl (ky 0, 6, .inl lumpCellsF)), (boatNames, .inl (ky 1, 6, .inr (.inl boatNamesF))), (boatCells, .inl (ky 0, 6, .inl boatCellsF)), (loads, .inl (ky 0, 6, .inl loadsF)), (spoons, .inl (ky 0, 6, .inl spoonsF)), (spoonsLeft, .inl (ky 0, 6, .inl spoonsLeftF)), (depths, .inl (ky 0, 6, .inl depthsF)), (rg, .inr (7, [.int gwide, .int ghigh, .int gheat, .int gcools, .int gskinHeat, .int gtoday, .int gstirs, .int gsteps, .int glumps, .int gboats, .ref gthickness, .ref glumpNames, .ref glumpCells, .ref gboatNames, .ref gboatCells, .ref gloads, .ref gspoons, .ref gspoonsLeft, .ref gdepths])), (gthickness, .inl (ky 0, 36, .inl gthicknessF)), (glumpNames, .inl (ky 1, 6, .inr (.inl glumpNamesF))), (glumpCells, .inl (ky 0, 6, .inl glumpCellsF)), (gboatNames, .inl (ky 1, 6, .inr (.inl gboatNamesF))), (gboatCells, .inl (ky 0, 6, .inl gboatCellsF)), (gloads, .inl (ky 0, 6, .inl gloadsF)), (gspoons, .inl (ky 0, 6, .inl gspoonsF)), (gspoonsLeft, .inl (ky 0, 6, .inl gspoonsLeftF)), (gdepths, .inl (ky 0, 6, .inl gdepthsF))] sz) := by
  refine Met.ofW (cc := cX2_keep) (maxL := 2) (ret := none) (by decide) rfl ?_
  intro p e s m args below meth c s₁ B hml hv
  obtain ⟨rfl, hsz, hP, hK, hD0⟩ := hv
  have hx := B.exec
  have hb := B.bytes
  have hr := B.returns
  have hts := atoms_spec (ws := wsX2_keep) B.pre
  have hown : s.vm.findClass RX2 = some m.cls := findClass_of_methodNamed B.named
  have hlocks := B.notSynchronized
  have hin2 : ∀ w ∈ u_ws RX2 TX2 3, w ∈ wsX2_keep := by decide +kernel
  subst hsz
  have hD := hD0.self (sz := s.heap.size)
  generalize hAe : va_A [(history, .inr (2, [.ref ring, .int (nI 0), .int (nI 0)])), (ring, .inl (ky 4, 8, .inr (.inr (.inr (.inr ringF))))), (a, .inr (7, [.int wide, .int high, .int heat, .int cools, .int skinHeat, .int today, .int stirs, .int steps, .int lumps, .int boats, .ref thickness, .ref lumpNames, .ref lumpCells, .ref boatNames, .ref boatCells, .ref loads, .ref spoons, .ref spoonsLeft, .ref depths])), (thickness, .inl (ky 0, 36, .inl thicknessF)), (lumpNames, .inl (ky 1, 6, .inr (.inl lumpNamesF))), (lumpCells, .inl (ky 0, 6, .inl lumpCellsF)), (boatNames, .inl (ky 1, 6, .inr (.inl boatNamesF))), (boatCells, .inl (ky 0, 6, .inl boatCellsF)), (loads, .inl (ky 0, 6, .inl loadsF)), (spoons, .inl (ky 0, 6, .inl spoonsF)), (spoonsLeft, .inl (ky 0, 6, .inl spoonsLeftF)), (depths, .inl (ky 0, 6, .inl depthsF)), (rg, .inr (7, [.int gwide, .int ghigh, .int gheat, .int gcools, .int gskinHeat, .int gtoday, .int gstirs, .int gsteps, .int glumps, .int gboats, .ref gthickness, .ref glumpNames, .ref glumpCells, .ref gboatNames, .ref gboatCells, .ref gloads, .ref gspoons, .ref gspoonsLeft, .ref gdepths])), (gthickness, .inl (ky 0, 36, .inl gthicknessF)), (glumpNames, .inl (ky 1, 6, .inr (.inl glumpNamesF))), (glumpCells, .inl (ky 0, 6, .inl glumpCellsF)), (gboatNames, .inl (ky 1, 6, .inr (.inl gboatNamesF))), (gboatCells, .inl (ky 0, 6, .inl gboatCellsF)), (gloads, .inl (ky 0, 6, .inl gloadsF)), (gspoons, .inl (ky 0, 6, .inl gspoonsF)), (gspoonsLeft, .inl (ky 0, 6, .inl gspoonsLeftF)), (gdepths, .inl (ky 0, 6, .inl gdepthsF))] s.heap.size = A at hD ⊢
  have hA : ∀ q : Nat, s.heap.size ≤ q → A q := fun q h => by rw [← hAe]; exact Or.inr h
  have hS : va_S A s.heap s.heap [] := va_S.rf
  have hP : va_P (dC, dI) vwCl [(history, .inr (2, [.ref ring, .int (nI 0), .int (nI 0)])), (ring, .inl (ky 4, 8, .inr (.inr (.inr (.inr ringF))))), (a, .inr (7, [.int wide, .int high, .int heat, .int cools, .int skinHeat, .int today, .int stirs, .int steps, .int lumps, .int boats, .ref thickness, .ref lumpNames, .ref lumpCells, .ref boatNames, .ref boatCells, .ref loads, .ref spoons, .ref spoonsLeft, .ref depths])), (thickness, .inl (ky 0, 36, .inl thicknessF)), (lumpNames, .inl (ky 1, 6, .inr (.inl lumpNamesF))), (lumpCells, .inl (ky 0, 6, .inl lumpCellsF)), (boatNames, .inl (ky 1, 6, .inr (.inl boatNamesF))), (boatCells, .inl (ky 0, 6, .inl boatCellsF)), (loads, .inl (ky 0, 6, .inl loadsF)), (spoons, .inl (ky 0, 6, .inl spoonsF)), (spoonsLeft, .inl (ky 0, 6, .inl spoonsLeftF)), (depths, .inl (ky 0, 6, .inl depthsF)), (rg, .inr (7, [.int gwide, .int ghigh, .int gheat, .int gcools, .int gskinHeat, .int gtoday, .int gstirs, .int gsteps, .int glumps, .int gboats, .ref gthickness, .ref glumpNames, .ref glumpCells, .ref gboatNames, .ref gboatCells, .ref gloads, .ref gspoons, .ref gspoonsLeft, .ref gdepths])), (gthickness, .inl (ky 0, 36, .inl gthicknessF)), (glumpNames, .inl (ky 1, 6, .inr (.inl glumpNamesF))), (glumpCells, .inl (ky 0, 6, .inl glumpCellsF)), (gboatNames, .inl (ky 1, 6, .inr (.inl gboatNamesF))), (gboatCells, .inl (ky 0, 6, .inl gboatCellsF)), (gloads, .inl (ky 0, 6, .inl gloadsF)), (gspoons, .inl (ky 0, 6, .inl gspoonsF)), (gspoonsLeft, .inl (ky 0, 6, .inl gspoonsLeftF)), (gdepths, .inl (ky 0, 6, .inl gdepthsF))] s.heap := hP
  have hl := lv_entry ([.ref history, .ref a]) (n := 2) (Nat.le_of_ble_eq_true rfl)
  rw [lg_entry_eq]
  generalize (lg_sl ([.ref history, .ref a]) ++ List.replicate (2 - (lg_sl ([.ref history, .ref a])).length) Slot.unset).toArray = ls at hl ⊢
  have hl : lv_has ls 2 [(0, .ref history), (1, .ref a)] := hl
  have hH0 : True := trivial
  refine lv_aload_n hx hb dX2_keep_0 rfl (lv_at hl 1 rfl) ?_
  refine lv_aload_n hx hb dX2_keep_1 rfl (lv_at hl 0 rfl) ?_
  refine va_get (D := (dC, dI)) (ci := 2) (v := .ref ring) (C := RX2) (T := TX2) (N := 3) hx hb hts hin2 hown hK hP 0 rfl rfl 0 (by decide) (hts (.fieldLink RX2 13 "PorridgeSea$History" "ring" "[LPorridgeSea$Sea;") (List.mem_of_getElem? (i := 1) rfl)) (fun _ h9 => h9) rfl dX2_keep_2 ?_
  refine lv_aload_n hx hb dX2_keep_5 rfl (lv_at hl 0 rfl) ?_
  refine va_get (D := (dC, dI)) (ci := 2) (v := .int (nI 0)) (C := RX2) (T := TX2) (N := 3) hx hb hts hin2 hown hK hP 0 rfl rfl 1 (by decide) (hts (.fieldLink RX2 18 "PorridgeSea$History" "next" "I") (List.mem_of_getElem? (i := 2) rfl)) (fun _ h9 => h9) rfl dX2_keep_6 ?_
  refine r_aald hx hb hK hP 1 4 rfl rfl 0 (by decide) (by decide) rg hr0 dX2_keep_9 ?_
  refine r_call_v (wr := [(history, .inr (2, [.ref ring, .int (nI 0), .int (nI 0)])), (ring, .inl (ky 4, 8, .inr (.inr (.inr (.inr ringF)))))]) (va_runS (As := [.ref a, .ref rg]) (rest := []) ⟨hx, hb, hml, hown, hts⟩ (c_Sea_copy l dC dI ky s.heap.size a wide high heat cools skinHeat today stirs steps lumps boats thickness lumpNames lumpCells boatNames boatCells loads spoons spoonsLeft depths thicknessF lumpNamesF lumpCellsF boatNamesF boatCellsF loadsF spoonsF spoonsLeftF depthsF rg gwide ghigh gheat gcools gskinHeat gtoday gstirs gsteps glumps gboats gthickness glumpNames glumpCells gboatNames gboatCells gloads gspoons gspoonsLeft gdepths gthicknessF glumpNamesF glumpCellsF gboatNamesF gboatCellsF gloadsF gspoonsF gspoonsLeftF gdepthsF) (va_cwS 2 hts gX2_keep_X7_copy rfl rfl rfl (by decide +kernel) ⟨(Nat.le_of_ble_eq_true rfl), (Nat.le_of_ble_eq_true rfl)⟩) (pre_US hK hP hD [2, 3, 4, 5, 6, 7, 8, 9, 10, 11, 12, 13, 14, 15, 16, 17, 18, 19, 20, 21] (by decide) rfl) rfl rfl hl.1 rfl (lv_room (Nat.le_of_ble_eq_true rfl)) dX2_keep_10 ⟨(Nat.le_of_ble_eq_true rfl), (Nat.le_of_ble_eq_true rfl)⟩) hP hD hS hA [2, 3, 4, 5, 6, 7, 8, 9, 10, 11, 12, 13, 14, 15, 16, 17, 18, 19, 20, 21] [0, 1] rfl rfl (by decide) (by decide) (fun  u1 H locs p2 hP hD hS => ?_)
  obtain ⟨tthicknessG_3, tlumpNamesG_4, tlumpCellsG_5, tboatNamesG_6, tboatCellsG_7, tloadsG_8, tspoonsG_9, tspoonsLeftG_10, tdepthsG_11⟩ := u1
  refine W.widen (k := 0) (n := 0) (Nat.le_of_ble_eq_true rfl) (Nat.le_of_ble_eq_true rfl) ?_
  have hP : va_P (dC, dI) vwCl [(history, .inr (2, [.ref ring, .int (nI 0), .int (nI 0)])), (ring, .inl (ky 4, 8, .inr (.inr (.inr (.inr ringF))))), (a, .inr (7, [.int wide, .int high, .int heat, .int cools, .int skinHeat, .int today, .int stirs, .int steps, .int lumps, .int boats, .ref thickness, .ref lumpNames, .ref lumpCells, .ref boatNames, .ref boatCells, .ref loads, .ref spoons, .ref spoonsLeft, .ref depths])), (thickness, .inl (ky 0, 36, .inl thicknessF)), (lumpNames, .inl (ky 1, 6, .inr (.inl lumpNamesF))), (lumpCells, .inl (ky 0, 6, .inl lumpCellsF)), (boatNames, .inl (ky 1, 6, .inr (.inl boatNamesF))), (boatCells, .inl (ky 0, 6, .inl boatCellsF)), (loads, .inl (ky 0, 6, .inl loadsF)), (spoons, .inl (ky 0, 6, .inl spoonsF)), (spoonsLeft, .inl (ky 0, 6, .inl spoonsLeftF)), (depths, .inl (ky 0, 6, .inl depthsF)), (rg, .inr (7, [.int wide, .int high, .int heat, .int cools, .int skinHeat, .int today, .int stirs, .int steps, .int lumps, .int boats, .ref gthickness, .ref glumpNames, .ref glumpCells, .ref gboatNames, .ref gboatCells, .ref gloads, .ref gspoons, .ref gspoonsLeft, .ref gdepths])), (gthickness, .inl (ky 0, 36, .inl tthicknessG_3)), (glumpNames, .inl (ky 1, 6, .inr (.inl tlumpNamesG_4))), (glumpCells, .inl (ky 0, 6, .inl tlumpCellsG_5)), (gboatNames, .inl (ky 1, 6, .inr (.inl tboatNamesG_6))), (gboatCells, .inl (ky 0, 6, .inl tboatCellsG_7)), (gloads, .inl (ky 0, 6, .inl tloadsG_8)), (gspoons, .inl (ky 0, 6, .inl tspoonsG_9)), (gspoonsLeft, .inl (ky 0, 6, .inl tspoonsLeftG_10)), (gdepths, .inl (ky 0, 6, .inl tdepthsG_11))] H := hP
  have hD : va_D A [(history, .inr (2, [.ref ring, .int (nI 0), .int (nI 0)])), (ring, .inl (ky 4, 8, .inr (.inr (.inr (.inr ringF))))), (a, .inr (7, [.int wide, .int high, .int heat, .int cools, .int skinHeat, .int today, .int stirs, .int steps, .int lumps, .int boats, .ref thickness, .ref lumpNames, .ref lumpCells, .ref boatNames, .ref boatCells, .ref loads, .ref spoons, .ref spoonsLeft, .ref depths])), (thickness, .inl (ky 0, 36, .inl thicknessF)), (lumpNames, .inl (ky 1, 6, .inr (.inl lumpNamesF))), (lumpCells, .inl (ky 0, 6, .inl lumpCellsF)), (boatNames, .inl (ky 1, 6, .inr (.inl boatNamesF))), (boatCells, .inl (ky 0, 6, .inl boatCellsF)), (loads, .inl (ky 0, 6, .inl loadsF)), (spoons, .inl (ky 0, 6, .inl spoonsF)), (spoonsLeft, .inl (ky 0, 6, .inl spoonsLeftF)), (depths, .inl (ky 0, 6, .inl depthsF)), (rg, .inr (7, [.int wide, .int high, .int heat, .int cools, .int skinHeat, .int today, .int stirs, .int steps, .int lumps, .int boats, .ref gthickness, .ref glumpNames, .ref glumpCells, .ref gboatNames, .ref gboatCells, .ref gloads, .ref gspoons, .ref gspoonsLeft, .ref gdepths])), (gthickness, .inl (ky 0, 36, .inl tthicknessG_3)), (glumpNames, .inl (ky 1, 6, .inr (.inl tlumpNamesG_4))), (glumpCells, .inl (ky 0, 6, .inl tlumpCellsG_5)), (gboatNames, .inl (ky 1, 6, .inr (.inl tboatNamesG_6))), (gboatCells, .inl (ky 0, 6, .inl tboatCellsG_7)), (gloads, .inl (ky 0, 6, .inl tloadsG_8)), (gspoons, .inl (ky 0, 6, .inl tspoonsG_9)), (gspoonsLeft, .inl (ky 0, 6, .inl tspoonsLeftG_10)), (gdepths, .inl (ky 0, 6, .inl tdepthsG_11))] := hD
  refine lv_aload_n hx hb dX2_keep_13 rfl (lv_at hl 0 rfl) ?_
  refine lv_aload_n hx hb dX2_keep_14 rfl (lv_at hl 0 rfl) ?_
  refine va_get (D := (dC, dI)) (ci := 2) (v := .int (nI 0)) (C := RX2) (T := TX2) (N := 3) hx hb hts hin2 hown hK hP 0 rfl rfl 1 (by decide) (hts (.fieldLink RX2 18 "PorridgeSea$History" "next" "I") (List.mem_of_getElem? (i := 2) rfl)) (fun _ h9 => h9) rfl dX2_keep_15 ?_
  refine lv_iconst (v := nI 1) hx hb dX2_keep_18 (by decide) ?_
  refine lv_iadd hx hb dX2_keep_19 ?_
  refine r_ti (nI 1) (by decide) ?_
  refine lv_bipush (v := nI 8) hx hb dX2_keep_20 (by decide) ?_
  refine lv_irem hx hb dX2_keep_22 (by decide) ?_
  refine r_ti (nI 1) (by decide) ?_
  refine va_put (D := (dC, dI)) (ci := 2) (v := .int (nI 1)) (ty := .int) (C := RX2) (T := TX2) (N := 3) hx hb hts hin2 tyX2 tyX2_ok nmX2 hown hK hP hD hS 0 rfl rfl 1 (by decide) (hts (.fieldLink RX2 18 "PorridgeSea$History" "next" "I") (List.mem_of_getElem? (i := 2) rfl)) (fun _ h9 => h9) rfl (by decide +kernel) rfl rfl (Nat.le_of_ble_eq_true rfl) dX2_keep_23 (fun H locs hP hD hS => ?_)
  have hP : va_P (dC, dI) vwCl [(history, .inr (2, [.ref ring, .int (nI 1), .int (nI 0)])), (ring, .inl (ky 4, 8, .inr (.inr (.inr (.inr ringF))))), (a, .inr (7, [.int wide, .int high, .int heat, .int cools, .int skinHeat, .int today, .int stirs, .int steps, .int lumps, .int boats, .ref thickness, .ref lumpNames, .ref lumpCells, .ref boatNames, .ref boatCells, .ref loads, .ref spoons, .ref spoonsLeft, .ref depths])), (thickness, .inl (ky 0, 36, .inl thicknessF)), (lumpNames, .inl (ky 1, 6, .inr (.inl lumpNamesF))), (lumpCells, .inl (ky 0, 6, .inl lumpCellsF)), (boatNames, .inl (ky 1, 6, .inr (.inl boatNamesF))), (boatCells, .inl (ky 0, 6, .inl boatCellsF)), (loads, .inl (ky 0, 6, .inl loadsF)), (spoons, .inl (ky 0, 6, .inl spoonsF)), (spoonsLeft, .inl (ky 0, 6, .inl spoonsLeftF)), (depths, .inl (ky 0, 6, .inl depthsF)), (rg, .inr (7, [.int wide, .int high, .int heat, .int cools, .int skinHeat, .int today, .int stirs, .int steps, .int lumps, .int boats, .ref gthickness, .ref glumpNames, .ref glumpCells, .ref gboatNames, .ref gboatCells, .ref gloads, .ref gspoons, .ref gspoonsLeft, .ref gdepths])), (gthickness, .inl (ky 0, 36, .inl tthicknessG_3)), (glumpNames, .inl (ky 1, 6, .inr (.inl tlumpNamesG_4))), (glumpCells, .inl (ky 0, 6, .inl tlumpCellsG_5)), (gboatNames, .inl (ky 1, 6, .inr (.inl tboatNamesG_6))), (gboatCells, .inl (ky 0, 6, .inl tboatCellsG_7)), (gloads, .inl (ky 0, 6, .inl tloadsG_8)), (gspoons, .inl (ky 0, 6, .inl tspoonsG_9)), (gspoonsLeft, .inl (ky 0, 6, .inl tspoonsLeftG_10)), (gdepths, .inl (ky 0, 6, .inl tdepthsG_11))] H := hP
  have hD : va_D A [(history, .inr (2, [.ref ring, .int (nI 1), .int (nI 0)])), (ring, .inl (ky 4, 8, .inr (.inr (.inr (.inr ringF))))), (a, .inr (7, [.int wide, .int high, .int heat, .int cools, .int skinHeat, .int today, .int stirs, .int steps, .int lumps, .int boats, .ref thickness, .ref lumpNames, .ref lumpCells, .ref boatNames, .ref boatCells, .ref loads, .ref spoons, .ref spoonsLeft, .ref depths])), (thickness, .inl (ky 0, 36, .inl thicknessF)), (lumpNames, .inl (ky 1, 6, .inr (.inl lumpNamesF))), (lumpCells, .inl (ky 0, 6, .inl lumpCellsF)), (boatNames, .inl (ky 1, 6, .inr (.inl boatNamesF))), (boatCells, .inl (ky 0, 6, .inl boatCellsF)), (loads, .inl (ky 0, 6, .inl loadsF)), (spoons, .inl (ky 0, 6, .inl spoonsF)), (spoonsLeft, .inl (ky 0, 6, .inl spoonsLeftF)), (depths, .inl (ky 0, 6, .inl depthsF)), (rg, .inr (7, [.int wide, .int high, .int heat, .int cools, .int skinHeat, .int today, .int stirs, .int steps, .int lumps, .int boats, .ref gthickness, .ref glumpNames, .ref glumpCells, .ref gboatNames, .ref gboatCells, .ref gloads, .ref gspoons, .ref gspoonsLeft, .ref gdepths])), (gthickness, .inl (ky 0, 36, .inl tthicknessG_3)), (glumpNames, .inl (ky 1, 6, .inr (.inl tlumpNamesG_4))), (glumpCells, .inl (ky 0, 6, .inl tlumpCellsG_5)), (gboatNames, .inl (ky 1, 6, .inr (.inl tboatNamesG_6))), (gboatCells, .inl (ky 0, 6, .inl tboatCellsG_7)), (gloads, .inl (ky 0, 6, .inl tloadsG_8)), (gspoons, .inl (ky 0, 6, .inl tspoonsG_9)), (gspoonsLeft, .inl (ky 0, 6, .inl tspoonsLeftG_10)), (gdepths, .inl (ky 0, 6, .inl tdepthsG_11))] := hD
  refine lv_aload_n hx hb dX2_keep_26 rfl (lv_at hl 0 rfl) ?_
  refine lv_bipush (v := nI 8) hx hb dX2_keep_27 (by decide) ?_
  refine lv_aload_n hx hb dX2_keep_29 rfl (lv_at hl 0 rfl) ?_
  refine va_get (D := (dC, dI)) (ci := 2) (v := .int (nI 0)) (C := RX2) (T := TX2) (N := 3) hx hb hts hin2 hown hK hP 0 rfl rfl 2 (by decide) (hts (.fieldLink RX2 22 "PorridgeSea$History" "kept" "I") (List.mem_of_getElem? (i := 3) rfl)) (fun _ h9 => h9) rfl dX2_keep_30 ?_
  refine lv_iconst (v := nI 1) hx hb dX2_keep_33 (by decide) ?_
  refine lv_iadd hx hb dX2_keep_34 ?_
  refine r_ti (nI 1) (by decide) ?_
  refine va_mmin hx hb (by rw [hml]; exact hl.1.symm) hown (hts _ (List.mem_of_getElem? (i := 4) rfl)) (hts _ (List.mem_of_getElem? (i := 5) rfl)) (hts _ (List.mem_of_getElem? (i := 6) rfl)) (hts _ (List.mem_of_getElem? (i := 7) rfl)) (Nat.le_of_ble_eq_true rfl) (Nat.le_of_ble_eq_true rfl) (Nat.le_of_ble_eq_true rfl) (Nat.le_of_ble_eq_true rfl) dX2_keep_35 ?_
  refine r_ti (nI 1) (by decide) ?_
  refine va_put (D := (dC, dI)) (ci := 2) (v := .int (nI 1)) (ty := .int) (C := RX2) (T := TX2) (N := 3) hx hb hts hin2 tyX2 tyX2_ok nmX2 hown hK hP hD hS 0 rfl rfl 2 (by decide) (hts (.fieldLink RX2 22 "PorridgeSea$History" "kept" "I") (List.mem_of_getElem? (i := 3) rfl)) (fun _ h9 => h9) rfl (by decide +kernel) rfl rfl (Nat.le_of_ble_eq_true rfl) dX2_keep_38 (fun H locs hP hD hS => ?_)
  have hP : va_P (dC, dI) vwCl [(history, .inr (2, [.ref ring, .int (nI 1), .int (nI 1)])), (ring, .inl (ky 4, 8, .inr (.inr (.inr (.inr ringF))))), (a, .inr (7, [.int wide, .int high, .int heat, .int cools, .int skinHeat, .int today, .int stirs, .int steps, .int lumps, .int boats, .ref thickness, .ref lumpNames, .ref lumpCells, .ref boatNames, .ref boatCells, .ref loads, .ref spoons, .ref spoonsLeft, .ref depths])), (thickness, .inl (ky 0, 36, .inl thicknessF)), (lumpNames, .inl (ky 1, 6, .inr (.inl lumpNamesF))), (lumpCells, .inl (ky 0, 6, .inl lumpCellsF)), (boatNames, .inl (ky 1, 6, .inr (.inl boatNamesF))), (boatCells, .inl (ky 0, 6, .inl boatCellsF)), (loads, .inl (ky 0, 6, .inl loadsF)), (spoons, .inl (ky 0, 6, .inl spoonsF)), (spoonsLeft, .inl (ky 0, 6, .inl spoonsLeftF)), (depths, .inl (ky 0, 6, .inl depthsF)), (rg, .inr (7, [.int wide, .int high, .int heat, .int cools, .int skinHeat, .int today, .int stirs, .int steps, .int lumps, .int boats, .ref gthickness, .ref glumpNames, .ref glumpCells, .ref gboatNames, .ref gboatCells, .ref gloads, .ref gspoons, .ref gspoonsLeft, .ref gdepths])), (gthickness, .inl (ky 0, 36, .inl tthicknessG_3)), (glumpNames, .inl (ky 1, 6, .inr (.inl tlumpNamesG_4))), (glumpCells, .inl (ky 0, 6, .inl tlumpCellsG_5)), (gboatNames, .inl (ky 1, 6, .inr (.inl tboatNamesG_6))), (gboatCells, .inl (ky 0, 6, .inl tboatCellsG_7)), (gloads, .inl (ky 0, 6, .inl tloadsG_8)), (gspoons, .inl (ky 0, 6, .inl tspoonsG_9)), (gspoonsLeft, .inl (ky 0, 6, .inl tspoonsLeftG_10)), (gdepths, .inl (ky 0, 6, .inl tdepthsG_11))] H := hP
  have hD : va_D A [(history, .inr (2, [.ref ring, .int (nI 1), .int (nI 1)])), (ring, .inl (ky 4, 8, .inr (.inr (.inr (.inr ringF))))), (a, .inr (7, [.int wide, .int high, .int heat, .int cools, .int skinHeat, .int today, .int stirs, .int steps, .int lumps, .int boats, .ref thickness, .ref lumpNames, .ref lumpCells, .ref boatNames, .ref boatCells, .ref loads, .ref spoons, .ref spoonsLeft, .ref depths])), (thickness, .inl (ky 0, 36, .inl thicknessF)), (lumpNames, .inl (ky 1, 6, .inr (.inl lumpNamesF))), (lumpCells, .inl (ky 0, 6, .inl lumpCellsF)), (boatNames, .inl (ky 1, 6, .inr (.inl boatNamesF))), (boatCells, .inl (ky 0, 6, .inl boatCellsF)), (loads, .inl (ky 0, 6, .inl loadsF)), (spoons, .inl (ky 0, 6, .inl spoonsF)), (spoonsLeft, .inl (ky 0, 6, .inl spoonsLeftF)), (depths, .inl (ky 0, 6, .inl depthsF)), (rg, .inr (7, [.int wide, .int high, .int heat, .int cools, .int skinHeat, .int today, .int stirs, .int steps, .int lumps, .int boats, .ref gthickness, .ref glumpNames, .ref glumpCells, .ref gboatNames, .ref gboatCells, .ref gloads, .ref gspoons, .ref gspoonsLeft, .ref gdepths])), (gthickness, .inl (ky 0, 36, .inl tthicknessG_3)), (glumpNames, .inl (ky 1, 6, .inr (.inl tlumpNamesG_4))), (glumpCells, .inl (ky 0, 6, .inl tlumpCellsG_5)), (gboatNames, .inl (ky 1, 6, .inr (.inl tboatNamesG_6))), (gboatCells, .inl (ky 0, 6, .inl tboatCellsG_7)), (gloads, .inl (ky 0, 6, .inl tloadsG_8)), (gspoons, .inl (ky 0, 6, .inl tspoonsG_9)), (gspoonsLeft, .inl (ky 0, 6, .inl tspoonsLeftG_10)), (gdepths, .inl (ky 0, 6, .inl tdepthsG_11))] := hD
  have hP9 := hP.sub (ws' := [(a, .inr (7, [.int wide, .int high, .int heat, .int cools, .int skinHeat, .int today, .int stirs, .int steps, .int lumps, .int boats, .ref thickness, .ref lumpNames, .ref lumpCells, .ref boatNames, .ref boatCells, .ref loads, .ref spoons, .ref spoonsLeft, .ref depths])), (thickness, .inl (ky 0, 36, .inl thicknessF)), (lumpNames, .inl (ky 1, 6, .inr (.inl lumpNamesF))), (lumpCells, .inl (ky 0, 6, .inl lumpCellsF)), (boatNames, .inl (ky 1, 6, .inr (.inl boatNamesF))), (boatCells, .inl (ky 0, 6, .inl boatCellsF)), (loads, .inl (ky 0, 6, .inl loadsF)), (spoons, .inl (ky 0, 6, .inl spoonsF)), (spoonsLeft, .inl (ky 0, 6, .inl spoonsLeftF)), (depths, .inl (ky 0, 6, .inl depthsF))]) [2, 3, 4, 5, 6, 7, 8, 9, 10, 11] rfl
  have hD9 := hD.sub (ws' := [(a, .inr (7, [.int wide, .int high, .int heat, .int cools, .int skinHeat, .int today, .int stirs, .int steps, .int lumps, .int boats, .ref thickness, .ref lumpNames, .ref lumpCells, .ref boatNames, .ref boatCells, .ref loads, .ref spoons, .ref spoonsLeft, .ref depths])), (thickness, .inl (ky 0, 36, .inl thicknessF)), (lumpNames, .inl (ky 1, 6, .inr (.inl lumpNamesF))), (lumpCells, .inl (ky 0, 6, .inl lumpCellsF)), (boatNames, .inl (ky 1, 6, .inr (.inl boatNamesF))), (boatCells, .inl (ky 0, 6, .inl boatCellsF)), (loads, .inl (ky 0, 6, .inl loadsF)), (spoons, .inl (ky 0, 6, .inl spoonsF)), (spoonsLeft, .inl (ky 0, 6, .inl spoonsLeftF)), (depths, .inl (ky 0, 6, .inl depthsF))]) [2, 3, 4, 5, 6, 7, 8, 9, 10, 11] (by decide) rfl
  refine W.widen (k := 0) (n := 0) (Nat.le_of_ble_eq_true rfl) (Nat.le_of_ble_eq_true rfl) ?_
  exact W.vret hx hb hr (fun t ht9 hW9 => ⟨⟨(), rfl, trivial, by rw [ht9]; exact hP9, va_K.moved hW9.alike hK, hD9⟩, hS.F ht9⟩) hS.2.2 dX2_keep_41
set_option maxHeartbeats 4000000 in
set_option maxRecDepth 100000 in
theorem c_forget (l : Launch) (dC : Nat → ClassId) (dI : Nat → Nat → Nat) (ky : Nat → ClassId) (sz : Nat) (history : Nat) (hring : Nat) (hnext : Int32) (hkept : Int32)  : Met l yX2_forget wsX2_forget ({ frames := 0, cells := 0, slots := 0, locals := 0 }) (PcU dC dI ky [.ref history] [(history, .inr (2, [.ref hring, .int hnext, .int hkept]))] sz) (va_Qv (fun (_ : Unit) => True) (BU dC dI ky (fun (_ : Unit) => []) (va_A [(history, .inr (2, [.ref hring, .int hnext, .int hkept]))] sz)) (va_A [(history, .inr (2, [.ref hring, .int hnext, .int hkept]))] sz)) 0 0 (va_A [(history, .inr (2, [.ref hring, .int hnext, .int hkept]))] sz) := by
  refine Met.ofW (cc := cX2_forget) (maxL := 1) (ret := none) (by decide) rfl ?_
  intro p e s m args below meth c s₁ B hml hv
  obtain ⟨rfl, hsz, hP, hK, hD0⟩ := hv
  have hx := B.exec
  have hb := B.bytes
  have hr := B.returns
  have hts := atoms_spec (ws := wsX2_forget) B.pre
  have hown : s.vm.findClass RX2 = some m.cls := findClass_of_methodNamed B.named
  have hlocks := B.notSynchronized
  have hin2 : ∀ w ∈ u_ws RX2 TX2 3, w ∈ wsX2_forget := by decide +kernel
  subst hsz
  have hD := hD0.self (sz := s.heap.size)
  generalize hAe : va_A [(history, .inr (2, [.ref hring, .int hnext, .int hkept]))] s.heap.size = A at hD ⊢
  have hA : ∀ q : Nat, s.heap.size ≤ q → A q := fun q h => by rw [← hAe]; exact Or.inr h
  have hS : va_S A s.heap s.heap [] := va_S.rf
  have hP : va_P (dC, dI) vwCl [(history, .inr (2, [.ref hring, .int hnext, .int hkept]))] s.heap := hP
  have hl := lv_entry ([.ref history]) (n := 1) (Nat.le_of_ble_eq_true rfl)
  rw [lg_entry_eq]
  generalize (lg_sl ([.ref history]) ++ List.replicate (1 - (lg_sl ([.ref history])).length) Slot.unset).toArray = ls at hl ⊢
  have hl : lv_has ls 1 [(0, .ref history)] := hl
  have hH0 : True := trivial
  refine lv_aload_n hx hb dX2_forget_0 rfl (lv_at hl 0 rfl) ?_
  refine lv_iconst (v := nI 0) hx hb dX2_forget_1 (by decide) ?_
  refine va_put (D := (dC, dI)) (ci := 2) (v := .int (nI 0)) (ty := .int) (C := RX2) (T := TX2) (N := 3) hx hb hts hin2 tyX2 tyX2_ok nmX2 hown hK hP hD hS 0 rfl rfl 2 (by decide) (hts (.fieldLink RX2 22 "PorridgeSea$History" "kept" "I") (List.mem_of_getElem? (i := 1) rfl)) (fun _ h9 => h9) rfl (by decide +kernel) rfl rfl (Nat.le_of_ble_eq_true rfl) dX2_forget_2 (fun H locs hP hD hS => ?_)
  have hP : va_P (dC, dI) vwCl [(history, .inr (2, [.ref hring, .int hnext, .int (nI 0)]))] H := hP
  have hD : va_D A [(history, .inr (2, [.ref hring, .int hnext, .int (nI 0)]))] := hD
  have hP9 := hP.sub (ws' := []) [] rfl
  have hD9 := hD.sub (ws' := []) [] (by decide) rfl
  refine W.widen (k := 0) (n := 0) (Nat.le_of_ble_eq_true rfl) (Nat.le_of_ble_eq_true rfl) ?_
  exact W.vret hx hb hr (fun t ht9 hW9 => ⟨⟨(), rfl, trivial, by rw [ht9]; exact hP9, va_K.moved hW9.alike hK, hD9⟩, hS.F ht9⟩) hS.2.2 dX2_forget_5
set_option maxHeartbeats 4000000 in
set_option maxRecDepth 100000 in
theorem c_takeBack0 (l : Launch) (dC : Nat → ClassId) (dI : Nat → Nat → Nat) (ky : Nat → ClassId) (sz : Nat) (history : Nat) (a : Nat) (hring : Nat) (hnext : Int32)  : Met l yX2_takeBack wsX2_takeBack ({ frames := 0, cells := 0, slots := 0, locals := 0 }) (PcU dC dI ky [.ref history, .ref a] [(history, .inr (2, [.ref hring, .int hnext, .int (nI 0)]))] sz) (va_Qi (fun (r : Int32) (_ : Unit) => r = (-1 : Int32)) (BU dC dI ky (fun (_ : Unit) => []) (va_A [(history, .inr (2, [.ref hring, .int hnext, .int (nI 0)]))] sz)) (va_A [(history, .inr (2, [.ref hring, .int hnext, .int (nI 0)]))] sz)) 0 0 (va_A [(history, .inr (2, [.ref hring, .int hnext, .int (nI 0)]))] sz) := by
  refine Met.ofW (cc := cX2_takeBack) (maxL := 2) (ret := (some .int)) (by decide) rfl ?_
  intro p e s m args below meth c s₁ B hml hv
  obtain ⟨rfl, hsz, hP, hK, hD0⟩ := hv
  have hx := B.exec
  have hb := B.bytes
  have hr := B.returns
  have hts := atoms_spec (ws := wsX2_takeBack) B.pre
  have hown : s.vm.findClass RX2 = some m.cls := findClass_of_methodNamed B.named
  have hlocks := B.notSynchronized
  have hin2 : ∀ w ∈ u_ws RX2 TX2 3, w ∈ wsX2_takeBack := by decide +kernel
  subst hsz
  have hD := hD0.self (sz := s.heap.size)
  generalize hAe : va_A [(history, .inr (2, [.ref hring, .int hnext, .int (nI 0)]))] s.heap.size = A at hD ⊢
  have hA : ∀ q : Nat, s.heap.size ≤ q → A q := fun q h => by rw [← hAe]; exact Or.inr h
  have hS : va_S A s.heap s.heap [] := va_S.rf
  have hP : va_P (dC, dI) vwCl [(history, .inr (2, [.ref hring, .int hnext, .int (nI 0)]))] s.heap := hP
  have hl := lv_entry ([.ref history, .ref a]) (n := 2) (Nat.le_of_ble_eq_true rfl)
  rw [lg_entry_eq]
  generalize (lg_sl ([.ref history, .ref a]) ++ List.replicate (2 - (lg_sl ([.ref history, .ref a])).length) Slot.unset).toArray = ls at hl ⊢
  have hl : lv_has ls 2 [(0, .ref history), (1, .ref a)] := hl
  have hH0 : True := trivial
  refine lv_aload_n hx hb dX2_takeBack_0 rfl (lv_at hl 0 rfl) ?_
  refine va_get (D := (dC, dI)) (ci := 2) (v := .int (nI 0)) (C := RX2) (T := TX2) (N := 3) hx hb hts hin2 hown hK hP 0 rfl rfl 2 (by decide) (hts (.fieldLink RX2 22 "PorridgeSea$History" "kept" "I") (List.mem_of_getElem? (i := 1) rfl)) (fun _ h9 => h9) rfl dX2_takeBack_1 ?_
  refine lv_if_ne (tgt := 9) hx hb dX2_takeBack_4 (by decide) (fun c1 => absurd c1 (by decide)) (fun c1 => ?_)
  refine lv_iconst (v := (-1 : Int32)) hx hb dX2_takeBack_7 (by decide) ?_
  have hP9 := hP.sub (ws' := []) [] rfl
  have hD9 := hD.sub (ws' := []) [] (by decide) rfl
  refine W.widen (k := 0) (n := 0) (Nat.le_of_ble_eq_true rfl) (Nat.le_of_ble_eq_true rfl) ?_
  exact W.iret (v := (-1 : Int32)) hx hb hr (fun t ht9 hW9 => ⟨⟨(-1 : Int32), (), rfl, rfl, by rw [ht9]; exact hP9, va_K.moved hW9.alike hK, hD9⟩, hS.F ht9⟩) hS.2.2 dX2_takeBack_8
set_option maxHeartbeats 4000000 in
set_option maxRecDepth 100000 in
theorem c_Reader_init (l : Launch) (dC : Nat → ClassId) (dI : Nat → Nat → Nat) (ky : Nat → ClassId) (sz : Nat) (reader : Nat)  : Met l yX5_init wsX5_init ({ frames := 1, cells := 1, slots := 940, locals := 12 }) (PcU dC dI ky [.ref reader] [(reader, .inr (5, [.null, .int (nI 0), .int (nI 0), .int (nI 0), .int (nI 0), .int (nI 0), .int (nI 0), .int (nI 0), .long 0, .int (nI 0), .int (nI 0)]))] sz) (va_Qv (fun (tape : Nat) => True) (BU dC dI ky (fun (tape : Nat) => [(reader, .inr (5, [.ref tape, .int (nI 0), .int (nI 0), .int (nI 0), .int (nI 0), .int (nI 0), .int (nI 0), .int (nI 0), .long 0, .int (nI 0), .int (nI 0)])), (tape, .inl (ky 2, 940, .inl (fun _ => 0)))]) (va_A [(reader, .inr (5, [.null, .int (nI 0), .int (nI 0), .int (nI 0), .int (nI 0), .int (nI 0), .int (nI 0), .int (nI 0), .long 0, .int (nI 0), .int (nI 0)]))] sz)) (va_A [(reader, .inr (5, [.null, .int (nI 0), .int (nI 0), .int (nI 0), .int (nI 0), .int (nI 0), .int (nI 0), .int (nI 0), .long 0, .int (nI 0), .int (nI 0)]))] sz)) 1 940 (va_A [(reader, .inr (5, [.null, .int (nI 0), .int (nI 0), .int (nI 0), .int (nI 0), .int (nI 0), .int (nI 0), .int (nI 0), .long 0, .int (nI 0), .int (nI 0)]))] sz) := by
  refine Met.ofW (cc := cX5_init) (maxL := 1) (ret := none) (by decide) rfl ?_
  intro p e s m args below meth c s₁ B hml hv
  obtain ⟨rfl, hsz, hP, hK, hD0⟩ := hv
  have hx := B.exec
  have hb := B.bytes
  have hr := B.returns
  have hts := atoms_spec (ws := wsX5_init) B.pre
  have hown : s.vm.findClass RX5 = some m.cls := findClass_of_methodNamed B.named
  have hlocks := B.notSynchronized
  have hini0 : meth.name = "<init>" := (name_of_methodNamed B.named B.method).1
  have hin5 : ∀ w ∈ u_ws RX5 TX5 11, w ∈ wsX5_init := by decide +kernel
  subst hsz
  have hD := hD0.self (sz := s.heap.size)
  generalize hAe : va_A [(reader, .inr (5, [.null, .int (nI 0), .int (nI 0), .int (nI 0), .int (nI 0), .int (nI 0), .int (nI 0), .int (nI 0), .long 0, .int (nI 0), .int (nI 0)]))] s.heap.size = A at hD ⊢
  have hA : ∀ q : Nat, s.heap.size ≤ q → A q := fun q h => by rw [← hAe]; exact Or.inr h
  have hS : va_S A s.heap s.heap [] := va_S.rf
  have hP : va_P (dC, dI) vwCl [(reader, .inr (5, [.null, .int (nI 0), .int (nI 0), .int (nI 0), .int (nI 0), .int (nI 0), .int (nI 0), .int (nI 0), .long 0, .int (nI 0), .int (nI 0)]))] s.heap := hP
  have hl := lv_entry ([.ref reader]) (n := 1) (Nat.le_of_ble_eq_true rfl)
  rw [lg_entry_eq]
  generalize (lg_sl ([.ref reader]) ++ List.replicate (1 - (lg_sl ([.ref reader])).length) Slot.unset).toArray = ls at hl ⊢
  have hl : lv_has ls 1 [(0, .ref reader)] := hl
  have hH0 : True := trivial
  refine lv_aload_n hx hb dX5_init_0 rfl (lv_at hl 0 rfl) ?_
  refine W.objInit hx hb hown (hts _ (List.mem_of_getElem? (i := 1) rfl)) (hts _ (List.mem_of_getElem? (i := 2) rfl)) (hts _ (List.mem_of_getElem? (i := 3) rfl)) rfl (by rw [hml]; exact hl.1) rfl dX5_init_1 (Nat.le_of_ble_eq_true rfl) (Nat.le_of_ble_eq_true rfl) ?_
  refine W.eq (g2 := F0 m 4 ls []) rfl ?_
  refine lv_aload_n hx hb dX5_init_4 rfl (lv_at hl 0 rfl) ?_
  refine lv_sipush (v := nI 940) hx hb dX5_init_5 (by decide) ?_
  refine r_newB hx hb (hts (.arrayClass .byte) (List.mem_of_getElem? (i := 4) rfl)) hK hP hD hS hA (by decide) (by decide) (Nat.le_of_ble_eq_true rfl) (Nat.le_of_ble_eq_true rfl) dX5_init_8 (fun q1 H hP hD hS => ?_)
  refine W.widen (k := 1) (n := 940) (Nat.le_of_ble_eq_true rfl) (Nat.le_of_ble_eq_true rfl) ?_
  have hP : va_P (dC, dI) vwCl [(reader, .inr (5, [.null, .int (nI 0), .int (nI 0), .int (nI 0), .int (nI 0), .int (nI 0), .int (nI 0), .int (nI 0), .long 0, .int (nI 0), .int (nI 0)])), (q1, .inl (ky 2, 940, .inl (fun _ => 0)))] H := hP
  have hD : va_D A [(reader, .inr (5, [.null, .int (nI 0), .int (nI 0), .int (nI 0), .int (nI 0), .int (nI 0), .int (nI 0), .int (nI 0), .long 0, .int (nI 0), .int (nI 0)])), (q1, .inl (ky 2, 940, .inl (fun _ => 0)))] := hD
  refine va_putF (D := (dC, dI)) (ci := 5) (v := .ref q1) (ty := .array .byte) (C := RX5) (T := TX5) (N := 11) hx hb hts hin5 tyX5 tyX5_ok nmX5 hown hK hP hD hS 0 rfl rfl 0 (by decide) (hts (.fieldLink RX5 9 "PorridgeSea$Reader" "tape" "[B") (List.mem_of_getElem? (i := 5) rfl)) (fun _ h9 => h9) rfl hini0 rfl (by decide +kernel) rfl rfl (Nat.le_of_ble_eq_true rfl) dX5_init_10 (fun H locs hP hD hS => ?_)
  have hP : va_P (dC, dI) vwCl [(reader, .inr (5, [.ref q1, .int (nI 0), .int (nI 0), .int (nI 0), .int (nI 0), .int (nI 0), .int (nI 0), .int (nI 0), .long 0, .int (nI 0), .int (nI 0)])), (q1, .inl (ky 2, 940, .inl (fun _ => 0)))] H := hP
  have hD : va_D A [(reader, .inr (5, [.ref q1, .int (nI 0), .int (nI 0), .int (nI 0), .int (nI 0), .int (nI 0), .int (nI 0), .int (nI 0), .long 0, .int (nI 0), .int (nI 0)])), (q1, .inl (ky 2, 940, .inl (fun _ => 0)))] := hD
  have hP9 := hP.sub (ws' := [(reader, .inr (5, [.ref q1, .int (nI 0), .int (nI 0), .int (nI 0), .int (nI 0), .int (nI 0), .int (nI 0), .int (nI 0), .long 0, .int (nI 0), .int (nI 0)])), (q1, .inl (ky 2, 940, .inl (fun _ => 0)))]) [0, 1] rfl
  have hD9 := hD.sub (ws' := [(reader, .inr (5, [.ref q1, .int (nI 0), .int (nI 0), .int (nI 0), .int (nI 0), .int (nI 0), .int (nI 0), .int (nI 0), .long 0, .int (nI 0), .int (nI 0)])), (q1, .inl (ky 2, 940, .inl (fun _ => 0)))]) [0, 1] (by decide) rfl
  refine W.widen (k := 1) (n := 940) (Nat.le_of_ble_eq_true rfl) (Nat.le_of_ble_eq_true rfl) ?_
  exact W.vret hx hb hr (fun t ht9 hW9 => ⟨⟨q1, rfl, trivial, by rw [ht9]; exact hP9, va_K.moved hW9.alike hK, hD9⟩, hS.F ht9⟩) hS.2.2 dX5_init_13
set_option maxHeartbeats 4000000 in
set_option maxRecDepth 100000 in
theorem c_advance900 (l : Launch) (dC : Nat → ClassId) (dI : Nat → Nat → Nat) (ky : Nat → ClassId) (sz : Nat) (reader : Nat) (tape : Nat)  : Met l yX5_advance wsX5_advance ({ frames := 0, cells := 0, slots := 0, locals := 0 }) (PcU dC dI ky [.ref reader] [(reader, .inr (5, [.ref tape, .int (nI 0), .int (nI 900), .int (nI 0), .int (nI 0), .int (nI 0), .int (nI 0), .int (nI 0), .long 0, .int (nI 0), .int (nI 0)]))] sz) (va_Qv (fun (_ : Unit) => True) (BU dC dI ky (fun (_ : Unit) => [(reader, .inr (5, [.ref tape, .int (nI 0), .int (nI 900), .int (nI 0), .int (nI 0), .int (nI 0), .int (-1 : Int32), .int (nI 0), .long 0, .int (nI 0), .int (nI 0)]))]) (va_A [(reader, .inr (5, [.ref tape, .int (nI 0), .int (nI 900), .int (nI 0), .int (nI 0), .int (nI 0), .int (nI 0), .int (nI 0), .long 0, .int (nI 0), .int (nI 0)]))] sz)) (va_A [(reader, .inr (5, [.ref tape, .int (nI 0), .int (nI 900), .int (nI 0), .int (nI 0), .int (nI 0), .int (nI 0), .int (nI 0), .long 0, .int (nI 0), .int (nI 0)]))] sz)) 0 0 (va_A [(reader, .inr (5, [.ref tape, .int (nI 0), .int (nI 900), .int (nI 0), .int (nI 0), .int (nI 0), .int (nI 0), .int (nI 0), .long 0, .int (nI 0), .int (nI 0)]))] sz) := by
  refine Met.ofW (cc := cX5_advance) (maxL := 1) (ret := none) (by decide) rfl ?_
  intro p e s m args below meth c s₁ B hml hv
  obtain ⟨rfl, hsz, hP, hK, hD0⟩ := hv
  have hx := B.exec
  have hb := B.bytes
  have hr := B.returns
  have hts := atoms_spec (ws := wsX5_advance) B.pre
  have hown : s.vm.findClass RX5 = some m.cls := findClass_of_methodNamed B.named
  have hlocks := B.notSynchronized
  have hin5 : ∀ w ∈ u_ws RX5 TX5 11, w ∈ wsX5_advance := by decide +kernel
  subst hsz
  have hD := hD0.self (sz := s.heap.size)
  generalize hAe : va_A [(reader, .inr (5, [.ref tape, .int (nI 0), .int (nI 900), .int (nI 0), .int (nI 0), .int (nI 0), .int (nI 0), .int (nI 0), .long 0, .int (nI 0), .int (nI 0)]))] s.heap.size = A at hD ⊢
  have hA : ∀ q : Nat, s.heap.size ≤ q → A q := fun q h => by rw [← hAe]; exact Or.inr h
  have hS : va_S A s.heap s.heap [] := va_S.rf
  have hP : va_P (dC, dI) vwCl [(reader, .inr (5, [.ref tape, .int (nI 0), .int (nI 900), .int (nI 0), .int (nI 0), .int (nI 0), .int (nI 0), .int (nI 0), .long 0, .int (nI 0), .int (nI 0)]))] s.heap := hP
  have hl := lv_entry ([.ref reader]) (n := 1) (Nat.le_of_ble_eq_true rfl)
  rw [lg_entry_eq]
  generalize (lg_sl ([.ref reader]) ++ List.replicate (1 - (lg_sl ([.ref reader])).length) Slot.unset).toArray = ls at hl ⊢
  have hl : lv_has ls 1 [(0, .ref reader)] := hl
  have hH0 : True := trivial
  refine lv_aload_n hx hb dX5_advance_0 rfl (lv_at hl 0 rfl) ?_
  refine va_get (D := (dC, dI)) (ci := 5) (v := .int (nI 0)) (C := RX5) (T := TX5) (N := 11) hx hb hts hin5 hown hK hP 0 rfl rfl 3 (by decide) (hts (.fieldLink RX5 28 "PorridgeSea$Reader" "place" "I") (List.mem_of_getElem? (i := 1) rfl)) (fun _ h9 => h9) rfl dX5_advance_1 ?_
  refine lv_aload_n hx hb dX5_advance_4 rfl (lv_at hl 0 rfl) ?_
  refine va_get (D := (dC, dI)) (ci := 5) (v := .int (nI 0)) (C := RX5) (T := TX5) (N := 11) hx hb hts hin5 hown hK hP 0 rfl rfl 1 (by decide) (hts (.fieldLink RX5 21 "PorridgeSea$Reader" "length" "I") (List.mem_of_getElem? (i := 2) rfl)) (fun _ h9 => h9) rfl dX5_advance_5 ?_
  refine lv_icmp_ge (tgt := 52) hx hb dX5_advance_8 (by decide) (fun c1 => ?_) (fun c1 => absurd (by decide) c1)
  refine lv_aload_n hx hb dX5_advance_52 rfl (lv_at hl 0 rfl) ?_
  refine lv_aload_n hx hb dX5_advance_53 rfl (lv_at hl 0 rfl) ?_
  refine va_get (D := (dC, dI)) (ci := 5) (v := .int (nI 0)) (C := RX5) (T := TX5) (N := 11) hx hb hts hin5 hown hK hP 0 rfl rfl 3 (by decide) (hts (.fieldLink RX5 28 "PorridgeSea$Reader" "place" "I") (List.mem_of_getElem? (i := 1) rfl)) (fun _ h9 => h9) rfl dX5_advance_54 ?_
  refine va_put (D := (dC, dI)) (ci := 5) (v := .int (nI 0)) (ty := .int) (C := RX5) (T := TX5) (N := 11) hx hb hts hin5 tyX5 tyX5_ok nmX5 hown hK hP hD hS 0 rfl rfl 5 (by decide) (hts (.fieldLink RX5 40 "PorridgeSea$Reader" "begin" "I") (List.mem_of_getElem? (i := 4) rfl)) (fun _ h9 => h9) rfl (by decide +kernel) rfl rfl (Nat.le_of_ble_eq_true rfl) dX5_advance_57 (fun H locs hP hD hS => ?_)
  have hP : va_P (dC, dI) vwCl [(reader, .inr (5, [.ref tape, .int (nI 0), .int (nI 900), .int (nI 0), .int (nI 0), .int (nI 0), .int (nI 0), .int (nI 0), .long 0, .int (nI 0), .int (nI 0)]))] H := hP
  have hD : va_D A [(reader, .inr (5, [.ref tape, .int (nI 0), .int (nI 900), .int (nI 0), .int (nI 0), .int (nI 0), .int (nI 0), .int (nI 0), .long 0, .int (nI 0), .int (nI 0)]))] := hD
  refine lv_aload_n hx hb dX5_advance_60 rfl (lv_at hl 0 rfl) ?_
  refine lv_iconst (v := (-1 : Int32)) hx hb dX5_advance_61 (by decide) ?_
  refine va_put (D := (dC, dI)) (ci := 5) (v := .int (-1 : Int32)) (ty := .int) (C := RX5) (T := TX5) (N := 11) hx hb hts hin5 tyX5 tyX5_ok nmX5 hown hK hP hD hS 0 rfl rfl 6 (by decide) (hts (.fieldLink RX5 43 "PorridgeSea$Reader" "word" "I") (List.mem_of_getElem? (i := 5) rfl)) (fun _ h9 => h9) rfl (by decide +kernel) rfl rfl (Nat.le_of_ble_eq_true rfl) dX5_advance_62 (fun H locs hP hD hS => ?_)
  have hP : va_P (dC, dI) vwCl [(reader, .inr (5, [.ref tape, .int (nI 0), .int (nI 900), .int (nI 0), .int (nI 0), .int (nI 0), .int (-1 : Int32), .int (nI 0), .long 0, .int (nI 0), .int (nI 0)]))] H := hP
  have hD : va_D A [(reader, .inr (5, [.ref tape, .int (nI 0), .int (nI 900), .int (nI 0), .int (nI 0), .int (nI 0), .int (-1 : Int32), .int (nI 0), .long 0, .int (nI 0), .int (nI 0)]))] := hD
  refine lv_aload_n hx hb dX5_advance_65 rfl (lv_at hl 0 rfl) ?_
  refine va_get (D := (dC, dI)) (ci := 5) (v := .int (nI 0)) (C := RX5) (T := TX5) (N := 11) hx hb hts hin5 hown hK hP 0 rfl rfl 1 (by decide) (hts (.fieldLink RX5 21 "PorridgeSea$Reader" "length" "I") (List.mem_of_getElem? (i := 2) rfl)) (fun _ h9 => h9) rfl dX5_advance_66 ?_
  refine lv_aload_n hx hb dX5_advance_69 rfl (lv_at hl 0 rfl) ?_
  refine va_get (D := (dC, dI)) (ci := 5) (v := .int (nI 900)) (C := RX5) (T := TX5) (N := 11) hx hb hts hin5 hown hK hP 0 rfl rfl 2 (by decide) (hts (.fieldLink RX5 25 "PorridgeSea$Reader" "mostBytes" "I") (List.mem_of_getElem? (i := 6) rfl)) (fun _ h9 => h9) rfl dX5_advance_70 ?_
  refine lv_icmp_le (tgt := 103) hx hb dX5_advance_73 (by decide) (fun c2 => ?_) (fun c2 => absurd (by decide) c2)
  refine lv_aload_n hx hb dX5_advance_103 rfl (lv_at hl 0 rfl) ?_
  refine va_get (D := (dC, dI)) (ci := 5) (v := .int (nI 0)) (C := RX5) (T := TX5) (N := 11) hx hb hts hin5 hown hK hP 0 rfl rfl 3 (by decide) (hts (.fieldLink RX5 28 "PorridgeSea$Reader" "place" "I") (List.mem_of_getElem? (i := 1) rfl)) (fun _ h9 => h9) rfl dX5_advance_104 ?_
  refine lv_aload_n hx hb dX5_advance_107 rfl (lv_at hl 0 rfl) ?_
  refine va_get (D := (dC, dI)) (ci := 5) (v := .int (nI 0)) (C := RX5) (T := TX5) (N := 11) hx hb hts hin5 hown hK hP 0 rfl rfl 1 (by decide) (hts (.fieldLink RX5 21 "PorridgeSea$Reader" "length" "I") (List.mem_of_getElem? (i := 2) rfl)) (fun _ h9 => h9) rfl dX5_advance_108 ?_
  refine lv_icmp_lt (tgt := 122) hx hb dX5_advance_111 (by decide) (fun c3 => absurd c3 (by decide)) (fun c3 => ?_)
  refine lv_aload_n hx hb dX5_advance_114 rfl (lv_at hl 0 rfl) ?_
  refine lv_iconst (v := nI 0) hx hb dX5_advance_115 (by decide) ?_
  refine va_put (D := (dC, dI)) (ci := 5) (v := .int (nI 0)) (ty := .int) (C := RX5) (T := TX5) (N := 11) hx hb hts hin5 tyX5 tyX5_ok nmX5 hown hK hP hD hS 0 rfl rfl 4 (by decide) (hts (.fieldLink RX5 46 "PorridgeSea$Reader" "kind" "I") (List.mem_of_getElem? (i := 7) rfl)) (fun _ h9 => h9) rfl (by decide +kernel) rfl rfl (Nat.le_of_ble_eq_true rfl) dX5_advance_116 (fun H locs hP hD hS => ?_)
  have hP : va_P (dC, dI) vwCl [(reader, .inr (5, [.ref tape, .int (nI 0), .int (nI 900), .int (nI 0), .int (nI 0), .int (nI 0), .int (-1 : Int32), .int (nI 0), .long 0, .int (nI 0), .int (nI 0)]))] H := hP
  have hD : va_D A [(reader, .inr (5, [.ref tape, .int (nI 0), .int (nI 900), .int (nI 0), .int (nI 0), .int (nI 0), .int (-1 : Int32), .int (nI 0), .long 0, .int (nI 0), .int (nI 0)]))] := hD
  refine lv_goto (tgt := 163) hx hb dX5_advance_119 (by decide) ?_
  refine lv_aload_n hx hb dX5_advance_163 rfl (lv_at hl 0 rfl) ?_
  refine va_get (D := (dC, dI)) (ci := 5) (v := .int (nI 0)) (C := RX5) (T := TX5) (N := 11) hx hb hts hin5 hown hK hP 0 rfl rfl 4 (by decide) (hts (.fieldLink RX5 46 "PorridgeSea$Reader" "kind" "I") (List.mem_of_getElem? (i := 7) rfl)) (fun _ h9 => h9) rfl dX5_advance_164 ?_
  refine lv_iconst (v := nI 2) hx hb dX5_advance_167 (by decide) ?_
  refine lv_icmp_ne (tgt := 238) hx hb dX5_advance_168 (by decide) (fun c4 => ?_) (fun c4 => absurd c4 (by decide))
  have hP9 := hP.sub (ws' := [(reader, .inr (5, [.ref tape, .int (nI 0), .int (nI 900), .int (nI 0), .int (nI 0), .int (nI 0), .int (-1 : Int32), .int (nI 0), .long 0, .int (nI 0), .int (nI 0)]))]) [0] rfl
  have hD9 := hD.sub (ws' := [(reader, .inr (5, [.ref tape, .int (nI 0), .int (nI 900), .int (nI 0), .int (nI 0), .int (nI 0), .int (-1 : Int32), .int (nI 0), .long 0, .int (nI 0), .int (nI 0)]))]) [0] (by decide) rfl
  refine W.widen (k := 0) (n := 0) (Nat.le_of_ble_eq_true rfl) (Nat.le_of_ble_eq_true rfl) ?_
  exact W.vret hx hb hr (fun t ht9 hW9 => ⟨⟨(), rfl, trivial, by rw [ht9]; exact hP9, va_K.moved hW9.alike hK, hD9⟩, hS.F ht9⟩) hS.2.2 dX5_advance_238
set_option maxHeartbeats 4000000 in
set_option maxRecDepth 100000 in
theorem c_open900 (l : Launch) (dC : Nat → ClassId) (dI : Nat → Nat → Nat) (ky : Nat → ClassId) (sz : Nat) (reader : Nat) (tape : Nat)  : Met l yX5_open wsX5_open ({ frames := 1, cells := 0, slots := 0, locals := 20 }) (PcU dC dI ky [.ref reader, .int (nI 0), .int (nI 900)] [(reader, .inr (5, [.ref tape, .int (nI 0), .int (nI 0), .int (nI 0), .int (nI 0), .int (nI 0), .int (nI 0), .int (nI 0), .long 0, .int (nI 0), .int (nI 0)]))] sz) (va_Qv (fun (_ : Unit) => True) (BU dC dI ky (fun (_ : Unit) => [(reader, .inr (5, [.ref tape, .int (nI 0), .int (nI 900), .int (nI 0), .int (nI 0), .int (nI 0), .int (-1 : Int32), .int (nI 0), .long 0, .int (nI 0), .int (nI 0)]))]) (va_A [(reader, .inr (5, [.ref tape, .int (nI 0), .int (nI 0), .int (nI 0), .int (nI 0), .int (nI 0), .int (nI 0), .int (nI 0), .long 0, .int (nI 0), .int (nI 0)]))] sz)) (va_A [(reader, .inr (5, [.ref tape, .int (nI 0), .int (nI 0), .int (nI 0), .int (nI 0), .int (nI 0), .int (nI 0), .int (nI 0), .long 0, .int (nI 0), .int (nI 0)]))] sz)) 0 0 (va_A [(reader, .inr (5, [.ref tape, .int (nI 0), .int (nI 0), .int (nI 0), .int (nI 0), .int (nI 0), .int (nI 0), .int (nI 0), .long 0, .int (nI 0), .int (nI 0)]))] sz) := by
  refine Met.ofW (cc := cX5_open) (maxL := 3) (ret := none) (by decide) rfl ?_
  intro p e s m args below meth c s₁ B hml hv
  obtain ⟨rfl, hsz, hP, hK, hD0⟩ := hv
  have hx := B.exec
  have hb := B.bytes
  have hr := B.returns
  have hts := atoms_spec (ws := wsX5_open) B.pre
  have hown : s.vm.findClass RX5 = some m.cls := findClass_of_methodNamed B.named
  have hlocks := B.notSynchronized
  have hin5 : ∀ w ∈ u_ws RX5 TX5 11, w ∈ wsX5_open := by decide +kernel
  subst hsz
  have hD := hD0.self (sz := s.heap.size)
  generalize hAe : va_A [(reader, .inr (5, [.ref tape, .int (nI 0), .int (nI 0), .int (nI 0), .int (nI 0), .int (nI 0), .int (nI 0), .int (nI 0), .long 0, .int (nI 0), .int (nI 0)]))] s.heap.size = A at hD ⊢
  have hA : ∀ q : Nat, s.heap.size ≤ q → A q := fun q h => by rw [← hAe]; exact Or.inr h
  have hS : va_S A s.heap s.heap [] := va_S.rf
  have hP : va_P (dC, dI) vwCl [(reader, .inr (5, [.ref tape, .int (nI 0), .int (nI 0), .int (nI 0), .int (nI 0), .int (nI 0), .int (nI 0), .int (nI 0), .long 0, .int (nI 0), .int (nI 0)]))] s.heap := hP
  have hl := lv_entry ([.ref reader, .int (nI 0), .int (nI 900)]) (n := 3) (Nat.le_of_ble_eq_true rfl)
  rw [lg_entry_eq]
  generalize (lg_sl ([.ref reader, .int (nI 0), .int (nI 900)]) ++ List.replicate (3 - (lg_sl ([.ref reader, .int (nI 0), .int (nI 900)])).length) Slot.unset).toArray = ls at hl ⊢
  have hl : lv_has ls 3 [(0, .ref reader), (1, .int (nI 0)), (2, .int (nI 900))] := hl
  have hH0 : True := trivial
  refine lv_aload_n hx hb dX5_open_0 rfl (lv_at hl 0 rfl) ?_
  refine lv_iload_n hx hb dX5_open_1 rfl (lv_at hl 1 rfl) ?_
  refine lv_sipush (v := nI 940) hx hb dX5_open_2 (by decide) ?_
  refine va_mmin hx hb (by rw [hml]; exact hl.1.symm) hown (hts _ (List.mem_of_getElem? (i := 1) rfl)) (hts _ (List.mem_of_getElem? (i := 2) rfl)) (hts _ (List.mem_of_getElem? (i := 3) rfl)) (hts _ (List.mem_of_getElem? (i := 4) rfl)) (Nat.le_of_ble_eq_true rfl) (Nat.le_of_ble_eq_true rfl) (Nat.le_of_ble_eq_true rfl) (Nat.le_of_ble_eq_true rfl) dX5_open_5 ?_
  refine r_ti (nI 0) (by decide) ?_
  refine va_put (D := (dC, dI)) (ci := 5) (v := .int (nI 0)) (ty := .int) (C := RX5) (T := TX5) (N := 11) hx hb hts hin5 tyX5 tyX5_ok nmX5 hown hK hP hD hS 0 rfl rfl 1 (by decide) (hts (.fieldLink RX5 21 "PorridgeSea$Reader" "length" "I") (List.mem_of_getElem? (i := 5) rfl)) (fun _ h9 => h9) rfl (by decide +kernel) rfl rfl (Nat.le_of_ble_eq_true rfl) dX5_open_8 (fun H locs hP hD hS => ?_)
  have hP : va_P (dC, dI) vwCl [(reader, .inr (5, [.ref tape, .int (nI 0), .int (nI 0), .int (nI 0), .int (nI 0), .int (nI 0), .int (nI 0), .int (nI 0), .long 0, .int (nI 0), .int (nI 0)]))] H := hP
  have hD : va_D A [(reader, .inr (5, [.ref tape, .int (nI 0), .int (nI 0), .int (nI 0), .int (nI 0), .int (nI 0), .int (nI 0), .int (nI 0), .long 0, .int (nI 0), .int (nI 0)]))] := hD
  refine lv_aload_n hx hb dX5_open_11 rfl (lv_at hl 0 rfl) ?_
  refine lv_iload_n hx hb dX5_open_12 rfl (lv_at hl 2 rfl) ?_
  refine va_put (D := (dC, dI)) (ci := 5) (v := .int (nI 900)) (ty := .int) (C := RX5) (T := TX5) (N := 11) hx hb hts hin5 tyX5 tyX5_ok nmX5 hown hK hP hD hS 0 rfl rfl 2 (by decide) (hts (.fieldLink RX5 25 "PorridgeSea$Reader" "mostBytes" "I") (List.mem_of_getElem? (i := 6) rfl)) (fun _ h9 => h9) rfl (by decide +kernel) rfl rfl (Nat.le_of_ble_eq_true rfl) dX5_open_13 (fun H locs hP hD hS => ?_)
  have hP : va_P (dC, dI) vwCl [(reader, .inr (5, [.ref tape, .int (nI 0), .int (nI 900), .int (nI 0), .int (nI 0), .int (nI 0), .int (nI 0), .int (nI 0), .long 0, .int (nI 0), .int (nI 0)]))] H := hP
  have hD : va_D A [(reader, .inr (5, [.ref tape, .int (nI 0), .int (nI 900), .int (nI 0), .int (nI 0), .int (nI 0), .int (nI 0), .int (nI 0), .long 0, .int (nI 0), .int (nI 0)]))] := hD
  refine lv_aload_n hx hb dX5_open_16 rfl (lv_at hl 0 rfl) ?_
  refine lv_iconst (v := nI 0) hx hb dX5_open_17 (by decide) ?_
  refine va_put (D := (dC, dI)) (ci := 5) (v := .int (nI 0)) (ty := .int) (C := RX5) (T := TX5) (N := 11) hx hb hts hin5 tyX5 tyX5_ok nmX5 hown hK hP hD hS 0 rfl rfl 3 (by decide) (hts (.fieldLink RX5 28 "PorridgeSea$Reader" "place" "I") (List.mem_of_getElem? (i := 7) rfl)) (fun _ h9 => h9) rfl (by decide +kernel) rfl rfl (Nat.le_of_ble_eq_true rfl) dX5_open_18 (fun H locs hP hD hS => ?_)
  have hP : va_P (dC, dI) vwCl [(reader, .inr (5, [.ref tape, .int (nI 0), .int (nI 900), .int (nI 0), .int (nI 0), .int (nI 0), .int (nI 0), .int (nI 0), .long 0, .int (nI 0), .int (nI 0)]))] H := hP
  have hD : va_D A [(reader, .inr (5, [.ref tape, .int (nI 0), .int (nI 900), .int (nI 0), .int (nI 0), .int (nI 0), .int (nI 0), .int (nI 0), .long 0, .int (nI 0), .int (nI 0)]))] := hD
  refine lv_aload_n hx hb dX5_open_21 rfl (lv_at hl 0 rfl) ?_
  refine lv_iconst (v := nI 0) hx hb dX5_open_22 (by decide) ?_
  refine va_put (D := (dC, dI)) (ci := 5) (v := .int (nI 0)) (ty := .int) (C := RX5) (T := TX5) (N := 11) hx hb hts hin5 tyX5 tyX5_ok nmX5 hown hK hP hD hS 0 rfl rfl 9 (by decide) (hts (.fieldLink RX5 31 "PorridgeSea$Reader" "faultKind" "I") (List.mem_of_getElem? (i := 8) rfl)) (fun _ h9 => h9) rfl (by decide +kernel) rfl rfl (Nat.le_of_ble_eq_true rfl) dX5_open_23 (fun H locs hP hD hS => ?_)
  have hP : va_P (dC, dI) vwCl [(reader, .inr (5, [.ref tape, .int (nI 0), .int (nI 900), .int (nI 0), .int (nI 0), .int (nI 0), .int (nI 0), .int (nI 0), .long 0, .int (nI 0), .int (nI 0)]))] H := hP
  have hD : va_D A [(reader, .inr (5, [.ref tape, .int (nI 0), .int (nI 900), .int (nI 0), .int (nI 0), .int (nI 0), .int (nI 0), .int (nI 0), .long 0, .int (nI 0), .int (nI 0)]))] := hD
  refine lv_aload_n hx hb dX5_open_26 rfl (lv_at hl 0 rfl) ?_
  refine lv_iconst (v := nI 0) hx hb dX5_open_27 (by decide) ?_
  refine va_put (D := (dC, dI)) (ci := 5) (v := .int (nI 0)) (ty := .int) (C := RX5) (T := TX5) (N := 11) hx hb hts hin5 tyX5 tyX5_ok nmX5 hown hK hP hD hS 0 rfl rfl 10 (by decide) (hts (.fieldLink RX5 34 "PorridgeSea$Reader" "faultPlace" "I") (List.mem_of_getElem? (i := 9) rfl)) (fun _ h9 => h9) rfl (by decide +kernel) rfl rfl (Nat.le_of_ble_eq_true rfl) dX5_open_28 (fun H locs hP hD hS => ?_)
  have hP : va_P (dC, dI) vwCl [(reader, .inr (5, [.ref tape, .int (nI 0), .int (nI 900), .int (nI 0), .int (nI 0), .int (nI 0), .int (nI 0), .int (nI 0), .long 0, .int (nI 0), .int (nI 0)]))] H := hP
  have hD : va_D A [(reader, .inr (5, [.ref tape, .int (nI 0), .int (nI 900), .int (nI 0), .int (nI 0), .int (nI 0), .int (nI 0), .int (nI 0), .long 0, .int (nI 0), .int (nI 0)]))] := hD
  refine lv_aload_n hx hb dX5_open_31 rfl (lv_at hl 0 rfl) ?_
  refine r_call_v (wr := []) (va_runV (As := []) (rest := []) ⟨hx, hb, hml, hown, hts⟩ (c_advance900 l dC dI ky H.size reader tape) (cwV 0 hts gX5_open_X5_advance rfl rfl rfl (by decide +kernel) ⟨(Nat.le_of_ble_eq_true rfl), (Nat.le_of_ble_eq_true rfl)⟩) (pre_UV hK hP hD [0] (by decide) rfl (ci := 5) (q0 := 0) rfl rfl) rfl rfl hl.1 rfl (lv_room (Nat.le_of_ble_eq_true rfl)) dX5_open_32 ⟨(Nat.le_of_ble_eq_true rfl), (Nat.le_of_ble_eq_true rfl)⟩) hP hD hS hA [0] [] rfl rfl (by decide) (by decide) (fun  u1 H locs p2 hP hD hS => ?_)
  refine W.widen (k := 0) (n := 0) (Nat.le_of_ble_eq_true rfl) (Nat.le_of_ble_eq_true rfl) ?_
  have hP : va_P (dC, dI) vwCl [(reader, .inr (5, [.ref tape, .int (nI 0), .int (nI 900), .int (nI 0), .int (nI 0), .int (nI 0), .int (-1 : Int32), .int (nI 0), .long 0, .int (nI 0), .int (nI 0)]))] H := hP
  have hD : va_D A [(reader, .inr (5, [.ref tape, .int (nI 0), .int (nI 900), .int (nI 0), .int (nI 0), .int (nI 0), .int (-1 : Int32), .int (nI 0), .long 0, .int (nI 0), .int (nI 0)]))] := hD
  have hP9 := hP.sub (ws' := [(reader, .inr (5, [.ref tape, .int (nI 0), .int (nI 900), .int (nI 0), .int (nI 0), .int (nI 0), .int (-1 : Int32), .int (nI 0), .long 0, .int (nI 0), .int (nI 0)]))]) [0] rfl
  have hD9 := hD.sub (ws' := [(reader, .inr (5, [.ref tape, .int (nI 0), .int (nI 900), .int (nI 0), .int (nI 0), .int (nI 0), .int (-1 : Int32), .int (nI 0), .long 0, .int (nI 0), .int (nI 0)]))]) [0] (by decide) rfl
  refine W.widen (k := 0) (n := 0) (Nat.le_of_ble_eq_true rfl) (Nat.le_of_ble_eq_true rfl) ?_
  exact W.vret hx hb hr (fun t ht9 hW9 => ⟨⟨(), rfl, trivial, by rw [ht9]; exact hP9, va_K.moved hW9.alike hK, hD9⟩, hS.F ht9⟩) hS.2.2 dX5_open_35
set_option maxHeartbeats 4000000 in
set_option maxRecDepth 100000 in
theorem c_advance400 (l : Launch) (dC : Nat → ClassId) (dI : Nat → Nat → Nat) (ky : Nat → ClassId) (sz : Nat) (reader : Nat) (tape : Nat)  : Met l yX5_advance wsX5_advance ({ frames := 0, cells := 0, slots := 0, locals := 0 }) (PcU dC dI ky [.ref reader] [(reader, .inr (5, [.ref tape, .int (nI 0), .int (nI 400), .int (nI 0), .int (nI 0), .int (nI 0), .int (nI 0), .int (nI 0), .long 0, .int (nI 0), .int (nI 0)]))] sz) (va_Qv (fun (_ : Unit) => True) (BU dC dI ky (fun (_ : Unit) => [(reader, .inr (5, [.ref tape, .int (nI 0), .int (nI 400), .int (nI 0), .int (nI 0), .int (nI 0), .int (-1 : Int32), .int (nI 0), .long 0, .int (nI 0), .int (nI 0)]))]) (va_A [(reader, .inr (5, [.ref tape, .int (nI 0), .int (nI 400), .int (nI 0), .int (nI 0), .int (nI 0), .int (nI 0), .int (nI 0), .long 0, .int (nI 0), .int (nI 0)]))] sz)) (va_A [(reader, .inr (5, [.ref tape, .int (nI 0), .int (nI 400), .int (nI 0), .int (nI 0), .int (nI 0), .int (nI 0), .int (nI 0), .long 0, .int (nI 0), .int (nI 0)]))] sz)) 0 0 (va_A [(reader, .inr (5, [.ref tape, .int (nI 0), .int (nI 400), .int (nI 0), .int (nI 0), .int (nI 0), .int (nI 0), .int (nI 0), .long 0, .int (nI 0), .int (nI 0)]))] sz) := by
  refine Met.ofW (cc := cX5_advance) (maxL := 1) (ret := none) (by decide) rfl ?_
  intro p e s m args below meth c s₁ B hml hv
  obtain ⟨rfl, hsz, hP, hK, hD0⟩ := hv
  have hx := B.exec
  have hb := B.bytes
  have hr := B.returns
  have hts := atoms_spec (ws := wsX5_advance) B.pre
  have hown : s.vm.findClass RX5 = some m.cls := findClass_of_methodNamed B.named
  have hlocks := B.notSynchronized
  have hin5 : ∀ w ∈ u_ws RX5 TX5 11, w ∈ wsX5_advance := by decide +kernel
  subst hsz
  have hD := hD0.self (sz := s.heap.size)
  generalize hAe : va_A [(reader, .inr (5, [.ref tape, .int (nI 0), .int (nI 400), .int (nI 0), .int (nI 0), .int (nI 0), .int (nI 0), .int (nI 0), .long 0, .int (nI 0), .int (nI 0)]))] s.heap.size = A at hD ⊢
  have hA : ∀ q : Nat, s.heap.size ≤ q → A q := fun q h => by rw [← hAe]; exact Or.inr h
  have hS : va_S A s.heap s.heap [] := va_S.rf
  have hP : va_P (dC, dI) vwCl [(reader, .inr (5, [.ref tape, .int (nI 0), .int (nI 400), .int (nI 0), .int (nI 0), .int (nI 0), .int (nI 0), .int (nI 0), .long 0, .int (nI 0), .int (nI 0)]))] s.heap := hP
  have hl := lv_entry ([.ref reader]) (n := 1) (Nat.le_of_ble_eq_true rfl)
  rw [lg_entry_eq]
  generalize (lg_sl ([.ref reader]) ++ List.replicate (1 - (lg_sl ([.ref reader])).length) Slot.unset).toArray = ls at hl ⊢
  have hl : lv_has ls 1 [(0, .ref reader)] := hl
  have hH0 : True := trivial
  refine lv_aload_n hx hb dX5_advance_0 rfl (lv_at hl 0 rfl) ?_
  refine va_get (D := (dC, dI)) (ci := 5) (v := .int (nI 0)) (C := RX5) (T := TX5) (N := 11) hx hb hts hin5 hown hK hP 0 rfl rfl 3 (by decide) (hts (.fieldLink RX5 28 "PorridgeSea$Reader" "place" "I") (List.mem_of_getElem? (i := 1) rfl)) (fun _ h9 => h9) rfl dX5_advance_1 ?_
  refine lv_aload_n hx hb dX5_advance_4 rfl (lv_at hl 0 rfl) ?_
  refine va_get (D := (dC, dI)) (ci := 5) (v := .int (nI 0)) (C := RX5) (T := TX5) (N := 11) hx hb hts hin5 hown hK hP 0 rfl rfl 1 (by decide) (hts (.fieldLink RX5 21 "PorridgeSea$Reader" "length" "I") (List.mem_of_getElem? (i := 2) rfl)) (fun _ h9 => h9) rfl dX5_advance_5 ?_
  refine lv_icmp_ge (tgt := 52) hx hb dX5_advance_8 (by decide) (fun c1 => ?_) (fun c1 => absurd (by decide) c1)
  refine lv_aload_n hx hb dX5_advance_52 rfl (lv_at hl 0 rfl) ?_
  refine lv_aload_n hx hb dX5_advance_53 rfl (lv_at hl 0 rfl) ?_
  refine va_get (D := (dC, dI)) (ci := 5) (v := .int (nI 0)) (C := RX5) (T := TX5) (N := 11) hx hb hts hin5 hown hK hP 0 rfl rfl 3 (by decide) (hts (.fieldLink RX5 28 "PorridgeSea$Reader" "place" "I") (List.mem_of_getElem? (i := 1) rfl)) (fun _ h9 => h9) rfl dX5_advance_54 ?_
  refine va_put (D := (dC, dI)) (ci := 5) (v := .int (nI 0)) (ty := .int) (C := RX5) (T := TX5) (N := 11) hx hb hts hin5 tyX5 tyX5_ok nmX5 hown hK hP hD hS 0 rfl rfl 5 (by decide) (hts (.fieldLink RX5 40 "PorridgeSea$Reader" "begin" "I") (List.mem_of_getElem? (i := 4) rfl)) (fun _ h9 => h9) rfl (by decide +kernel) rfl rfl (Nat.le_of_ble_eq_true rfl) dX5_advance_57 (fun H locs hP hD hS => ?_)
  have hP : va_P (dC, dI) vwCl [(reader, .inr (5, [.ref tape, .int (nI 0), .int (nI 400), .int (nI 0), .int (nI 0), .int (nI 0), .int (nI 0), .int (nI 0), .long 0, .int (nI 0), .int (nI 0)]))] H := hP
  have hD : va_D A [(reader, .inr (5, [.ref tape, .int (nI 0), .int (nI 400), .int (nI 0), .int (nI 0), .int (nI 0), .int (nI 0), .int (nI 0), .long 0, .int (nI 0), .int (nI 0)]))] := hD
  refine lv_aload_n hx hb dX5_advance_60 rfl (lv_at hl 0 rfl) ?_
  refine lv_iconst (v := (-1 : Int32)) hx hb dX5_advance_61 (by decide) ?_
  refine va_put (D := (dC, dI)) (ci := 5) (v := .int (-1 : Int32)) (ty := .int) (C := RX5) (T := TX5) (N := 11) hx hb hts hin5 tyX5 tyX5_ok nmX5 hown hK hP hD hS 0 rfl rfl 6 (by decide) (hts (.fieldLink RX5 43 "PorridgeSea$Reader" "word" "I") (List.mem_of_getElem? (i := 5) rfl)) (fun _ h9 => h9) rfl (by decide +kernel) rfl rfl (Nat.le_of_ble_eq_true rfl) dX5_advance_62 (fun H locs hP hD hS => ?_)
  have hP : va_P (dC, dI) vwCl [(reader, .inr (5, [.ref tape, .int (nI 0), .int (nI 400), .int (nI 0), .int (nI 0), .int (nI 0), .int (-1 : Int32), .int (nI 0), .long 0, .int (nI 0), .int (nI 0)]))] H := hP
  have hD : va_D A [(reader, .inr (5, [.ref tape, .int (nI 0), .int (nI 400), .int (nI 0), .int (nI 0), .int (nI 0), .int (-1 : Int32), .int (nI 0), .long 0, .int (nI 0), .int (nI 0)]))] := hD
  refine lv_aload_n hx hb dX5_advance_65 rfl (lv_at hl 0 rfl) ?_
  refine va_get (D := (dC, dI)) (ci := 5) (v := .int (nI 0)) (C := RX5) (T := TX5) (N := 11) hx hb hts hin5 hown hK hP 0 rfl rfl 1 (by decide) (hts (.fieldLink RX5 21 "PorridgeSea$Reader" "length" "I") (List.mem_of_getElem? (i := 2) rfl)) (fun _ h9 => h9) rfl dX5_advance_66 ?_
  refine lv_aload_n hx hb dX5_advance_69 rfl (lv_at hl 0 rfl) ?_
  refine va_get (D := (dC, dI)) (ci := 5) (v := .int (nI 400)) (C := RX5) (T := TX5) (N := 11) hx hb hts hin5 hown hK hP 0 rfl rfl 2 (by decide) (hts (.fieldLink RX5 25 "PorridgeSea$Reader" "mostBytes" "I") (List.mem_of_getElem? (i := 6) rfl)) (fun _ h9 => h9) rfl dX5_advance_70 ?_
  refine lv_icmp_le (tgt := 103) hx hb dX5_advance_73 (by decide) (fun c2 => ?_) (fun c2 => absurd (by decide) c2)
  refine lv_aload_n hx hb dX5_advance_103 rfl (lv_at hl 0 rfl) ?_
  refine va_get (D := (dC, dI)) (ci := 5) (v := .int (nI 0)) (C := RX5) (T := TX5) (N := 11) hx hb hts hin5 hown hK hP 0 rfl rfl 3 (by decide) (hts (.fieldLink RX5 28 "PorridgeSea$Reader" "place" "I") (List.mem_of_getElem? (i := 1) rfl)) (fun _ h9 => h9) rfl dX5_advance_104 ?_
  refine lv_aload_n hx hb dX5_advance_107 rfl (lv_at hl 0 rfl) ?_
  refine va_get (D := (dC, dI)) (ci := 5) (v := .int (nI 0)) (C := RX5) (T := TX5) (N := 11) hx hb hts hin5 hown hK hP 0 rfl rfl 1 (by decide) (hts (.fieldLink RX5 21 "PorridgeSea$Reader" "length" "I") (List.mem_of_getElem? (i := 2) rfl)) (fun _ h9 => h9) rfl dX5_advance_108 ?_
  refine lv_icmp_lt (tgt := 122) hx hb dX5_advance_111 (by decide) (fun c3 => absurd c3 (by decide)) (fun c3 => ?_)
  refine lv_aload_n hx hb dX5_advance_114 rfl (lv_at hl 0 rfl) ?_
  refine lv_iconst (v := nI 0) hx hb dX5_advance_115 (by decide) ?_
  refine va_put (D := (dC, dI)) (ci := 5) (v := .int (nI 0)) (ty := .int) (C := RX5) (T := TX5) (N := 11) hx hb hts hin5 tyX5 tyX5_ok nmX5 hown hK hP hD hS 0 rfl rfl 4 (by decide) (hts (.fieldLink RX5 46 "PorridgeSea$Reader" "kind" "I") (List.mem_of_getElem? (i := 7) rfl)) (fun _ h9 => h9) rfl (by decide +kernel) rfl rfl (Nat.le_of_ble_eq_true rfl) dX5_advance_116 (fun H locs hP hD hS => ?_)
  have hP : va_P (dC, dI) vwCl [(reader, .inr (5, [.ref tape, .int (nI 0), .int (nI 400), .int (nI 0), .int (nI 0), .int (nI 0), .int (-1 : Int32), .int (nI 0), .long 0, .int (nI 0), .int (nI 0)]))] H := hP
  have hD : va_D A [(reader, .inr (5, [.ref tape, .int (nI 0), .int (nI 400), .int (nI 0), .int (nI 0), .int (nI 0), .int (-1 : Int32), .int (nI 0), .long 0, .int (nI 0), .int (nI 0)]))] := hD
  refine lv_goto (tgt := 163) hx hb dX5_advance_119 (by decide) ?_
  refine lv_aload_n hx hb dX5_advance_163 rfl (lv_at hl 0 rfl) ?_
  refine va_get (D := (dC, dI)) (ci := 5) (v := .int (nI 0)) (C := RX5) (T := TX5) (N := 11) hx hb hts hin5 hown hK hP 0 rfl rfl 4 (by decide) (hts (.fieldLink RX5 46 "PorridgeSea$Reader" "kind" "I") (List.mem_of_getElem? (i := 7) rfl)) (fun _ h9 => h9) rfl dX5_advance_164 ?_
  refine lv_iconst (v := nI 2) hx hb dX5_advance_167 (by decide) ?_
  refine lv_icmp_ne (tgt := 238) hx hb dX5_advance_168 (by decide) (fun c4 => ?_) (fun c4 => absurd c4 (by decide))
  have hP9 := hP.sub (ws' := [(reader, .inr (5, [.ref tape, .int (nI 0), .int (nI 400), .int (nI 0), .int (nI 0), .int (nI 0), .int (-1 : Int32), .int (nI 0), .long 0, .int (nI 0), .int (nI 0)]))]) [0] rfl
  have hD9 := hD.sub (ws' := [(reader, .inr (5, [.ref tape, .int (nI 0), .int (nI 400), .int (nI 0), .int (nI 0), .int (nI 0), .int (-1 : Int32), .int (nI 0), .long 0, .int (nI 0), .int (nI 0)]))]) [0] (by decide) rfl
  refine W.widen (k := 0) (n := 0) (Nat.le_of_ble_eq_true rfl) (Nat.le_of_ble_eq_true rfl) ?_
  exact W.vret hx hb hr (fun t ht9 hW9 => ⟨⟨(), rfl, trivial, by rw [ht9]; exact hP9, va_K.moved hW9.alike hK, hD9⟩, hS.F ht9⟩) hS.2.2 dX5_advance_238
set_option maxHeartbeats 4000000 in
set_option maxRecDepth 100000 in
theorem c_open400 (l : Launch) (dC : Nat → ClassId) (dI : Nat → Nat → Nat) (ky : Nat → ClassId) (sz : Nat) (reader : Nat) (tape : Nat)  : Met l yX5_open wsX5_open ({ frames := 1, cells := 0, slots := 0, locals := 20 }) (PcU dC dI ky [.ref reader, .int (nI 0), .int (nI 400)] [(reader, .inr (5, [.ref tape, .int (nI 0), .int (nI 0), .int (nI 0), .int (nI 0), .int (nI 0), .int (nI 0), .int (nI 0), .long 0, .int (nI 0), .int (nI 0)]))] sz) (va_Qv (fun (_ : Unit) => True) (BU dC dI ky (fun (_ : Unit) => [(reader, .inr (5, [.ref tape, .int (nI 0), .int (nI 400), .int (nI 0), .int (nI 0), .int (nI 0), .int (-1 : Int32), .int (nI 0), .long 0, .int (nI 0), .int (nI 0)]))]) (va_A [(reader, .inr (5, [.ref tape, .int (nI 0), .int (nI 0), .int (nI 0), .int (nI 0), .int (nI 0), .int (nI 0), .int (nI 0), .long 0, .int (nI 0), .int (nI 0)]))] sz)) (va_A [(reader, .inr (5, [.ref tape, .int (nI 0), .int (nI 0), .int (nI 0), .int (nI 0), .int (nI 0), .int (nI 0), .int (nI 0), .long 0, .int (nI 0), .int (nI 0)]))] sz)) 0 0 (va_A [(reader, .inr (5, [.ref tape, .int (nI 0), .int (nI 0), .int (nI 0), .int (nI 0), .int (nI 0), .int (nI 0), .int (nI 0), .long 0, .int (nI 0), .int (nI 0)]))] sz) := by
  refine Met.ofW (cc := cX5_open) (maxL := 3) (ret := none) (by decide) rfl ?_
  intro p e s m args below meth c s₁ B hml hv
  obtain ⟨rfl, hsz, hP, hK, hD0⟩ := hv
  have hx := B.exec
  have hb := B.bytes
  have hr := B.returns
  have hts := atoms_spec (ws := wsX5_open) B.pre
  have hown : s.vm.findClass RX5 = some m.cls := findClass_of_methodNamed B.named
  have hlocks := B.notSynchronized
  have hin5 : ∀ w ∈ u_ws RX5 TX5 11, w ∈ wsX5_open := by decide +kernel
  subst hsz
  have hD := hD0.self (sz := s.heap.size)
  generalize hAe : va_A [(reader, .inr (5, [.ref tape, .int (nI 0), .int (nI 0), .int (nI 0), .int (nI 0), .int (nI 0), .int (nI 0), .int (nI 0), .long 0, .int (nI 0), .int (nI 0)]))] s.heap.size = A at hD ⊢
  have hA : ∀ q : Nat, s.heap.size ≤ q → A q := fun q h => by rw [← hAe]; exact Or.inr h
  have hS : va_S A s.heap s.heap [] := va_S.rf
  have hP : va_P (dC, dI) vwCl [(reader, .inr (5, [.ref tape, .int (nI 0), .int (nI 0), .int (nI 0), .int (nI 0), .int (nI 0), .int (nI 0), .int (nI 0), .long 0, .int (nI 0), .int (nI 0)]))] s.heap := hP
  have hl := lv_entry ([.ref reader, .int (nI 0), .int (nI 400)]) (n := 3) (Nat.le_of_ble_eq_true rfl)
  rw [lg_entry_eq]
  generalize (lg_sl ([.ref reader, .int (nI 0), .int (nI 400)]) ++ List.replicate (3 - (lg_sl ([.ref reader, .int (nI 0), .int (nI 400)])).length) Slot.unset).toArray = ls at hl ⊢
  have hl : lv_has ls 3 [(0, .ref reader), (1, .int (nI 0)), (2, .int (nI 400))] := hl
  have hH0 : True := trivial
  refine lv_aload_n hx hb dX5_open_0 rfl (lv_at hl 0 rfl) ?_
  refine lv_iload_n hx hb dX5_open_1 rfl (lv_at hl 1 rfl) ?_
  refine lv_sipush (v := nI 940) hx hb dX5_open_2 (by decide) ?_
  refine va_mmin hx hb (by rw [hml]; exact hl.1.symm) hown (hts _ (List.mem_of_getElem? (i := 1) rfl)) (hts _ (List.mem_of_getElem? (i := 2) rfl)) (hts _ (List.mem_of_getElem? (i := 3) rfl)) (hts _ (List.mem_of_getElem? (i := 4) rfl)) (Nat.le_of_ble_eq_true rfl) (Nat.le_of_ble_eq_true rfl) (Nat.le_of_ble_eq_true rfl) (Nat.le_of_ble_eq_true rfl) dX5_open_5 ?_
  refine r_ti (nI 0) (by decide) ?_
  refine va_put (D := (dC, dI)) (ci := 5) (v := .int (nI 0)) (ty := .int) (C := RX5) (T := TX5) (N := 11) hx hb hts hin5 tyX5 tyX5_ok nmX5 hown hK hP hD hS 0 rfl rfl 1 (by decide) (hts (.fieldLink RX5 21 "PorridgeSea$Reader" "length" "I") (List.mem_of_getElem? (i := 5) rfl)) (fun _ h9 => h9) rfl (by decide +kernel) rfl rfl (Nat.le_of_ble_eq_true rfl) dX5_open_8 (fun H locs hP hD hS => ?_)
  have hP : va_P (dC, dI) vwCl [(reader, .inr (5, [.ref tape, .int (nI 0), .int (nI 0), .int (nI 0), .int (nI 0), .int (nI 0), .int (nI 0), .int (nI 0), .long 0, .int (nI 0), .int (nI 0)]))] H := hP
  have hD : va_D A [(reader, .inr (5, [.ref tape, .int (nI 0), .int (nI 0), .int (nI 0), .int (nI 0), .int (nI 0), .int (nI 0), .int (nI 0), .long 0, .int (nI 0), .int (nI 0)]))] := hD
  refine lv_aload_n hx hb dX5_open_11 rfl (lv_at hl 0 rfl) ?_
  refine lv_iload_n hx hb dX5_open_12 rfl (lv_at hl 2 rfl) ?_
  refine va_put (D := (dC, dI)) (ci := 5) (v := .int (nI 400)) (ty := .int) (C := RX5) (T := TX5) (N := 11) hx hb hts hin5 tyX5 tyX5_ok nmX5 hown hK hP hD hS 0 rfl rfl 2 (by decide) (hts (.fieldLink RX5 25 "PorridgeSea$Reader" "mostBytes" "I") (List.mem_of_getElem? (i := 6) rfl)) (fun _ h9 => h9) rfl (by decide +kernel) rfl rfl (Nat.le_of_ble_eq_true rfl) dX5_open_13 (fun H locs hP hD hS => ?_)
  have hP : va_P (dC, dI) vwCl [(reader, .inr (5, [.ref tape, .int (nI 0), .int (nI 400), .int (nI 0), .int (nI 0), .int (nI 0), .int (nI 0), .int (nI 0), .long 0, .int (nI 0), .int (nI 0)]))] H := hP
  have hD : va_D A [(reader, .inr (5, [.ref tape, .int (nI 0), .int (nI 400), .int (nI 0), .int (nI 0), .int (nI 0), .int (nI 0), .int (nI 0), .long 0, .int (nI 0), .int (nI 0)]))] := hD
  refine lv_aload_n hx hb dX5_open_16 rfl (lv_at hl 0 rfl) ?_
  refine lv_iconst (v := nI 0) hx hb dX5_open_17 (by decide) ?_
  refine va_put (D := (dC, dI)) (ci := 5) (v := .int (nI 0)) (ty := .int) (C := RX5) (T := TX5) (N := 11) hx hb hts hin5 tyX5 tyX5_ok nmX5 hown hK hP hD hS 0 rfl rfl 3 (by decide) (hts (.fieldLink RX5 28 "PorridgeSea$Reader" "place" "I") (List.mem_of_getElem? (i := 7) rfl)) (fun _ h9 => h9) rfl (by decide +kernel) rfl rfl (Nat.le_of_ble_eq_true rfl) dX5_open_18 (fun H locs hP hD hS => ?_)
  have hP : va_P (dC, dI) vwCl [(reader, .inr (5, [.ref tape, .int (nI 0), .int (nI 400), .int (nI 0), .int (nI 0), .int (nI 0), .int (nI 0), .int (nI 0), .long 0, .int (nI 0), .int (nI 0)]))] H := hP
  have hD : va_D A [(reader, .inr (5, [.ref tape, .int (nI 0), .int (nI 400), .int (nI 0), .int (nI 0), .int (nI 0), .int (nI 0), .int (nI 0), .long 0, .int (nI 0), .int (nI 0)]))] := hD
  refine lv_aload_n hx hb dX5_open_21 rfl (lv_at hl 0 rfl) ?_
  refine lv_iconst (v := nI 0) hx hb dX5_open_22 (by decide) ?_
  refine va_put (D := (dC, dI)) (ci := 5) (v := .int (nI 0)) (ty := .int) (C := RX5) (T := TX5) (N := 11) hx hb hts hin5 tyX5 tyX5_ok nmX5 hown hK hP hD hS 0 rfl rfl 9 (by decide) (hts (.fieldLink RX5 31 "PorridgeSea$Reader" "faultKind" "I") (List.mem_of_getElem? (i := 8) rfl)) (fun _ h9 => h9) rfl (by decide +kernel) rfl rfl (Nat.le_of_ble_eq_true rfl) dX5_open_23 (fun H locs hP hD hS => ?_)
  have hP : va_P (dC, dI) vwCl [(reader, .inr (5, [.ref tape, .int (nI 0), .int (nI 400), .int (nI 0), .int (nI 0), .int (nI 0), .int (nI 0), .int (nI 0), .long 0, .int (nI 0), .int (nI 0)]))] H := hP
  have hD : va_D A [(reader, .inr (5, [.ref tape, .int (nI 0), .int (nI 400), .int (nI 0), .int (nI 0), .int (nI 0), .int (nI 0), .int (nI 0), .long 0, .int (nI 0), .int (nI 0)]))] := hD
  refine lv_aload_n hx hb dX5_open_26 rfl (lv_at hl 0 rfl) ?_
  refine lv_iconst (v := nI 0) hx hb dX5_open_27 (by decide) ?_
  refine va_put (D := (dC, dI)) (ci := 5) (v := .int (nI 0)) (ty := .int) (C := RX5) (T := TX5) (N := 11) hx hb hts hin5 tyX5 tyX5_ok nmX5 hown hK hP hD hS 0 rfl rfl 10 (by decide) (hts (.fieldLink RX5 34 "PorridgeSea$Reader" "faultPlace" "I") (List.mem_of_getElem? (i := 9) rfl)) (fun _ h9 => h9) rfl (by decide +kernel) rfl rfl (Nat.le_of_ble_eq_true rfl) dX5_open_28 (fun H locs hP hD hS => ?_)
  have hP : va_P (dC, dI) vwCl [(reader, .inr (5, [.ref tape, .int (nI 0), .int (nI 400), .int (nI 0), .int (nI 0), .int (nI 0), .int (nI 0), .int (nI 0), .long 0, .int (nI 0), .int (nI 0)]))] H := hP
  have hD : va_D A [(reader, .inr (5, [.ref tape, .int (nI 0), .int (nI 400), .int (nI 0), .int (nI 0), .int (nI 0), .int (nI 0), .int (nI 0), .long 0, .int (nI 0), .int (nI 0)]))] := hD
  refine lv_aload_n hx hb dX5_open_31 rfl (lv_at hl 0 rfl) ?_
  refine r_call_v (wr := []) (va_runV (As := []) (rest := []) ⟨hx, hb, hml, hown, hts⟩ (c_advance400 l dC dI ky H.size reader tape) (cwV 0 hts gX5_open_X5_advance rfl rfl rfl (by decide +kernel) ⟨(Nat.le_of_ble_eq_true rfl), (Nat.le_of_ble_eq_true rfl)⟩) (pre_UV hK hP hD [0] (by decide) rfl (ci := 5) (q0 := 0) rfl rfl) rfl rfl hl.1 rfl (lv_room (Nat.le_of_ble_eq_true rfl)) dX5_open_32 ⟨(Nat.le_of_ble_eq_true rfl), (Nat.le_of_ble_eq_true rfl)⟩) hP hD hS hA [0] [] rfl rfl (by decide) (by decide) (fun  u1 H locs p2 hP hD hS => ?_)
  refine W.widen (k := 0) (n := 0) (Nat.le_of_ble_eq_true rfl) (Nat.le_of_ble_eq_true rfl) ?_
  have hP : va_P (dC, dI) vwCl [(reader, .inr (5, [.ref tape, .int (nI 0), .int (nI 400), .int (nI 0), .int (nI 0), .int (nI 0), .int (-1 : Int32), .int (nI 0), .long 0, .int (nI 0), .int (nI 0)]))] H := hP
  have hD : va_D A [(reader, .inr (5, [.ref tape, .int (nI 0), .int (nI 400), .int (nI 0), .int (nI 0), .int (nI 0), .int (-1 : Int32), .int (nI 0), .long 0, .int (nI 0), .int (nI 0)]))] := hD
  have hP9 := hP.sub (ws' := [(reader, .inr (5, [.ref tape, .int (nI 0), .int (nI 400), .int (nI 0), .int (nI 0), .int (nI 0), .int (-1 : Int32), .int (nI 0), .long 0, .int (nI 0), .int (nI 0)]))]) [0] rfl
  have hD9 := hD.sub (ws' := [(reader, .inr (5, [.ref tape, .int (nI 0), .int (nI 400), .int (nI 0), .int (nI 0), .int (nI 0), .int (-1 : Int32), .int (nI 0), .long 0, .int (nI 0), .int (nI 0)]))]) [0] (by decide) rfl
  refine W.widen (k := 0) (n := 0) (Nat.le_of_ble_eq_true rfl) (Nat.le_of_ble_eq_true rfl) ?_
  exact W.vret hx hb hr (fun t ht9 hW9 => ⟨⟨(), rfl, trivial, by rw [ht9]; exact hP9, va_K.moved hW9.alike hK, hD9⟩, hS.F ht9⟩) hS.2.2 dX5_open_35
set_option maxHeartbeats 4000000 in
set_option maxRecDepth 100000 in
theorem c_advance200 (l : Launch) (dC : Nat → ClassId) (dI : Nat → Nat → Nat) (ky : Nat → ClassId) (sz : Nat) (reader : Nat) (tape : Nat)  : Met l yX5_advance wsX5_advance ({ frames := 0, cells := 0, slots := 0, locals := 0 }) (PcU dC dI ky [.ref reader] [(reader, .inr (5, [.ref tape, .int (nI 0), .int (nI 200), .int (nI 0), .int (nI 0), .int (nI 0), .int (nI 0), .int (nI 0), .long 0, .int (nI 0), .int (nI 0)]))] sz) (va_Qv (fun (_ : Unit) => True) (BU dC dI ky (fun (_ : Unit) => [(reader, .inr (5, [.ref tape, .int (nI 0), .int (nI 200), .int (nI 0), .int (nI 0), .int (nI 0), .int (-1 : Int32), .int (nI 0), .long 0, .int (nI 0), .int (nI 0)]))]) (va_A [(reader, .inr (5, [.ref tape, .int (nI 0), .int (nI 200), .int (nI 0), .int (nI 0), .int (nI 0), .int (nI 0), .int (nI 0), .long 0, .int (nI 0), .int (nI 0)]))] sz)) (va_A [(reader, .inr (5, [.ref tape, .int (nI 0), .int (nI 200), .int (nI 0), .int (nI 0), .int (nI 0), .int (nI 0), .int (nI 0), .long 0, .int (nI 0), .int (nI 0)]))] sz)) 0 0 (va_A [(reader, .inr (5, [.ref tape, .int (nI 0), .int (nI 200), .int (nI 0), .int (nI 0), .int (nI 0), .int (nI 0), .int (nI 0), .long 0, .int (nI 0), .int (nI 0)]))] sz) := by
  refine Met.ofW (cc := cX5_advance) (maxL := 1) (ret := none) (by decide) rfl ?_
  intro p e s m args below meth c s₁ B hml hv
  obtain ⟨rfl, hsz, hP, hK, hD0⟩ := hv
  have hx := B.exec
  have hb := B.bytes
  have hr := B.returns
  have hts := atoms_spec (ws := wsX5_advance) B.pre
  have hown : s.vm.findClass RX5 = some m.cls := findClass_of_methodNamed B.named
  have hlocks := B.notSynchronized
  have hin5 : ∀ w ∈ u_ws RX5 TX5 11, w ∈ wsX5_advance := by decide +kernel
  subst hsz
  have hD := hD0.self (sz := s.heap.size)
  generalize hAe : va_A [(reader, .inr (5, [.ref tape, .int (nI 0), .int (nI 200), .int (nI 0), .int (nI 0), .int (nI 0), .int (nI 0), .int (nI 0), .long 0, .int (nI 0), .int (nI 0)]))] s.heap.size = A at hD ⊢
  have hA : ∀ q : Nat, s.heap.size ≤ q → A q := fun q h => by rw [← hAe]; exact Or.inr h
  have hS : va_S A s.heap s.heap [] := va_S.rf
  have hP : va_P (dC, dI) vwCl [(reader, .inr (5, [.ref tape, .int (nI 0), .int (nI 200), .int (nI 0), .int (nI 0), .int (nI 0), .int (nI 0), .int (nI 0), .long 0, .int (nI 0), .int (nI 0)]))] s.heap := hP
  have hl := lv_entry ([.ref reader]) (n := 1) (Nat.le_of_ble_eq_true rfl)
  rw [lg_entry_eq]
  generalize (lg_sl ([.ref reader]) ++ List.replicate (1 - (lg_sl ([.ref reader])).length) Slot.unset).toArray = ls at hl ⊢
  have hl : lv_has ls 1 [(0, .ref reader)] := hl
  have hH0 : True := trivial
  refine lv_aload_n hx hb dX5_advance_0 rfl (lv_at hl 0 rfl) ?_
  refine va_get (D := (dC, dI)) (ci := 5) (v := .int (nI 0)) (C := RX5) (T := TX5) (N := 11) hx hb hts hin5 hown hK hP 0 rfl rfl 3 (by decide) (hts (.fieldLink RX5 28 "PorridgeSea$Reader" "place" "I") (List.mem_of_getElem? (i := 1) rfl)) (fun _ h9 => h9) rfl dX5_advance_1 ?_
  refine lv_aload_n hx hb dX5_advance_4 rfl (lv_at hl 0 rfl) ?_
  refine va_get (D := (dC, dI)) (ci := 5) (v := .int (nI 0)) (C := RX5) (T := TX5) (N := 11) hx hb hts hin5 hown hK hP 0 rfl rfl 1 (by decide) (hts (.fieldLink RX5 21 "PorridgeSea$Reader" "length" "I") (List.mem_of_getElem? (i := 2) rfl)) (fun _ h9 => h9) rfl dX5_advance_5 ?_
  refine lv_icmp_ge (tgt := 52) hx hb dX5_advance_8 (by decide) (fun c1 => ?_) (fun c1 => absurd (by decide) c1)
  refine lv_aload_n hx hb dX5_advance_52 rfl (lv_at hl 0 rfl) ?_
  refine lv_aload_n hx hb dX5_advance_53 rfl (lv_at hl 0 rfl) ?_
  refine va_get (D := (dC, dI)) (ci := 5) (v := .int (nI 0)) (C := RX5) (T := TX5) (N := 11) hx hb hts hin5 hown hK hP 0 rfl rfl 3 (by decide) (hts (.fieldLink RX5 28 "PorridgeSea$Reader" "place" "I") (List.mem_of_getElem? (i := 1) rfl)) (fun _ h9 => h9) rfl dX5_advance_54 ?_
  refine va_put (D := (dC, dI)) (ci := 5) (v := .int (nI 0)) (ty := .int) (C := RX5) (T := TX5) (N := 11) hx hb hts hin5 tyX5 tyX5_ok nmX5 hown hK hP hD hS 0 rfl rfl 5 (by decide) (hts (.fieldLink RX5 40 "PorridgeSea$Reader" "begin" "I") (List.mem_of_getElem? (i := 4) rfl)) (fun _ h9 => h9) rfl (by decide +kernel) rfl rfl (Nat.le_of_ble_eq_true rfl) dX5_advance_57 (fun H locs hP hD hS => ?_)
  have hP : va_P (dC, dI) vwCl [(reader, .inr (5, [.ref tape, .int (nI 0), .int (nI 200), .int (nI 0), .int (nI 0), .int (nI 0), .int (nI 0), .int (nI 0), .long 0, .int (nI 0), .int (nI 0)]))] H := hP
  have hD : va_D A [(reader, .inr (5, [.ref tape, .int (nI 0), .int (nI 200), .int (nI 0), .int (nI 0), .int (nI 0), .int (nI 0), .int (nI 0), .long 0, .int (nI 0), .int (nI 0)]))] := hD
  refine lv_aload_n hx hb dX5_advance_60 rfl (lv_at hl 0 rfl) ?_
  refine lv_iconst (v := (-1 : Int32)) hx hb dX5_advance_61 (by decide) ?_
  refine va_put (D := (dC, dI)) (ci := 5) (v := .int (-1 : Int32)) (ty := .int) (C := RX5) (T := TX5) (N := 11) hx hb hts hin5 tyX5 tyX5_ok nmX5 hown hK hP hD hS 0 rfl rfl 6 (by decide) (hts (.fieldLink RX5 43 "PorridgeSea$Reader" "word" "I") (List.mem_of_getElem? (i := 5) rfl)) (fun _ h9 => h9) rfl (by decide +kernel) rfl rfl (Nat.le_of_ble_eq_true rfl) dX5_advance_62 (fun H locs hP hD hS => ?_)
  have hP : va_P (dC, dI) vwCl [(reader, .inr (5, [.ref tape, .int (nI 0), .int (nI 200), .int (nI 0), .int (nI 0), .int (nI 0), .int (-1 : Int32), .int (nI 0), .long 0, .int (nI 0), .int (nI 0)]))] H := hP
  have hD : va_D A [(reader, .inr (5, [.ref tape, .int (nI 0), .int (nI 200), .int (nI 0), .int (nI 0), .int (nI 0), .int (-1 : Int32), .int (nI 0), .long 0, .int (nI 0), .int (nI 0)]))] := hD
  refine lv_aload_n hx hb dX5_advance_65 rfl (lv_at hl 0 rfl) ?_
  refine va_get (D := (dC, dI)) (ci := 5) (v := .int (nI 0)) (C := RX5) (T := TX5) (N := 11) hx hb hts hin5 hown hK hP 0 rfl rfl 1 (by decide) (hts (.fieldLink RX5 21 "PorridgeSea$Reader" "length" "I") (List.mem_of_getElem? (i := 2) rfl)) (fun _ h9 => h9) rfl dX5_advance_66 ?_
  refine lv_aload_n hx hb dX5_advance_69 rfl (lv_at hl 0 rfl) ?_
  refine va_get (D := (dC, dI)) (ci := 5) (v := .int (nI 200)) (C := RX5) (T := TX5) (N := 11) hx hb hts hin5 hown hK hP 0 rfl rfl 2 (by decide) (hts (.fieldLink RX5 25 "PorridgeSea$Reader" "mostBytes" "I") (List.mem_of_getElem? (i := 6) rfl)) (fun _ h9 => h9) rfl dX5_advance_70 ?_
  refine lv_icmp_le (tgt := 103) hx hb dX5_advance_73 (by decide) (fun c2 => ?_) (fun c2 => absurd (by decide) c2)
  refine lv_aload_n hx hb dX5_advance_103 rfl (lv_at hl 0 rfl) ?_
  refine va_get (D := (dC, dI)) (ci := 5) (v := .int (nI 0)) (C := RX5) (T := TX5) (N := 11) hx hb hts hin5 hown hK hP 0 rfl rfl 3 (by decide) (hts (.fieldLink RX5 28 "PorridgeSea$Reader" "place" "I") (List.mem_of_getElem? (i := 1) rfl)) (fun _ h9 => h9) rfl dX5_advance_104 ?_
  refine lv_aload_n hx hb dX5_advance_107 rfl (lv_at hl 0 rfl) ?_
  refine va_get (D := (dC, dI)) (ci := 5) (v := .int (nI 0)) (C := RX5) (T := TX5) (N := 11) hx hb hts hin5 hown hK hP 0 rfl rfl 1 (by decide) (hts (.fieldLink RX5 21 "PorridgeSea$Reader" "length" "I") (List.mem_of_getElem? (i := 2) rfl)) (fun _ h9 => h9) rfl dX5_advance_108 ?_
  refine lv_icmp_lt (tgt := 122) hx hb dX5_advance_111 (by decide) (fun c3 => absurd c3 (by decide)) (fun c3 => ?_)
  refine lv_aload_n hx hb dX5_advance_114 rfl (lv_at hl 0 rfl) ?_
  refine lv_iconst (v := nI 0) hx hb dX5_advance_115 (by decide) ?_
  refine va_put (D := (dC, dI)) (ci := 5) (v := .int (nI 0)) (ty := .int) (C := RX5) (T := TX5) (N := 11) hx hb hts hin5 tyX5 tyX5_ok nmX5 hown hK hP hD hS 0 rfl rfl 4 (by decide) (hts (.fieldLink RX5 46 "PorridgeSea$Reader" "kind" "I") (List.mem_of_getElem? (i := 7) rfl)) (fun _ h9 => h9) rfl (by decide +kernel) rfl rfl (Nat.le_of_ble_eq_true rfl) dX5_advance_116 (fun H locs hP hD hS => ?_)
  have hP : va_P (dC, dI) vwCl [(reader, .inr (5, [.ref tape, .int (nI 0), .int (nI 200), .int (nI 0), .int (nI 0), .int (nI 0), .int (-1 : Int32), .int (nI 0), .long 0, .int (nI 0), .int (nI 0)]))] H := hP
  have hD : va_D A [(reader, .inr (5, [.ref tape, .int (nI 0), .int (nI 200), .int (nI 0), .int (nI 0), .int (nI 0), .int (-1 : Int32), .int (nI 0), .long 0, .int (nI 0), .int (nI 0)]))] := hD
  refine lv_goto (tgt := 163) hx hb dX5_advance_119 (by decide) ?_
  refine lv_aload_n hx hb dX5_advance_163 rfl (lv_at hl 0 rfl) ?_
  refine va_get (D := (dC, dI)) (ci := 5) (v := .int (nI 0)) (C := RX5) (T := TX5) (N := 11) hx hb hts hin5 hown hK hP 0 rfl rfl 4 (by decide) (hts (.fieldLink RX5 46 "PorridgeSea$Reader" "kind" "I") (List.mem_of_getElem? (i := 7) rfl)) (fun _ h9 => h9) rfl dX5_advance_164 ?_
  refine lv_iconst (v := nI 2) hx hb dX5_advance_167 (by decide) ?_
  refine lv_icmp_ne (tgt := 238) hx hb dX5_advance_168 (by decide) (fun c4 => ?_) (fun c4 => absurd c4 (by decide))
  have hP9 := hP.sub (ws' := [(reader, .inr (5, [.ref tape, .int (nI 0), .int (nI 200), .int (nI 0), .int (nI 0), .int (nI 0), .int (-1 : Int32), .int (nI 0), .long 0, .int (nI 0), .int (nI 0)]))]) [0] rfl
  have hD9 := hD.sub (ws' := [(reader, .inr (5, [.ref tape, .int (nI 0), .int (nI 200), .int (nI 0), .int (nI 0), .int (nI 0), .int (-1 : Int32), .int (nI 0), .long 0, .int (nI 0), .int (nI 0)]))]) [0] (by decide) rfl
  refine W.widen (k := 0) (n := 0) (Nat.le_of_ble_eq_true rfl) (Nat.le_of_ble_eq_true rfl) ?_
  exact W.vret hx hb hr (fun t ht9 hW9 => ⟨⟨(), rfl, trivial, by rw [ht9]; exact hP9, va_K.moved hW9.alike hK, hD9⟩, hS.F ht9⟩) hS.2.2 dX5_advance_238
set_option maxHeartbeats 4000000 in
set_option maxRecDepth 100000 in
theorem c_open200 (l : Launch) (dC : Nat → ClassId) (dI : Nat → Nat → Nat) (ky : Nat → ClassId) (sz : Nat) (reader : Nat) (tape : Nat)  : Met l yX5_open wsX5_open ({ frames := 1, cells := 0, slots := 0, locals := 20 }) (PcU dC dI ky [.ref reader, .int (nI 0), .int (nI 200)] [(reader, .inr (5, [.ref tape, .int (nI 0), .int (nI 0), .int (nI 0), .int (nI 0), .int (nI 0), .int (nI 0), .int (nI 0), .long 0, .int (nI 0), .int (nI 0)]))] sz) (va_Qv (fun (_ : Unit) => True) (BU dC dI ky (fun (_ : Unit) => [(reader, .inr (5, [.ref tape, .int (nI 0), .int (nI 200), .int (nI 0), .int (nI 0), .int (nI 0), .int (-1 : Int32), .int (nI 0), .long 0, .int (nI 0), .int (nI 0)]))]) (va_A [(reader, .inr (5, [.ref tape, .int (nI 0), .int (nI 0), .int (nI 0), .int (nI 0), .int (nI 0), .int (nI 0), .int (nI 0), .long 0, .int (nI 0), .int (nI 0)]))] sz)) (va_A [(reader, .inr (5, [.ref tape, .int (nI 0), .int (nI 0), .int (nI 0), .int (nI 0), .int (nI 0), .int (nI 0), .int (nI 0), .long 0, .int (nI 0), .int (nI 0)]))] sz)) 0 0 (va_A [(reader, .inr (5, [.ref tape, .int (nI 0), .int (nI 0), .int (nI 0), .int (nI 0), .int (nI 0), .int (nI 0), .int (nI 0), .long 0, .int (nI 0), .int (nI 0)]))] sz) := by
  refine Met.ofW (cc := cX5_open) (maxL := 3) (ret := none) (by decide) rfl ?_
  intro p e s m args below meth c s₁ B hml hv
  obtain ⟨rfl, hsz, hP, hK, hD0⟩ := hv
  have hx := B.exec
  have hb := B.bytes
  have hr := B.returns
  have hts := atoms_spec (ws := wsX5_open) B.pre
  have hown : s.vm.findClass RX5 = some m.cls := findClass_of_methodNamed B.named
  have hlocks := B.notSynchronized
  have hin5 : ∀ w ∈ u_ws RX5 TX5 11, w ∈ wsX5_open := by decide +kernel
  subst hsz
  have hD := hD0.self (sz := s.heap.size)
  generalize hAe : va_A [(reader, .inr (5, [.ref tape, .int (nI 0), .int (nI 0), .int (nI 0), .int (nI 0), .int (nI 0), .int (nI 0), .int (nI 0), .long 0, .int (nI 0), .int (nI 0)]))] s.heap.size = A at hD ⊢
  have hA : ∀ q : Nat, s.heap.size ≤ q → A q := fun q h => by rw [← hAe]; exact Or.inr h
  have hS : va_S A s.heap s.heap [] := va_S.rf
  have hP : va_P (dC, dI) vwCl [(reader, .inr (5, [.ref tape, .int (nI 0), .int (nI 0), .int (nI 0), .int (nI 0), .int (nI 0), .int (nI 0), .int (nI 0), .long 0, .int (nI 0), .int (nI 0)]))] s.heap := hP
  have hl := lv_entry ([.ref reader, .int (nI 0), .int (nI 200)]) (n := 3) (Nat.le_of_ble_eq_true rfl)
  rw [lg_entry_eq]
  generalize (lg_sl ([.ref reader, .int (nI 0), .int (nI 200)]) ++ List.replicate (3 - (lg_sl ([.ref reader, .int (nI 0), .int (nI 200)])).length) Slot.unset).toArray = ls at hl ⊢
  have hl : lv_has ls 3 [(0, .ref reader), (1, .int (nI 0)), (2, .int (nI 200))] := hl
  have hH0 : True := trivial
  refine lv_aload_n hx hb dX5_open_0 rfl (lv_at hl 0 rfl) ?_
  refine lv_iload_n hx hb dX5_open_1 rfl (lv_at hl 1 rfl) ?_
  refine lv_sipush (v := nI 940) hx hb dX5_open_2 (by decide) ?_
  refine va_mmin hx hb (by rw [hml]; exact hl.1.symm) hown (hts _ (List.mem_of_getElem? (i := 1) rfl)) (hts _ (List.mem_of_getElem? (i := 2) rfl)) (hts _ (List.mem_of_getElem? (i := 3) rfl)) (hts _ (List.mem_of_getElem? (i := 4) rfl)) (Nat.le_of_ble_eq_true rfl) (Nat.le_of_ble_eq_true rfl) (Nat.le_of_ble_eq_true rfl) (Nat.le_of_ble_eq_true rfl) dX5_open_5 ?_
  refine r_ti (nI 0) (by decide) ?_
  refine va_put (D := (dC, dI)) (ci := 5) (v := .int (nI 0)) (ty := .int) (C := RX5) (T := TX5) (N := 11) hx hb hts hin5 tyX5 tyX5_ok nmX5 hown hK hP hD hS 0 rfl rfl 1 (by decide) (hts (.fieldLink RX5 21 "PorridgeSea$Reader" "length" "I") (List.mem_of_getElem? (i := 5) rfl)) (fun _ h9 => h9) rfl (by decide +kernel) rfl rfl (Nat.le_of_ble_eq_true rfl) dX5_open_8 (fun H locs hP hD hS => ?_)
  have hP : va_P (dC, dI) vwCl [(reader, .inr (5, [.ref tape, .int (nI 0), .int (nI 0), .int (nI 0), .int (nI 0), .int (nI 0), .int (nI 0), .int (nI 0), .long 0, .int (nI 0), .int (nI 0)]))] H := hP
  have hD : va_D A [(reader, .inr (5, [.ref tape, .int (nI 0), .int (nI 0), .int (nI 0), .int (nI 0), .int (nI 0), .int (nI 0), .int (nI 0), .long 0, .int (nI 0), .int (nI 0)]))] := hD
  refine lv_aload_n hx hb dX5_open_11 rfl (lv_at hl 0 rfl) ?_
  refine lv_iload_n hx hb dX5_open_12 rfl (lv_at hl 2 rfl) ?_
  refine va_put (D := (dC, dI)) (ci := 5) (v := .int (nI 200)) (ty := .int) (C := RX5) (T := TX5) (N := 11) hx hb hts hin5 tyX5 tyX5_ok nmX5 hown hK hP hD hS 0 rfl rfl 2 (by decide) (hts (.fieldLink RX5 25 "PorridgeSea$Reader" "mostBytes" "I") (List.mem_of_getElem? (i := 6) rfl)) (fun _ h9 => h9) rfl (by decide +kernel) rfl rfl (Nat.le_of_ble_eq_true rfl) dX5_open_13 (fun H locs hP hD hS => ?_)
  have hP : va_P (dC, dI) vwCl [(reader, .inr (5, [.ref tape, .int (nI 0), .int (nI 200), .int (nI 0), .int (nI 0), .int (nI 0), .int (nI 0), .int (nI 0), .long 0, .int (nI 0), .int (nI 0)]))] H := hP
  have hD : va_D A [(reader, .inr (5, [.ref tape, .int (nI 0), .int (nI 200), .int (nI 0), .int (nI 0), .int (nI 0), .int (nI 0), .int (nI 0), .long 0, .int (nI 0), .int (nI 0)]))] := hD
  refine lv_aload_n hx hb dX5_open_16 rfl (lv_at hl 0 rfl) ?_
  refine lv_iconst (v := nI 0) hx hb dX5_open_17 (by decide) ?_
  refine va_put (D := (dC, dI)) (ci := 5) (v := .int (nI 0)) (ty := .int) (C := RX5) (T := TX5) (N := 11) hx hb hts hin5 tyX5 tyX5_ok nmX5 hown hK hP hD hS 0 rfl rfl 3 (by decide) (hts (.fieldLink RX5 28 "PorridgeSea$Reader" "place" "I") (List.mem_of_getElem? (i := 7) rfl)) (fun _ h9 => h9) rfl (by decide +kernel) rfl rfl (Nat.le_of_ble_eq_true rfl) dX5_open_18 (fun H locs hP hD hS => ?_)
  have hP : va_P (dC, dI) vwCl [(reader, .inr (5, [.ref tape, .int (nI 0), .int (nI 200), .int (nI 0), .int (nI 0), .int (nI 0), .int (nI 0), .int (nI 0), .long 0, .int (nI 0), .int (nI 0)]))] H := hP
  have hD : va_D A [(reader, .inr (5, [.ref tape, .int (nI 0), .int (nI 200), .int (nI 0), .int (nI 0), .int (nI 0), .int (nI 0), .int (nI 0), .long 0, .int (nI 0), .int (nI 0)]))] := hD
  refine lv_aload_n hx hb dX5_open_21 rfl (lv_at hl 0 rfl) ?_
  refine lv_iconst (v := nI 0) hx hb dX5_open_22 (by decide) ?_
  refine va_put (D := (dC, dI)) (ci := 5) (v := .int (nI 0)) (ty := .int) (C := RX5) (T := TX5) (N := 11) hx hb hts hin5 tyX5 tyX5_ok nmX5 hown hK hP hD hS 0 rfl rfl 9 (by decide) (hts (.fieldLink RX5 31 "PorridgeSea$Reader" "faultKind" "I") (List.mem_of_getElem? (i := 8) rfl)) (fun _ h9 => h9) rfl (by decide +kernel) rfl rfl (Nat.le_of_ble_eq_true rfl) dX5_open_23 (fun H locs hP hD hS => ?_)
  have hP : va_P (dC, dI) vwCl [(reader, .inr (5, [.ref tape, .int (nI 0), .int (nI 200), .int (nI 0), .int (nI 0), .int (nI 0), .int (nI 0), .int (nI 0), .long 0, .int (nI 0), .int (nI 0)]))] H := hP
  have hD : va_D A [(reader, .inr (5, [.ref tape, .int (nI 0), .int (nI 200), .int (nI 0), .int (nI 0), .int (nI 0), .int (nI 0), .int (nI 0), .long 0, .int (nI 0), .int (nI 0)]))] := hD
  refine lv_aload_n hx hb dX5_open_26 rfl (lv_at hl 0 rfl) ?_
  refine lv_iconst (v := nI 0) hx hb dX5_open_27 (by decide) ?_
  refine va_put (D := (dC, dI)) (ci := 5) (v := .int (nI 0)) (ty := .int) (C := RX5) (T := TX5) (N := 11) hx hb hts hin5 tyX5 tyX5_ok nmX5 hown hK hP hD hS 0 rfl rfl 10 (by decide) (hts (.fieldLink RX5 34 "PorridgeSea$Reader" "faultPlace" "I") (List.mem_of_getElem? (i := 9) rfl)) (fun _ h9 => h9) rfl (by decide +kernel) rfl rfl (Nat.le_of_ble_eq_true rfl) dX5_open_28 (fun H locs hP hD hS => ?_)
  have hP : va_P (dC, dI) vwCl [(reader, .inr (5, [.ref tape, .int (nI 0), .int (nI 200), .int (nI 0), .int (nI 0), .int (nI 0), .int (nI 0), .int (nI 0), .long 0, .int (nI 0), .int (nI 0)]))] H := hP
  have hD : va_D A [(reader, .inr (5, [.ref tape, .int (nI 0), .int (nI 200), .int (nI 0), .int (nI 0), .int (nI 0), .int (nI 0), .int (nI 0), .long 0, .int (nI 0), .int (nI 0)]))] := hD
  refine lv_aload_n hx hb dX5_open_31 rfl (lv_at hl 0 rfl) ?_
  refine r_call_v (wr := []) (va_runV (As := []) (rest := []) ⟨hx, hb, hml, hown, hts⟩ (c_advance200 l dC dI ky H.size reader tape) (cwV 0 hts gX5_open_X5_advance rfl rfl rfl (by decide +kernel) ⟨(Nat.le_of_ble_eq_true rfl), (Nat.le_of_ble_eq_true rfl)⟩) (pre_UV hK hP hD [0] (by decide) rfl (ci := 5) (q0 := 0) rfl rfl) rfl rfl hl.1 rfl (lv_room (Nat.le_of_ble_eq_true rfl)) dX5_open_32 ⟨(Nat.le_of_ble_eq_true rfl), (Nat.le_of_ble_eq_true rfl)⟩) hP hD hS hA [0] [] rfl rfl (by decide) (by decide) (fun  u1 H locs p2 hP hD hS => ?_)
  refine W.widen (k := 0) (n := 0) (Nat.le_of_ble_eq_true rfl) (Nat.le_of_ble_eq_true rfl) ?_
  have hP : va_P (dC, dI) vwCl [(reader, .inr (5, [.ref tape, .int (nI 0), .int (nI 200), .int (nI 0), .int (nI 0), .int (nI 0), .int (-1 : Int32), .int (nI 0), .long 0, .int (nI 0), .int (nI 0)]))] H := hP
  have hD : va_D A [(reader, .inr (5, [.ref tape, .int (nI 0), .int (nI 200), .int (nI 0), .int (nI 0), .int (nI 0), .int (-1 : Int32), .int (nI 0), .long 0, .int (nI 0), .int (nI 0)]))] := hD
  have hP9 := hP.sub (ws' := [(reader, .inr (5, [.ref tape, .int (nI 0), .int (nI 200), .int (nI 0), .int (nI 0), .int (nI 0), .int (-1 : Int32), .int (nI 0), .long 0, .int (nI 0), .int (nI 0)]))]) [0] rfl
  have hD9 := hD.sub (ws' := [(reader, .inr (5, [.ref tape, .int (nI 0), .int (nI 200), .int (nI 0), .int (nI 0), .int (nI 0), .int (-1 : Int32), .int (nI 0), .long 0, .int (nI 0), .int (nI 0)]))]) [0] (by decide) rfl
  refine W.widen (k := 0) (n := 0) (Nat.le_of_ble_eq_true rfl) (Nat.le_of_ble_eq_true rfl) ?_
  exact W.vret hx hb hr (fun t ht9 hW9 => ⟨⟨(), rfl, trivial, by rw [ht9]; exact hP9, va_K.moved hW9.alike hK, hD9⟩, hS.F ht9⟩) hS.2.2 dX5_open_35
set_option maxHeartbeats 4000000 in
set_option maxRecDepth 100000 in
theorem c_nextWord (l : Launch) (dC : Nat → ClassId) (dI : Nat → Nat → Nat) (ky : Nat → ClassId) (reader : Nat) (rtape : Nat) (rlength : Int32) (rmostBytes : Int32) (rplace : Int32) (rkind : Int32) (rbegin : Int32) (rnumber : Int32) (rletters : Int64) (rfaultKind : Int32) (rfaultPlace : Int32)  : Met l yX5_nextWord wsX5_nextWord ({ frames := 0, cells := 0, slots := 0, locals := 0 }) (PcP dC dI ky [.ref reader] [(reader, .inr (5, [.ref rtape, .int rlength, .int rmostBytes, .int rplace, .int rkind, .int rbegin, .int (-1 : Int32), .int rnumber, .long rletters, .int rfaultKind, .int rfaultPlace]))]) (vp_Si (fun r : Int32 => r = (-1 : Int32))) 0 0 (fun _ => False) := by
  refine Met.ofW (cc := cX5_nextWord) (maxL := 1) (ret := (some .int)) (by decide) rfl ?_
  intro p e s m args below meth c s₁ B hml hv
  obtain ⟨rfl, hP, hK⟩ := hv
  have hx := B.exec
  have hb := B.bytes
  have hr := B.returns
  have hts := atoms_spec (ws := wsX5_nextWord) B.pre
  have hown : s.vm.findClass RX5 = some m.cls := findClass_of_methodNamed B.named
  have hlocks := B.notSynchronized
  have hin5 : ∀ w ∈ u_ws RX5 TX5 11, w ∈ wsX5_nextWord := by decide +kernel
  have hl := lv_entry ([.ref reader]) (n := 1) (Nat.le_of_ble_eq_true rfl)
  rw [lg_entry_eq]
  generalize (lg_sl ([.ref reader]) ++ List.replicate (1 - (lg_sl ([.ref reader])).length) Slot.unset).toArray = ls at hl ⊢
  have hl : lv_has ls 1 [(0, .ref reader)] := hl
  refine lv_aload_n hx hb dX5_nextWord_0 rfl (lv_at hl 0 rfl) ?_
  refine va_get (D := (dC, dI)) (ci := 5) (v := .int (-1 : Int32)) (C := RX5) (T := TX5) (N := 11) hx hb hts hin5 hown hK hP 0 rfl rfl 6 (by decide) (hts (.fieldLink RX5 43 "PorridgeSea$Reader" "word" "I") (List.mem_of_getElem? (i := 1) rfl)) (fun _ h9 => h9) rfl dX5_nextWord_1 ?_
  exact W.iret (v := (-1 : Int32)) hx hb hr (fun t ht9 hW9 => ⟨(-1 : Int32), rfl, rfl, ht9⟩) (fun _ h => absurd h List.not_mem_nil) dX5_nextWord_4
set_option maxHeartbeats 4000000 in
set_option maxRecDepth 100000 in
theorem c_refuseAt (l : Launch) (dC : Nat → ClassId) (dI : Nat → Nat → Nat) (ky : Nat → ClassId) (sz : Nat) (reader : Nat) (rtape : Nat) (rlength : Int32) (rmostBytes : Int32) (rplace : Int32) (rkind : Int32) (rbegin : Int32) (rword : Int32) (rnumber : Int32) (rletters : Int64) (rfaultKind : Int32) (rfaultPlace : Int32)  : Met l yX5_refuseAt wsX5_refuseAt ({ frames := 0, cells := 0, slots := 0, locals := 0 }) (PcU dC dI ky [.ref reader, .int (nI 1), .int (nI 0)] [(reader, .inr (5, [.ref rtape, .int rlength, .int rmostBytes, .int rplace, .int rkind, .int rbegin, .int rword, .int rnumber, .long rletters, .int rfaultKind, .int rfaultPlace]))] sz) (va_Qi (fun (r : Int32) (_ : Unit) => r = nI 0) (BU dC dI ky (fun (_ : Unit) => [(reader, .inr (5, [.ref rtape, .int rlength, .int rmostBytes, .int rplace, .int rkind, .int rbegin, .int rword, .int rnumber, .long rletters, .int (nI 1), .int (nI 0)]))]) (va_A [(reader, .inr (5, [.ref rtape, .int rlength, .int rmostBytes, .int rplace, .int rkind, .int rbegin, .int rword, .int rnumber, .long rletters, .int rfaultKind, .int rfaultPlace]))] sz)) (va_A [(reader, .inr (5, [.ref rtape, .int rlength, .int rmostBytes, .int rplace, .int rkind, .int rbegin, .int rword, .int rnumber, .long rletters, .int rfaultKind, .int rfaultPlace]))] sz)) 0 0 (va_A [(reader, .inr (5, [.ref rtape, .int rlength, .int rmostBytes, .int rplace, .int rkind, .int rbegin, .int rword, .int rnumber, .long rletters, .int rfaultKind, .int rfaultPlace]))] sz) := by
  refine Met.ofW (cc := cX5_refuseAt) (maxL := 3) (ret := (some .boolean)) (by decide) rfl ?_
  intro p e s m args below meth c s₁ B hml hv
  obtain ⟨rfl, hsz, hP, hK, hD0⟩ := hv
  have hx := B.exec
  have hb := B.bytes
  have hr := B.returns
  have hts := atoms_spec (ws := wsX5_refuseAt) B.pre
  have hown : s.vm.findClass RX5 = some m.cls := findClass_of_methodNamed B.named
  have hlocks := B.notSynchronized
  have hin5 : ∀ w ∈ u_ws RX5 TX5 11, w ∈ wsX5_refuseAt := by decide +kernel
  subst hsz
  have hD := hD0.self (sz := s.heap.size)
  generalize hAe : va_A [(reader, .inr (5, [.ref rtape, .int rlength, .int rmostBytes, .int rplace, .int rkind, .int rbegin, .int rword, .int rnumber, .long rletters, .int rfaultKind, .int rfaultPlace]))] s.heap.size = A at hD ⊢
  have hA : ∀ q : Nat, s.heap.size ≤ q → A q := fun q h => by rw [← hAe]; exact Or.inr h
  have hS : va_S A s.heap s.heap [] := va_S.rf
  have hP : va_P (dC, dI) vwCl [(reader, .inr (5, [.ref rtape, .int rlength, .int rmostBytes, .int rplace, .int rkind, .int rbegin, .int rword, .int rnumber, .long rletters, .int rfaultKind, .int rfaultPlace]))] s.heap := hP
  have hl := lv_entry ([.ref reader, .int (nI 1), .int (nI 0)]) (n := 3) (Nat.le_of_ble_eq_true rfl)
  rw [lg_entry_eq]
  generalize (lg_sl ([.ref reader, .int (nI 1), .int (nI 0)]) ++ List.replicate (3 - (lg_sl ([.ref reader, .int (nI 1), .int (nI 0)])).length) Slot.unset).toArray = ls at hl ⊢
  have hl : lv_has ls 3 [(0, .ref reader), (1, .int (nI 1)), (2, .int (nI 0))] := hl
  have hH0 : True := trivial
  refine lv_aload_n hx hb dX5_refuseAt_0 rfl (lv_at hl 0 rfl) ?_
  refine lv_iload_n hx hb dX5_refuseAt_1 rfl (lv_at hl 1 rfl) ?_
  refine va_put (D := (dC, dI)) (ci := 5) (v := .int (nI 1)) (ty := .int) (C := RX5) (T := TX5) (N := 11) hx hb hts hin5 tyX5 tyX5_ok nmX5 hown hK hP hD hS 0 rfl rfl 9 (by decide) (hts (.fieldLink RX5 31 "PorridgeSea$Reader" "faultKind" "I") (List.mem_of_getElem? (i := 1) rfl)) (fun _ h9 => h9) rfl (by decide +kernel) rfl rfl (Nat.le_of_ble_eq_true rfl) dX5_refuseAt_2 (fun H locs hP hD hS => ?_)
  have hP : va_P (dC, dI) vwCl [(reader, .inr (5, [.ref rtape, .int rlength, .int rmostBytes, .int rplace, .int rkind, .int rbegin, .int rword, .int rnumber, .long rletters, .int (nI 1), .int rfaultPlace]))] H := hP
  have hD : va_D A [(reader, .inr (5, [.ref rtape, .int rlength, .int rmostBytes, .int rplace, .int rkind, .int rbegin, .int rword, .int rnumber, .long rletters, .int (nI 1), .int rfaultPlace]))] := hD
  refine lv_aload_n hx hb dX5_refuseAt_5 rfl (lv_at hl 0 rfl) ?_
  refine lv_iload_n hx hb dX5_refuseAt_6 rfl (lv_at hl 2 rfl) ?_
  refine va_put (D := (dC, dI)) (ci := 5) (v := .int (nI 0)) (ty := .int) (C := RX5) (T := TX5) (N := 11) hx hb hts hin5 tyX5 tyX5_ok nmX5 hown hK hP hD hS 0 rfl rfl 10 (by decide) (hts (.fieldLink RX5 34 "PorridgeSea$Reader" "faultPlace" "I") (List.mem_of_getElem? (i := 2) rfl)) (fun _ h9 => h9) rfl (by decide +kernel) rfl rfl (Nat.le_of_ble_eq_true rfl) dX5_refuseAt_7 (fun H locs hP hD hS => ?_)
  have hP : va_P (dC, dI) vwCl [(reader, .inr (5, [.ref rtape, .int rlength, .int rmostBytes, .int rplace, .int rkind, .int rbegin, .int rword, .int rnumber, .long rletters, .int (nI 1), .int (nI 0)]))] H := hP
  have hD : va_D A [(reader, .inr (5, [.ref rtape, .int rlength, .int rmostBytes, .int rplace, .int rkind, .int rbegin, .int rword, .int rnumber, .long rletters, .int (nI 1), .int (nI 0)]))] := hD
  refine lv_iconst (v := nI 0) hx hb dX5_refuseAt_10 (by decide) ?_
  have hP9 := hP.sub (ws' := [(reader, .inr (5, [.ref rtape, .int rlength, .int rmostBytes, .int rplace, .int rkind, .int rbegin, .int rword, .int rnumber, .long rletters, .int (nI 1), .int (nI 0)]))]) [0] rfl
  have hD9 := hD.sub (ws' := [(reader, .inr (5, [.ref rtape, .int rlength, .int rmostBytes, .int rplace, .int rkind, .int rbegin, .int rword, .int rnumber, .long rletters, .int (nI 1), .int (nI 0)]))]) [0] (by decide) rfl
  refine W.widen (k := 0) (n := 0) (Nat.le_of_ble_eq_true rfl) (Nat.le_of_ble_eq_true rfl) ?_
  exact W.zret (v := nI 0) hx hb hr (by decide) (fun t ht9 hW9 => ⟨⟨nI 0, (), rfl, rfl, by rw [ht9]; exact hP9, va_K.moved hW9.alike hK, hD9⟩, hS.F ht9⟩) hS.2.2 dX5_refuseAt_11
set_option maxHeartbeats 4000000 in
set_option maxRecDepth 100000 in
theorem c_refuse1 (l : Launch) (dC : Nat → ClassId) (dI : Nat → Nat → Nat) (ky : Nat → ClassId) (sz : Nat) (reader : Nat) (rtape : Nat) (rlength : Int32) (rmostBytes : Int32) (rplace : Int32) (rkind : Int32) (rword : Int32) (rnumber : Int32) (rletters : Int64) (rfaultKind : Int32) (rfaultPlace : Int32)  : Met l yX5_refuse wsX5_refuse ({ frames := 1, cells := 0, slots := 0, locals := 22 }) (PcU dC dI ky [.ref reader, .int (nI 1)] [(reader, .inr (5, [.ref rtape, .int rlength, .int rmostBytes, .int rplace, .int rkind, .int (nI 0), .int rword, .int rnumber, .long rletters, .int rfaultKind, .int rfaultPlace]))] sz) (va_Qi (fun (r : Int32) (_ : Unit) => r = nI 0) (BU dC dI ky (fun (_ : Unit) => [(reader, .inr (5, [.ref rtape, .int rlength, .int rmostBytes, .int rplace, .int rkind, .int (nI 0), .int rword, .int rnumber, .long rletters, .int (nI 1), .int (nI 0)]))]) (va_A [(reader, .inr (5, [.ref rtape, .int rlength, .int rmostBytes, .int rplace, .int rkind, .int (nI 0), .int rword, .int rnumber, .long rletters, .int rfaultKind, .int rfaultPlace]))] sz)) (va_A [(reader, .inr (5, [.ref rtape, .int rlength, .int rmostBytes, .int rplace, .int rkind, .int (nI 0), .int rword, .int rnumber, .long rletters, .int rfaultKind, .int rfaultPlace]))] sz)) 0 0 (va_A [(reader, .inr (5, [.ref rtape, .int rlength, .int rmostBytes, .int rplace, .int rkind, .int (nI 0), .int rword, .int rnumber, .long rletters, .int rfaultKind, .int rfaultPlace]))] sz) := by
  refine Met.ofW (cc := cX5_refuse) (maxL := 2) (ret := (some .boolean)) (by decide) rfl ?_
  intro p e s m args below meth c s₁ B hml hv
  obtain ⟨rfl, hsz, hP, hK, hD0⟩ := hv
  have hx := B.exec
  have hb := B.bytes
  have hr := B.returns
  have hts := atoms_spec (ws := wsX5_refuse) B.pre
  have hown : s.vm.findClass RX5 = some m.cls := findClass_of_methodNamed B.named
  have hlocks := B.notSynchronized
  have hin5 : ∀ w ∈ u_ws RX5 TX5 11, w ∈ wsX5_refuse := by decide +kernel
  subst hsz
  have hD := hD0.self (sz := s.heap.size)
  generalize hAe : va_A [(reader, .inr (5, [.ref rtape, .int rlength, .int rmostBytes, .int rplace, .int rkind, .int (nI 0), .int rword, .int rnumber, .long rletters, .int rfaultKind, .int rfaultPlace]))] s.heap.size = A at hD ⊢
  have hA : ∀ q : Nat, s.heap.size ≤ q → A q := fun q h => by rw [← hAe]; exact Or.inr h
  have hS : va_S A s.heap s.heap [] := va_S.rf
  have hP : va_P (dC, dI) vwCl [(reader, .inr (5, [.ref rtape, .int rlength, .int rmostBytes, .int rplace, .int rkind, .int (nI 0), .int rword, .int rnumber, .long rletters, .int rfaultKind, .int rfaultPlace]))] s.heap := hP
  have hl := lv_entry ([.ref reader, .int (nI 1)]) (n := 2) (Nat.le_of_ble_eq_true rfl)
  rw [lg_entry_eq]
  generalize (lg_sl ([.ref reader, .int (nI 1)]) ++ List.replicate (2 - (lg_sl ([.ref reader, .int (nI 1)])).length) Slot.unset).toArray = ls at hl ⊢
  have hl : lv_has ls 2 [(0, .ref reader), (1, .int (nI 1))] := hl
  have hH0 : True := trivial
  refine lv_aload_n hx hb dX5_refuse_0 rfl (lv_at hl 0 rfl) ?_
  refine lv_iload_n hx hb dX5_refuse_1 rfl (lv_at hl 1 rfl) ?_
  refine lv_aload_n hx hb dX5_refuse_2 rfl (lv_at hl 0 rfl) ?_
  refine va_get (D := (dC, dI)) (ci := 5) (v := .int (nI 0)) (C := RX5) (T := TX5) (N := 11) hx hb hts hin5 hown hK hP 0 rfl rfl 5 (by decide) (hts (.fieldLink RX5 40 "PorridgeSea$Reader" "begin" "I") (List.mem_of_getElem? (i := 1) rfl)) (fun _ h9 => h9) rfl dX5_refuse_3 ?_
  refine r_call_i (wr := []) (va_runV (As := [.int (nI 1), .int (nI 0)]) (rest := []) ⟨hx, hb, hml, hown, hts⟩ (c_refuseAt l dC dI ky s.heap.size reader rtape rlength rmostBytes rplace rkind (nI 0) rword rnumber rletters rfaultKind rfaultPlace) (cwV 2 hts gX5_refuse_X5_refuseAt rfl rfl rfl (by decide +kernel) ⟨(Nat.le_of_ble_eq_true rfl), (Nat.le_of_ble_eq_true rfl)⟩) (pre_UV hK hP hD [0] (by decide) rfl (ci := 5) (q0 := 0) rfl rfl) rfl rfl hl.1 rfl (lv_room (Nat.le_of_ble_eq_true rfl)) dX5_refuse_6 ⟨(Nat.le_of_ble_eq_true rfl), (Nat.le_of_ble_eq_true rfl)⟩) hP hD hS hA [0] [] rfl rfl (by decide) (by decide) (fun r3 u1 H locs p2 hP hD hS => ?_)
  try dsimp only at p2
  have p4 := p2
  refine W.widen (k := 0) (n := 0) (Nat.le_of_ble_eq_true rfl) (Nat.le_of_ble_eq_true rfl) ?_
  have hP : va_P (dC, dI) vwCl [(reader, .inr (5, [.ref rtape, .int rlength, .int rmostBytes, .int rplace, .int rkind, .int (nI 0), .int rword, .int rnumber, .long rletters, .int (nI 1), .int (nI 0)]))] H := hP
  have hD : va_D A [(reader, .inr (5, [.ref rtape, .int rlength, .int rmostBytes, .int rplace, .int rkind, .int (nI 0), .int rword, .int rnumber, .long rletters, .int (nI 1), .int (nI 0)]))] := hD
  subst p4
  have hP9 := hP.sub (ws' := [(reader, .inr (5, [.ref rtape, .int rlength, .int rmostBytes, .int rplace, .int rkind, .int (nI 0), .int rword, .int rnumber, .long rletters, .int (nI 1), .int (nI 0)]))]) [0] rfl
  have hD9 := hD.sub (ws' := [(reader, .inr (5, [.ref rtape, .int rlength, .int rmostBytes, .int rplace, .int rkind, .int (nI 0), .int rword, .int rnumber, .long rletters, .int (nI 1), .int (nI 0)]))]) [0] (by decide) rfl
  refine W.widen (k := 0) (n := 0) (Nat.le_of_ble_eq_true rfl) (Nat.le_of_ble_eq_true rfl) ?_
  exact W.zret (v := nI 0) hx hb hr (by decide) (fun t ht9 hW9 => ⟨⟨nI 0, (), rfl, rfl, by rw [ht9]; exact hP9, va_K.moved hW9.alike hK, hD9⟩, hS.F ht9⟩) hS.2.2 dX5_refuse_9
set_option maxHeartbeats 4000000 in
set_option maxRecDepth 100000 in
theorem c_SeaText_init (l : Launch) (dC : Nat → ClassId) (dI : Nat → Nat → Nat) (ky : Nat → ClassId) (sz : Nat) (seaText : Nat)  : Met l yX8_init wsX8_init ({ frames := 1, cells := 0, slots := 0, locals := 12 }) (PcU dC dI ky [.ref seaText] [(seaText, .inr (8, [.int (nI 0)]))] sz) (va_Qv (fun (_ : Unit) => True) (BU dC dI ky (fun (_ : Unit) => [(seaText, .inr (8, [.int (nI 0)]))]) (va_A [(seaText, .inr (8, [.int (nI 0)]))] sz)) (va_A [(seaText, .inr (8, [.int (nI 0)]))] sz)) 0 0 (va_A [(seaText, .inr (8, [.int (nI 0)]))] sz) := by
  refine Met.ofW (cc := cX8_init) (maxL := 1) (ret := none) (by decide) rfl ?_
  intro p e s m args below meth c s₁ B hml hv
  obtain ⟨rfl, hsz, hP, hK, hD0⟩ := hv
  have hx := B.exec
  have hb := B.bytes
  have hr := B.returns
  have hts := atoms_spec (ws := wsX8_init) B.pre
  have hown : s.vm.findClass RX8 = some m.cls := findClass_of_methodNamed B.named
  have hlocks := B.notSynchronized
  have hini0 : meth.name = "<init>" := (name_of_methodNamed B.named B.method).1
  subst hsz
  have hD := hD0.self (sz := s.heap.size)
  generalize hAe : va_A [(seaText, .inr (8, [.int (nI 0)]))] s.heap.size = A at hD ⊢
  have hA : ∀ q : Nat, s.heap.size ≤ q → A q := fun q h => by rw [← hAe]; exact Or.inr h
  have hS : va_S A s.heap s.heap [] := va_S.rf
  have hP : va_P (dC, dI) vwCl [(seaText, .inr (8, [.int (nI 0)]))] s.heap := hP
  have hl := lv_entry ([.ref seaText]) (n := 1) (Nat.le_of_ble_eq_true rfl)
  rw [lg_entry_eq]
  generalize (lg_sl ([.ref seaText]) ++ List.replicate (1 - (lg_sl ([.ref seaText])).length) Slot.unset).toArray = ls at hl ⊢
  have hl : lv_has ls 1 [(0, .ref seaText)] := hl
  have hH0 : True := trivial
  refine lv_aload_n hx hb dX8_init_0 rfl (lv_at hl 0 rfl) ?_
  refine W.objInit hx hb hown (hts _ (List.mem_of_getElem? (i := 1) rfl)) (hts _ (List.mem_of_getElem? (i := 2) rfl)) (hts _ (List.mem_of_getElem? (i := 3) rfl)) rfl (by rw [hml]; exact hl.1) rfl dX8_init_1 (Nat.le_of_ble_eq_true rfl) (Nat.le_of_ble_eq_true rfl) ?_
  refine W.eq (g2 := F0 m 4 ls []) rfl ?_
  have hP9 := hP.sub (ws' := [(seaText, .inr (8, [.int (nI 0)]))]) [0] rfl
  have hD9 := hD.sub (ws' := [(seaText, .inr (8, [.int (nI 0)]))]) [0] (by decide) rfl
  refine W.widen (k := 0) (n := 0) (Nat.le_of_ble_eq_true rfl) (Nat.le_of_ble_eq_true rfl) ?_
  exact W.vret hx hb hr (fun t ht9 hW9 => ⟨⟨(), rfl, trivial, by rw [ht9]; exact hP9, va_K.moved hW9.alike hK, hD9⟩, hS.F ht9⟩) hS.2.2 dX8_init_4
set_option maxHeartbeats 4000000 in
set_option maxRecDepth 100000 in
theorem c_seaRead (l : Launch) (dC : Nat → ClassId) (dI : Nat → Nat → Nat) (ky : Nat → ClassId) (sz : Nat) (seaText : Nat) (tw : Int32) (reader : Nat) (tape : Nat) (a : Nat) (wide : Int32) (high : Int32) (heat : Int32) (cools : Int32) (skinHeat : Int32) (today : Int32) (stirs : Int32) (steps : Int32) (lumps : Int32) (boats : Int32) (thickness : Nat) (lumpNames : Nat) (lumpCells : Nat) (boatNames : Nat) (boatCells : Nat) (loads : Nat) (spoons : Nat) (spoonsLeft : Nat) (depths : Nat) (thicknessF : Nat → Int32)  : Met l yX8_read wsX8_read ({ frames := 1, cells := 0, slots := 0, locals := 21 }) (PcU dC dI ky [.ref seaText, .ref reader, .ref a] [(seaText, .inr (8, [.int tw])), (reader, .inr (5, [.ref tape, .int (nI 0), .int (nI 900), .int (nI 0), .int (nI 0), .int (nI 0), .int (-1 : Int32), .int (nI 0), .long 0, .int (nI 0), .int (nI 0)])), (a, .inr (7, [.int wide, .int high, .int heat, .int cools, .int skinHeat, .int today, .int stirs, .int steps, .int lumps, .int boats, .ref thickness, .ref lumpNames, .ref lumpCells, .ref boatNames, .ref boatCells, .ref loads, .ref spoons, .ref spoonsLeft, .ref depths])), (thickness, .inl (ky 0, 36, .inl thicknessF))] sz) (va_Qi (fun (r : Int32) (thicknessG : (Nat → Int32)) => r = nI 0) (BU dC dI ky (fun (thicknessG : (Nat → Int32)) => [(reader, .inr (5, [.ref tape, .int (nI 0), .int (nI 900), .int (nI 0), .int (nI 0), .int (nI 0), .int (-1 : Int32), .int (nI 0), .long 0, .int (nI 0), .int (nI 0)])), (a, .inr (7, [.int (nI 4), .int (nI 4), .int (nI 10), .int (nI 1), .int (nI 3), .int (nI 0), .int (nI 0), .int (nI 0), .int (nI 0), .int (nI 0), .ref thickness, .ref lumpNames, .ref lumpCells, .ref boatNames, .ref boatCells, .ref loads, .ref spoons, .ref spoonsLeft, .ref depths])), (thickness, .inl (ky 0, 36, .inl thicknessG))]) (va_A [(seaText, .inr (8, [.int tw])), (reader, .inr (5, [.ref tape, .int (nI 0), .int (nI 900), .int (nI 0), .int (nI 0), .int (nI 0), .int (-1 : Int32), .int (nI 0), .long 0, .int (nI 0), .int (nI 0)])), (a, .inr (7, [.int wide, .int high, .int heat, .int cools, .int skinHeat, .int today, .int stirs, .int steps, .int lumps, .int boats, .ref thickness, .ref lumpNames, .ref lumpCells, .ref boatNames, .ref boatCells, .ref loads, .ref spoons, .ref spoonsLeft, .ref depths])), (thickness, .inl (ky 0, 36, .inl thicknessF))] sz)) (va_A [(seaText, .inr (8, [.int tw])), (reader, .inr (5, [.ref tape, .int (nI 0), .int (nI 900), .int (nI 0), .int (nI 0), .int (nI 0), .int (-1 : Int32), .int (nI 0), .long 0, .int (nI 0), .int (nI 0)])), (a, .inr (7, [.int wide, .int high, .int heat, .int cools, .int skinHeat, .int today, .int stirs, .int steps, .int lumps, .int boats, .ref thickness, .ref lumpNames, .ref lumpCells, .ref boatNames, .ref boatCells, .ref loads, .ref spoons, .ref spoonsLeft, .ref depths])), (thickness, .inl (ky 0, 36, .inl thicknessF))] sz)) 0 0 (va_A [(seaText, .inr (8, [.int tw])), (reader, .inr (5, [.ref tape, .int (nI 0), .int (nI 900), .int (nI 0), .int (nI 0), .int (nI 0), .int (-1 : Int32), .int (nI 0), .long 0, .int (nI 0), .int (nI 0)])), (a, .inr (7, [.int wide, .int high, .int heat, .int cools, .int skinHeat, .int today, .int stirs, .int steps, .int lumps, .int boats, .ref thickness, .ref lumpNames, .ref lumpCells, .ref boatNames, .ref boatCells, .ref loads, .ref spoons, .ref spoonsLeft, .ref depths])), (thickness, .inl (ky 0, 36, .inl thicknessF))] sz) := by
  refine Met.ofW (cc := cX8_read) (maxL := 6) (ret := (some .int)) (by decide) rfl ?_
  intro p e s m args below meth c s₁ B hml hv
  obtain ⟨rfl, hsz, hP, hK, hD0⟩ := hv
  have hx := B.exec
  have hb := B.bytes
  have hr := B.returns
  have hts := atoms_spec (ws := wsX8_read) B.pre
  have hown : s.vm.findClass RX8 = some m.cls := findClass_of_methodNamed B.named
  have hlocks := B.notSynchronized
  have hin5 : ∀ w ∈ u_ws RX5 TX5 11, w ∈ wsX8_read := by decide +kernel
  have hin8 : ∀ w ∈ u_ws RX8 TX8 1, w ∈ wsX8_read := by decide +kernel
  subst hsz
  have hD := hD0.self (sz := s.heap.size)
  generalize hAe : va_A [(seaText, .inr (8, [.int tw])), (reader, .inr (5, [.ref tape, .int (nI 0), .int (nI 900), .int (nI 0), .int (nI 0), .int (nI 0), .int (-1 : Int32), .int (nI 0), .long 0, .int (nI 0), .int (nI 0)])), (a, .inr (7, [.int wide, .int high, .int heat, .int cools, .int skinHeat, .int today, .int stirs, .int steps, .int lumps, .int boats, .ref thickness, .ref lumpNames, .ref lumpCells, .ref boatNames, .ref boatCells, .ref loads, .ref spoons, .ref spoonsLeft, .ref depths])), (thickness, .inl (ky 0, 36, .inl thicknessF))] s.heap.size = A at hD ⊢
  have hA : ∀ q : Nat, s.heap.size ≤ q → A q := fun q h => by rw [← hAe]; exact Or.inr h
  have hS : va_S A s.heap s.heap [] := va_S.rf
  have hP : va_P (dC, dI) vwCl [(seaText, .inr (8, [.int tw])), (reader, .inr (5, [.ref tape, .int (nI 0), .int (nI 900), .int (nI 0), .int (nI 0), .int (nI 0), .int (-1 : Int32), .int (nI 0), .long 0, .int (nI 0), .int (nI 0)])), (a, .inr (7, [.int wide, .int high, .int heat, .int cools, .int skinHeat, .int today, .int stirs, .int steps, .int lumps, .int boats, .ref thickness, .ref lumpNames, .ref lumpCells, .ref boatNames, .ref boatCells, .ref loads, .ref spoons, .ref spoonsLeft, .ref depths])), (thickness, .inl (ky 0, 36, .inl thicknessF))] s.heap := hP
  have hl := lv_entry ([.ref seaText, .ref reader, .ref a]) (n := 6) (Nat.le_of_ble_eq_true rfl)
  rw [lg_entry_eq]
  generalize (lg_sl ([.ref seaText, .ref reader, .ref a]) ++ List.replicate (6 - (lg_sl ([.ref seaText, .ref reader, .ref a])).length) Slot.unset).toArray = ls at hl ⊢
  have hl : lv_has ls 6 [(0, .ref seaText), (1, .ref reader), (2, .ref a)] := hl
  have hH0 : True := trivial
  refine lv_aload_n hx hb dX8_read_0 rfl (lv_at hl 2 rfl) ?_
  refine r_call_v (wr := [(seaText, .inr (8, [.int tw])), (reader, .inr (5, [.ref tape, .int (nI 0), .int (nI 900), .int (nI 0), .int (nI 0), .int (nI 0), .int (-1 : Int32), .int (nI 0), .long 0, .int (nI 0), .int (nI 0)]))]) (va_runV (As := []) (rest := []) ⟨hx, hb, hml, hown, hts⟩ (c_empty l dC dI ky s.heap.size a wide high heat cools skinHeat today stirs steps lumps boats thickness lumpNames lumpCells boatNames boatCells loads spoons spoonsLeft depths thicknessF) (cwV 0 hts gX8_read_X7_empty rfl rfl rfl (by decide +kernel) ⟨(Nat.le_of_ble_eq_true rfl), (Nat.le_of_ble_eq_true rfl)⟩) (pre_UV hK hP hD [2, 3] (by decide) rfl (ci := 7) (q0 := 2) rfl rfl) rfl rfl hl.1 rfl (lv_room (Nat.le_of_ble_eq_true rfl)) dX8_read_1 ⟨(Nat.le_of_ble_eq_true rfl), (Nat.le_of_ble_eq_true rfl)⟩) hP hD hS hA [2, 3] [0, 1] rfl rfl (by decide) (by decide) (fun  u1 H locs p2 hP hD hS => ?_)
  obtain ⟨thicknessG_3, rfl⟩ : ∃ z, z = u1 := ⟨_, rfl⟩
  try dsimp only at p2
  have p4 := p2
  refine W.widen (k := 0) (n := 0) (Nat.le_of_ble_eq_true rfl) (Nat.le_of_ble_eq_true rfl) ?_
  have hP : va_P (dC, dI) vwCl [(seaText, .inr (8, [.int tw])), (reader, .inr (5, [.ref tape, .int (nI 0), .int (nI 900), .int (nI 0), .int (nI 0), .int (nI 0), .int (-1 : Int32), .int (nI 0), .long 0, .int (nI 0), .int (nI 0)])), (a, .inr (7, [.int (nI 4), .int (nI 4), .int (nI 10), .int (nI 1), .int (nI 3), .int (nI 0), .int (nI 0), .int (nI 0), .int (nI 0), .int (nI 0), .ref thickness, .ref lumpNames, .ref lumpCells, .ref boatNames, .ref boatCells, .ref loads, .ref spoons, .ref spoonsLeft, .ref depths])), (thickness, .inl (ky 0, 36, .inl thicknessG_3))] H := hP
  have hD : va_D A [(seaText, .inr (8, [.int tw])), (reader, .inr (5, [.ref tape, .int (nI 0), .int (nI 900), .int (nI 0), .int (nI 0), .int (nI 0), .int (-1 : Int32), .int (nI 0), .long 0, .int (nI 0), .int (nI 0)])), (a, .inr (7, [.int (nI 4), .int (nI 4), .int (nI 10), .int (nI 1), .int (nI 3), .int (nI 0), .int (nI 0), .int (nI 0), .int (nI 0), .int (nI 0), .ref thickness, .ref lumpNames, .ref lumpCells, .ref boatNames, .ref boatCells, .ref loads, .ref spoons, .ref spoonsLeft, .ref depths])), (thickness, .inl (ky 0, 36, .inl thicknessG_3))] := hD
  refine lv_aload_n hx hb dX8_read_4 rfl (lv_at hl 0 rfl) ?_
  refine lv_iconst (v := nI 0) hx hb dX8_read_5 (by decide) ?_
  refine va_put (D := (dC, dI)) (ci := 8) (v := .int (nI 0)) (ty := .int) (C := RX8) (T := TX8) (N := 1) hx hb hts hin8 tyX8 tyX8_ok nmX8 hown hK hP hD hS 0 rfl rfl 0 (by decide) (hts (.fieldLink RX8 16 "PorridgeSea$SeaText" "toldWords" "I") (List.mem_of_getElem? (i := 1) rfl)) (fun _ h9 => h9) rfl (by decide +kernel) rfl rfl (Nat.le_of_ble_eq_true rfl) dX8_read_6 (fun H locs hP hD hS => ?_)
  have hP : va_P (dC, dI) vwCl [(seaText, .inr (8, [.int (nI 0)])), (reader, .inr (5, [.ref tape, .int (nI 0), .int (nI 900), .int (nI 0), .int (nI 0), .int (nI 0), .int (-1 : Int32), .int (nI 0), .long 0, .int (nI 0), .int (nI 0)])), (a, .inr (7, [.int (nI 4), .int (nI 4), .int (nI 10), .int (nI 1), .int (nI 3), .int (nI 0), .int (nI 0), .int (nI 0), .int (nI 0), .int (nI 0), .ref thickness, .ref lumpNames, .ref lumpCells, .ref boatNames, .ref boatCells, .ref loads, .ref spoons, .ref spoonsLeft, .ref depths])), (thickness, .inl (ky 0, 36, .inl thicknessG_3))] H := hP
  have hD : va_D A [(seaText, .inr (8, [.int (nI 0)])), (reader, .inr (5, [.ref tape, .int (nI 0), .int (nI 900), .int (nI 0), .int (nI 0), .int (nI 0), .int (-1 : Int32), .int (nI 0), .long 0, .int (nI 0), .int (nI 0)])), (a, .inr (7, [.int (nI 4), .int (nI 4), .int (nI 10), .int (nI 1), .int (nI 3), .int (nI 0), .int (nI 0), .int (nI 0), .int (nI 0), .int (nI 0), .ref thickness, .ref lumpNames, .ref lumpCells, .ref boatNames, .ref boatCells, .ref loads, .ref spoons, .ref spoonsLeft, .ref depths])), (thickness, .inl (ky 0, 36, .inl thicknessG_3))] := hD
  refine lv_iconst (v := nI 0) hx hb dX8_read_9 (by decide) ?_
  refine lv_istore_n (lv' := [(3, .int (nI 0)), (0, .ref seaText), (1, .ref reader), (2, .ref a)]) hx hb dX8_read_10 rfl hl (by decide) rfl (fun ls hl => ?_)
  refine lv_iload_n hx hb dX8_read_11 rfl (lv_at hl 0 rfl) ?_
  refine lv_sipush (v := nI 900) hx hb dX8_read_12 (by decide) ?_
  refine lv_icmp_ge (tgt := 175) hx hb dX8_read_15 (by decide) (fun c5 => absurd c5 (by decide)) (fun c5 => ?_)
  refine lv_aload_n hx hb dX8_read_18 rfl (lv_at hl 2 rfl) ?_
  refine va_get (D := (dC, dI)) (ci := 5) (v := .int (nI 0)) (C := RX5) (T := TX5) (N := 11) hx hb hts hin5 hown hK hP 1 rfl rfl 4 (by decide) (hts (.fieldLink RX8 22 "PorridgeSea$Reader" "kind" "I") (List.mem_of_getElem? (i := 2) rfl)) (fun _ h9 => h9) rfl dX8_read_19 ?_
  refine lv_if_eq (tgt := 175) hx hb dX8_read_22 (by decide) (fun c6 => ?_) (fun c6 => absurd (by decide) c6)
  refine lv_iload_n hx hb dX8_read_175 rfl (lv_at hl 0 rfl) ?_
  have hP9 := hP.sub (ws' := [(reader, .inr (5, [.ref tape, .int (nI 0), .int (nI 900), .int (nI 0), .int (nI 0), .int (nI 0), .int (-1 : Int32), .int (nI 0), .long 0, .int (nI 0), .int (nI 0)])), (a, .inr (7, [.int (nI 4), .int (nI 4), .int (nI 10), .int (nI 1), .int (nI 3), .int (nI 0), .int (nI 0), .int (nI 0), .int (nI 0), .int (nI 0), .ref thickness, .ref lumpNames, .ref lumpCells, .ref boatNames, .ref boatCells, .ref loads, .ref spoons, .ref spoonsLeft, .ref depths])), (thickness, .inl (ky 0, 36, .inl thicknessG_3))]) [1, 2, 3] rfl
  have hD9 := hD.sub (ws' := [(reader, .inr (5, [.ref tape, .int (nI 0), .int (nI 900), .int (nI 0), .int (nI 0), .int (nI 0), .int (-1 : Int32), .int (nI 0), .long 0, .int (nI 0), .int (nI 0)])), (a, .inr (7, [.int (nI 4), .int (nI 4), .int (nI 10), .int (nI 1), .int (nI 3), .int (nI 0), .int (nI 0), .int (nI 0), .int (nI 0), .int (nI 0), .ref thickness, .ref lumpNames, .ref lumpCells, .ref boatNames, .ref boatCells, .ref loads, .ref spoons, .ref spoonsLeft, .ref depths])), (thickness, .inl (ky 0, 36, .inl thicknessG_3))]) [1, 2, 3] (by decide) rfl
  refine W.widen (k := 0) (n := 0) (Nat.le_of_ble_eq_true rfl) (Nat.le_of_ble_eq_true rfl) ?_
  exact W.iret (v := nI 0) hx hb hr (fun t ht9 hW9 => ⟨⟨nI 0, thicknessG_3, rfl, rfl, by rw [ht9]; exact hP9, va_K.moved hW9.alike hK, hD9⟩, hS.F ht9⟩) hS.2.2 dX8_read_176
set_option maxHeartbeats 4000000 in
set_option maxRecDepth 100000 in
theorem c_Book_init (l : Launch) (dC : Nat → ClassId) (dI : Nat → Nat → Nat) (ky : Nat → ClassId) (sz : Nat) (book : Nat)  : Met l yX0_init wsX0_init ({ frames := 1, cells := 1, slots := 160, locals := 12 }) (PcU dC dI ky [.ref book] [(book, .inr (0, [.null, .int (nI 0), .int (nI 0), .int (nI 0), .int (nI 0), .int (nI 0), .int (nI 0)]))] sz) (va_Qv (fun (lines : Nat) => True) (BU dC dI ky (fun (lines : Nat) => [(book, .inr (0, [.ref lines, .int (nI 0), .int (nI 0), .int (nI 0), .int (nI 0), .int (nI 0), .int (nI 0)]))]) (va_A [(book, .inr (0, [.null, .int (nI 0), .int (nI 0), .int (nI 0), .int (nI 0), .int (nI 0), .int (nI 0)]))] sz)) (va_A [(book, .inr (0, [.null, .int (nI 0), .int (nI 0), .int (nI 0), .int (nI 0), .int (nI 0), .int (nI 0)]))] sz)) 1 160 (va_A [(book, .inr (0, [.null, .int (nI 0), .int (nI 0), .int (nI 0), .int (nI 0), .int (nI 0), .int (nI 0)]))] sz) := by
  refine Met.ofW (cc := cX0_init) (maxL := 1) (ret := none) (by decide) rfl ?_
  intro p e s m args below meth c s₁ B hml hv
  obtain ⟨rfl, hsz, hP, hK, hD0⟩ := hv
  have hx := B.exec
  have hb := B.bytes
  have hr := B.returns
  have hts := atoms_spec (ws := wsX0_init) B.pre
  have hown : s.vm.findClass RX0 = some m.cls := findClass_of_methodNamed B.named
  have hlocks := B.notSynchronized
  have hini0 : meth.name = "<init>" := (name_of_methodNamed B.named B.method).1
  have hin0 : ∀ w ∈ u_ws RX0 TX0 7, w ∈ wsX0_init := by decide +kernel
  subst hsz
  have hD := hD0.self (sz := s.heap.size)
  generalize hAe : va_A [(book, .inr (0, [.null, .int (nI 0), .int (nI 0), .int (nI 0), .int (nI 0), .int (nI 0), .int (nI 0)]))] s.heap.size = A at hD ⊢
  have hA : ∀ q : Nat, s.heap.size ≤ q → A q := fun q h => by rw [← hAe]; exact Or.inr h
  have hS : va_S A s.heap s.heap [] := va_S.rf
  have hP : va_P (dC, dI) vwCl [(book, .inr (0, [.null, .int (nI 0), .int (nI 0), .int (nI 0), .int (nI 0), .int (nI 0), .int (nI 0)]))] s.heap := hP
  have hl := lv_entry ([.ref book]) (n := 1) (Nat.le_of_ble_eq_true rfl)
  rw [lg_entry_eq]
  generalize (lg_sl ([.ref book]) ++ List.replicate (1 - (lg_sl ([.ref book])).length) Slot.unset).toArray = ls at hl ⊢
  have hl : lv_has ls 1 [(0, .ref book)] := hl
  have hH0 : True := trivial
  refine lv_aload_n hx hb dX0_init_0 rfl (lv_at hl 0 rfl) ?_
  refine W.objInit hx hb hown (hts _ (List.mem_of_getElem? (i := 1) rfl)) (hts _ (List.mem_of_getElem? (i := 2) rfl)) (hts _ (List.mem_of_getElem? (i := 3) rfl)) rfl (by rw [hml]; exact hl.1) rfl dX0_init_1 (Nat.le_of_ble_eq_true rfl) (Nat.le_of_ble_eq_true rfl) ?_
  refine W.eq (g2 := F0 m 4 ls []) rfl ?_
  refine lv_aload_n hx hb dX0_init_4 rfl (lv_at hl 0 rfl) ?_
  refine lv_sipush (v := nI 160) hx hb dX0_init_5 (by decide) ?_
  refine r_newI hx hb (hts (.arrayClass .int) (List.mem_of_getElem? (i := 4) rfl)) hK hP hD hS hA (by decide) (by decide) (Nat.le_of_ble_eq_true rfl) (Nat.le_of_ble_eq_true rfl) dX0_init_8 (fun q1 H hP hD hS => ?_)
  refine W.widen (k := 1) (n := 160) (Nat.le_of_ble_eq_true rfl) (Nat.le_of_ble_eq_true rfl) ?_
  have hP : va_P (dC, dI) vwCl [(book, .inr (0, [.null, .int (nI 0), .int (nI 0), .int (nI 0), .int (nI 0), .int (nI 0), .int (nI 0)])), (q1, .inl (ky 0, 160, .inl (fun _ => 0)))] H := hP
  have hD : va_D A [(book, .inr (0, [.null, .int (nI 0), .int (nI 0), .int (nI 0), .int (nI 0), .int (nI 0), .int (nI 0)])), (q1, .inl (ky 0, 160, .inl (fun _ => 0)))] := hD
  refine va_putF (D := (dC, dI)) (ci := 0) (v := .ref q1) (ty := .array .int) (C := RX0) (T := TX0) (N := 7) hx hb hts hin0 tyX0 tyX0_ok nmX0 hown hK hP hD hS 0 rfl rfl 0 (by decide) (hts (.fieldLink RX0 11 "PorridgeSea$Book" "lines" "[I") (List.mem_of_getElem? (i := 5) rfl)) (fun _ h9 => h9) rfl hini0 rfl (by decide +kernel) rfl rfl (Nat.le_of_ble_eq_true rfl) dX0_init_10 (fun H locs hP hD hS => ?_)
  have hP : va_P (dC, dI) vwCl [(book, .inr (0, [.ref q1, .int (nI 0), .int (nI 0), .int (nI 0), .int (nI 0), .int (nI 0), .int (nI 0)])), (q1, .inl (ky 0, 160, .inl (fun _ => 0)))] H := hP
  have hD : va_D A [(book, .inr (0, [.ref q1, .int (nI 0), .int (nI 0), .int (nI 0), .int (nI 0), .int (nI 0), .int (nI 0)])), (q1, .inl (ky 0, 160, .inl (fun _ => 0)))] := hD
  refine lv_aload_n hx hb dX0_init_13 rfl (lv_at hl 0 rfl) ?_
  refine lv_iconst (v := nI 0) hx hb dX0_init_14 (by decide) ?_
  refine va_put (D := (dC, dI)) (ci := 0) (v := .int (nI 0)) (ty := .int) (C := RX0) (T := TX0) (N := 7) hx hb hts hin0 tyX0 tyX0_ok nmX0 hown hK hP hD hS 0 rfl rfl 1 (by decide) (hts (.fieldLink RX0 15 "PorridgeSea$Book" "lineCount" "I") (List.mem_of_getElem? (i := 6) rfl)) (fun _ h9 => h9) rfl (by decide +kernel) rfl rfl (Nat.le_of_ble_eq_true rfl) dX0_init_15 (fun H locs hP hD hS => ?_)
  have hP : va_P (dC, dI) vwCl [(book, .inr (0, [.ref q1, .int (nI 0), .int (nI 0), .int (nI 0), .int (nI 0), .int (nI 0), .int (nI 0)])), (q1, .inl (ky 0, 160, .inl (fun _ => 0)))] H := hP
  have hD : va_D A [(book, .inr (0, [.ref q1, .int (nI 0), .int (nI 0), .int (nI 0), .int (nI 0), .int (nI 0), .int (nI 0)])), (q1, .inl (ky 0, 160, .inl (fun _ => 0)))] := hD
  refine lv_aload_n hx hb dX0_init_18 rfl (lv_at hl 0 rfl) ?_
  refine lv_iconst (v := nI 0) hx hb dX0_init_19 (by decide) ?_
  refine va_put (D := (dC, dI)) (ci := 0) (v := .int (nI 0)) (ty := .boolean) (C := RX0) (T := TX0) (N := 7) hx hb hts hin0 tyX0 tyX0_ok nmX0 hown hK hP hD hS 0 rfl rfl 2 (by decide) (hts (.fieldLink RX0 19 "PorridgeSea$Book" "lived" "Z") (List.mem_of_getElem? (i := 7) rfl)) (fun _ h9 => h9) rfl (by decide +kernel) (by decide) (by decide) (Nat.le_of_ble_eq_true rfl) dX0_init_20 (fun H locs hP hD hS => ?_)
  have hP : va_P (dC, dI) vwCl [(book, .inr (0, [.ref q1, .int (nI 0), .int (nI 0), .int (nI 0), .int (nI 0), .int (nI 0), .int (nI 0)])), (q1, .inl (ky 0, 160, .inl (fun _ => 0)))] H := hP
  have hD : va_D A [(book, .inr (0, [.ref q1, .int (nI 0), .int (nI 0), .int (nI 0), .int (nI 0), .int (nI 0), .int (nI 0)])), (q1, .inl (ky 0, 160, .inl (fun _ => 0)))] := hD
  have hP9 := hP.sub (ws' := [(book, .inr (0, [.ref q1, .int (nI 0), .int (nI 0), .int (nI 0), .int (nI 0), .int (nI 0), .int (nI 0)]))]) [0] rfl
  have hD9 := hD.sub (ws' := [(book, .inr (0, [.ref q1, .int (nI 0), .int (nI 0), .int (nI 0), .int (nI 0), .int (nI 0), .int (nI 0)]))]) [0] (by decide) rfl
  refine W.widen (k := 1) (n := 160) (Nat.le_of_ble_eq_true rfl) (Nat.le_of_ble_eq_true rfl) ?_
  exact W.vret hx hb hr (fun t ht9 hW9 => ⟨⟨q1, rfl, trivial, by rw [ht9]; exact hP9, va_K.moved hW9.alike hK, hD9⟩, hS.F ht9⟩) hS.2.2 dX0_init_23
set_option maxHeartbeats 4000000 in
set_option maxRecDepth 100000 in
theorem c_bookRead (l : Launch) (dC : Nat → ClassId) (dI : Nat → Nat → Nat) (ky : Nat → ClassId) (sz : Nat) (book : Nat) (lines : Nat) (reader : Nat) (tape : Nat) (a : Nat)  : Met l yX0_read wsX0_read ({ frames := 0, cells := 0, slots := 0, locals := 0 }) (PcU dC dI ky [.ref book, .ref reader, .ref a] [(book, .inr (0, [.ref lines, .int (nI 0), .int (nI 0), .int (nI 0), .int (nI 0), .int (nI 0), .int (nI 0)])), (reader, .inr (5, [.ref tape, .int (nI 0), .int (nI 400), .int (nI 0), .int (nI 0), .int (nI 0), .int (-1 : Int32), .int (nI 0), .long 0, .int (nI 0), .int (nI 0)]))] sz) (va_Qi (fun (r : Int32) (_ : Unit) => r = nI 1) (BU dC dI ky (fun (_ : Unit) => [(book, .inr (0, [.ref lines, .int (nI 0), .int (nI 0), .int (nI 0), .int (nI 0), .int (nI 0), .int (nI 0)])), (reader, .inr (5, [.ref tape, .int (nI 0), .int (nI 400), .int (nI 0), .int (nI 0), .int (nI 0), .int (-1 : Int32), .int (nI 0), .long 0, .int (nI 0), .int (nI 0)]))]) (va_A [(book, .inr (0, [.ref lines, .int (nI 0), .int (nI 0), .int (nI 0), .int (nI 0), .int (nI 0), .int (nI 0)])), (reader, .inr (5, [.ref tape, .int (nI 0), .int (nI 400), .int (nI 0), .int (nI 0), .int (nI 0), .int (-1 : Int32), .int (nI 0), .long 0, .int (nI 0), .int (nI 0)]))] sz)) (va_A [(book, .inr (0, [.ref lines, .int (nI 0), .int (nI 0), .int (nI 0), .int (nI 0), .int (nI 0), .int (nI 0)])), (reader, .inr (5, [.ref tape, .int (nI 0), .int (nI 400), .int (nI 0), .int (nI 0), .int (nI 0), .int (-1 : Int32), .int (nI 0), .long 0, .int (nI 0), .int (nI 0)]))] sz)) 0 0 (va_A [(book, .inr (0, [.ref lines, .int (nI 0), .int (nI 0), .int (nI 0), .int (nI 0), .int (nI 0), .int (nI 0)])), (reader, .inr (5, [.ref tape, .int (nI 0), .int (nI 400), .int (nI 0), .int (nI 0), .int (nI 0), .int (-1 : Int32), .int (nI 0), .long 0, .int (nI 0), .int (nI 0)]))] sz) := by
  refine Met.ofW (cc := cX0_read) (maxL := 5) (ret := (some .boolean)) (by decide) rfl ?_
  intro p e s m args below meth c s₁ B hml hv
  obtain ⟨rfl, hsz, hP, hK, hD0⟩ := hv
  have hx := B.exec
  have hb := B.bytes
  have hr := B.returns
  have hts := atoms_spec (ws := wsX0_read) B.pre
  have hown : s.vm.findClass RX0 = some m.cls := findClass_of_methodNamed B.named
  have hlocks := B.notSynchronized
  have hin0 : ∀ w ∈ u_ws RX0 TX0 7, w ∈ wsX0_read := by decide +kernel
  have hin5 : ∀ w ∈ u_ws RX5 TX5 11, w ∈ wsX0_read := by decide +kernel
  subst hsz
  have hD := hD0.self (sz := s.heap.size)
  generalize hAe : va_A [(book, .inr (0, [.ref lines, .int (nI 0), .int (nI 0), .int (nI 0), .int (nI 0), .int (nI 0), .int (nI 0)])), (reader, .inr (5, [.ref tape, .int (nI 0), .int (nI 400), .int (nI 0), .int (nI 0), .int (nI 0), .int (-1 : Int32), .int (nI 0), .long 0, .int (nI 0), .int (nI 0)]))] s.heap.size = A at hD ⊢
  have hA : ∀ q : Nat, s.heap.size ≤ q → A q := fun q h => by rw [← hAe]; exact Or.inr h
  have hS : va_S A s.heap s.heap [] := va_S.rf
  have hP : va_P (dC, dI) vwCl [(book, .inr (0, [.ref lines, .int (nI 0), .int (nI 0), .int (nI 0), .int (nI 0), .int (nI 0), .int (nI 0)])), (reader, .inr (5, [.ref tape, .int (nI 0), .int (nI 400), .int (nI 0), .int (nI 0), .int (nI 0), .int (-1 : Int32), .int (nI 0), .long 0, .int (nI 0), .int (nI 0)]))] s.heap := hP
  have hl := lv_entry ([.ref book, .ref reader, .ref a]) (n := 5) (Nat.le_of_ble_eq_true rfl)
  rw [lg_entry_eq]
  generalize (lg_sl ([.ref book, .ref reader, .ref a]) ++ List.replicate (5 - (lg_sl ([.ref book, .ref reader, .ref a])).length) Slot.unset).toArray = ls at hl ⊢
  have hl : lv_has ls 5 [(0, .ref book), (1, .ref reader), (2, .ref a)] := hl
  have hH0 : True := trivial
  refine lv_aload_n hx hb dX0_read_0 rfl (lv_at hl 0 rfl) ?_
  refine lv_iconst (v := nI 0) hx hb dX0_read_1 (by decide) ?_
  refine va_put (D := (dC, dI)) (ci := 0) (v := .int (nI 0)) (ty := .int) (C := RX0) (T := TX0) (N := 7) hx hb hts hin0 tyX0 tyX0_ok nmX0 hown hK hP hD hS 0 rfl rfl 1 (by decide) (hts (.fieldLink RX0 15 "PorridgeSea$Book" "lineCount" "I") (List.mem_of_getElem? (i := 1) rfl)) (fun _ h9 => h9) rfl (by decide +kernel) rfl rfl (Nat.le_of_ble_eq_true rfl) dX0_read_2 (fun H locs hP hD hS => ?_)
  have hP : va_P (dC, dI) vwCl [(book, .inr (0, [.ref lines, .int (nI 0), .int (nI 0), .int (nI 0), .int (nI 0), .int (nI 0), .int (nI 0)])), (reader, .inr (5, [.ref tape, .int (nI 0), .int (nI 400), .int (nI 0), .int (nI 0), .int (nI 0), .int (-1 : Int32), .int (nI 0), .long 0, .int (nI 0), .int (nI 0)]))] H := hP
  have hD : va_D A [(book, .inr (0, [.ref lines, .int (nI 0), .int (nI 0), .int (nI 0), .int (nI 0), .int (nI 0), .int (nI 0)])), (reader, .inr (5, [.ref tape, .int (nI 0), .int (nI 400), .int (nI 0), .int (nI 0), .int (nI 0), .int (-1 : Int32), .int (nI 0), .long 0, .int (nI 0), .int (nI 0)]))] := hD
  refine lv_aload_n hx hb dX0_read_5 rfl (lv_at hl 0 rfl) ?_
  refine va_get (D := (dC, dI)) (ci := 0) (v := .int (nI 0)) (C := RX0) (T := TX0) (N := 7) hx hb hts hin0 hown hK hP 0 rfl rfl 1 (by decide) (hts (.fieldLink RX0 15 "PorridgeSea$Book" "lineCount" "I") (List.mem_of_getElem? (i := 1) rfl)) (fun _ h9 => h9) rfl dX0_read_6 ?_
  refine lv_bipush (v := nI 40) hx hb dX0_read_9 (by decide) ?_
  refine lv_icmp_gt (tgt := 115) hx hb dX0_read_11 (by decide) (fun c1 => absurd c1 (by decide)) (fun c1 => ?_)
  refine lv_aload_n hx hb dX0_read_14 rfl (lv_at hl 1 rfl) ?_
  refine va_get (D := (dC, dI)) (ci := 5) (v := .int (nI 0)) (C := RX5) (T := TX5) (N := 11) hx hb hts hin5 hown hK hP 1 rfl rfl 4 (by decide) (hts (.fieldLink RX0 23 "PorridgeSea$Reader" "kind" "I") (List.mem_of_getElem? (i := 2) rfl)) (fun _ h9 => h9) rfl dX0_read_15 ?_
  refine lv_if_eq (tgt := 115) hx hb dX0_read_18 (by decide) (fun c2 => ?_) (fun c2 => absurd (by decide) c2)
  refine lv_iconst (v := nI 1) hx hb dX0_read_115 (by decide) ?_
  have hP9 := hP.sub (ws' := [(book, .inr (0, [.ref lines, .int (nI 0), .int (nI 0), .int (nI 0), .int (nI 0), .int (nI 0), .int (nI 0)])), (reader, .inr (5, [.ref tape, .int (nI 0), .int (nI 400), .int (nI 0), .int (nI 0), .int (nI 0), .int (-1 : Int32), .int (nI 0), .long 0, .int (nI 0), .int (nI 0)]))]) [0, 1] rfl
  have hD9 := hD.sub (ws' := [(book, .inr (0, [.ref lines, .int (nI 0), .int (nI 0), .int (nI 0), .int (nI 0), .int (nI 0), .int (nI 0)])), (reader, .inr (5, [.ref tape, .int (nI 0), .int (nI 400), .int (nI 0), .int (nI 0), .int (nI 0), .int (-1 : Int32), .int (nI 0), .long 0, .int (nI 0), .int (nI 0)]))]) [0, 1] (by decide) rfl
  refine W.widen (k := 0) (n := 0) (Nat.le_of_ble_eq_true rfl) (Nat.le_of_ble_eq_true rfl) ?_
  exact W.zret (v := nI 1) hx hb hr (by decide) (fun t ht9 hW9 => ⟨⟨nI 1, (), rfl, rfl, by rw [ht9]; exact hP9, va_K.moved hW9.alike hK, hD9⟩, hS.F ht9⟩) hS.2.2 dX0_read_116
set_option maxHeartbeats 4000000 in
set_option maxRecDepth 100000 in
theorem c_bookLive (l : Launch) (dC : Nat → ClassId) (dI : Nat → Nat → Nat) (ky : Nat → ClassId) (sz : Nat) (book : Nat) (lines : Nat) (a : Nat) (heat : Int32) (cools : Int32) (skinHeat : Int32) (today : Int32) (stirs : Int32) (steps : Int32) (thickness : Nat) (lumpNames : Nat) (lumpCells : Nat) (boatNames : Nat) (boatCells : Nat) (loads : Nat) (spoons : Nat) (spoonsLeft : Nat) (depths : Nat)  : Met l yX0_live wsX0_live ({ frames := 1, cells := 0, slots := 0, locals := 22 }) (PcU dC dI ky [.ref book, .ref a] [(book, .inr (0, [.ref lines, .int (nI 0), .int (nI 0), .int (nI 0), .int (nI 0), .int (nI 0), .int (nI 0)])), (a, .inr (7, [.int (nI 4), .int (nI 4), .int heat, .int cools, .int skinHeat, .int today, .int stirs, .int steps, .int (nI 0), .int (nI 0), .ref thickness, .ref lumpNames, .ref lumpCells, .ref boatNames, .ref boatCells, .ref loads, .ref spoons, .ref spoonsLeft, .ref depths]))] sz) (va_Qi (fun (r : Int32) (_ : Unit) => r = (-1 : Int32)) (BU dC dI ky (fun (_ : Unit) => [(a, .inr (7, [.int (nI 4), .int (nI 4), .int heat, .int cools, .int skinHeat, .int today, .int stirs, .int steps, .int (nI 0), .int (nI 0), .ref thickness, .ref lumpNames, .ref lumpCells, .ref boatNames, .ref boatCells, .ref loads, .ref spoons, .ref spoonsLeft, .ref depths]))]) (va_A [(book, .inr (0, [.ref lines, .int (nI 0), .int (nI 0), .int (nI 0), .int (nI 0), .int (nI 0), .int (nI 0)])), (a, .inr (7, [.int (nI 4), .int (nI 4), .int heat, .int cools, .int skinHeat, .int today, .int stirs, .int steps, .int (nI 0), .int (nI 0), .ref thickness, .ref lumpNames, .ref lumpCells, .ref boatNames, .ref boatCells, .ref loads, .ref spoons, .ref spoonsLeft, .ref depths]))] sz)) (va_A [(book, .inr (0, [.ref lines, .int (nI 0), .int (nI 0), .int (nI 0), .int (nI 0), .int (nI 0), .int (nI 0)])), (a, .inr (7, [.int (nI 4), .int (nI 4), .int heat, .int cools, .int skinHeat, .int today, .int stirs, .int steps, .int (nI 0), .int (nI 0), .ref thickness, .ref lumpNames, .ref lumpCells, .ref boatNames, .ref boatCells, .ref loads, .ref spoons, .ref spoonsLeft, .ref depths]))] sz)) 0 0 (va_A [(book, .inr (0, [.ref lines, .int (nI 0), .int (nI 0), .int (nI 0), .int (nI 0), .int (nI 0), .int (nI 0)])), (a, .inr (7, [.int (nI 4), .int (nI 4), .int heat, .int cools, .int skinHeat, .int today, .int stirs, .int steps, .int (nI 0), .int (nI 0), .ref thickness, .ref lumpNames, .ref lumpCells, .ref boatNames, .ref boatCells, .ref loads, .ref spoons, .ref spoonsLeft, .ref depths]))] sz) := by
  refine Met.ofW (cc := cX0_live) (maxL := 4) (ret := (some .int)) (by decide) rfl ?_
  intro p e s m args below meth c s₁ B hml hv
  obtain ⟨rfl, hsz, hP, hK, hD0⟩ := hv
  have hx := B.exec
  have hb := B.bytes
  have hr := B.returns
  have hts := atoms_spec (ws := wsX0_live) B.pre
  have hown : s.vm.findClass RX0 = some m.cls := findClass_of_methodNamed B.named
  have hlocks := B.notSynchronized
  have hin0 : ∀ w ∈ u_ws RX0 TX0 7, w ∈ wsX0_live := by decide +kernel
  have hin7 : ∀ w ∈ u_ws RX7 TX7 19, w ∈ wsX0_live := by decide +kernel
  subst hsz
  have hD := hD0.self (sz := s.heap.size)
  generalize hAe : va_A [(book, .inr (0, [.ref lines, .int (nI 0), .int (nI 0), .int (nI 0), .int (nI 0), .int (nI 0), .int (nI 0)])), (a, .inr (7, [.int (nI 4), .int (nI 4), .int heat, .int cools, .int skinHeat, .int today, .int stirs, .int steps, .int (nI 0), .int (nI 0), .ref thickness, .ref lumpNames, .ref lumpCells, .ref boatNames, .ref boatCells, .ref loads, .ref spoons, .ref spoonsLeft, .ref depths]))] s.heap.size = A at hD ⊢
  have hA : ∀ q : Nat, s.heap.size ≤ q → A q := fun q h => by rw [← hAe]; exact Or.inr h
  have hS : va_S A s.heap s.heap [] := va_S.rf
  have hP : va_P (dC, dI) vwCl [(book, .inr (0, [.ref lines, .int (nI 0), .int (nI 0), .int (nI 0), .int (nI 0), .int (nI 0), .int (nI 0)])), (a, .inr (7, [.int (nI 4), .int (nI 4), .int heat, .int cools, .int skinHeat, .int today, .int stirs, .int steps, .int (nI 0), .int (nI 0), .ref thickness, .ref lumpNames, .ref lumpCells, .ref boatNames, .ref boatCells, .ref loads, .ref spoons, .ref spoonsLeft, .ref depths]))] s.heap := hP
  have hl := lv_entry ([.ref book, .ref a]) (n := 4) (Nat.le_of_ble_eq_true rfl)
  rw [lg_entry_eq]
  generalize (lg_sl ([.ref book, .ref a]) ++ List.replicate (4 - (lg_sl ([.ref book, .ref a])).length) Slot.unset).toArray = ls at hl ⊢
  have hl : lv_has ls 4 [(0, .ref book), (1, .ref a)] := hl
  have hH0 : True := trivial
  refine lv_iconst (v := nI 0) hx hb dX0_live_0 (by decide) ?_
  refine lv_istore_n (lv' := [(2, .int (nI 0)), (0, .ref book), (1, .ref a)]) hx hb dX0_live_1 rfl hl (by decide) rfl (fun ls hl => ?_)
  refine lv_iconst (v := nI 0) hx hb dX0_live_2 (by decide) ?_
  refine lv_istore_n (lv' := [(3, .int (nI 0)), (2, .int (nI 0)), (0, .ref book), (1, .ref a)]) hx hb dX0_live_3 rfl hl (by decide) rfl (fun ls hl => ?_)
  refine lv_iload_n hx hb dX0_live_4 rfl (lv_at hl 0 rfl) ?_
  refine lv_aload_n hx hb dX0_live_5 rfl (lv_at hl 2 rfl) ?_
  refine va_get (D := (dC, dI)) (ci := 0) (v := .int (nI 0)) (C := RX0) (T := TX0) (N := 7) hx hb hts hin0 hown hK hP 0 rfl rfl 1 (by decide) (hts (.fieldLink RX0 15 "PorridgeSea$Book" "lineCount" "I") (List.mem_of_getElem? (i := 1) rfl)) (fun _ h9 => h9) rfl dX0_live_6 ?_
  refine lv_icmp_ge (tgt := 38) hx hb dX0_live_9 (by decide) (fun c1 => ?_) (fun c1 => absurd (by decide) c1)
  refine lv_aload_n hx hb dX0_live_38 rfl (lv_at hl 2 rfl) ?_
  refine lv_iconst (v := nI 1) hx hb dX0_live_39 (by decide) ?_
  refine va_put (D := (dC, dI)) (ci := 0) (v := .int (nI 1)) (ty := .boolean) (C := RX0) (T := TX0) (N := 7) hx hb hts hin0 tyX0 tyX0_ok nmX0 hown hK hP hD hS 0 rfl rfl 2 (by decide) (hts (.fieldLink RX0 19 "PorridgeSea$Book" "lived" "Z") (List.mem_of_getElem? (i := 2) rfl)) (fun _ h9 => h9) rfl (by decide +kernel) (by decide) (by decide) (Nat.le_of_ble_eq_true rfl) dX0_live_40 (fun H locs hP hD hS => ?_)
  have hP : va_P (dC, dI) vwCl [(book, .inr (0, [.ref lines, .int (nI 0), .int (nI 1), .int (nI 0), .int (nI 0), .int (nI 0), .int (nI 0)])), (a, .inr (7, [.int (nI 4), .int (nI 4), .int heat, .int cools, .int skinHeat, .int today, .int stirs, .int steps, .int (nI 0), .int (nI 0), .ref thickness, .ref lumpNames, .ref lumpCells, .ref boatNames, .ref boatCells, .ref loads, .ref spoons, .ref spoonsLeft, .ref depths]))] H := hP
  have hD : va_D A [(book, .inr (0, [.ref lines, .int (nI 0), .int (nI 1), .int (nI 0), .int (nI 0), .int (nI 0), .int (nI 0)])), (a, .inr (7, [.int (nI 4), .int (nI 4), .int heat, .int cools, .int skinHeat, .int today, .int stirs, .int steps, .int (nI 0), .int (nI 0), .ref thickness, .ref lumpNames, .ref lumpCells, .ref boatNames, .ref boatCells, .ref loads, .ref spoons, .ref spoonsLeft, .ref depths]))] := hD
  refine lv_aload_n hx hb dX0_live_43 rfl (lv_at hl 2 rfl) ?_
  refine lv_iload_n hx hb dX0_live_44 rfl (lv_at hl 1 rfl) ?_
  refine va_put (D := (dC, dI)) (ci := 0) (v := .int (nI 0)) (ty := .int) (C := RX0) (T := TX0) (N := 7) hx hb hts hin0 tyX0 tyX0_ok nmX0 hown hK hP hD hS 0 rfl rfl 3 (by decide) (hts (.fieldLink RX0 75 "PorridgeSea$Book" "whyWrong" "I") (List.mem_of_getElem? (i := 3) rfl)) (fun _ h9 => h9) rfl (by decide +kernel) rfl rfl (Nat.le_of_ble_eq_true rfl) dX0_live_45 (fun H locs hP hD hS => ?_)
  have hP : va_P (dC, dI) vwCl [(book, .inr (0, [.ref lines, .int (nI 0), .int (nI 1), .int (nI 0), .int (nI 0), .int (nI 0), .int (nI 0)])), (a, .inr (7, [.int (nI 4), .int (nI 4), .int heat, .int cools, .int skinHeat, .int today, .int stirs, .int steps, .int (nI 0), .int (nI 0), .ref thickness, .ref lumpNames, .ref lumpCells, .ref boatNames, .ref boatCells, .ref loads, .ref spoons, .ref spoonsLeft, .ref depths]))] H := hP
  have hD : va_D A [(book, .inr (0, [.ref lines, .int (nI 0), .int (nI 1), .int (nI 0), .int (nI 0), .int (nI 0), .int (nI 0)])), (a, .inr (7, [.int (nI 4), .int (nI 4), .int heat, .int cools, .int skinHeat, .int today, .int stirs, .int steps, .int (nI 0), .int (nI 0), .ref thickness, .ref lumpNames, .ref lumpCells, .ref boatNames, .ref boatCells, .ref loads, .ref spoons, .ref spoonsLeft, .ref depths]))] := hD
  refine lv_aload_n hx hb dX0_live_48 rfl (lv_at hl 2 rfl) ?_
  refine lv_iload_n hx hb dX0_live_49 rfl (lv_at hl 0 rfl) ?_
  refine va_put (D := (dC, dI)) (ci := 0) (v := .int (nI 0)) (ty := .int) (C := RX0) (T := TX0) (N := 7) hx hb hts hin0 tyX0 tyX0_ok nmX0 hown hK hP hD hS 0 rfl rfl 4 (by decide) (hts (.fieldLink RX0 78 "PorridgeSea$Book" "fineLines" "I") (List.mem_of_getElem? (i := 4) rfl)) (fun _ h9 => h9) rfl (by decide +kernel) rfl rfl (Nat.le_of_ble_eq_true rfl) dX0_live_50 (fun H locs hP hD hS => ?_)
  have hP : va_P (dC, dI) vwCl [(book, .inr (0, [.ref lines, .int (nI 0), .int (nI 1), .int (nI 0), .int (nI 0), .int (nI 0), .int (nI 0)])), (a, .inr (7, [.int (nI 4), .int (nI 4), .int heat, .int cools, .int skinHeat, .int today, .int stirs, .int steps, .int (nI 0), .int (nI 0), .ref thickness, .ref lumpNames, .ref lumpCells, .ref boatNames, .ref boatCells, .ref loads, .ref spoons, .ref spoonsLeft, .ref depths]))] H := hP
  have hD : va_D A [(book, .inr (0, [.ref lines, .int (nI 0), .int (nI 1), .int (nI 0), .int (nI 0), .int (nI 0), .int (nI 0)])), (a, .inr (7, [.int (nI 4), .int (nI 4), .int heat, .int cools, .int skinHeat, .int today, .int stirs, .int steps, .int (nI 0), .int (nI 0), .ref thickness, .ref lumpNames, .ref lumpCells, .ref boatNames, .ref boatCells, .ref loads, .ref spoons, .ref spoonsLeft, .ref depths]))] := hD
  refine lv_aload_n hx hb dX0_live_53 rfl (lv_at hl 2 rfl) ?_
  refine lv_aload_n hx hb dX0_live_54 rfl (lv_at hl 3 rfl) ?_
  refine va_get (D := (dC, dI)) (ci := 7) (v := .int today) (C := RX7) (T := TX7) (N := 19) hx hb hts hin7 hown hK hP 1 rfl rfl 5 (by decide) (hts (.fieldLink RX0 81 "PorridgeSea$Sea" "today" "I") (List.mem_of_getElem? (i := 5) rfl)) (fun _ h9 => h9) rfl dX0_live_55 ?_
  refine va_put (D := (dC, dI)) (ci := 0) (v := .int today) (ty := .int) (C := RX0) (T := TX0) (N := 7) hx hb hts hin0 tyX0 tyX0_ok nmX0 hown hK hP hD hS 0 rfl rfl 5 (by decide) (hts (.fieldLink RX0 84 "PorridgeSea$Book" "dayThen" "I") (List.mem_of_getElem? (i := 6) rfl)) (fun _ h9 => h9) rfl (by decide +kernel) rfl rfl (Nat.le_of_ble_eq_true rfl) dX0_live_58 (fun H locs hP hD hS => ?_)
  have hP : va_P (dC, dI) vwCl [(book, .inr (0, [.ref lines, .int (nI 0), .int (nI 1), .int (nI 0), .int (nI 0), .int today, .int (nI 0)])), (a, .inr (7, [.int (nI 4), .int (nI 4), .int heat, .int cools, .int skinHeat, .int today, .int stirs, .int steps, .int (nI 0), .int (nI 0), .ref thickness, .ref lumpNames, .ref lumpCells, .ref boatNames, .ref boatCells, .ref loads, .ref spoons, .ref spoonsLeft, .ref depths]))] H := hP
  have hD : va_D A [(book, .inr (0, [.ref lines, .int (nI 0), .int (nI 1), .int (nI 0), .int (nI 0), .int today, .int (nI 0)])), (a, .inr (7, [.int (nI 4), .int (nI 4), .int heat, .int cools, .int skinHeat, .int today, .int stirs, .int steps, .int (nI 0), .int (nI 0), .ref thickness, .ref lumpNames, .ref lumpCells, .ref boatNames, .ref boatCells, .ref loads, .ref spoons, .ref spoonsLeft, .ref depths]))] := hD
  refine lv_aload_n hx hb dX0_live_61 rfl (lv_at hl 2 rfl) ?_
  refine lv_aload_n hx hb dX0_live_62 rfl (lv_at hl 3 rfl) ?_
  refine vp_callSi (W.runV (As := []) (rest := [.ref book]) ⟨hx, hb, hml, hown, hts⟩ (c_eatenBits0 l dC dI ky a heat cools skinHeat today stirs steps thickness lumpNames lumpCells boatNames boatCells loads spoons spoonsLeft depths) (cwV 0 hts gX0_live_X7_eatenBits rfl rfl rfl (by decide +kernel) ⟨(Nat.le_of_ble_eq_true rfl), (Nat.le_of_ble_eq_true rfl)⟩) (pre_PV hK hP [1] rfl (ci := 7) (q0 := 1) rfl rfl) rfl rfl hl.1 rfl (lv_room (Nat.le_of_ble_eq_true rfl)) dX0_live_63 ⟨(Nat.le_of_ble_eq_true rfl), (Nat.le_of_ble_eq_true rfl)⟩) (fun r2 p3 => ?_)
  subst p3
  refine va_put (D := (dC, dI)) (ci := 0) (v := .int (nI 0)) (ty := .int) (C := RX0) (T := TX0) (N := 7) hx hb hts hin0 tyX0 tyX0_ok nmX0 hown hK hP hD hS 0 rfl rfl 6 (by decide) (hts (.fieldLink RX0 90 "PorridgeSea$Book" "eatenThen" "I") (List.mem_of_getElem? (i := 7) rfl)) (fun _ h9 => h9) rfl (by decide +kernel) rfl rfl (Nat.le_of_ble_eq_true rfl) dX0_live_66 (fun H locs hP hD hS => ?_)
  have hP : va_P (dC, dI) vwCl [(book, .inr (0, [.ref lines, .int (nI 0), .int (nI 1), .int (nI 0), .int (nI 0), .int today, .int (nI 0)])), (a, .inr (7, [.int (nI 4), .int (nI 4), .int heat, .int cools, .int skinHeat, .int today, .int stirs, .int steps, .int (nI 0), .int (nI 0), .ref thickness, .ref lumpNames, .ref lumpCells, .ref boatNames, .ref boatCells, .ref loads, .ref spoons, .ref spoonsLeft, .ref depths]))] H := hP
  have hD : va_D A [(book, .inr (0, [.ref lines, .int (nI 0), .int (nI 1), .int (nI 0), .int (nI 0), .int today, .int (nI 0)])), (a, .inr (7, [.int (nI 4), .int (nI 4), .int heat, .int cools, .int skinHeat, .int today, .int stirs, .int steps, .int (nI 0), .int (nI 0), .ref thickness, .ref lumpNames, .ref lumpCells, .ref boatNames, .ref boatCells, .ref loads, .ref spoons, .ref spoonsLeft, .ref depths]))] := hD
  refine lv_iload_n hx hb dX0_live_69 rfl (lv_at hl 1 rfl) ?_
  refine lv_if_ne (tgt := 77) hx hb dX0_live_70 (by decide) (fun c4 => absurd c4 (by decide)) (fun c4 => ?_)
  refine lv_iconst (v := (-1 : Int32)) hx hb dX0_live_73 (by decide) ?_
  refine lv_goto (tgt := 78) hx hb dX0_live_74 (by decide) ?_
  have hP9 := hP.sub (ws' := [(a, .inr (7, [.int (nI 4), .int (nI 4), .int heat, .int cools, .int skinHeat, .int today, .int stirs, .int steps, .int (nI 0), .int (nI 0), .ref thickness, .ref lumpNames, .ref lumpCells, .ref boatNames, .ref boatCells, .ref loads, .ref spoons, .ref spoonsLeft, .ref depths]))]) [1] rfl
  have hD9 := hD.sub (ws' := [(a, .inr (7, [.int (nI 4), .int (nI 4), .int heat, .int cools, .int skinHeat, .int today, .int stirs, .int steps, .int (nI 0), .int (nI 0), .ref thickness, .ref lumpNames, .ref lumpCells, .ref boatNames, .ref boatCells, .ref loads, .ref spoons, .ref spoonsLeft, .ref depths]))]) [1] (by decide) rfl
  refine W.widen (k := 0) (n := 0) (Nat.le_of_ble_eq_true rfl) (Nat.le_of_ble_eq_true rfl) ?_
  exact W.iret (v := (-1 : Int32)) hx hb hr (fun t ht9 hW9 => ⟨⟨(-1 : Int32), (), rfl, rfl, by rw [ht9]; exact hP9, va_K.moved hW9.alike hK, hD9⟩, hS.F ht9⟩) hS.2.2 dX0_live_78
set_option maxHeartbeats 4000000 in
set_option maxRecDepth 100000 in
theorem c_factThen0 (l : Launch) (dC : Nat → ClassId) (dI : Nat → Nat → Nat) (ky : Nat → ClassId) (book : Nat) (lines : Nat) (x : Int32)  : Met l yX0_factThen wsX0_factThen ({ frames := 0, cells := 0, slots := 0, locals := 0 }) (PcP dC dI ky [.ref book, .int x] [(book, .inr (0, [.ref lines, .int (nI 0), .int (nI 0), .int (nI 0), .int (nI 0), .int (nI 0), .int (nI 0)]))]) (vp_Si (fun r : Int32 => r = (-1 : Int32))) 0 0 (fun _ => False) := by
  refine Met.ofW (cc := cX0_factThen) (maxL := 2) (ret := (some .int)) (by decide) rfl ?_
  intro p e s m args below meth c s₁ B hml hv
  obtain ⟨rfl, hP, hK⟩ := hv
  have hx := B.exec
  have hb := B.bytes
  have hr := B.returns
  have hts := atoms_spec (ws := wsX0_factThen) B.pre
  have hown : s.vm.findClass RX0 = some m.cls := findClass_of_methodNamed B.named
  have hlocks := B.notSynchronized
  have hin0 : ∀ w ∈ u_ws RX0 TX0 7, w ∈ wsX0_factThen := by decide +kernel
  have hl := lv_entry ([.ref book, .int x]) (n := 2) (Nat.le_of_ble_eq_true rfl)
  rw [lg_entry_eq]
  generalize (lg_sl ([.ref book, .int x]) ++ List.replicate (2 - (lg_sl ([.ref book, .int x])).length) Slot.unset).toArray = ls at hl ⊢
  have hl : lv_has ls 2 [(0, .ref book), (1, .int x)] := hl
  refine lv_aload_n hx hb dX0_factThen_0 rfl (lv_at hl 0 rfl) ?_
  refine va_get (D := (dC, dI)) (ci := 0) (v := .int (nI 0)) (C := RX0) (T := TX0) (N := 7) hx hb hts hin0 hown hK hP 0 rfl rfl 2 (by decide) (hts (.fieldLink RX0 19 "PorridgeSea$Book" "lived" "Z") (List.mem_of_getElem? (i := 1) rfl)) (fun _ h9 => h9) rfl dX0_factThen_1 ?_
  refine lv_if_ne (tgt := 9) hx hb dX0_factThen_4 (by decide) (fun c1 => absurd c1 (by decide)) (fun c1 => ?_)
  refine lv_iconst (v := (-1 : Int32)) hx hb dX0_factThen_7 (by decide) ?_
  exact W.iret (v := (-1 : Int32)) hx hb hr (fun t ht9 hW9 => ⟨(-1 : Int32), rfl, rfl, ht9⟩) (fun _ h => absurd h List.not_mem_nil) dX0_factThen_8
set_option maxHeartbeats 4000000 in
set_option maxRecDepth 100000 in
theorem c_Sentence_init (l : Launch) (dC : Nat → ClassId) (dI : Nat → Nat → Nat) (ky : Nat → ClassId) (sz : Nat) (st : Nat)  : Met l yX9_init wsX9_init ({ frames := 1, cells := 1, slots := 40, locals := 12 }) (PcU dC dI ky [.ref st] [(st, .inr (9, [.null, .int (nI 0), .int (nI 0)]))] sz) (va_Qv (fun (codes : Nat) => True) (BU dC dI ky (fun (codes : Nat) => [(st, .inr (9, [.ref codes, .int (nI 0), .int (nI 0)])), (codes, .inl (ky 0, 40, .inl (fun _ => 0)))]) (va_A [(st, .inr (9, [.null, .int (nI 0), .int (nI 0)]))] sz)) (va_A [(st, .inr (9, [.null, .int (nI 0), .int (nI 0)]))] sz)) 1 40 (va_A [(st, .inr (9, [.null, .int (nI 0), .int (nI 0)]))] sz) := by
  refine Met.ofW (cc := cX9_init) (maxL := 1) (ret := none) (by decide) rfl ?_
  intro p e s m args below meth c s₁ B hml hv
  obtain ⟨rfl, hsz, hP, hK, hD0⟩ := hv
  have hx := B.exec
  have hb := B.bytes
  have hr := B.returns
  have hts := atoms_spec (ws := wsX9_init) B.pre
  have hown : s.vm.findClass RX9 = some m.cls := findClass_of_methodNamed B.named
  have hlocks := B.notSynchronized
  have hini0 : meth.name = "<init>" := (name_of_methodNamed B.named B.method).1
  have hin9 : ∀ w ∈ u_ws RX9 TX9 3, w ∈ wsX9_init := by decide +kernel
  subst hsz
  have hD := hD0.self (sz := s.heap.size)
  generalize hAe : va_A [(st, .inr (9, [.null, .int (nI 0), .int (nI 0)]))] s.heap.size = A at hD ⊢
  have hA : ∀ q : Nat, s.heap.size ≤ q → A q := fun q h => by rw [← hAe]; exact Or.inr h
  have hS : va_S A s.heap s.heap [] := va_S.rf
  have hP : va_P (dC, dI) vwCl [(st, .inr (9, [.null, .int (nI 0), .int (nI 0)]))] s.heap := hP
  have hl := lv_entry ([.ref st]) (n := 1) (Nat.le_of_ble_eq_true rfl)
  rw [lg_entry_eq]
  generalize (lg_sl ([.ref st]) ++ List.replicate (1 - (lg_sl ([.ref st])).length) Slot.unset).toArray = ls at hl ⊢
  have hl : lv_has ls 1 [(0, .ref st)] := hl
  have hH0 : True := trivial
  refine lv_aload_n hx hb dX9_init_0 rfl (lv_at hl 0 rfl) ?_
  refine W.objInit hx hb hown (hts _ (List.mem_of_getElem? (i := 1) rfl)) (hts _ (List.mem_of_getElem? (i := 2) rfl)) (hts _ (List.mem_of_getElem? (i := 3) rfl)) rfl (by rw [hml]; exact hl.1) rfl dX9_init_1 (Nat.le_of_ble_eq_true rfl) (Nat.le_of_ble_eq_true rfl) ?_
  refine W.eq (g2 := F0 m 4 ls []) rfl ?_
  refine lv_aload_n hx hb dX9_init_4 rfl (lv_at hl 0 rfl) ?_
  refine lv_bipush (v := nI 40) hx hb dX9_init_5 (by decide) ?_
  refine r_newI hx hb (hts (.arrayClass .int) (List.mem_of_getElem? (i := 4) rfl)) hK hP hD hS hA (by decide) (by decide) (Nat.le_of_ble_eq_true rfl) (Nat.le_of_ble_eq_true rfl) dX9_init_7 (fun q1 H hP hD hS => ?_)
  refine W.widen (k := 1) (n := 40) (Nat.le_of_ble_eq_true rfl) (Nat.le_of_ble_eq_true rfl) ?_
  have hP : va_P (dC, dI) vwCl [(st, .inr (9, [.null, .int (nI 0), .int (nI 0)])), (q1, .inl (ky 0, 40, .inl (fun _ => 0)))] H := hP
  have hD : va_D A [(st, .inr (9, [.null, .int (nI 0), .int (nI 0)])), (q1, .inl (ky 0, 40, .inl (fun _ => 0)))] := hD
  refine va_putF (D := (dC, dI)) (ci := 9) (v := .ref q1) (ty := .array .int) (C := RX9) (T := TX9) (N := 3) hx hb hts hin9 tyX9 tyX9_ok nmX9 hown hK hP hD hS 0 rfl rfl 0 (by decide) (hts (.fieldLink RX9 11 "PorridgeSea$Sentence" "codes" "[I") (List.mem_of_getElem? (i := 5) rfl)) (fun _ h9 => h9) rfl hini0 rfl (by decide +kernel) rfl rfl (Nat.le_of_ble_eq_true rfl) dX9_init_9 (fun H locs hP hD hS => ?_)
  have hP : va_P (dC, dI) vwCl [(st, .inr (9, [.ref q1, .int (nI 0), .int (nI 0)])), (q1, .inl (ky 0, 40, .inl (fun _ => 0)))] H := hP
  have hD : va_D A [(st, .inr (9, [.ref q1, .int (nI 0), .int (nI 0)])), (q1, .inl (ky 0, 40, .inl (fun _ => 0)))] := hD
  refine lv_aload_n hx hb dX9_init_12 rfl (lv_at hl 0 rfl) ?_
  refine lv_iconst (v := nI 0) hx hb dX9_init_13 (by decide) ?_
  refine va_put (D := (dC, dI)) (ci := 9) (v := .int (nI 0)) (ty := .int) (C := RX9) (T := TX9) (N := 3) hx hb hts hin9 tyX9 tyX9_ok nmX9 hown hK hP hD hS 0 rfl rfl 1 (by decide) (hts (.fieldLink RX9 15 "PorridgeSea$Sentence" "codeCount" "I") (List.mem_of_getElem? (i := 6) rfl)) (fun _ h9 => h9) rfl (by decide +kernel) rfl rfl (Nat.le_of_ble_eq_true rfl) dX9_init_14 (fun H locs hP hD hS => ?_)
  have hP : va_P (dC, dI) vwCl [(st, .inr (9, [.ref q1, .int (nI 0), .int (nI 0)])), (q1, .inl (ky 0, 40, .inl (fun _ => 0)))] H := hP
  have hD : va_D A [(st, .inr (9, [.ref q1, .int (nI 0), .int (nI 0)])), (q1, .inl (ky 0, 40, .inl (fun _ => 0)))] := hD
  refine lv_aload_n hx hb dX9_init_17 rfl (lv_at hl 0 rfl) ?_
  refine lv_iconst (v := nI 0) hx hb dX9_init_18 (by decide) ?_
  refine va_put (D := (dC, dI)) (ci := 9) (v := .int (nI 0)) (ty := .int) (C := RX9) (T := TX9) (N := 3) hx hb hts hin9 tyX9 tyX9_ok nmX9 hown hK hP hD hS 0 rfl rfl 2 (by decide) (hts (.fieldLink RX9 19 "PorridgeSea$Sentence" "ones" "I") (List.mem_of_getElem? (i := 7) rfl)) (fun _ h9 => h9) rfl (by decide +kernel) rfl rfl (Nat.le_of_ble_eq_true rfl) dX9_init_19 (fun H locs hP hD hS => ?_)
  have hP : va_P (dC, dI) vwCl [(st, .inr (9, [.ref q1, .int (nI 0), .int (nI 0)])), (q1, .inl (ky 0, 40, .inl (fun _ => 0)))] H := hP
  have hD : va_D A [(st, .inr (9, [.ref q1, .int (nI 0), .int (nI 0)])), (q1, .inl (ky 0, 40, .inl (fun _ => 0)))] := hD
  have hP9 := hP.sub (ws' := [(st, .inr (9, [.ref q1, .int (nI 0), .int (nI 0)])), (q1, .inl (ky 0, 40, .inl (fun _ => 0)))]) [0, 1] rfl
  have hD9 := hD.sub (ws' := [(st, .inr (9, [.ref q1, .int (nI 0), .int (nI 0)])), (q1, .inl (ky 0, 40, .inl (fun _ => 0)))]) [0, 1] (by decide) rfl
  refine W.widen (k := 1) (n := 40) (Nat.le_of_ble_eq_true rfl) (Nat.le_of_ble_eq_true rfl) ?_
  exact W.vret hx hb hr (fun t ht9 hW9 => ⟨⟨q1, rfl, trivial, by rw [ht9]; exact hP9, va_K.moved hW9.alike hK, hD9⟩, hS.F ht9⟩) hS.2.2 dX9_init_22
set_option maxHeartbeats 4000000 in
set_option maxRecDepth 100000 in
theorem c_forgetS (l : Launch) (dC : Nat → ClassId) (dI : Nat → Nat → Nat) (ky : Nat → ClassId) (sz : Nat) (st : Nat) (codes : Nat) (codeCount : Int32) (ones : Int32)  : Met l yX9_forget wsX9_forget ({ frames := 0, cells := 0, slots := 0, locals := 0 }) (PcU dC dI ky [.ref st] [(st, .inr (9, [.ref codes, .int codeCount, .int ones]))] sz) (va_Qv (fun (_ : Unit) => True) (BU dC dI ky (fun (_ : Unit) => [(st, .inr (9, [.ref codes, .int (nI 0), .int (nI 0)]))]) (va_A [(st, .inr (9, [.ref codes, .int codeCount, .int ones]))] sz)) (va_A [(st, .inr (9, [.ref codes, .int codeCount, .int ones]))] sz)) 0 0 (va_A [(st, .inr (9, [.ref codes, .int codeCount, .int ones]))] sz) := by
  refine Met.ofW (cc := cX9_forget) (maxL := 1) (ret := none) (by decide) rfl ?_
  intro p e s m args below meth c s₁ B hml hv
  obtain ⟨rfl, hsz, hP, hK, hD0⟩ := hv
  have hx := B.exec
  have hb := B.bytes
  have hr := B.returns
  have hts := atoms_spec (ws := wsX9_forget) B.pre
  have hown : s.vm.findClass RX9 = some m.cls := findClass_of_methodNamed B.named
  have hlocks := B.notSynchronized
  have hin9 : ∀ w ∈ u_ws RX9 TX9 3, w ∈ wsX9_forget := by decide +kernel
  subst hsz
  have hD := hD0.self (sz := s.heap.size)
  generalize hAe : va_A [(st, .inr (9, [.ref codes, .int codeCount, .int ones]))] s.heap.size = A at hD ⊢
  have hA : ∀ q : Nat, s.heap.size ≤ q → A q := fun q h => by rw [← hAe]; exact Or.inr h
  have hS : va_S A s.heap s.heap [] := va_S.rf
  have hP : va_P (dC, dI) vwCl [(st, .inr (9, [.ref codes, .int codeCount, .int ones]))] s.heap := hP
  have hl := lv_entry ([.ref st]) (n := 1) (Nat.le_of_ble_eq_true rfl)
  rw [lg_entry_eq]
  generalize (lg_sl ([.ref st]) ++ List.replicate (1 - (lg_sl ([.ref st])).length) Slot.unset).toArray = ls at hl ⊢
  have hl : lv_has ls 1 [(0, .ref st)] := hl
  have hH0 : True := trivial
  refine lv_aload_n hx hb dX9_forget_0 rfl (lv_at hl 0 rfl) ?_
  refine lv_iconst (v := nI 0) hx hb dX9_forget_1 (by decide) ?_
  refine va_put (D := (dC, dI)) (ci := 9) (v := .int (nI 0)) (ty := .int) (C := RX9) (T := TX9) (N := 3) hx hb hts hin9 tyX9 tyX9_ok nmX9 hown hK hP hD hS 0 rfl rfl 1 (by decide) (hts (.fieldLink RX9 15 "PorridgeSea$Sentence" "codeCount" "I") (List.mem_of_getElem? (i := 1) rfl)) (fun _ h9 => h9) rfl (by decide +kernel) rfl rfl (Nat.le_of_ble_eq_true rfl) dX9_forget_2 (fun H locs hP hD hS => ?_)
  have hP : va_P (dC, dI) vwCl [(st, .inr (9, [.ref codes, .int (nI 0), .int ones]))] H := hP
  have hD : va_D A [(st, .inr (9, [.ref codes, .int (nI 0), .int ones]))] := hD
  refine lv_aload_n hx hb dX9_forget_5 rfl (lv_at hl 0 rfl) ?_
  refine lv_iconst (v := nI 0) hx hb dX9_forget_6 (by decide) ?_
  refine va_put (D := (dC, dI)) (ci := 9) (v := .int (nI 0)) (ty := .int) (C := RX9) (T := TX9) (N := 3) hx hb hts hin9 tyX9 tyX9_ok nmX9 hown hK hP hD hS 0 rfl rfl 2 (by decide) (hts (.fieldLink RX9 19 "PorridgeSea$Sentence" "ones" "I") (List.mem_of_getElem? (i := 2) rfl)) (fun _ h9 => h9) rfl (by decide +kernel) rfl rfl (Nat.le_of_ble_eq_true rfl) dX9_forget_7 (fun H locs hP hD hS => ?_)
  have hP : va_P (dC, dI) vwCl [(st, .inr (9, [.ref codes, .int (nI 0), .int (nI 0)]))] H := hP
  have hD : va_D A [(st, .inr (9, [.ref codes, .int (nI 0), .int (nI 0)]))] := hD
  have hP9 := hP.sub (ws' := [(st, .inr (9, [.ref codes, .int (nI 0), .int (nI 0)]))]) [0] rfl
  have hD9 := hD.sub (ws' := [(st, .inr (9, [.ref codes, .int (nI 0), .int (nI 0)]))]) [0] (by decide) rfl
  refine W.widen (k := 0) (n := 0) (Nat.le_of_ble_eq_true rfl) (Nat.le_of_ble_eq_true rfl) ?_
  exact W.vret hx hb hr (fun t ht9 hW9 => ⟨⟨(), rfl, trivial, by rw [ht9]; exact hP9, va_K.moved hW9.alike hK, hD9⟩, hS.F ht9⟩) hS.2.2 dX9_forget_10
set_option maxHeartbeats 4000000 in
set_option maxRecDepth 100000 in
theorem c_isThere0 (l : Launch) (dC : Nat → ClassId) (dI : Nat → Nat → Nat) (ky : Nat → ClassId) (st : Nat) (codes : Nat)  : Met l yX9_isThere wsX9_isThere ({ frames := 0, cells := 0, slots := 0, locals := 0 }) (PcP dC dI ky [.ref st] [(st, .inr (9, [.ref codes, .int (nI 0), .int (nI 0)]))]) (vp_Si (fun r : Int32 => r = nI 0)) 0 0 (fun _ => False) := by
  refine Met.ofW (cc := cX9_isThere) (maxL := 1) (ret := (some .boolean)) (by decide) rfl ?_
  intro p e s m args below meth c s₁ B hml hv
  obtain ⟨rfl, hP, hK⟩ := hv
  have hx := B.exec
  have hb := B.bytes
  have hr := B.returns
  have hts := atoms_spec (ws := wsX9_isThere) B.pre
  have hown : s.vm.findClass RX9 = some m.cls := findClass_of_methodNamed B.named
  have hlocks := B.notSynchronized
  have hin9 : ∀ w ∈ u_ws RX9 TX9 3, w ∈ wsX9_isThere := by decide +kernel
  have hl := lv_entry ([.ref st]) (n := 1) (Nat.le_of_ble_eq_true rfl)
  rw [lg_entry_eq]
  generalize (lg_sl ([.ref st]) ++ List.replicate (1 - (lg_sl ([.ref st])).length) Slot.unset).toArray = ls at hl ⊢
  have hl : lv_has ls 1 [(0, .ref st)] := hl
  refine lv_aload_n hx hb dX9_isThere_0 rfl (lv_at hl 0 rfl) ?_
  refine va_get (D := (dC, dI)) (ci := 9) (v := .int (nI 0)) (C := RX9) (T := TX9) (N := 3) hx hb hts hin9 hown hK hP 0 rfl rfl 1 (by decide) (hts (.fieldLink RX9 15 "PorridgeSea$Sentence" "codeCount" "I") (List.mem_of_getElem? (i := 1) rfl)) (fun _ h9 => h9) rfl dX9_isThere_1 ?_
  refine lv_if_le (tgt := 11) hx hb dX9_isThere_4 (by decide) (fun c1 => ?_) (fun c1 => absurd (by decide) c1)
  refine lv_iconst (v := nI 0) hx hb dX9_isThere_11 (by decide) ?_
  exact W.zret (v := nI 0) hx hb hr (by decide) (fun t ht9 hW9 => ⟨nI 0, rfl, rfl, ht9⟩) (fun _ h => absurd h List.not_mem_nil) dX9_isThere_12
set_option maxHeartbeats 4000000 in
set_option maxRecDepth 100000 in
theorem c_Sentence_copy (l : Launch) (dC : Nat → ClassId) (dI : Nat → Nat → Nat) (ky : Nat → ClassId) (sz : Nat) (st : Nat) (codes : Nat) (codesF : Nat → Int32) (su : Nat) (ucodes : Nat) (ucodesF : Nat → Int32) (uc : Int32) (uo : Int32)  : Met l yX9_copy wsX9_copy ({ frames := 1, cells := 0, slots := 0, locals := 60 }) (PcU dC dI ky [.ref st, .ref su] [(st, .inr (9, [.ref codes, .int (nI 0), .int (nI 0)])), (codes, .inl (ky 0, 40, .inl codesF)), (su, .inr (9, [.ref ucodes, .int uc, .int uo])), (ucodes, .inl (ky 0, 40, .inl ucodesF))] sz) (va_Qv (fun (_ : Unit) => True) (BU dC dI ky (fun (_ : Unit) => []) (va_A [(st, .inr (9, [.ref codes, .int (nI 0), .int (nI 0)])), (codes, .inl (ky 0, 40, .inl codesF)), (su, .inr (9, [.ref ucodes, .int uc, .int uo])), (ucodes, .inl (ky 0, 40, .inl ucodesF))] sz)) (va_A [(st, .inr (9, [.ref codes, .int (nI 0), .int (nI 0)])), (codes, .inl (ky 0, 40, .inl codesF)), (su, .inr (9, [.ref ucodes, .int uc, .int uo])), (ucodes, .inl (ky 0, 40, .inl ucodesF))] sz)) 0 0 (va_A [(st, .inr (9, [.ref codes, .int (nI 0), .int (nI 0)])), (codes, .inl (ky 0, 40, .inl codesF)), (su, .inr (9, [.ref ucodes, .int uc, .int uo])), (ucodes, .inl (ky 0, 40, .inl ucodesF))] sz) := by
  refine Met.ofW (cc := cX9_copy) (maxL := 2) (ret := none) (by decide) rfl ?_
  intro p e s m args below meth c s₁ B hml hv
  obtain ⟨rfl, hsz, hP, hK, hD0⟩ := hv
  have hx := B.exec
  have hb := B.bytes
  have hr := B.returns
  have hts := atoms_spec (ws := wsX9_copy) B.pre
  have hown : s.vm.findClass RX9 = some m.cls := findClass_of_methodNamed B.named
  have hlocks := B.notSynchronized
  have hin9 : ∀ w ∈ u_ws RX9 TX9 3, w ∈ wsX9_copy := by decide +kernel
  subst hsz
  have hD := hD0.self (sz := s.heap.size)
  generalize hAe : va_A [(st, .inr (9, [.ref codes, .int (nI 0), .int (nI 0)])), (codes, .inl (ky 0, 40, .inl codesF)), (su, .inr (9, [.ref ucodes, .int uc, .int uo])), (ucodes, .inl (ky 0, 40, .inl ucodesF))] s.heap.size = A at hD ⊢
  have hA : ∀ q : Nat, s.heap.size ≤ q → A q := fun q h => by rw [← hAe]; exact Or.inr h
  have hS : va_S A s.heap s.heap [] := va_S.rf
  have hP : va_P (dC, dI) vwCl [(st, .inr (9, [.ref codes, .int (nI 0), .int (nI 0)])), (codes, .inl (ky 0, 40, .inl codesF)), (su, .inr (9, [.ref ucodes, .int uc, .int uo])), (ucodes, .inl (ky 0, 40, .inl ucodesF))] s.heap := hP
  have hl := lv_entry ([.ref st, .ref su]) (n := 2) (Nat.le_of_ble_eq_true rfl)
  rw [lg_entry_eq]
  generalize (lg_sl ([.ref st, .ref su]) ++ List.replicate (2 - (lg_sl ([.ref st, .ref su])).length) Slot.unset).toArray = ls at hl ⊢
  have hl : lv_has ls 2 [(0, .ref st), (1, .ref su)] := hl
  have hH0 : True := trivial
  refine lv_aload_n hx hb dX9_copy_0 rfl (lv_at hl 0 rfl) ?_
  refine lv_ifnull hx hb dX9_copy_1 ?_
  refine lv_aload_n hx hb dX9_copy_4 rfl (lv_at hl 1 rfl) ?_
  refine lv_ifnonnull (tgt := 9) hx hb dX9_copy_5 (by decide) ?_
  refine lv_aload_n hx hb dX9_copy_9 rfl (lv_at hl 0 rfl) ?_
  refine va_get (D := (dC, dI)) (ci := 9) (v := .ref codes) (C := RX9) (T := TX9) (N := 3) hx hb hts hin9 hown hK hP 0 rfl rfl 0 (by decide) (hts (.fieldLink RX9 11 "PorridgeSea$Sentence" "codes" "[I") (List.mem_of_getElem? (i := 1) rfl)) (fun _ h9 => h9) rfl dX9_copy_10 ?_
  refine lv_iconst (v := nI 0) hx hb dX9_copy_13 (by decide) ?_
  refine lv_aload_n hx hb dX9_copy_14 rfl (lv_at hl 1 rfl) ?_
  refine va_get (D := (dC, dI)) (ci := 9) (v := .ref ucodes) (C := RX9) (T := TX9) (N := 3) hx hb hts hin9 hown hK hP 2 rfl rfl 0 (by decide) (hts (.fieldLink RX9 11 "PorridgeSea$Sentence" "codes" "[I") (List.mem_of_getElem? (i := 1) rfl)) (fun _ h9 => h9) rfl dX9_copy_15 ?_
  refine lv_iconst (v := nI 0) hx hb dX9_copy_18 (by decide) ?_
  refine lv_bipush (v := nI 40) hx hb dX9_copy_19 (by decide) ?_
  refine va_copyi hx hb (by rw [hml]; exact hl.1.symm) hown (hts _ (List.mem_of_getElem? (i := 2) rfl)) (hts _ (List.mem_of_getElem? (i := 3) rfl)) (hts _ (List.mem_of_getElem? (i := 4) rfl)) (hts _ (List.mem_of_getElem? (i := 5) rfl)) hK hP hD hS 1 3 0 0 rfl rfl rfl rfl rfl (by decide) (by decide) (by decide) (by decide) (by decide) (fun _ _ => rfl) (Nat.le_of_ble_eq_true rfl) (Nat.le_of_ble_eq_true rfl) dX9_copy_21 (fun H locs hP hD hS => ?_)
  obtain ⟨g1, e2⟩ : ∃ z9, z9 = va_cpy codesF ucodesF (nI 0).toNatClampNeg (nI 0).toNatClampNeg (nI 40).toNatClampNeg := ⟨_, rfl⟩
  rw [← e2] at hP hD
  have hP : va_P (dC, dI) vwCl [(st, .inr (9, [.ref codes, .int (nI 0), .int (nI 0)])), (codes, .inl (ky 0, 40, .inl codesF)), (su, .inr (9, [.ref ucodes, .int uc, .int uo])), (ucodes, .inl (ky 0, 40, .inl g1))] H := hP
  have hD : va_D A [(st, .inr (9, [.ref codes, .int (nI 0), .int (nI 0)])), (codes, .inl (ky 0, 40, .inl codesF)), (su, .inr (9, [.ref ucodes, .int uc, .int uo])), (ucodes, .inl (ky 0, 40, .inl g1))] := hD
  refine lv_aload_n hx hb dX9_copy_24 rfl (lv_at hl 1 rfl) ?_
  refine lv_aload_n hx hb dX9_copy_25 rfl (lv_at hl 0 rfl) ?_
  refine va_get (D := (dC, dI)) (ci := 9) (v := .int (nI 0)) (C := RX9) (T := TX9) (N := 3) hx hb hts hin9 hown hK hP 0 rfl rfl 1 (by decide) (hts (.fieldLink RX9 15 "PorridgeSea$Sentence" "codeCount" "I") (List.mem_of_getElem? (i := 6) rfl)) (fun _ h9 => h9) rfl dX9_copy_26 ?_
  refine va_put (D := (dC, dI)) (ci := 9) (v := .int (nI 0)) (ty := .int) (C := RX9) (T := TX9) (N := 3) hx hb hts hin9 tyX9 tyX9_ok nmX9 hown hK hP hD hS 2 rfl rfl 1 (by decide) (hts (.fieldLink RX9 15 "PorridgeSea$Sentence" "codeCount" "I") (List.mem_of_getElem? (i := 6) rfl)) (fun _ h9 => h9) rfl (by decide +kernel) rfl rfl (Nat.le_of_ble_eq_true rfl) dX9_copy_29 (fun H locs hP hD hS => ?_)
  have hP : va_P (dC, dI) vwCl [(st, .inr (9, [.ref codes, .int (nI 0), .int (nI 0)])), (codes, .inl (ky 0, 40, .inl codesF)), (su, .inr (9, [.ref ucodes, .int (nI 0), .int uo])), (ucodes, .inl (ky 0, 40, .inl g1))] H := hP
  have hD : va_D A [(st, .inr (9, [.ref codes, .int (nI 0), .int (nI 0)])), (codes, .inl (ky 0, 40, .inl codesF)), (su, .inr (9, [.ref ucodes, .int (nI 0), .int uo])), (ucodes, .inl (ky 0, 40, .inl g1))] := hD
  refine lv_aload_n hx hb dX9_copy_32 rfl (lv_at hl 1 rfl) ?_
  refine lv_aload_n hx hb dX9_copy_33 rfl (lv_at hl 0 rfl) ?_
  refine va_get (D := (dC, dI)) (ci := 9) (v := .int (nI 0)) (C := RX9) (T := TX9) (N := 3) hx hb hts hin9 hown hK hP 0 rfl rfl 2 (by decide) (hts (.fieldLink RX9 19 "PorridgeSea$Sentence" "ones" "I") (List.mem_of_getElem? (i := 7) rfl)) (fun _ h9 => h9) rfl dX9_copy_34 ?_
  refine va_put (D := (dC, dI)) (ci := 9) (v := .int (nI 0)) (ty := .int) (C := RX9) (T := TX9) (N := 3) hx hb hts hin9 tyX9 tyX9_ok nmX9 hown hK hP hD hS 2 rfl rfl 2 (by decide) (hts (.fieldLink RX9 19 "PorridgeSea$Sentence" "ones" "I") (List.mem_of_getElem? (i := 7) rfl)) (fun _ h9 => h9) rfl (by decide +kernel) rfl rfl (Nat.le_of_ble_eq_true rfl) dX9_copy_37 (fun H locs hP hD hS => ?_)
  have hP : va_P (dC, dI) vwCl [(st, .inr (9, [.ref codes, .int (nI 0), .int (nI 0)])), (codes, .inl (ky 0, 40, .inl codesF)), (su, .inr (9, [.ref ucodes, .int (nI 0), .int (nI 0)])), (ucodes, .inl (ky 0, 40, .inl g1))] H := hP
  have hD : va_D A [(st, .inr (9, [.ref codes, .int (nI 0), .int (nI 0)])), (codes, .inl (ky 0, 40, .inl codesF)), (su, .inr (9, [.ref ucodes, .int (nI 0), .int (nI 0)])), (ucodes, .inl (ky 0, 40, .inl g1))] := hD
  have hP9 := hP.sub (ws' := []) [] rfl
  have hD9 := hD.sub (ws' := []) [] (by decide) rfl
  refine W.widen (k := 0) (n := 0) (Nat.le_of_ble_eq_true rfl) (Nat.le_of_ble_eq_true rfl) ?_
  exact W.vret hx hb hr (fun t ht9 hW9 => ⟨⟨(), rfl, trivial, by rw [ht9]; exact hP9, va_K.moved hW9.alike hK, hD9⟩, hS.F ht9⟩) hS.2.2 dX9_copy_40
set_option maxHeartbeats 4000000 in
set_option maxRecDepth 100000 in
theorem c_readOne (l : Launch) (dC : Nat → ClassId) (dI : Nat → Nat → Nat) (ky : Nat → ClassId) (sz : Nat) (st : Nat) (codes : Nat) (reader : Nat) (tape : Nat) (a : Nat)  : Met l yX9_readOne wsX9_readOne ({ frames := 2, cells := 0, slots := 0, locals := 43 }) (PcU dC dI ky [.ref st, .ref reader, .ref a, .int (nI 1)] [(st, .inr (9, [.ref codes, .int (nI 0), .int (nI 0)])), (reader, .inr (5, [.ref tape, .int (nI 0), .int (nI 200), .int (nI 0), .int (nI 0), .int (nI 0), .int (-1 : Int32), .int (nI 0), .long 0, .int (nI 0), .int (nI 0)]))] sz) (va_Qi (fun (r : Int32) (_ : Unit) => r = nI 0) (BU dC dI ky (fun (_ : Unit) => [(st, .inr (9, [.ref codes, .int (nI 0), .int (nI 0)])), (reader, .inr (5, [.ref tape, .int (nI 0), .int (nI 200), .int (nI 0), .int (nI 0), .int (nI 0), .int (-1 : Int32), .int (nI 0), .long 0, .int (nI 1), .int (nI 0)]))]) (va_A [(st, .inr (9, [.ref codes, .int (nI 0), .int (nI 0)])), (reader, .inr (5, [.ref tape, .int (nI 0), .int (nI 200), .int (nI 0), .int (nI 0), .int (nI 0), .int (-1 : Int32), .int (nI 0), .long 0, .int (nI 0), .int (nI 0)]))] sz)) (va_A [(st, .inr (9, [.ref codes, .int (nI 0), .int (nI 0)])), (reader, .inr (5, [.ref tape, .int (nI 0), .int (nI 200), .int (nI 0), .int (nI 0), .int (nI 0), .int (-1 : Int32), .int (nI 0), .long 0, .int (nI 0), .int (nI 0)]))] sz)) 0 0 (va_A [(st, .inr (9, [.ref codes, .int (nI 0), .int (nI 0)])), (reader, .inr (5, [.ref tape, .int (nI 0), .int (nI 200), .int (nI 0), .int (nI 0), .int (nI 0), .int (-1 : Int32), .int (nI 0), .long 0, .int (nI 0), .int (nI 0)]))] sz) := by
  refine Met.ofW (cc := cX9_readOne) (maxL := 6) (ret := (some .boolean)) (by decide) rfl ?_
  intro p e s m args below meth c s₁ B hml hv
  obtain ⟨rfl, hsz, hP, hK, hD0⟩ := hv
  have hx := B.exec
  have hb := B.bytes
  have hr := B.returns
  have hts := atoms_spec (ws := wsX9_readOne) B.pre
  have hown : s.vm.findClass RX9 = some m.cls := findClass_of_methodNamed B.named
  have hlocks := B.notSynchronized
  have hin5 : ∀ w ∈ u_ws RX5 TX5 11, w ∈ wsX9_readOne := by decide +kernel
  subst hsz
  have hD := hD0.self (sz := s.heap.size)
  generalize hAe : va_A [(st, .inr (9, [.ref codes, .int (nI 0), .int (nI 0)])), (reader, .inr (5, [.ref tape, .int (nI 0), .int (nI 200), .int (nI 0), .int (nI 0), .int (nI 0), .int (-1 : Int32), .int (nI 0), .long 0, .int (nI 0), .int (nI 0)]))] s.heap.size = A at hD ⊢
  have hA : ∀ q : Nat, s.heap.size ≤ q → A q := fun q h => by rw [← hAe]; exact Or.inr h
  have hS : va_S A s.heap s.heap [] := va_S.rf
  have hP : va_P (dC, dI) vwCl [(st, .inr (9, [.ref codes, .int (nI 0), .int (nI 0)])), (reader, .inr (5, [.ref tape, .int (nI 0), .int (nI 200), .int (nI 0), .int (nI 0), .int (nI 0), .int (-1 : Int32), .int (nI 0), .long 0, .int (nI 0), .int (nI 0)]))] s.heap := hP
  have hl := lv_entry ([.ref st, .ref reader, .ref a, .int (nI 1)]) (n := 6) (Nat.le_of_ble_eq_true rfl)
  rw [lg_entry_eq]
  generalize (lg_sl ([.ref st, .ref reader, .ref a, .int (nI 1)]) ++ List.replicate (6 - (lg_sl ([.ref st, .ref reader, .ref a, .int (nI 1)])).length) Slot.unset).toArray = ls at hl ⊢
  have hl : lv_has ls 6 [(0, .ref st), (1, .ref reader), (2, .ref a), (3, .int (nI 1))] := hl
  have hH0 : True := trivial
  refine lv_aload_n hx hb dX9_readOne_0 rfl (lv_at hl 1 rfl) ?_
  refine vp_callSi (W.runV (As := []) (rest := []) ⟨hx, hb, hml, hown, hts⟩ (c_nextWord l dC dI ky reader tape (nI 0) (nI 200) (nI 0) (nI 0) (nI 0) (nI 0) 0 (nI 0) (nI 0)) (cwV 0 hts gX9_readOne_X5_nextWord rfl rfl rfl (by decide +kernel) ⟨(Nat.le_of_ble_eq_true rfl), (Nat.le_of_ble_eq_true rfl)⟩) (pre_PV hK hP [1] rfl (ci := 5) (q0 := 1) rfl rfl) rfl rfl hl.1 rfl (lv_room (Nat.le_of_ble_eq_true rfl)) dX9_readOne_1 ⟨(Nat.le_of_ble_eq_true rfl), (Nat.le_of_ble_eq_true rfl)⟩) (fun r1 p2 => ?_)
  subst p2
  refine lv_istore (lv' := [(4, .int (-1 : Int32)), (0, .ref st), (1, .ref reader), (2, .ref a), (3, .int (nI 1))]) hx hb dX9_readOne_4 hl (by decide) rfl (fun ls hl => ?_)
  refine lv_aload_n hx hb dX9_readOne_6 rfl (lv_at hl 2 rfl) ?_
  refine va_get (D := (dC, dI)) (ci := 5) (v := .int (nI 0)) (C := RX5) (T := TX5) (N := 11) hx hb hts hin5 hown hK hP 1 rfl rfl 4 (by decide) (hts (.fieldLink RX9 35 "PorridgeSea$Reader" "kind" "I") (List.mem_of_getElem? (i := 1) rfl)) (fun _ h9 => h9) rfl dX9_readOne_7 ?_
  refine lv_bipush (v := nI 40) hx hb dX9_readOne_10 (by decide) ?_
  refine lv_icmp_ne (tgt := 19) hx hb dX9_readOne_12 (by decide) (fun c3 => ?_) (fun c3 => absurd c3 (by decide))
  refine lv_iconst (v := nI 0) hx hb dX9_readOne_19 (by decide) ?_
  refine lv_istore (lv' := [(5, .int (nI 0)), (4, .int (-1 : Int32)), (0, .ref st), (1, .ref reader), (2, .ref a), (3, .int (nI 1))]) hx hb dX9_readOne_20 hl (by decide) rfl (fun ls hl => ?_)
  refine lv_iload hx hb dX9_readOne_22 (lv_at hl 0 rfl) ?_
  refine lv_if_ne (tgt := 47) hx hb dX9_readOne_24 (by decide) (fun c4 => absurd c4 (by decide)) (fun c4 => ?_)
  refine lv_iload hx hb dX9_readOne_27 (lv_at hl 1 rfl) ?_
  refine lv_bipush (v := nI 22) hx hb dX9_readOne_29 (by decide) ?_
  refine lv_icmp_lt (tgt := 41) hx hb dX9_readOne_31 (by decide) (fun c5 => ?_) (fun c5 => absurd (by decide) c5)
  refine lv_aload_n hx hb dX9_readOne_41 rfl (lv_at hl 3 rfl) ?_
  refine lv_iconst (v := nI 1) hx hb dX9_readOne_42 (by decide) ?_
  refine r_call_i (wr := [(st, .inr (9, [.ref codes, .int (nI 0), .int (nI 0)]))]) (va_runV (As := [.int (nI 1)]) (rest := []) ⟨hx, hb, hml, hown, hts⟩ (c_refuse1 l dC dI ky s.heap.size reader tape (nI 0) (nI 200) (nI 0) (nI 0) (-1 : Int32) (nI 0) 0 (nI 0) (nI 0)) (cwV 1 hts gX9_readOne_X5_refuse rfl rfl rfl (by decide +kernel) ⟨(Nat.le_of_ble_eq_true rfl), (Nat.le_of_ble_eq_true rfl)⟩) (pre_UV hK hP hD [1] (by decide) rfl (ci := 5) (q0 := 1) rfl rfl) rfl rfl hl.1 rfl (lv_room (Nat.le_of_ble_eq_true rfl)) dX9_readOne_43 ⟨(Nat.le_of_ble_eq_true rfl), (Nat.le_of_ble_eq_true rfl)⟩) hP hD hS hA [1] [0] rfl rfl (by decide) (by decide) (fun r8 u6 H locs p7 hP hD hS => ?_)
  try dsimp only at p7
  have p9 := p7
  refine W.widen (k := 0) (n := 0) (Nat.le_of_ble_eq_true rfl) (Nat.le_of_ble_eq_true rfl) ?_
  have hP : va_P (dC, dI) vwCl [(st, .inr (9, [.ref codes, .int (nI 0), .int (nI 0)])), (reader, .inr (5, [.ref tape, .int (nI 0), .int (nI 200), .int (nI 0), .int (nI 0), .int (nI 0), .int (-1 : Int32), .int (nI 0), .long 0, .int (nI 1), .int (nI 0)]))] H := hP
  have hD : va_D A [(st, .inr (9, [.ref codes, .int (nI 0), .int (nI 0)])), (reader, .inr (5, [.ref tape, .int (nI 0), .int (nI 200), .int (nI 0), .int (nI 0), .int (nI 0), .int (-1 : Int32), .int (nI 0), .long 0, .int (nI 1), .int (nI 0)]))] := hD
  subst p9
  have hP9 := hP.sub (ws' := [(st, .inr (9, [.ref codes, .int (nI 0), .int (nI 0)])), (reader, .inr (5, [.ref tape, .int (nI 0), .int (nI 200), .int (nI 0), .int (nI 0), .int (nI 0), .int (-1 : Int32), .int (nI 0), .long 0, .int (nI 1), .int (nI 0)]))]) [0, 1] rfl
  have hD9 := hD.sub (ws' := [(st, .inr (9, [.ref codes, .int (nI 0), .int (nI 0)])), (reader, .inr (5, [.ref tape, .int (nI 0), .int (nI 200), .int (nI 0), .int (nI 0), .int (nI 0), .int (-1 : Int32), .int (nI 0), .long 0, .int (nI 1), .int (nI 0)]))]) [0, 1] (by decide) rfl
  refine W.widen (k := 0) (n := 0) (Nat.le_of_ble_eq_true rfl) (Nat.le_of_ble_eq_true rfl) ?_
  exact W.zret (v := nI 0) hx hb hr (by decide) (fun t ht9 hW9 => ⟨⟨nI 0, (), rfl, rfl, by rw [ht9]; exact hP9, va_K.moved hW9.alike hK, hD9⟩, hS.F ht9⟩) hS.2.2 dX9_readOne_46
set_option maxHeartbeats 4000000 in
set_option maxRecDepth 100000 in
theorem c_readAll (l : Launch) (dC : Nat → ClassId) (dI : Nat → Nat → Nat) (ky : Nat → ClassId) (sz : Nat) (st : Nat) (codes : Nat) (reader : Nat) (tape : Nat) (a : Nat)  : Met l yX9_readAll wsX9_readAll ({ frames := 3, cells := 0, slots := 0, locals := 68 }) (PcU dC dI ky [.ref st, .ref reader, .ref a, .int (nI 1)] [(st, .inr (9, [.ref codes, .int (nI 0), .int (nI 0)])), (reader, .inr (5, [.ref tape, .int (nI 0), .int (nI 200), .int (nI 0), .int (nI 0), .int (nI 0), .int (-1 : Int32), .int (nI 0), .long 0, .int (nI 0), .int (nI 0)]))] sz) (va_Qi (fun (r : Int32) (_ : Unit) => r = nI 0) (BU dC dI ky (fun (_ : Unit) => [(st, .inr (9, [.ref codes, .int (nI 0), .int (nI 0)])), (reader, .inr (5, [.ref tape, .int (nI 0), .int (nI 200), .int (nI 0), .int (nI 0), .int (nI 0), .int (-1 : Int32), .int (nI 0), .long 0, .int (nI 1), .int (nI 0)]))]) (va_A [(st, .inr (9, [.ref codes, .int (nI 0), .int (nI 0)])), (reader, .inr (5, [.ref tape, .int (nI 0), .int (nI 200), .int (nI 0), .int (nI 0), .int (nI 0), .int (-1 : Int32), .int (nI 0), .long 0, .int (nI 0), .int (nI 0)]))] sz)) (va_A [(st, .inr (9, [.ref codes, .int (nI 0), .int (nI 0)])), (reader, .inr (5, [.ref tape, .int (nI 0), .int (nI 200), .int (nI 0), .int (nI 0), .int (nI 0), .int (-1 : Int32), .int (nI 0), .long 0, .int (nI 0), .int (nI 0)]))] sz)) 0 0 (va_A [(st, .inr (9, [.ref codes, .int (nI 0), .int (nI 0)])), (reader, .inr (5, [.ref tape, .int (nI 0), .int (nI 200), .int (nI 0), .int (nI 0), .int (nI 0), .int (-1 : Int32), .int (nI 0), .long 0, .int (nI 0), .int (nI 0)]))] sz) := by
  refine Met.ofW (cc := cX9_readAll) (maxL := 6) (ret := (some .boolean)) (by decide) rfl ?_
  intro p e s m args below meth c s₁ B hml hv
  obtain ⟨rfl, hsz, hP, hK, hD0⟩ := hv
  have hx := B.exec
  have hb := B.bytes
  have hr := B.returns
  have hts := atoms_spec (ws := wsX9_readAll) B.pre
  have hown : s.vm.findClass RX9 = some m.cls := findClass_of_methodNamed B.named
  have hlocks := B.notSynchronized
  subst hsz
  have hD := hD0.self (sz := s.heap.size)
  generalize hAe : va_A [(st, .inr (9, [.ref codes, .int (nI 0), .int (nI 0)])), (reader, .inr (5, [.ref tape, .int (nI 0), .int (nI 200), .int (nI 0), .int (nI 0), .int (nI 0), .int (-1 : Int32), .int (nI 0), .long 0, .int (nI 0), .int (nI 0)]))] s.heap.size = A at hD ⊢
  have hA : ∀ q : Nat, s.heap.size ≤ q → A q := fun q h => by rw [← hAe]; exact Or.inr h
  have hS : va_S A s.heap s.heap [] := va_S.rf
  have hP : va_P (dC, dI) vwCl [(st, .inr (9, [.ref codes, .int (nI 0), .int (nI 0)])), (reader, .inr (5, [.ref tape, .int (nI 0), .int (nI 200), .int (nI 0), .int (nI 0), .int (nI 0), .int (-1 : Int32), .int (nI 0), .long 0, .int (nI 0), .int (nI 0)]))] s.heap := hP
  have hl := lv_entry ([.ref st, .ref reader, .ref a, .int (nI 1)]) (n := 6) (Nat.le_of_ble_eq_true rfl)
  rw [lg_entry_eq]
  generalize (lg_sl ([.ref st, .ref reader, .ref a, .int (nI 1)]) ++ List.replicate (6 - (lg_sl ([.ref st, .ref reader, .ref a, .int (nI 1)])).length) Slot.unset).toArray = ls at hl ⊢
  have hl : lv_has ls 6 [(0, .ref st), (1, .ref reader), (2, .ref a), (3, .int (nI 1))] := hl
  have hH0 : True := trivial
  refine lv_aload_n hx hb dX9_readAll_0 rfl (lv_at hl 0 rfl) ?_
  refine lv_aload_n hx hb dX9_readAll_1 rfl (lv_at hl 1 rfl) ?_
  refine lv_aload_n hx hb dX9_readAll_2 rfl (lv_at hl 2 rfl) ?_
  refine lv_iload_n hx hb dX9_readAll_3 rfl (lv_at hl 3 rfl) ?_
  refine r_call_i (wr := []) (va_runV (As := [.ref reader, .ref a, .int (nI 1)]) (rest := []) ⟨hx, hb, hml, hown, hts⟩ (c_readOne l dC dI ky s.heap.size st codes reader tape a) (cwV 3 hts gX9_readAll_X9_readOne rfl rfl rfl (by decide +kernel) ⟨(Nat.le_of_ble_eq_true rfl), (Nat.le_of_ble_eq_true rfl)⟩) (pre_UV hK hP hD [0, 1] (by decide) rfl (ci := 9) (q0 := 0) rfl rfl) rfl rfl hl.1 rfl (lv_room (Nat.le_of_ble_eq_true rfl)) dX9_readAll_4 ⟨(Nat.le_of_ble_eq_true rfl), (Nat.le_of_ble_eq_true rfl)⟩) hP hD hS hA [0, 1] [] rfl rfl (by decide) (by decide) (fun r3 u1 H locs p2 hP hD hS => ?_)
  try dsimp only at p2
  have p4 := p2
  refine W.widen (k := 0) (n := 0) (Nat.le_of_ble_eq_true rfl) (Nat.le_of_ble_eq_true rfl) ?_
  have hP : va_P (dC, dI) vwCl [(st, .inr (9, [.ref codes, .int (nI 0), .int (nI 0)])), (reader, .inr (5, [.ref tape, .int (nI 0), .int (nI 200), .int (nI 0), .int (nI 0), .int (nI 0), .int (-1 : Int32), .int (nI 0), .long 0, .int (nI 1), .int (nI 0)]))] H := hP
  have hD : va_D A [(st, .inr (9, [.ref codes, .int (nI 0), .int (nI 0)])), (reader, .inr (5, [.ref tape, .int (nI 0), .int (nI 200), .int (nI 0), .int (nI 0), .int (nI 0), .int (-1 : Int32), .int (nI 0), .long 0, .int (nI 1), .int (nI 0)]))] := hD
  subst p4
  refine lv_istore (lv' := [(4, .int (nI 0)), (0, .ref st), (1, .ref reader), (2, .ref a), (3, .int (nI 1))]) hx hb dX9_readAll_7 hl (by decide) rfl (fun ls hl => ?_)
  refine lv_iconst (v := nI 0) hx hb dX9_readAll_9 (by decide) ?_
  refine lv_istore (lv' := [(5, .int (nI 0)), (4, .int (nI 0)), (0, .ref st), (1, .ref reader), (2, .ref a), (3, .int (nI 1))]) hx hb dX9_readAll_10 hl (by decide) rfl (fun ls hl => ?_)
  refine lv_iload hx hb dX9_readAll_12 (lv_at hl 0 rfl) ?_
  refine lv_bipush (v := nI 20) hx hb dX9_readAll_14 (by decide) ?_
  refine lv_icmp_ge (tgt := 69) hx hb dX9_readAll_16 (by decide) (fun c5 => absurd c5 (by decide)) (fun c5 => ?_)
  refine lv_iload hx hb dX9_readAll_19 (lv_at hl 1 rfl) ?_
  refine lv_if_eq (tgt := 69) hx hb dX9_readAll_21 (by decide) (fun c6 => ?_) (fun c6 => absurd (by decide) c6)
  refine lv_iload hx hb dX9_readAll_69 (lv_at hl 1 rfl) ?_
  have hP9 := hP.sub (ws' := [(st, .inr (9, [.ref codes, .int (nI 0), .int (nI 0)])), (reader, .inr (5, [.ref tape, .int (nI 0), .int (nI 200), .int (nI 0), .int (nI 0), .int (nI 0), .int (-1 : Int32), .int (nI 0), .long 0, .int (nI 1), .int (nI 0)]))]) [0, 1] rfl
  have hD9 := hD.sub (ws' := [(st, .inr (9, [.ref codes, .int (nI 0), .int (nI 0)])), (reader, .inr (5, [.ref tape, .int (nI 0), .int (nI 200), .int (nI 0), .int (nI 0), .int (nI 0), .int (-1 : Int32), .int (nI 0), .long 0, .int (nI 1), .int (nI 0)]))]) [0, 1] (by decide) rfl
  refine W.widen (k := 0) (n := 0) (Nat.le_of_ble_eq_true rfl) (Nat.le_of_ble_eq_true rfl) ?_
  exact W.zret (v := nI 0) hx hb hr (by decide) (fun t ht9 hW9 => ⟨⟨nI 0, (), rfl, rfl, by rw [ht9]; exact hP9, va_K.moved hW9.alike hK, hD9⟩, hS.F ht9⟩) hS.2.2 dX9_readAll_71
set_option maxHeartbeats 4000000 in
set_option maxRecDepth 100000 in
theorem c_readCond (l : Launch) (dC : Nat → ClassId) (dI : Nat → Nat → Nat) (ky : Nat → ClassId) (sz : Nat) (st : Nat) (codes : Nat) (reader : Nat) (tape : Nat) (a : Nat)  : Met l yX9_readCond wsX9_readCond ({ frames := 4, cells := 0, slots := 0, locals := 93 }) (PcU dC dI ky [.ref st, .ref reader, .ref a, .int (nI 1)] [(st, .inr (9, [.ref codes, .int (nI 0), .int (nI 0)])), (reader, .inr (5, [.ref tape, .int (nI 0), .int (nI 200), .int (nI 0), .int (nI 0), .int (nI 0), .int (-1 : Int32), .int (nI 0), .long 0, .int (nI 0), .int (nI 0)]))] sz) (va_Qi (fun (r : Int32) (_ : Unit) => r = nI 0) (BU dC dI ky (fun (_ : Unit) => [(st, .inr (9, [.ref codes, .int (nI 0), .int (nI 0)])), (reader, .inr (5, [.ref tape, .int (nI 0), .int (nI 200), .int (nI 0), .int (nI 0), .int (nI 0), .int (-1 : Int32), .int (nI 0), .long 0, .int (nI 1), .int (nI 0)]))]) (va_A [(st, .inr (9, [.ref codes, .int (nI 0), .int (nI 0)])), (reader, .inr (5, [.ref tape, .int (nI 0), .int (nI 200), .int (nI 0), .int (nI 0), .int (nI 0), .int (-1 : Int32), .int (nI 0), .long 0, .int (nI 0), .int (nI 0)]))] sz)) (va_A [(st, .inr (9, [.ref codes, .int (nI 0), .int (nI 0)])), (reader, .inr (5, [.ref tape, .int (nI 0), .int (nI 200), .int (nI 0), .int (nI 0), .int (nI 0), .int (-1 : Int32), .int (nI 0), .long 0, .int (nI 0), .int (nI 0)]))] sz)) 0 0 (va_A [(st, .inr (9, [.ref codes, .int (nI 0), .int (nI 0)])), (reader, .inr (5, [.ref tape, .int (nI 0), .int (nI 200), .int (nI 0), .int (nI 0), .int (nI 0), .int (-1 : Int32), .int (nI 0), .long 0, .int (nI 0), .int (nI 0)]))] sz) := by
  refine Met.ofW (cc := cX9_readCond) (maxL := 6) (ret := (some .boolean)) (by decide) rfl ?_
  intro p e s m args below meth c s₁ B hml hv
  obtain ⟨rfl, hsz, hP, hK, hD0⟩ := hv
  have hx := B.exec
  have hb := B.bytes
  have hr := B.returns
  have hts := atoms_spec (ws := wsX9_readCond) B.pre
  have hown : s.vm.findClass RX9 = some m.cls := findClass_of_methodNamed B.named
  have hlocks := B.notSynchronized
  subst hsz
  have hD := hD0.self (sz := s.heap.size)
  generalize hAe : va_A [(st, .inr (9, [.ref codes, .int (nI 0), .int (nI 0)])), (reader, .inr (5, [.ref tape, .int (nI 0), .int (nI 200), .int (nI 0), .int (nI 0), .int (nI 0), .int (-1 : Int32), .int (nI 0), .long 0, .int (nI 0), .int (nI 0)]))] s.heap.size = A at hD ⊢
  have hA : ∀ q : Nat, s.heap.size ≤ q → A q := fun q h => by rw [← hAe]; exact Or.inr h
  have hS : va_S A s.heap s.heap [] := va_S.rf
  have hP : va_P (dC, dI) vwCl [(st, .inr (9, [.ref codes, .int (nI 0), .int (nI 0)])), (reader, .inr (5, [.ref tape, .int (nI 0), .int (nI 200), .int (nI 0), .int (nI 0), .int (nI 0), .int (-1 : Int32), .int (nI 0), .long 0, .int (nI 0), .int (nI 0)]))] s.heap := hP
  have hl := lv_entry ([.ref st, .ref reader, .ref a, .int (nI 1)]) (n := 6) (Nat.le_of_ble_eq_true rfl)
  rw [lg_entry_eq]
  generalize (lg_sl ([.ref st, .ref reader, .ref a, .int (nI 1)]) ++ List.replicate (6 - (lg_sl ([.ref st, .ref reader, .ref a, .int (nI 1)])).length) Slot.unset).toArray = ls at hl ⊢
  have hl : lv_has ls 6 [(0, .ref st), (1, .ref reader), (2, .ref a), (3, .int (nI 1))] := hl
  have hH0 : True := trivial
  refine lv_aload_n hx hb dX9_readCond_0 rfl (lv_at hl 0 rfl) ?_
  refine lv_aload_n hx hb dX9_readCond_1 rfl (lv_at hl 1 rfl) ?_
  refine lv_aload_n hx hb dX9_readCond_2 rfl (lv_at hl 2 rfl) ?_
  refine lv_iload_n hx hb dX9_readCond_3 rfl (lv_at hl 3 rfl) ?_
  refine r_call_i (wr := []) (va_runV (As := [.ref reader, .ref a, .int (nI 1)]) (rest := []) ⟨hx, hb, hml, hown, hts⟩ (c_readAll l dC dI ky s.heap.size st codes reader tape a) (cwV 3 hts gX9_readCond_X9_readAll rfl rfl rfl (by decide +kernel) ⟨(Nat.le_of_ble_eq_true rfl), (Nat.le_of_ble_eq_true rfl)⟩) (pre_UV hK hP hD [0, 1] (by decide) rfl (ci := 9) (q0 := 0) rfl rfl) rfl rfl hl.1 rfl (lv_room (Nat.le_of_ble_eq_true rfl)) dX9_readCond_4 ⟨(Nat.le_of_ble_eq_true rfl), (Nat.le_of_ble_eq_true rfl)⟩) hP hD hS hA [0, 1] [] rfl rfl (by decide) (by decide) (fun r3 u1 H locs p2 hP hD hS => ?_)
  try dsimp only at p2
  have p4 := p2
  refine W.widen (k := 0) (n := 0) (Nat.le_of_ble_eq_true rfl) (Nat.le_of_ble_eq_true rfl) ?_
  have hP : va_P (dC, dI) vwCl [(st, .inr (9, [.ref codes, .int (nI 0), .int (nI 0)])), (reader, .inr (5, [.ref tape, .int (nI 0), .int (nI 200), .int (nI 0), .int (nI 0), .int (nI 0), .int (-1 : Int32), .int (nI 0), .long 0, .int (nI 1), .int (nI 0)]))] H := hP
  have hD : va_D A [(st, .inr (9, [.ref codes, .int (nI 0), .int (nI 0)])), (reader, .inr (5, [.ref tape, .int (nI 0), .int (nI 200), .int (nI 0), .int (nI 0), .int (nI 0), .int (-1 : Int32), .int (nI 0), .long 0, .int (nI 1), .int (nI 0)]))] := hD
  subst p4
  refine lv_istore (lv' := [(4, .int (nI 0)), (0, .ref st), (1, .ref reader), (2, .ref a), (3, .int (nI 1))]) hx hb dX9_readCond_7 hl (by decide) rfl (fun ls hl => ?_)
  refine lv_iconst (v := nI 0) hx hb dX9_readCond_9 (by decide) ?_
  refine lv_istore (lv' := [(5, .int (nI 0)), (4, .int (nI 0)), (0, .ref st), (1, .ref reader), (2, .ref a), (3, .int (nI 1))]) hx hb dX9_readCond_10 hl (by decide) rfl (fun ls hl => ?_)
  refine lv_iload hx hb dX9_readCond_12 (lv_at hl 0 rfl) ?_
  refine lv_bipush (v := nI 20) hx hb dX9_readCond_14 (by decide) ?_
  refine lv_icmp_ge (tgt := 69) hx hb dX9_readCond_16 (by decide) (fun c5 => absurd c5 (by decide)) (fun c5 => ?_)
  refine lv_iload hx hb dX9_readCond_19 (lv_at hl 1 rfl) ?_
  refine lv_if_eq (tgt := 69) hx hb dX9_readCond_21 (by decide) (fun c6 => ?_) (fun c6 => absurd (by decide) c6)
  refine lv_iload hx hb dX9_readCond_69 (lv_at hl 1 rfl) ?_
  have hP9 := hP.sub (ws' := [(st, .inr (9, [.ref codes, .int (nI 0), .int (nI 0)])), (reader, .inr (5, [.ref tape, .int (nI 0), .int (nI 200), .int (nI 0), .int (nI 0), .int (nI 0), .int (-1 : Int32), .int (nI 0), .long 0, .int (nI 1), .int (nI 0)]))]) [0, 1] rfl
  have hD9 := hD.sub (ws' := [(st, .inr (9, [.ref codes, .int (nI 0), .int (nI 0)])), (reader, .inr (5, [.ref tape, .int (nI 0), .int (nI 200), .int (nI 0), .int (nI 0), .int (nI 0), .int (-1 : Int32), .int (nI 0), .long 0, .int (nI 1), .int (nI 0)]))]) [0, 1] (by decide) rfl
  refine W.widen (k := 0) (n := 0) (Nat.le_of_ble_eq_true rfl) (Nat.le_of_ble_eq_true rfl) ?_
  exact W.zret (v := nI 0) hx hb hr (by decide) (fun t ht9 hW9 => ⟨⟨nI 0, (), rfl, rfl, by rw [ht9]; exact hP9, va_K.moved hW9.alike hK, hD9⟩, hS.F ht9⟩) hS.2.2 dX9_readCond_71
set_option maxHeartbeats 4000000 in
set_option maxRecDepth 100000 in
theorem c_senRead (l : Launch) (dC : Nat → ClassId) (dI : Nat → Nat → Nat) (ky : Nat → ClassId) (sz : Nat) (st : Nat) (codes : Nat) (reader : Nat) (tape : Nat) (a : Nat)  : Met l yX9_read wsX9_read ({ frames := 5, cells := 0, slots := 0, locals := 118 }) (PcU dC dI ky [.ref st, .ref reader, .ref a] [(st, .inr (9, [.ref codes, .int (nI 0), .int (nI 0)])), (reader, .inr (5, [.ref tape, .int (nI 0), .int (nI 200), .int (nI 0), .int (nI 0), .int (nI 0), .int (-1 : Int32), .int (nI 0), .long 0, .int (nI 0), .int (nI 0)]))] sz) (va_Qi (fun (r : Int32) (_ : Unit) => r = nI 0) (BU dC dI ky (fun (_ : Unit) => [(st, .inr (9, [.ref codes, .int (nI 0), .int (nI 0)])), (reader, .inr (5, [.ref tape, .int (nI 0), .int (nI 200), .int (nI 0), .int (nI 0), .int (nI 0), .int (-1 : Int32), .int (nI 0), .long 0, .int (nI 1), .int (nI 0)]))]) (va_A [(st, .inr (9, [.ref codes, .int (nI 0), .int (nI 0)])), (reader, .inr (5, [.ref tape, .int (nI 0), .int (nI 200), .int (nI 0), .int (nI 0), .int (nI 0), .int (-1 : Int32), .int (nI 0), .long 0, .int (nI 0), .int (nI 0)]))] sz)) (va_A [(st, .inr (9, [.ref codes, .int (nI 0), .int (nI 0)])), (reader, .inr (5, [.ref tape, .int (nI 0), .int (nI 200), .int (nI 0), .int (nI 0), .int (nI 0), .int (-1 : Int32), .int (nI 0), .long 0, .int (nI 0), .int (nI 0)]))] sz)) 0 0 (va_A [(st, .inr (9, [.ref codes, .int (nI 0), .int (nI 0)])), (reader, .inr (5, [.ref tape, .int (nI 0), .int (nI 200), .int (nI 0), .int (nI 0), .int (nI 0), .int (-1 : Int32), .int (nI 0), .long 0, .int (nI 0), .int (nI 0)]))] sz) := by
  refine Met.ofW (cc := cX9_read) (maxL := 3) (ret := (some .boolean)) (by decide) rfl ?_
  intro p e s m args below meth c s₁ B hml hv
  obtain ⟨rfl, hsz, hP, hK, hD0⟩ := hv
  have hx := B.exec
  have hb := B.bytes
  have hr := B.returns
  have hts := atoms_spec (ws := wsX9_read) B.pre
  have hown : s.vm.findClass RX9 = some m.cls := findClass_of_methodNamed B.named
  have hlocks := B.notSynchronized
  subst hsz
  have hD := hD0.self (sz := s.heap.size)
  generalize hAe : va_A [(st, .inr (9, [.ref codes, .int (nI 0), .int (nI 0)])), (reader, .inr (5, [.ref tape, .int (nI 0), .int (nI 200), .int (nI 0), .int (nI 0), .int (nI 0), .int (-1 : Int32), .int (nI 0), .long 0, .int (nI 0), .int (nI 0)]))] s.heap.size = A at hD ⊢
  have hA : ∀ q : Nat, s.heap.size ≤ q → A q := fun q h => by rw [← hAe]; exact Or.inr h
  have hS : va_S A s.heap s.heap [] := va_S.rf
  have hP : va_P (dC, dI) vwCl [(st, .inr (9, [.ref codes, .int (nI 0), .int (nI 0)])), (reader, .inr (5, [.ref tape, .int (nI 0), .int (nI 200), .int (nI 0), .int (nI 0), .int (nI 0), .int (-1 : Int32), .int (nI 0), .long 0, .int (nI 0), .int (nI 0)]))] s.heap := hP
  have hl := lv_entry ([.ref st, .ref reader, .ref a]) (n := 3) (Nat.le_of_ble_eq_true rfl)
  rw [lg_entry_eq]
  generalize (lg_sl ([.ref st, .ref reader, .ref a]) ++ List.replicate (3 - (lg_sl ([.ref st, .ref reader, .ref a])).length) Slot.unset).toArray = ls at hl ⊢
  have hl : lv_has ls 3 [(0, .ref st), (1, .ref reader), (2, .ref a)] := hl
  have hH0 : True := trivial
  refine lv_aload_n hx hb dX9_read_0 rfl (lv_at hl 0 rfl) ?_
  refine r_call_v (wr := [(reader, .inr (5, [.ref tape, .int (nI 0), .int (nI 200), .int (nI 0), .int (nI 0), .int (nI 0), .int (-1 : Int32), .int (nI 0), .long 0, .int (nI 0), .int (nI 0)]))]) (va_runV (As := []) (rest := []) ⟨hx, hb, hml, hown, hts⟩ (c_forgetS l dC dI ky s.heap.size st codes (nI 0) (nI 0)) (cwV 0 hts gX9_read_X9_forget rfl rfl rfl (by decide +kernel) ⟨(Nat.le_of_ble_eq_true rfl), (Nat.le_of_ble_eq_true rfl)⟩) (pre_UV hK hP hD [0] (by decide) rfl (ci := 9) (q0 := 0) rfl rfl) rfl rfl hl.1 rfl (lv_room (Nat.le_of_ble_eq_true rfl)) dX9_read_1 ⟨(Nat.le_of_ble_eq_true rfl), (Nat.le_of_ble_eq_true rfl)⟩) hP hD hS hA [0] [1] rfl rfl (by decide) (by decide) (fun  u1 H locs p2 hP hD hS => ?_)
  refine W.widen (k := 0) (n := 0) (Nat.le_of_ble_eq_true rfl) (Nat.le_of_ble_eq_true rfl) ?_
  have hP : va_P (dC, dI) vwCl [(reader, .inr (5, [.ref tape, .int (nI 0), .int (nI 200), .int (nI 0), .int (nI 0), .int (nI 0), .int (-1 : Int32), .int (nI 0), .long 0, .int (nI 0), .int (nI 0)])), (st, .inr (9, [.ref codes, .int (nI 0), .int (nI 0)]))] H := hP
  have hD : va_D A [(reader, .inr (5, [.ref tape, .int (nI 0), .int (nI 200), .int (nI 0), .int (nI 0), .int (nI 0), .int (-1 : Int32), .int (nI 0), .long 0, .int (nI 0), .int (nI 0)])), (st, .inr (9, [.ref codes, .int (nI 0), .int (nI 0)]))] := hD
  refine lv_aload_n hx hb dX9_read_4 rfl (lv_at hl 0 rfl) ?_
  refine lv_aload_n hx hb dX9_read_5 rfl (lv_at hl 1 rfl) ?_
  refine lv_aload_n hx hb dX9_read_6 rfl (lv_at hl 2 rfl) ?_
  refine lv_iconst (v := nI 1) hx hb dX9_read_7 (by decide) ?_
  refine r_call_i (wr := []) (va_runV (As := [.ref reader, .ref a, .int (nI 1)]) (rest := []) ⟨hx, hb, hml, hown, hts⟩ (c_readCond l dC dI ky H.size st codes reader tape a) (cwV 3 hts gX9_read_X9_readCond rfl rfl rfl (by decide +kernel) ⟨(Nat.le_of_ble_eq_true rfl), (Nat.le_of_ble_eq_true rfl)⟩) (pre_UV hK hP hD [1, 0] (by decide) rfl (ci := 9) (q0 := 1) rfl rfl) rfl rfl hl.1 rfl (lv_room (Nat.le_of_ble_eq_true rfl)) dX9_read_8 ⟨(Nat.le_of_ble_eq_true rfl), (Nat.le_of_ble_eq_true rfl)⟩) hP hD hS hA [1, 0] [] rfl rfl (by decide) (by decide) (fun r5 u3 H locs p4 hP hD hS => ?_)
  try dsimp only at p4
  have p6 := p4
  refine W.widen (k := 0) (n := 0) (Nat.le_of_ble_eq_true rfl) (Nat.le_of_ble_eq_true rfl) ?_
  have hP : va_P (dC, dI) vwCl [(st, .inr (9, [.ref codes, .int (nI 0), .int (nI 0)])), (reader, .inr (5, [.ref tape, .int (nI 0), .int (nI 200), .int (nI 0), .int (nI 0), .int (nI 0), .int (-1 : Int32), .int (nI 0), .long 0, .int (nI 1), .int (nI 0)]))] H := hP
  have hD : va_D A [(st, .inr (9, [.ref codes, .int (nI 0), .int (nI 0)])), (reader, .inr (5, [.ref tape, .int (nI 0), .int (nI 200), .int (nI 0), .int (nI 0), .int (nI 0), .int (-1 : Int32), .int (nI 0), .long 0, .int (nI 1), .int (nI 0)]))] := hD
  subst p6
  refine lv_if_ne (tgt := 16) hx hb dX9_read_11 (by decide) (fun c7 => absurd c7 (by decide)) (fun c7 => ?_)
  refine lv_iconst (v := nI 0) hx hb dX9_read_14 (by decide) ?_
  have hP9 := hP.sub (ws' := [(st, .inr (9, [.ref codes, .int (nI 0), .int (nI 0)])), (reader, .inr (5, [.ref tape, .int (nI 0), .int (nI 200), .int (nI 0), .int (nI 0), .int (nI 0), .int (-1 : Int32), .int (nI 0), .long 0, .int (nI 1), .int (nI 0)]))]) [0, 1] rfl
  have hD9 := hD.sub (ws' := [(st, .inr (9, [.ref codes, .int (nI 0), .int (nI 0)])), (reader, .inr (5, [.ref tape, .int (nI 0), .int (nI 200), .int (nI 0), .int (nI 0), .int (nI 0), .int (-1 : Int32), .int (nI 0), .long 0, .int (nI 1), .int (nI 0)]))]) [0, 1] (by decide) rfl
  refine W.widen (k := 0) (n := 0) (Nat.le_of_ble_eq_true rfl) (Nat.le_of_ble_eq_true rfl) ?_
  exact W.zret (v := nI 0) hx hb hr (by decide) (fun t ht9 hW9 => ⟨⟨nI 0, (), rfl, rfl, by rw [ht9]; exact hP9, va_K.moved hW9.alike hK, hD9⟩, hS.F ht9⟩) hS.2.2 dX9_read_15
set_option maxHeartbeats 4000000 in
set_option maxRecDepth 100000 in
theorem c_Route_init (l : Launch) (dC : Nat → ClassId) (dI : Nat → Nat → Nat) (ky : Nat → ClassId) (sz : Nat) (route : Nat)  : Met l yX6_init wsX6_init ({ frames := 1, cells := 2, slots := 72, locals := 12 }) (PcU dC dI ky [.ref route] [(route, .inr (6, [.null, .null, .int (nI 0), .int (nI 0)]))] sz) (va_Qv (fun (u : Nat × Nat) => match u with | (farness, sides) => True) (BU dC dI ky (fun (u : Nat × Nat) => match u with | (farness, sides) => [(route, .inr (6, [.ref farness, .ref sides, .int (nI 0), .int (-1 : Int32)]))]) (va_A [(route, .inr (6, [.null, .null, .int (nI 0), .int (nI 0)]))] sz)) (va_A [(route, .inr (6, [.null, .null, .int (nI 0), .int (nI 0)]))] sz)) 2 72 (va_A [(route, .inr (6, [.null, .null, .int (nI 0), .int (nI 0)]))] sz) := by
  refine Met.ofW (cc := cX6_init) (maxL := 1) (ret := none) (by decide) rfl ?_
  intro p e s m args below meth c s₁ B hml hv
  obtain ⟨rfl, hsz, hP, hK, hD0⟩ := hv
  have hx := B.exec
  have hb := B.bytes
  have hr := B.returns
  have hts := atoms_spec (ws := wsX6_init) B.pre
  have hown : s.vm.findClass RX6 = some m.cls := findClass_of_methodNamed B.named
  have hlocks := B.notSynchronized
  have hini0 : meth.name = "<init>" := (name_of_methodNamed B.named B.method).1
  have hin6 : ∀ w ∈ u_ws RX6 TX6 4, w ∈ wsX6_init := by decide +kernel
  subst hsz
  have hD := hD0.self (sz := s.heap.size)
  generalize hAe : va_A [(route, .inr (6, [.null, .null, .int (nI 0), .int (nI 0)]))] s.heap.size = A at hD ⊢
  have hA : ∀ q : Nat, s.heap.size ≤ q → A q := fun q h => by rw [← hAe]; exact Or.inr h
  have hS : va_S A s.heap s.heap [] := va_S.rf
  have hP : va_P (dC, dI) vwCl [(route, .inr (6, [.null, .null, .int (nI 0), .int (nI 0)]))] s.heap := hP
  have hl := lv_entry ([.ref route]) (n := 1) (Nat.le_of_ble_eq_true rfl)
  rw [lg_entry_eq]
  generalize (lg_sl ([.ref route]) ++ List.replicate (1 - (lg_sl ([.ref route])).length) Slot.unset).toArray = ls at hl ⊢
  have hl : lv_has ls 1 [(0, .ref route)] := hl
  have hH0 : True := trivial
  refine lv_aload_n hx hb dX6_init_0 rfl (lv_at hl 0 rfl) ?_
  refine W.objInit hx hb hown (hts _ (List.mem_of_getElem? (i := 1) rfl)) (hts _ (List.mem_of_getElem? (i := 2) rfl)) (hts _ (List.mem_of_getElem? (i := 3) rfl)) rfl (by rw [hml]; exact hl.1) rfl dX6_init_1 (Nat.le_of_ble_eq_true rfl) (Nat.le_of_ble_eq_true rfl) ?_
  refine W.eq (g2 := F0 m 4 ls []) rfl ?_
  refine lv_aload_n hx hb dX6_init_4 rfl (lv_at hl 0 rfl) ?_
  refine lv_bipush (v := nI 36) hx hb dX6_init_5 (by decide) ?_
  refine r_newI hx hb (hts (.arrayClass .int) (List.mem_of_getElem? (i := 4) rfl)) hK hP hD hS hA (by decide) (by decide) (Nat.le_of_ble_eq_true rfl) (Nat.le_of_ble_eq_true rfl) dX6_init_7 (fun q1 H hP hD hS => ?_)
  refine W.widen (k := 1) (n := 36) (Nat.le_of_ble_eq_true rfl) (Nat.le_of_ble_eq_true rfl) ?_
  have hP : va_P (dC, dI) vwCl [(route, .inr (6, [.null, .null, .int (nI 0), .int (nI 0)])), (q1, .inl (ky 0, 36, .inl (fun _ => 0)))] H := hP
  have hD : va_D A [(route, .inr (6, [.null, .null, .int (nI 0), .int (nI 0)])), (q1, .inl (ky 0, 36, .inl (fun _ => 0)))] := hD
  refine va_putF (D := (dC, dI)) (ci := 6) (v := .ref q1) (ty := .array .int) (C := RX6) (T := TX6) (N := 4) hx hb hts hin6 tyX6 tyX6_ok nmX6 hown hK hP hD hS 0 rfl rfl 0 (by decide) (hts (.fieldLink RX6 9 "PorridgeSea$Route" "farness" "[I") (List.mem_of_getElem? (i := 5) rfl)) (fun _ h9 => h9) rfl hini0 rfl (by decide +kernel) rfl rfl (Nat.le_of_ble_eq_true rfl) dX6_init_9 (fun H locs hP hD hS => ?_)
  have hP : va_P (dC, dI) vwCl [(route, .inr (6, [.ref q1, .null, .int (nI 0), .int (nI 0)])), (q1, .inl (ky 0, 36, .inl (fun _ => 0)))] H := hP
  have hD : va_D A [(route, .inr (6, [.ref q1, .null, .int (nI 0), .int (nI 0)])), (q1, .inl (ky 0, 36, .inl (fun _ => 0)))] := hD
  refine lv_aload_n hx hb dX6_init_12 rfl (lv_at hl 0 rfl) ?_
  refine lv_bipush (v := nI 36) hx hb dX6_init_13 (by decide) ?_
  refine r_newI hx hb (hts (.arrayClass .int) (List.mem_of_getElem? (i := 4) rfl)) hK hP hD hS hA (by decide) (by decide) (Nat.le_of_ble_eq_true rfl) (Nat.le_of_ble_eq_true rfl) dX6_init_15 (fun q2 H hP hD hS => ?_)
  refine W.widen (k := 2) (n := 72) (Nat.le_of_ble_eq_true rfl) (Nat.le_of_ble_eq_true rfl) ?_
  have hP : va_P (dC, dI) vwCl [(route, .inr (6, [.ref q1, .null, .int (nI 0), .int (nI 0)])), (q1, .inl (ky 0, 36, .inl (fun _ => 0))), (q2, .inl (ky 0, 36, .inl (fun _ => 0)))] H := hP
  have hD : va_D A [(route, .inr (6, [.ref q1, .null, .int (nI 0), .int (nI 0)])), (q1, .inl (ky 0, 36, .inl (fun _ => 0))), (q2, .inl (ky 0, 36, .inl (fun _ => 0)))] := hD
  refine va_putF (D := (dC, dI)) (ci := 6) (v := .ref q2) (ty := .array .int) (C := RX6) (T := TX6) (N := 4) hx hb hts hin6 tyX6 tyX6_ok nmX6 hown hK hP hD hS 0 rfl rfl 1 (by decide) (hts (.fieldLink RX6 15 "PorridgeSea$Route" "sides" "[I") (List.mem_of_getElem? (i := 6) rfl)) (fun _ h9 => h9) rfl hini0 rfl (by decide +kernel) rfl rfl (Nat.le_of_ble_eq_true rfl) dX6_init_17 (fun H locs hP hD hS => ?_)
  have hP : va_P (dC, dI) vwCl [(route, .inr (6, [.ref q1, .ref q2, .int (nI 0), .int (nI 0)])), (q1, .inl (ky 0, 36, .inl (fun _ => 0))), (q2, .inl (ky 0, 36, .inl (fun _ => 0)))] H := hP
  have hD : va_D A [(route, .inr (6, [.ref q1, .ref q2, .int (nI 0), .int (nI 0)])), (q1, .inl (ky 0, 36, .inl (fun _ => 0))), (q2, .inl (ky 0, 36, .inl (fun _ => 0)))] := hD
  refine lv_aload_n hx hb dX6_init_20 rfl (lv_at hl 0 rfl) ?_
  refine lv_iconst (v := nI 0) hx hb dX6_init_21 (by decide) ?_
  refine va_put (D := (dC, dI)) (ci := 6) (v := .int (nI 0)) (ty := .int) (C := RX6) (T := TX6) (N := 4) hx hb hts hin6 tyX6 tyX6_ok nmX6 hown hK hP hD hS 0 rfl rfl 2 (by decide) (hts (.fieldLink RX6 18 "PorridgeSea$Route" "stepCount" "I") (List.mem_of_getElem? (i := 7) rfl)) (fun _ h9 => h9) rfl (by decide +kernel) rfl rfl (Nat.le_of_ble_eq_true rfl) dX6_init_22 (fun H locs hP hD hS => ?_)
  have hP : va_P (dC, dI) vwCl [(route, .inr (6, [.ref q1, .ref q2, .int (nI 0), .int (nI 0)])), (q1, .inl (ky 0, 36, .inl (fun _ => 0))), (q2, .inl (ky 0, 36, .inl (fun _ => 0)))] H := hP
  have hD : va_D A [(route, .inr (6, [.ref q1, .ref q2, .int (nI 0), .int (nI 0)])), (q1, .inl (ky 0, 36, .inl (fun _ => 0))), (q2, .inl (ky 0, 36, .inl (fun _ => 0)))] := hD
  refine lv_aload_n hx hb dX6_init_25 rfl (lv_at hl 0 rfl) ?_
  refine lv_iconst (v := (-1 : Int32)) hx hb dX6_init_26 (by decide) ?_
  refine va_put (D := (dC, dI)) (ci := 6) (v := .int (-1 : Int32)) (ty := .int) (C := RX6) (T := TX6) (N := 4) hx hb hts hin6 tyX6 tyX6_ok nmX6 hown hK hP hD hS 0 rfl rfl 3 (by decide) (hts (.fieldLink RX6 22 "PorridgeSea$Route" "daysTaken" "I") (List.mem_of_getElem? (i := 8) rfl)) (fun _ h9 => h9) rfl (by decide +kernel) rfl rfl (Nat.le_of_ble_eq_true rfl) dX6_init_27 (fun H locs hP hD hS => ?_)
  have hP : va_P (dC, dI) vwCl [(route, .inr (6, [.ref q1, .ref q2, .int (nI 0), .int (-1 : Int32)])), (q1, .inl (ky 0, 36, .inl (fun _ => 0))), (q2, .inl (ky 0, 36, .inl (fun _ => 0)))] H := hP
  have hD : va_D A [(route, .inr (6, [.ref q1, .ref q2, .int (nI 0), .int (-1 : Int32)])), (q1, .inl (ky 0, 36, .inl (fun _ => 0))), (q2, .inl (ky 0, 36, .inl (fun _ => 0)))] := hD
  have hP9 := hP.sub (ws' := [(route, .inr (6, [.ref q1, .ref q2, .int (nI 0), .int (-1 : Int32)]))]) [0] rfl
  have hD9 := hD.sub (ws' := [(route, .inr (6, [.ref q1, .ref q2, .int (nI 0), .int (-1 : Int32)]))]) [0] (by decide) rfl
  refine W.widen (k := 2) (n := 72) (Nat.le_of_ble_eq_true rfl) (Nat.le_of_ble_eq_true rfl) ?_
  exact W.vret hx hb hr (fun t ht9 hW9 => ⟨⟨(q1, q2), rfl, trivial, by rw [ht9]; exact hP9, va_K.moved hW9.alike hK, hD9⟩, hS.F ht9⟩) hS.2.2 dX6_init_30
set_option maxHeartbeats 4000000 in
set_option maxRecDepth 100000 in
theorem c_routeFind0 (l : Launch) (dC : Nat → ClassId) (dI : Nat → Nat → Nat) (ky : Nat → ClassId) (route : Nat) (b : Int32) (x : Int32) (a : Nat) (heat : Int32) (cools : Int32) (skinHeat : Int32) (today : Int32) (stirs : Int32) (steps : Int32) (thickness : Nat) (lumpNames : Nat) (lumpCells : Nat) (boatNames : Nat) (boatCells : Nat) (loads : Nat) (spoons : Nat) (spoonsLeft : Nat) (depths : Nat)  : Met l yX6_find wsX6_find ({ frames := 1, cells := 0, slots := 0, locals := 21 }) (PcP dC dI ky [.ref route, .ref a, .int b, .int x] [(a, .inr (7, [.int (nI 4), .int (nI 4), .int heat, .int cools, .int skinHeat, .int today, .int stirs, .int steps, .int (nI 0), .int (nI 0), .ref thickness, .ref lumpNames, .ref lumpCells, .ref boatNames, .ref boatCells, .ref loads, .ref spoons, .ref spoonsLeft, .ref depths]))]) (vp_Si (fun r : Int32 => r = (-1 : Int32))) 0 0 (fun _ => False) := by
  refine Met.ofW (cc := cX6_find) (maxL := 7) (ret := (some .int)) (by decide) rfl ?_
  intro p e s m args below meth c s₁ B hml hv
  obtain ⟨rfl, hP, hK⟩ := hv
  have hx := B.exec
  have hb := B.bytes
  have hr := B.returns
  have hts := atoms_spec (ws := wsX6_find) B.pre
  have hown : s.vm.findClass RX6 = some m.cls := findClass_of_methodNamed B.named
  have hlocks := B.notSynchronized
  have hl := lv_entry ([.ref route, .ref a, .int b, .int x]) (n := 7) (Nat.le_of_ble_eq_true rfl)
  rw [lg_entry_eq]
  generalize (lg_sl ([.ref route, .ref a, .int b, .int x]) ++ List.replicate (7 - (lg_sl ([.ref route, .ref a, .int b, .int x])).length) Slot.unset).toArray = ls at hl ⊢
  have hl : lv_has ls 7 [(0, .ref route), (1, .ref a), (2, .int b), (3, .int x)] := hl
  refine lv_aload_n hx hb dX6_find_0 rfl (lv_at hl 1 rfl) ?_
  refine lv_iload_n hx hb dX6_find_1 rfl (lv_at hl 2 rfl) ?_
  refine vp_callSi (W.runV (As := [.int b]) (rest := []) ⟨hx, hb, hml, hown, hts⟩ (c_isBoat0 l dC dI ky a heat cools skinHeat today stirs steps thickness lumpNames lumpCells boatNames boatCells loads spoons spoonsLeft depths b) (cwV 1 hts gX6_find_X7_isBoat rfl rfl rfl (by decide +kernel) ⟨(Nat.le_of_ble_eq_true rfl), (Nat.le_of_ble_eq_true rfl)⟩) (pre_PV hK hP [0] rfl (ci := 7) (q0 := 0) rfl rfl) rfl rfl hl.1 rfl (lv_room (Nat.le_of_ble_eq_true rfl)) dX6_find_2 ⟨(Nat.le_of_ble_eq_true rfl), (Nat.le_of_ble_eq_true rfl)⟩) (fun r1 p2 => ?_)
  subst p2
  refine lv_if_eq (tgt := 24) hx hb dX6_find_5 (by decide) (fun c3 => ?_) (fun c3 => absurd (by decide) c3)
  refine lv_iconst (v := (-1 : Int32)) hx hb dX6_find_24 (by decide) ?_
  exact W.iret (v := (-1 : Int32)) hx hb hr (fun t ht9 hW9 => ⟨(-1 : Int32), rfl, rfl, ht9⟩) (fun _ h => absurd h List.not_mem_nil) dX6_find_25
set_option maxRecDepth 20000 in
theorem lf_sideAt0_1 (route : Nat) (farness : Nat) (sides : Nat) (x : Int32) (c1 : ¬ x < 0) (c2 : ¬ nI 0 ≤ x) : False := by
  have k_0 := ia_n 0 (by decide)
  simp only [ia_lt, ia_le, ia_eq, ia_m1, ia_0, ia_1, ne_eq, true_and, and_true, false_and, and_false, or_false, false_or, or_true, true_or, not_true_eq_false, not_false_eq_true] at *
  all_goals omega
set_option maxHeartbeats 4000000 in
set_option maxRecDepth 100000 in
theorem c_sideAt0 (l : Launch) (dC : Nat → ClassId) (dI : Nat → Nat → Nat) (ky : Nat → ClassId) (route : Nat) (farness : Nat) (sides : Nat) (x : Int32)  : Met l yX6_sideAt wsX6_sideAt ({ frames := 0, cells := 0, slots := 0, locals := 0 }) (PcP dC dI ky [.ref route, .int x] [(route, .inr (6, [.ref farness, .ref sides, .int (nI 0), .int (-1 : Int32)]))]) (vp_Si (fun r : Int32 => r = (-1 : Int32))) 0 0 (fun _ => False) := by
  refine Met.ofW (cc := cX6_sideAt) (maxL := 2) (ret := (some .int)) (by decide) rfl ?_
  intro p e s m args below meth c s₁ B hml hv
  obtain ⟨rfl, hP, hK⟩ := hv
  have hx := B.exec
  have hb := B.bytes
  have hr := B.returns
  have hts := atoms_spec (ws := wsX6_sideAt) B.pre
  have hown : s.vm.findClass RX6 = some m.cls := findClass_of_methodNamed B.named
  have hlocks := B.notSynchronized
  have hin6 : ∀ w ∈ u_ws RX6 TX6 4, w ∈ wsX6_sideAt := by decide +kernel
  have hl := lv_entry ([.ref route, .int x]) (n := 2) (Nat.le_of_ble_eq_true rfl)
  rw [lg_entry_eq]
  generalize (lg_sl ([.ref route, .int x]) ++ List.replicate (2 - (lg_sl ([.ref route, .int x])).length) Slot.unset).toArray = ls at hl ⊢
  have hl : lv_has ls 2 [(0, .ref route), (1, .int x)] := hl
  refine lv_iload_n hx hb dX6_sideAt_0 rfl (lv_at hl 1 rfl) ?_
  refine lv_if_lt (tgt := 21) hx hb dX6_sideAt_1 (by decide) (fun c1 => ?_) (fun c1 => ?_)
  · refine lv_iconst (v := (-1 : Int32)) hx hb dX6_sideAt_21 (by decide) ?_
    exact W.iret (v := (-1 : Int32)) hx hb hr (fun t ht9 hW9 => ⟨(-1 : Int32), rfl, rfl, ht9⟩) (fun _ h => absurd h List.not_mem_nil) dX6_sideAt_22
  · refine lv_iload_n hx hb dX6_sideAt_4 rfl (lv_at hl 1 rfl) ?_
    refine lv_aload_n hx hb dX6_sideAt_5 rfl (lv_at hl 0 rfl) ?_
    refine va_get (D := (dC, dI)) (ci := 6) (v := .int (nI 0)) (C := RX6) (T := TX6) (N := 4) hx hb hts hin6 hown hK hP 0 rfl rfl 2 (by decide) (hts (.fieldLink RX6 18 "PorridgeSea$Route" "stepCount" "I") (List.mem_of_getElem? (i := 1) rfl)) (fun _ h9 => h9) rfl dX6_sideAt_6 ?_
    refine lv_icmp_ge (tgt := 21) hx hb dX6_sideAt_9 (by decide) (fun c2 => ?_) (fun c2 => ?_)
    · refine lv_iconst (v := (-1 : Int32)) hx hb dX6_sideAt_21 (by decide) ?_
      exact W.iret (v := (-1 : Int32)) hx hb hr (fun t ht9 hW9 => ⟨(-1 : Int32), rfl, rfl, ht9⟩) (fun _ h => absurd h List.not_mem_nil) dX6_sideAt_22
    · exact ((lf_sideAt0_1 route farness sides x c1 c2)).elim
set_option maxHeartbeats 4000000 in
set_option maxRecDepth 100000 in
theorem c_Meeting_init (l : Launch) (dC : Nat → ClassId) (dI : Nat → Nat → Nat) (ky : Nat → ClassId) (sz : Nat) (meeting : Nat)  : Met l yX4_init wsX4_init ({ frames := 1, cells := 2, slots := 6, locals := 12 }) (PcU dC dI ky [.ref meeting] [(meeting, .inr (4, [.null, .null, .int (nI 0)]))] sz) (va_Qv (fun (u : Nat × Nat) => match u with | (tried, found) => True) (BU dC dI ky (fun (u : Nat × Nat) => match u with | (tried, found) => [(meeting, .inr (4, [.ref tried, .ref found, .int (nI 0)]))]) (va_A [(meeting, .inr (4, [.null, .null, .int (nI 0)]))] sz)) (va_A [(meeting, .inr (4, [.null, .null, .int (nI 0)]))] sz)) 2 6 (va_A [(meeting, .inr (4, [.null, .null, .int (nI 0)]))] sz) := by
  refine Met.ofW (cc := cX4_init) (maxL := 1) (ret := none) (by decide) rfl ?_
  intro p e s m args below meth c s₁ B hml hv
  obtain ⟨rfl, hsz, hP, hK, hD0⟩ := hv
  have hx := B.exec
  have hb := B.bytes
  have hr := B.returns
  have hts := atoms_spec (ws := wsX4_init) B.pre
  have hown : s.vm.findClass RX4 = some m.cls := findClass_of_methodNamed B.named
  have hlocks := B.notSynchronized
  have hini0 : meth.name = "<init>" := (name_of_methodNamed B.named B.method).1
  have hin4 : ∀ w ∈ u_ws RX4 TX4 3, w ∈ wsX4_init := by decide +kernel
  subst hsz
  have hD := hD0.self (sz := s.heap.size)
  generalize hAe : va_A [(meeting, .inr (4, [.null, .null, .int (nI 0)]))] s.heap.size = A at hD ⊢
  have hA : ∀ q : Nat, s.heap.size ≤ q → A q := fun q h => by rw [← hAe]; exact Or.inr h
  have hS : va_S A s.heap s.heap [] := va_S.rf
  have hP : va_P (dC, dI) vwCl [(meeting, .inr (4, [.null, .null, .int (nI 0)]))] s.heap := hP
  have hl := lv_entry ([.ref meeting]) (n := 1) (Nat.le_of_ble_eq_true rfl)
  rw [lg_entry_eq]
  generalize (lg_sl ([.ref meeting]) ++ List.replicate (1 - (lg_sl ([.ref meeting])).length) Slot.unset).toArray = ls at hl ⊢
  have hl : lv_has ls 1 [(0, .ref meeting)] := hl
  have hH0 : True := trivial
  refine lv_aload_n hx hb dX4_init_0 rfl (lv_at hl 0 rfl) ?_
  refine W.objInit hx hb hown (hts _ (List.mem_of_getElem? (i := 1) rfl)) (hts _ (List.mem_of_getElem? (i := 2) rfl)) (hts _ (List.mem_of_getElem? (i := 3) rfl)) rfl (by rw [hml]; exact hl.1) rfl dX4_init_1 (Nat.le_of_ble_eq_true rfl) (Nat.le_of_ble_eq_true rfl) ?_
  refine W.eq (g2 := F0 m 4 ls []) rfl ?_
  refine lv_aload_n hx hb dX4_init_4 rfl (lv_at hl 0 rfl) ?_
  refine lv_iconst (v := nI 3) hx hb dX4_init_5 (by decide) ?_
  refine r_newI hx hb (hts (.arrayClass .int) (List.mem_of_getElem? (i := 4) rfl)) hK hP hD hS hA (by decide) (by decide) (Nat.le_of_ble_eq_true rfl) (Nat.le_of_ble_eq_true rfl) dX4_init_6 (fun q1 H hP hD hS => ?_)
  refine W.widen (k := 1) (n := 3) (Nat.le_of_ble_eq_true rfl) (Nat.le_of_ble_eq_true rfl) ?_
  have hP : va_P (dC, dI) vwCl [(meeting, .inr (4, [.null, .null, .int (nI 0)])), (q1, .inl (ky 0, 3, .inl (fun _ => 0)))] H := hP
  have hD : va_D A [(meeting, .inr (4, [.null, .null, .int (nI 0)])), (q1, .inl (ky 0, 3, .inl (fun _ => 0)))] := hD
  refine va_putF (D := (dC, dI)) (ci := 4) (v := .ref q1) (ty := .array .int) (C := RX4) (T := TX4) (N := 3) hx hb hts hin4 tyX4 tyX4_ok nmX4 hown hK hP hD hS 0 rfl rfl 0 (by decide) (hts (.fieldLink RX4 11 "PorridgeSea$Meeting" "tried" "[I") (List.mem_of_getElem? (i := 5) rfl)) (fun _ h9 => h9) rfl hini0 rfl (by decide +kernel) rfl rfl (Nat.le_of_ble_eq_true rfl) dX4_init_8 (fun H locs hP hD hS => ?_)
  have hP : va_P (dC, dI) vwCl [(meeting, .inr (4, [.ref q1, .null, .int (nI 0)])), (q1, .inl (ky 0, 3, .inl (fun _ => 0)))] H := hP
  have hD : va_D A [(meeting, .inr (4, [.ref q1, .null, .int (nI 0)])), (q1, .inl (ky 0, 3, .inl (fun _ => 0)))] := hD
  refine lv_aload_n hx hb dX4_init_11 rfl (lv_at hl 0 rfl) ?_
  refine lv_iconst (v := nI 3) hx hb dX4_init_12 (by decide) ?_
  refine r_newI hx hb (hts (.arrayClass .int) (List.mem_of_getElem? (i := 4) rfl)) hK hP hD hS hA (by decide) (by decide) (Nat.le_of_ble_eq_true rfl) (Nat.le_of_ble_eq_true rfl) dX4_init_13 (fun q2 H hP hD hS => ?_)
  refine W.widen (k := 2) (n := 6) (Nat.le_of_ble_eq_true rfl) (Nat.le_of_ble_eq_true rfl) ?_
  have hP : va_P (dC, dI) vwCl [(meeting, .inr (4, [.ref q1, .null, .int (nI 0)])), (q1, .inl (ky 0, 3, .inl (fun _ => 0))), (q2, .inl (ky 0, 3, .inl (fun _ => 0)))] H := hP
  have hD : va_D A [(meeting, .inr (4, [.ref q1, .null, .int (nI 0)])), (q1, .inl (ky 0, 3, .inl (fun _ => 0))), (q2, .inl (ky 0, 3, .inl (fun _ => 0)))] := hD
  refine va_putF (D := (dC, dI)) (ci := 4) (v := .ref q2) (ty := .array .int) (C := RX4) (T := TX4) (N := 3) hx hb hts hin4 tyX4 tyX4_ok nmX4 hown hK hP hD hS 0 rfl rfl 1 (by decide) (hts (.fieldLink RX4 15 "PorridgeSea$Meeting" "found" "[I") (List.mem_of_getElem? (i := 6) rfl)) (fun _ h9 => h9) rfl hini0 rfl (by decide +kernel) rfl rfl (Nat.le_of_ble_eq_true rfl) dX4_init_15 (fun H locs hP hD hS => ?_)
  have hP : va_P (dC, dI) vwCl [(meeting, .inr (4, [.ref q1, .ref q2, .int (nI 0)])), (q1, .inl (ky 0, 3, .inl (fun _ => 0))), (q2, .inl (ky 0, 3, .inl (fun _ => 0)))] H := hP
  have hD : va_D A [(meeting, .inr (4, [.ref q1, .ref q2, .int (nI 0)])), (q1, .inl (ky 0, 3, .inl (fun _ => 0))), (q2, .inl (ky 0, 3, .inl (fun _ => 0)))] := hD
  refine lv_aload_n hx hb dX4_init_18 rfl (lv_at hl 0 rfl) ?_
  refine lv_iconst (v := nI 0) hx hb dX4_init_19 (by decide) ?_
  refine va_put (D := (dC, dI)) (ci := 4) (v := .int (nI 0)) (ty := .int) (C := RX4) (T := TX4) (N := 3) hx hb hts hin4 tyX4 tyX4_ok nmX4 hown hK hP hD hS 0 rfl rfl 2 (by decide) (hts (.fieldLink RX4 18 "PorridgeSea$Meeting" "foundCount" "I") (List.mem_of_getElem? (i := 7) rfl)) (fun _ h9 => h9) rfl (by decide +kernel) rfl rfl (Nat.le_of_ble_eq_true rfl) dX4_init_20 (fun H locs hP hD hS => ?_)
  have hP : va_P (dC, dI) vwCl [(meeting, .inr (4, [.ref q1, .ref q2, .int (nI 0)])), (q1, .inl (ky 0, 3, .inl (fun _ => 0))), (q2, .inl (ky 0, 3, .inl (fun _ => 0)))] H := hP
  have hD : va_D A [(meeting, .inr (4, [.ref q1, .ref q2, .int (nI 0)])), (q1, .inl (ky 0, 3, .inl (fun _ => 0))), (q2, .inl (ky 0, 3, .inl (fun _ => 0)))] := hD
  have hP9 := hP.sub (ws' := [(meeting, .inr (4, [.ref q1, .ref q2, .int (nI 0)]))]) [0] rfl
  have hD9 := hD.sub (ws' := [(meeting, .inr (4, [.ref q1, .ref q2, .int (nI 0)]))]) [0] (by decide) rfl
  refine W.widen (k := 2) (n := 6) (Nat.le_of_ble_eq_true rfl) (Nat.le_of_ble_eq_true rfl) ?_
  exact W.vret hx hb hr (fun t ht9 hW9 => ⟨⟨(q1, q2), rfl, trivial, by rw [ht9]; exact hP9, va_K.moved hW9.alike hK, hD9⟩, hS.F ht9⟩) hS.2.2 dX4_init_23
set_option maxHeartbeats 4000000 in
set_option maxRecDepth 100000 in
theorem c_meetFind0 (l : Launch) (dC : Nat → ClassId) (dI : Nat → Nat → Nat) (ky : Nat → ClassId) (meeting : Nat) (b : Int32) (x : Int32) (a : Nat) (heat : Int32) (cools : Int32) (skinHeat : Int32) (today : Int32) (stirs : Int32) (steps : Int32) (thickness : Nat) (lumpNames : Nat) (lumpCells : Nat) (boatNames : Nat) (boatCells : Nat) (loads : Nat) (spoons : Nat) (spoonsLeft : Nat) (depths : Nat)  : Met l yX4_find wsX4_find ({ frames := 1, cells := 0, slots := 0, locals := 21 }) (PcP dC dI ky [.ref meeting, .ref a, .int b, .int x] [(a, .inr (7, [.int (nI 4), .int (nI 4), .int heat, .int cools, .int skinHeat, .int today, .int stirs, .int steps, .int (nI 0), .int (nI 0), .ref thickness, .ref lumpNames, .ref lumpCells, .ref boatNames, .ref boatCells, .ref loads, .ref spoons, .ref spoonsLeft, .ref depths]))]) (vp_Si (fun r : Int32 => r = (-1 : Int32))) 0 0 (fun _ => False) := by
  refine Met.ofW (cc := cX4_find) (maxL := 5) (ret := (some .int)) (by decide) rfl ?_
  intro p e s m args below meth c s₁ B hml hv
  obtain ⟨rfl, hP, hK⟩ := hv
  have hx := B.exec
  have hb := B.bytes
  have hr := B.returns
  have hts := atoms_spec (ws := wsX4_find) B.pre
  have hown : s.vm.findClass RX4 = some m.cls := findClass_of_methodNamed B.named
  have hlocks := B.notSynchronized
  have hl := lv_entry ([.ref meeting, .ref a, .int b, .int x]) (n := 5) (Nat.le_of_ble_eq_true rfl)
  rw [lg_entry_eq]
  generalize (lg_sl ([.ref meeting, .ref a, .int b, .int x]) ++ List.replicate (5 - (lg_sl ([.ref meeting, .ref a, .int b, .int x])).length) Slot.unset).toArray = ls at hl ⊢
  have hl : lv_has ls 5 [(0, .ref meeting), (1, .ref a), (2, .int b), (3, .int x)] := hl
  refine lv_aload_n hx hb dX4_find_0 rfl (lv_at hl 1 rfl) ?_
  refine lv_iload_n hx hb dX4_find_1 rfl (lv_at hl 2 rfl) ?_
  refine vp_callSi (W.runV (As := [.int b]) (rest := []) ⟨hx, hb, hml, hown, hts⟩ (c_isBoat0 l dC dI ky a heat cools skinHeat today stirs steps thickness lumpNames lumpCells boatNames boatCells loads spoons spoonsLeft depths b) (cwV 1 hts gX4_find_X7_isBoat rfl rfl rfl (by decide +kernel) ⟨(Nat.le_of_ble_eq_true rfl), (Nat.le_of_ble_eq_true rfl)⟩) (pre_PV hK hP [0] rfl (ci := 7) (q0 := 0) rfl rfl) rfl rfl hl.1 rfl (lv_room (Nat.le_of_ble_eq_true rfl)) dX4_find_2 ⟨(Nat.le_of_ble_eq_true rfl), (Nat.le_of_ble_eq_true rfl)⟩) (fun r1 p2 => ?_)
  subst p2
  refine lv_if_eq (tgt := 24) hx hb dX4_find_5 (by decide) (fun c3 => ?_) (fun c3 => absurd (by decide) c3)
  refine lv_iconst (v := (-1 : Int32)) hx hb dX4_find_24 (by decide) ?_
  exact W.iret (v := (-1 : Int32)) hx hb hr (fun t ht9 hW9 => ⟨(-1 : Int32), rfl, rfl, ht9⟩) (fun _ h => absurd h List.not_mem_nil) dX4_find_25
set_option maxRecDepth 20000 in
theorem lf_stirAt0_1 (meeting : Nat) (tried : Nat) (found : Nat) (x : Int32) (y : Int32) (c1 : ¬ x < 0) (c2 : x < nI 0) : False := by
  have k_0 := ia_n 0 (by decide)
  simp only [ia_lt, ia_le, ia_eq, ia_m1, ia_0, ia_1, ne_eq, true_and, and_true, false_and, and_false, or_false, false_or, or_true, true_or, not_true_eq_false, not_false_eq_true] at *
  all_goals omega
set_option maxHeartbeats 4000000 in
set_option maxRecDepth 100000 in
theorem c_stirAt0 (l : Launch) (dC : Nat → ClassId) (dI : Nat → Nat → Nat) (ky : Nat → ClassId) (meeting : Nat) (tried : Nat) (found : Nat) (x : Int32) (y : Int32)  : Met l yX4_stirAt wsX4_stirAt ({ frames := 0, cells := 0, slots := 0, locals := 0 }) (PcP dC dI ky [.ref meeting, .int x, .int y] [(meeting, .inr (4, [.ref tried, .ref found, .int (nI 0)]))]) (vp_Si (fun r : Int32 => r = (-1 : Int32))) 0 0 (fun _ => False) := by
  refine Met.ofW (cc := cX4_stirAt) (maxL := 3) (ret := (some .int)) (by decide) rfl ?_
  intro p e s m args below meth c s₁ B hml hv
  obtain ⟨rfl, hP, hK⟩ := hv
  have hx := B.exec
  have hb := B.bytes
  have hr := B.returns
  have hts := atoms_spec (ws := wsX4_stirAt) B.pre
  have hown : s.vm.findClass RX4 = some m.cls := findClass_of_methodNamed B.named
  have hlocks := B.notSynchronized
  have hin4 : ∀ w ∈ u_ws RX4 TX4 3, w ∈ wsX4_stirAt := by decide +kernel
  have hl := lv_entry ([.ref meeting, .int x, .int y]) (n := 3) (Nat.le_of_ble_eq_true rfl)
  rw [lg_entry_eq]
  generalize (lg_sl ([.ref meeting, .int x, .int y]) ++ List.replicate (3 - (lg_sl ([.ref meeting, .int x, .int y])).length) Slot.unset).toArray = ls at hl ⊢
  have hl : lv_has ls 3 [(0, .ref meeting), (1, .int x), (2, .int y)] := hl
  refine lv_iload_n hx hb dX4_stirAt_0 rfl (lv_at hl 1 rfl) ?_
  refine lv_if_lt (tgt := 12) hx hb dX4_stirAt_1 (by decide) (fun c1 => ?_) (fun c1 => ?_)
  · refine lv_iconst (v := (-1 : Int32)) hx hb dX4_stirAt_12 (by decide) ?_
    exact W.iret (v := (-1 : Int32)) hx hb hr (fun t ht9 hW9 => ⟨(-1 : Int32), rfl, rfl, ht9⟩) (fun _ h => absurd h List.not_mem_nil) dX4_stirAt_13
  · refine lv_iload_n hx hb dX4_stirAt_4 rfl (lv_at hl 1 rfl) ?_
    refine lv_aload_n hx hb dX4_stirAt_5 rfl (lv_at hl 0 rfl) ?_
    refine va_get (D := (dC, dI)) (ci := 4) (v := .int (nI 0)) (C := RX4) (T := TX4) (N := 3) hx hb hts hin4 hown hK hP 0 rfl rfl 2 (by decide) (hts (.fieldLink RX4 18 "PorridgeSea$Meeting" "foundCount" "I") (List.mem_of_getElem? (i := 1) rfl)) (fun _ h9 => h9) rfl dX4_stirAt_6 ?_
    refine lv_icmp_lt (tgt := 14) hx hb dX4_stirAt_9 (by decide) (fun c2 => ?_) (fun c2 => ?_)
    · exact ((lf_stirAt0_1 meeting tried found x y c1 c2)).elim
    · refine lv_iconst (v := (-1 : Int32)) hx hb dX4_stirAt_12 (by decide) ?_
      exact W.iret (v := (-1 : Int32)) hx hb hr (fun t ht9 hW9 => ⟨(-1 : Int32), rfl, rfl, ht9⟩) (fun _ h => absurd h List.not_mem_nil) dX4_stirAt_13
set_option maxHeartbeats 4000000 in
set_option maxRecDepth 100000 in
theorem c_Sighting_init (l : Launch) (dC : Nat → ClassId) (dI : Nat → Nat → Nat) (ky : Nat → ClassId) (sz : Nat) (sg : Nat)  : Met l yX10_init wsX10_init ({ frames := 1, cells := 0, slots := 0, locals := 12 }) (PcU dC dI ky [.ref sg] [(sg, .inr (10, [.long 0, .int (nI 0)]))] sz) (va_Qv (fun (_ : Unit) => True) (BU dC dI ky (fun (_ : Unit) => [(sg, .inr (10, [.long 0, .int (-1 : Int32)]))]) (va_A [(sg, .inr (10, [.long 0, .int (nI 0)]))] sz)) (va_A [(sg, .inr (10, [.long 0, .int (nI 0)]))] sz)) 0 0 (va_A [(sg, .inr (10, [.long 0, .int (nI 0)]))] sz) := by
  refine Met.ofW (cc := cX10_init) (maxL := 1) (ret := none) (by decide) rfl ?_
  intro p e s m args below meth c s₁ B hml hv
  obtain ⟨rfl, hsz, hP, hK, hD0⟩ := hv
  have hx := B.exec
  have hb := B.bytes
  have hr := B.returns
  have hts := atoms_spec (ws := wsX10_init) B.pre
  have hown : s.vm.findClass RX10 = some m.cls := findClass_of_methodNamed B.named
  have hlocks := B.notSynchronized
  have hini0 : meth.name = "<init>" := (name_of_methodNamed B.named B.method).1
  have hin10 : ∀ w ∈ u_ws RX10 TX10 2, w ∈ wsX10_init := by decide +kernel
  subst hsz
  have hD := hD0.self (sz := s.heap.size)
  generalize hAe : va_A [(sg, .inr (10, [.long 0, .int (nI 0)]))] s.heap.size = A at hD ⊢
  have hA : ∀ q : Nat, s.heap.size ≤ q → A q := fun q h => by rw [← hAe]; exact Or.inr h
  have hS : va_S A s.heap s.heap [] := va_S.rf
  have hP : va_P (dC, dI) vwCl [(sg, .inr (10, [.long 0, .int (nI 0)]))] s.heap := hP
  have hl := lv_entry ([.ref sg]) (n := 1) (Nat.le_of_ble_eq_true rfl)
  rw [lg_entry_eq]
  generalize (lg_sl ([.ref sg]) ++ List.replicate (1 - (lg_sl ([.ref sg])).length) Slot.unset).toArray = ls at hl ⊢
  have hl : lv_has ls 1 [(0, .ref sg)] := hl
  have hH0 : True := trivial
  refine lv_aload_n hx hb dX10_init_0 rfl (lv_at hl 0 rfl) ?_
  refine W.objInit hx hb hown (hts _ (List.mem_of_getElem? (i := 1) rfl)) (hts _ (List.mem_of_getElem? (i := 2) rfl)) (hts _ (List.mem_of_getElem? (i := 3) rfl)) rfl (by rw [hml]; exact hl.1) rfl dX10_init_1 (Nat.le_of_ble_eq_true rfl) (Nat.le_of_ble_eq_true rfl) ?_
  refine W.eq (g2 := F0 m 4 ls []) rfl ?_
  refine lv_aload_n hx hb dX10_init_4 rfl (lv_at hl 0 rfl) ?_
  refine lv_lconst (v := 0) hx hb dX10_init_5 (by decide) ?_
  refine va_put (D := (dC, dI)) (ci := 10) (v := .long 0) (ty := .long) (C := RX10) (T := TX10) (N := 2) hx hb hts hin10 tyX10 tyX10_ok nmX10 hown hK hP hD hS 0 rfl rfl 0 (by decide) (hts (.fieldLink RX10 9 "PorridgeSea$Sighting" "cellBits" "J") (List.mem_of_getElem? (i := 4) rfl)) (fun _ h9 => h9) rfl (by decide +kernel) rfl rfl (Nat.le_of_ble_eq_true rfl) dX10_init_6 (fun H locs hP hD hS => ?_)
  have hP : va_P (dC, dI) vwCl [(sg, .inr (10, [.long 0, .int (nI 0)]))] H := hP
  have hD : va_D A [(sg, .inr (10, [.long 0, .int (nI 0)]))] := hD
  refine lv_aload_n hx hb dX10_init_9 rfl (lv_at hl 0 rfl) ?_
  refine lv_iconst (v := (-1 : Int32)) hx hb dX10_init_10 (by decide) ?_
  refine va_put (D := (dC, dI)) (ci := 10) (v := .int (-1 : Int32)) (ty := .int) (C := RX10) (T := TX10) (N := 2) hx hb hts hin10 tyX10 tyX10_ok nmX10 hown hK hP hD hS 0 rfl rfl 1 (by decide) (hts (.fieldLink RX10 15 "PorridgeSea$Sighting" "bestBoat" "I") (List.mem_of_getElem? (i := 5) rfl)) (fun _ h9 => h9) rfl (by decide +kernel) rfl rfl (Nat.le_of_ble_eq_true rfl) dX10_init_11 (fun H locs hP hD hS => ?_)
  have hP : va_P (dC, dI) vwCl [(sg, .inr (10, [.long 0, .int (-1 : Int32)]))] H := hP
  have hD : va_D A [(sg, .inr (10, [.long 0, .int (-1 : Int32)]))] := hD
  have hP9 := hP.sub (ws' := [(sg, .inr (10, [.long 0, .int (-1 : Int32)]))]) [0] rfl
  have hD9 := hD.sub (ws' := [(sg, .inr (10, [.long 0, .int (-1 : Int32)]))]) [0] (by decide) rfl
  refine W.widen (k := 0) (n := 0) (Nat.le_of_ble_eq_true rfl) (Nat.le_of_ble_eq_true rfl) ?_
  exact W.vret hx hb hr (fun t ht9 hW9 => ⟨⟨(), rfl, trivial, by rw [ht9]; exact hP9, va_K.moved hW9.alike hK, hD9⟩, hS.F ht9⟩) hS.2.2 dX10_init_14
set_option maxHeartbeats 4000000 in
set_option maxRecDepth 100000 in
theorem c_arePairs0 (l : Launch) (dC : Nat → ClassId) (dI : Nat → Nat → Nat) (ky : Nat → ClassId) (a : Nat) (bs : Nat)  : Met l yX10_arePairs wsX10_arePairs ({ frames := 0, cells := 0, slots := 0, locals := 0 }) (PcP dC dI ky [.ref a, .ref bs, .int (nI 0)] []) (vp_Si (fun r : Int32 => r = nI 0)) 0 0 (fun _ => False) := by
  refine Met.ofW (cc := cX10_arePairs) (maxL := 4) (ret := (some .boolean)) (by decide) rfl ?_
  intro p e s m args below meth c s₁ B hml hv
  obtain ⟨rfl, hP, hK⟩ := hv
  have hx := B.exec
  have hb := B.bytes
  have hr := B.returns
  have hts := atoms_spec (ws := wsX10_arePairs) B.pre
  have hown : s.vm.findClass RX10 = some m.cls := findClass_of_methodNamed B.named
  have hlocks := B.notSynchronized
  have hl := lv_entry ([.ref a, .ref bs, .int (nI 0)]) (n := 4) (Nat.le_of_ble_eq_true rfl)
  rw [lg_entry_eq]
  generalize (lg_sl ([.ref a, .ref bs, .int (nI 0)]) ++ List.replicate (4 - (lg_sl ([.ref a, .ref bs, .int (nI 0)])).length) Slot.unset).toArray = ls at hl ⊢
  have hl : lv_has ls 4 [(0, .ref a), (1, .ref bs), (2, .int (nI 0))] := hl
  refine lv_iload_n hx hb dX10_arePairs_0 rfl (lv_at hl 2 rfl) ?_
  refine lv_iconst (v := nI 2) hx hb dX10_arePairs_1 (by decide) ?_
  refine lv_icmp_lt (tgt := 23) hx hb dX10_arePairs_2 (by decide) (fun c1 => ?_) (fun c1 => absurd (by decide) c1)
  refine lv_iconst (v := nI 0) hx hb dX10_arePairs_23 (by decide) ?_
  exact W.zret (v := nI 0) hx hb hr (by decide) (fun t ht9 hW9 => ⟨nI 0, rfl, rfl, ht9⟩) (fun _ h => absurd h List.not_mem_nil) dX10_arePairs_24
set_option maxHeartbeats 4000000 in
set_option maxRecDepth 100000 in
theorem c_look0 (l : Launch) (dC : Nat → ClassId) (dI : Nat → Nat → Nat) (ky : Nat → ClassId) (sg : Nat) (a : Nat) (bs : Nat)  : Met l yX10_look wsX10_look ({ frames := 1, cells := 0, slots := 0, locals := 23 }) (PcP dC dI ky [.ref sg, .ref a, .ref bs, .int (nI 0)] []) (vp_Si (fun r : Int32 => r = (-1 : Int32))) 0 0 (fun _ => False) := by
  refine Met.ofW (cc := cX10_look) (maxL := 7) (ret := (some .int)) (by decide) rfl ?_
  intro p e s m args below meth c s₁ B hml hv
  obtain ⟨rfl, hP, hK⟩ := hv
  have hx := B.exec
  have hb := B.bytes
  have hr := B.returns
  have hts := atoms_spec (ws := wsX10_look) B.pre
  have hown : s.vm.findClass RX10 = some m.cls := findClass_of_methodNamed B.named
  have hlocks := B.notSynchronized
  have hl := lv_entry ([.ref sg, .ref a, .ref bs, .int (nI 0)]) (n := 7) (Nat.le_of_ble_eq_true rfl)
  rw [lg_entry_eq]
  generalize (lg_sl ([.ref sg, .ref a, .ref bs, .int (nI 0)]) ++ List.replicate (7 - (lg_sl ([.ref sg, .ref a, .ref bs, .int (nI 0)])).length) Slot.unset).toArray = ls at hl ⊢
  have hl : lv_has ls 7 [(0, .ref sg), (1, .ref a), (2, .ref bs), (3, .int (nI 0))] := hl
  refine lv_aload_n hx hb dX10_look_0 rfl (lv_at hl 1 rfl) ?_
  refine lv_aload_n hx hb dX10_look_1 rfl (lv_at hl 2 rfl) ?_
  refine lv_iload_n hx hb dX10_look_2 rfl (lv_at hl 3 rfl) ?_
  refine vp_callSi (W.runS (As := [.ref a, .ref bs, .int (nI 0)]) (rest := []) ⟨hx, hb, hml, hown, hts⟩ (c_arePairs0 l dC dI ky a bs) (va_cwS 3 hts gX10_look_X10_arePairs rfl rfl rfl (by decide +kernel) ⟨(Nat.le_of_ble_eq_true rfl), (Nat.le_of_ble_eq_true rfl)⟩) (pre_PS hK hP [] rfl) rfl rfl hl.1 rfl (lv_room (Nat.le_of_ble_eq_true rfl)) dX10_look_3 ⟨(Nat.le_of_ble_eq_true rfl), (Nat.le_of_ble_eq_true rfl)⟩) (fun r1 p2 => ?_)
  subst p2
  refine lv_if_ne (tgt := 11) hx hb dX10_look_6 (by decide) (fun c3 => absurd c3 (by decide)) (fun c3 => ?_)
  refine lv_iconst (v := (-1 : Int32)) hx hb dX10_look_9 (by decide) ?_
  exact W.iret (v := (-1 : Int32)) hx hb hr (fun t ht9 hW9 => ⟨(-1 : Int32), rfl, rfl, ht9⟩) (fun _ h => absurd h List.not_mem_nil) dX10_look_10
set_option maxRecDepth 20000 in
theorem lf_cellAt0_1 (sg : Nat) (x : Int32) (hneg : x < 0) (c2 : ¬ x < 0) : False := by
  simp only [ia_lt, ia_le, ia_eq, ia_m1, ia_0, ia_1, ne_eq, true_and, and_true, false_and, and_false, or_false, false_or, or_true, true_or, not_true_eq_false, not_false_eq_true] at *
  all_goals omega
set_option maxHeartbeats 4000000 in
set_option maxRecDepth 100000 in
theorem lp_cellAt {p : Program} {l : Launch} {e : Env} {R : Room} {s : State} {m : MethodId} {args : Array Value} {below : List Frame} {meth : Method} {c : Code} {Q : State → Prop} {dC : Nat → ClassId} {dI : Nat → Nat → Nat} {ky : Nat → ClassId} {H : Heap} {locs : List Loc} (hx : p.tables.exec = Jvm.exec) (hb : c.code = cX10_cellAt) (hml : c.maxLocals = 4) (hown : s.vm.findClass RX10 = some m.cls) (hts : ∀ w ∈ wsX10_cellAt, w.before args s = true) (hK : Kk dC dI ky s)  (hRf : 0 ≤ R.frames) (hRl : 0 ≤ R.locals) (hRc : 0 ≤ R.cells) (hRs : 0 ≤ R.slots) (sg : Nat) (xn : Nat) (hnn : xn < 2147483648) (hP : va_P (dC, dI) vwCl [(sg, .inr (10, [.long 0, .int (-1 : Int32)]))] H) (kx : ∀ (i : Nat) , 36 = i → ∀ (ls : Array Slot), lv_has ls 4 [(3, .int (nI i)), (2, .int (nI 0)), (0, .ref sg), (1, .int (nI xn))] → W p l e R s m args below meth c H locs 0 0 Q (F0 m 43 ls [])) :
    ∀ (nN i : Nat) , i ≤ 36 → 36 + 1 ≤ i + nN → ∀ (ls : Array Slot), lv_has ls 4 [(3, .int (nI i)), (2, .int (nI 0)), (0, .ref sg), (1, .int (nI xn))] → W p l e R s m args below meth c H locs 0 0 Q (F0 m 4 ls []) := by
  have hin10 : ∀ w ∈ u_ws RX10 TX10 2, w ∈ wsX10_cellAt := by decide +kernel
  intro nN
  induction nN with
  | zero => intro i  hi hnN; exfalso; omega
  | succ nN ih =>
    intro i  hi hnN  ls hl
    refine lv_iload_n hx hb dX10_cellAt_4 rfl (lv_at hl 0 rfl) ?_
    refine lv_bipush (v := nI 36) hx hb dX10_cellAt_5 (by decide) ?_
    refine n_icmp_ge (x := i) (y := 36) (tgt := 43) hx hb (by omega) (by omega) dX10_cellAt_7 (by decide) (fun c1 => ?_) (fun c1 => ?_)
    · exact kx i  (by omega)  ls (lv_sub hl [0, 1, 2, 3] rfl)
    · refine lv_iload_n hx hb dX10_cellAt_10 rfl (lv_at hl 3 rfl) ?_
      refine n_if_lt (x := xn) (tgt := 43) hx hb (by omega) dX10_cellAt_11 (by decide) (fun c2 => c2.elim) (fun c2 => ?_)
      refine lv_aload_n hx hb dX10_cellAt_14 rfl (lv_at hl 2 rfl) ?_
      refine va_get (D := (dC, dI)) (ci := 10) (v := .long 0) (C := RX10) (T := TX10) (N := 2) hx hb hts hin10 hown hK hP 0 rfl rfl 0 (by decide) (hts (.fieldLink RX10 9 "PorridgeSea$Sighting" "cellBits" "J") (List.mem_of_getElem? (i := 1) rfl)) (fun _ h9 => h9) rfl dX10_cellAt_15 ?_
      refine lv_iload_n hx hb dX10_cellAt_18 rfl (lv_at hl 0 rfl) ?_
      refine lv_lshr (v := 0) hx hb dX10_cellAt_19 (l_zsr _) ?_
      refine lv_lconst (v := 1) hx hb dX10_cellAt_20 (by decide) ?_
      refine lv_land hx hb dX10_cellAt_21 ?_
      refine r_tl 0 (by decide) ?_
      refine lv_lconst (v := 1) hx hb dX10_cellAt_22 (by decide) ?_
      refine W.lcmp hx hb dX10_cellAt_23 ?_
      refine r_ti (-1 : Int32) (by decide) ?_
      refine lv_if_ne (tgt := 37) hx hb dX10_cellAt_24 (by decide) (fun c3 => ?_) (fun c3 => absurd c3 (by decide))
      refine lv_iinc (v := nI (i + 1)) (lv' := [(3, .int (nI (i + 1))), (2, .int (nI 0)), (0, .ref sg), (1, .int (nI xn))]) hx hb dX10_cellAt_37 hl (k := 0) rfl (show nI i + nI 1 = nI (i + 1) from nI_add _ _) (by decide) rfl (fun ls hl => ?_)
      refine lv_goto (tgt := 4) hx hb dX10_cellAt_40 (by decide) ?_
      exact ih (i + 1)  (by omega) (by omega)  _ (lv_sub hl [0, 1, 2, 3] rfl)
set_option maxHeartbeats 4000000 in
set_option maxRecDepth 100000 in
theorem c_cellAt0 (l : Launch) (dC : Nat → ClassId) (dI : Nat → Nat → Nat) (ky : Nat → ClassId) (sg : Nat) (x : Int32)  : Met l yX10_cellAt wsX10_cellAt ({ frames := 0, cells := 0, slots := 0, locals := 0 }) (PcP dC dI ky [.ref sg, .int x] [(sg, .inr (10, [.long 0, .int (-1 : Int32)]))]) (vp_Si (fun r : Int32 => r = (-1 : Int32))) 0 0 (fun _ => False) := by
  refine Met.ofW (cc := cX10_cellAt) (maxL := 4) (ret := (some .int)) (by decide) rfl ?_
  intro p e s m args below meth c s₁ B hml hv
  obtain ⟨rfl, hP, hK⟩ := hv
  have hx := B.exec
  have hb := B.bytes
  have hr := B.returns
  have hts := atoms_spec (ws := wsX10_cellAt) B.pre
  have hown : s.vm.findClass RX10 = some m.cls := findClass_of_methodNamed B.named
  have hlocks := B.notSynchronized
  have hl := lv_entry ([.ref sg, .int x]) (n := 4) (Nat.le_of_ble_eq_true rfl)
  rw [lg_entry_eq]
  generalize (lg_sl ([.ref sg, .int x]) ++ List.replicate (4 - (lg_sl ([.ref sg, .int x])).length) Slot.unset).toArray = ls at hl ⊢
  have hl : lv_has ls 4 [(0, .ref sg), (1, .int x)] := hl
  rcases neg_or x with hneg | ⟨xn, hnn, rfl⟩
  · refine lv_iconst (v := nI 0) hx hb dX10_cellAt_0 (by decide) ?_
    refine lv_istore_n (lv' := [(2, .int (nI 0)), (0, .ref sg), (1, .int x)]) hx hb dX10_cellAt_1 rfl hl (by decide) rfl (fun ls hl => ?_)
    refine lv_iconst (v := nI 0) hx hb dX10_cellAt_2 (by decide) ?_
    refine lv_istore_n (lv' := [(3, .int (nI 0)), (2, .int (nI 0)), (0, .ref sg), (1, .int x)]) hx hb dX10_cellAt_3 rfl hl (by decide) rfl (fun ls hl => ?_)
    refine lv_iload_n hx hb dX10_cellAt_4 rfl (lv_at hl 0 rfl) ?_
    refine lv_bipush (v := nI 36) hx hb dX10_cellAt_5 (by decide) ?_
    refine lv_icmp_ge (tgt := 43) hx hb dX10_cellAt_7 (by decide) (fun c1 => absurd c1 (by decide)) (fun c1 => ?_)
    refine lv_iload_n hx hb dX10_cellAt_10 rfl (lv_at hl 3 rfl) ?_
    refine lv_if_lt (tgt := 43) hx hb dX10_cellAt_11 (by decide) (fun c2 => ?_) (fun c2 => ?_)
    · refine lv_iconst (v := (-1 : Int32)) hx hb dX10_cellAt_43 (by decide) ?_
      exact W.iret (v := (-1 : Int32)) hx hb hr (fun t ht9 hW9 => ⟨(-1 : Int32), rfl, rfl, ht9⟩) (fun _ h => absurd h List.not_mem_nil) dX10_cellAt_44
    · exact ((lf_cellAt0_1 sg x hneg c2)).elim
  · refine lv_iconst (v := nI 0) hx hb dX10_cellAt_0 (by decide) ?_
    refine lv_istore_n (lv' := [(2, .int (nI 0)), (0, .ref sg), (1, .int (nI xn))]) hx hb dX10_cellAt_1 rfl hl (by decide) rfl (fun ls hl => ?_)
    refine lv_iconst (v := nI 0) hx hb dX10_cellAt_2 (by decide) ?_
    refine lv_istore_n (lv' := [(3, .int (nI 0)), (2, .int (nI 0)), (0, .ref sg), (1, .int (nI xn))]) hx hb dX10_cellAt_3 rfl hl (by decide) rfl (fun ls hl => ?_)
    refine lp_cellAt hx hb hml hown hts hK (Nat.le_of_ble_eq_true rfl) (Nat.le_of_ble_eq_true rfl) (Nat.le_of_ble_eq_true rfl) (Nat.le_of_ble_eq_true rfl) sg xn hnn hP ?_ (36 + 1) 0  (by omega) (by omega)  _ (lv_sub hl [0, 1, 2, 3] rfl)
    intro i  hiN  ls hl
    subst hiN
    refine lv_iconst (v := (-1 : Int32)) hx hb dX10_cellAt_43 (by decide) ?_
    exact W.iret (v := (-1 : Int32)) hx hb hr (fun t ht9 hW9 => ⟨(-1 : Int32), rfl, rfl, ht9⟩) (fun _ h => absurd h List.not_mem_nil) dX10_cellAt_44
set_option maxHeartbeats 4000000 in
set_option maxRecDepth 100000 in
theorem c_Draws_init (l : Launch) (dC : Nat → ClassId) (dI : Nat → Nat → Nat) (ky : Nat → ClassId) (sz : Nat) (draws : Nat)  : Met l yX1_init wsX1_init ({ frames := 1, cells := 0, slots := 0, locals := 12 }) (PcU dC dI ky [.ref draws] [(draws, .inr (1, [.int (nI 0)]))] sz) (va_Qv (fun (_ : Unit) => True) (BU dC dI ky (fun (_ : Unit) => [(draws, .inr (1, [.int (nI 0)]))]) (va_A [(draws, .inr (1, [.int (nI 0)]))] sz)) (va_A [(draws, .inr (1, [.int (nI 0)]))] sz)) 0 0 (va_A [(draws, .inr (1, [.int (nI 0)]))] sz) := by
  refine Met.ofW (cc := cX1_init) (maxL := 1) (ret := none) (by decide) rfl ?_
  intro p e s m args below meth c s₁ B hml hv
  obtain ⟨rfl, hsz, hP, hK, hD0⟩ := hv
  have hx := B.exec
  have hb := B.bytes
  have hr := B.returns
  have hts := atoms_spec (ws := wsX1_init) B.pre
  have hown : s.vm.findClass RX1 = some m.cls := findClass_of_methodNamed B.named
  have hlocks := B.notSynchronized
  have hini0 : meth.name = "<init>" := (name_of_methodNamed B.named B.method).1
  subst hsz
  have hD := hD0.self (sz := s.heap.size)
  generalize hAe : va_A [(draws, .inr (1, [.int (nI 0)]))] s.heap.size = A at hD ⊢
  have hA : ∀ q : Nat, s.heap.size ≤ q → A q := fun q h => by rw [← hAe]; exact Or.inr h
  have hS : va_S A s.heap s.heap [] := va_S.rf
  have hP : va_P (dC, dI) vwCl [(draws, .inr (1, [.int (nI 0)]))] s.heap := hP
  have hl := lv_entry ([.ref draws]) (n := 1) (Nat.le_of_ble_eq_true rfl)
  rw [lg_entry_eq]
  generalize (lg_sl ([.ref draws]) ++ List.replicate (1 - (lg_sl ([.ref draws])).length) Slot.unset).toArray = ls at hl ⊢
  have hl : lv_has ls 1 [(0, .ref draws)] := hl
  have hH0 : True := trivial
  refine lv_aload_n hx hb dX1_init_0 rfl (lv_at hl 0 rfl) ?_
  refine W.objInit hx hb hown (hts _ (List.mem_of_getElem? (i := 1) rfl)) (hts _ (List.mem_of_getElem? (i := 2) rfl)) (hts _ (List.mem_of_getElem? (i := 3) rfl)) rfl (by rw [hml]; exact hl.1) rfl dX1_init_1 (Nat.le_of_ble_eq_true rfl) (Nat.le_of_ble_eq_true rfl) ?_
  refine W.eq (g2 := F0 m 4 ls []) rfl ?_
  have hP9 := hP.sub (ws' := [(draws, .inr (1, [.int (nI 0)]))]) [0] rfl
  have hD9 := hD.sub (ws' := [(draws, .inr (1, [.int (nI 0)]))]) [0] (by decide) rfl
  refine W.widen (k := 0) (n := 0) (Nat.le_of_ble_eq_true rfl) (Nat.le_of_ble_eq_true rfl) ?_
  exact W.vret hx hb hr (fun t ht9 hW9 => ⟨⟨(), rfl, trivial, by rw [ht9]; exact hP9, va_K.moved hW9.alike hK, hD9⟩, hS.F ht9⟩) hS.2.2 dX1_init_4
set_option maxHeartbeats 4000000 in
set_option maxRecDepth 100000 in
theorem c_draw2 (l : Launch) (dC : Nat → ClassId) (dI : Nat → Nat → Nat) (ky : Nat → ClassId) (sz : Nat) (draws : Nat) (dx : Int32)  : Met l yX1_draw wsX1_draw ({ frames := 0, cells := 0, slots := 0, locals := 0 }) (PcU dC dI ky [.ref draws, .int (nI 2)] [(draws, .inr (1, [.int dx]))] sz) (va_Qi (fun (r : Int32) (dxG : Int32) => True) (BU dC dI ky (fun (dxG : Int32) => [(draws, .inr (1, [.int dxG]))]) (va_A [(draws, .inr (1, [.int dx]))] sz)) (va_A [(draws, .inr (1, [.int dx]))] sz)) 0 0 (va_A [(draws, .inr (1, [.int dx]))] sz) := by
  refine Met.ofW (cc := cX1_draw) (maxL := 2) (ret := (some .int)) (by decide) rfl ?_
  intro p e s m args below meth c s₁ B hml hv
  obtain ⟨rfl, hsz, hP, hK, hD0⟩ := hv
  have hx := B.exec
  have hb := B.bytes
  have hr := B.returns
  have hts := atoms_spec (ws := wsX1_draw) B.pre
  have hown : s.vm.findClass RX1 = some m.cls := findClass_of_methodNamed B.named
  have hlocks := B.notSynchronized
  have hin1 : ∀ w ∈ u_ws RX1 TX1 1, w ∈ wsX1_draw := by decide +kernel
  subst hsz
  have hD := hD0.self (sz := s.heap.size)
  generalize hAe : va_A [(draws, .inr (1, [.int dx]))] s.heap.size = A at hD ⊢
  have hA : ∀ q : Nat, s.heap.size ≤ q → A q := fun q h => by rw [← hAe]; exact Or.inr h
  have hS : va_S A s.heap s.heap [] := va_S.rf
  have hP : va_P (dC, dI) vwCl [(draws, .inr (1, [.int dx]))] s.heap := hP
  have hl := lv_entry ([.ref draws, .int (nI 2)]) (n := 2) (Nat.le_of_ble_eq_true rfl)
  rw [lg_entry_eq]
  generalize (lg_sl ([.ref draws, .int (nI 2)]) ++ List.replicate (2 - (lg_sl ([.ref draws, .int (nI 2)])).length) Slot.unset).toArray = ls at hl ⊢
  have hl : lv_has ls 2 [(0, .ref draws), (1, .int (nI 2))] := hl
  have hH0 : True := trivial
  refine lv_aload_n hx hb dX1_draw_0 rfl (lv_at hl 0 rfl) ?_
  refine lv_aload_n hx hb dX1_draw_1 rfl (lv_at hl 0 rfl) ?_
  refine va_get (D := (dC, dI)) (ci := 1) (v := .int dx) (C := RX1) (T := TX1) (N := 1) hx hb hts hin1 hown hK hP 0 rfl rfl 0 (by decide) (hts (.fieldLink RX1 9 "PorridgeSea$Draws" "x" "I") (List.mem_of_getElem? (i := 1) rfl)) (fun _ h9 => h9) rfl dX1_draw_2 ?_
  refine lv_ldc (v := nI 1103515245) hx hb hown (hts (.constant RX1 15 (nI 1103515245)) (List.mem_of_getElem? (i := 2) rfl)) dX1_draw_5 ?_
  refine lv_imul hx hb dX1_draw_7 ?_
  refine lv_topi (fun y1 e2 => ?_)
  refine lv_sipush (v := nI 12345) hx hb dX1_draw_8 (by decide) ?_
  refine lv_iadd hx hb dX1_draw_11 ?_
  refine lv_topi (fun y3 e4 => ?_)
  refine va_put (D := (dC, dI)) (ci := 1) (v := .int y3) (ty := .int) (C := RX1) (T := TX1) (N := 1) hx hb hts hin1 tyX1 tyX1_ok nmX1 hown hK hP hD hS 0 rfl rfl 0 (by decide) (hts (.fieldLink RX1 9 "PorridgeSea$Draws" "x" "I") (List.mem_of_getElem? (i := 1) rfl)) (fun _ h9 => h9) rfl (by decide +kernel) rfl rfl (Nat.le_of_ble_eq_true rfl) dX1_draw_12 (fun H locs hP hD hS => ?_)
  have hP : va_P (dC, dI) vwCl [(draws, .inr (1, [.int y3]))] H := hP
  have hD : va_D A [(draws, .inr (1, [.int y3]))] := hD
  refine lv_iload_n hx hb dX1_draw_15 rfl (lv_at hl 1 rfl) ?_
  refine lv_if_le (tgt := 31) hx hb dX1_draw_16 (by decide) (fun c5 => absurd c5 (by decide)) (fun c5 => ?_)
  refine lv_aload_n hx hb dX1_draw_19 rfl (lv_at hl 0 rfl) ?_
  refine va_get (D := (dC, dI)) (ci := 1) (v := .int y3) (C := RX1) (T := TX1) (N := 1) hx hb hts hin1 hown hK hP 0 rfl rfl 0 (by decide) (hts (.fieldLink RX1 9 "PorridgeSea$Draws" "x" "I") (List.mem_of_getElem? (i := 1) rfl)) (fun _ h9 => h9) rfl dX1_draw_20 ?_
  refine lv_bipush (v := nI 8) hx hb dX1_draw_23 (by decide) ?_
  refine lv_iushr hx hb dX1_draw_25 rfl ?_
  refine lv_topi (fun y6 e7 => ?_)
  refine lv_iload_n hx hb dX1_draw_26 rfl (lv_at hl 1 rfl) ?_
  refine lv_irem hx hb dX1_draw_27 (by decide) ?_
  refine lv_topi (fun y8 e9 => ?_)
  refine lv_goto (tgt := 32) hx hb dX1_draw_28 (by decide) ?_
  have hP9 := hP.sub (ws' := [(draws, .inr (1, [.int y3]))]) [0] rfl
  have hD9 := hD.sub (ws' := [(draws, .inr (1, [.int y3]))]) [0] (by decide) rfl
  refine W.widen (k := 0) (n := 0) (Nat.le_of_ble_eq_true rfl) (Nat.le_of_ble_eq_true rfl) ?_
  exact W.iret (v := y8) hx hb hr (fun t ht9 hW9 => ⟨⟨y8, y3, rfl, trivial, by rw [ht9]; exact hP9, va_K.moved hW9.alike hK, hD9⟩, hS.F ht9⟩) hS.2.2 dX1_draw_32
set_option maxHeartbeats 4000000 in
set_option maxRecDepth 100000 in
theorem c_draw3 (l : Launch) (dC : Nat → ClassId) (dI : Nat → Nat → Nat) (ky : Nat → ClassId) (sz : Nat) (draws : Nat) (dx : Int32)  : Met l yX1_draw wsX1_draw ({ frames := 0, cells := 0, slots := 0, locals := 0 }) (PcU dC dI ky [.ref draws, .int (nI 3)] [(draws, .inr (1, [.int dx]))] sz) (va_Qi (fun (r : Int32) (dxG : Int32) => True) (BU dC dI ky (fun (dxG : Int32) => [(draws, .inr (1, [.int dxG]))]) (va_A [(draws, .inr (1, [.int dx]))] sz)) (va_A [(draws, .inr (1, [.int dx]))] sz)) 0 0 (va_A [(draws, .inr (1, [.int dx]))] sz) := by
  refine Met.ofW (cc := cX1_draw) (maxL := 2) (ret := (some .int)) (by decide) rfl ?_
  intro p e s m args below meth c s₁ B hml hv
  obtain ⟨rfl, hsz, hP, hK, hD0⟩ := hv
  have hx := B.exec
  have hb := B.bytes
  have hr := B.returns
  have hts := atoms_spec (ws := wsX1_draw) B.pre
  have hown : s.vm.findClass RX1 = some m.cls := findClass_of_methodNamed B.named
  have hlocks := B.notSynchronized
  have hin1 : ∀ w ∈ u_ws RX1 TX1 1, w ∈ wsX1_draw := by decide +kernel
  subst hsz
  have hD := hD0.self (sz := s.heap.size)
  generalize hAe : va_A [(draws, .inr (1, [.int dx]))] s.heap.size = A at hD ⊢
  have hA : ∀ q : Nat, s.heap.size ≤ q → A q := fun q h => by rw [← hAe]; exact Or.inr h
  have hS : va_S A s.heap s.heap [] := va_S.rf
  have hP : va_P (dC, dI) vwCl [(draws, .inr (1, [.int dx]))] s.heap := hP
  have hl := lv_entry ([.ref draws, .int (nI 3)]) (n := 2) (Nat.le_of_ble_eq_true rfl)
  rw [lg_entry_eq]
  generalize (lg_sl ([.ref draws, .int (nI 3)]) ++ List.replicate (2 - (lg_sl ([.ref draws, .int (nI 3)])).length) Slot.unset).toArray = ls at hl ⊢
  have hl : lv_has ls 2 [(0, .ref draws), (1, .int (nI 3))] := hl
  have hH0 : True := trivial
  refine lv_aload_n hx hb dX1_draw_0 rfl (lv_at hl 0 rfl) ?_
  refine lv_aload_n hx hb dX1_draw_1 rfl (lv_at hl 0 rfl) ?_
  refine va_get (D := (dC, dI)) (ci := 1) (v := .int dx) (C := RX1) (T := TX1) (N := 1) hx hb hts hin1 hown hK hP 0 rfl rfl 0 (by decide) (hts (.fieldLink RX1 9 "PorridgeSea$Draws" "x" "I") (List.mem_of_getElem? (i := 1) rfl)) (fun _ h9 => h9) rfl dX1_draw_2 ?_
  refine lv_ldc (v := nI 1103515245) hx hb hown (hts (.constant RX1 15 (nI 1103515245)) (List.mem_of_getElem? (i := 2) rfl)) dX1_draw_5 ?_
  refine lv_imul hx hb dX1_draw_7 ?_
  refine lv_topi (fun y1 e2 => ?_)
  refine lv_sipush (v := nI 12345) hx hb dX1_draw_8 (by decide) ?_
  refine lv_iadd hx hb dX1_draw_11 ?_
  refine lv_topi (fun y3 e4 => ?_)
  refine va_put (D := (dC, dI)) (ci := 1) (v := .int y3) (ty := .int) (C := RX1) (T := TX1) (N := 1) hx hb hts hin1 tyX1 tyX1_ok nmX1 hown hK hP hD hS 0 rfl rfl 0 (by decide) (hts (.fieldLink RX1 9 "PorridgeSea$Draws" "x" "I") (List.mem_of_getElem? (i := 1) rfl)) (fun _ h9 => h9) rfl (by decide +kernel) rfl rfl (Nat.le_of_ble_eq_true rfl) dX1_draw_12 (fun H locs hP hD hS => ?_)
  have hP : va_P (dC, dI) vwCl [(draws, .inr (1, [.int y3]))] H := hP
  have hD : va_D A [(draws, .inr (1, [.int y3]))] := hD
  refine lv_iload_n hx hb dX1_draw_15 rfl (lv_at hl 1 rfl) ?_
  refine lv_if_le (tgt := 31) hx hb dX1_draw_16 (by decide) (fun c5 => absurd c5 (by decide)) (fun c5 => ?_)
  refine lv_aload_n hx hb dX1_draw_19 rfl (lv_at hl 0 rfl) ?_
  refine va_get (D := (dC, dI)) (ci := 1) (v := .int y3) (C := RX1) (T := TX1) (N := 1) hx hb hts hin1 hown hK hP 0 rfl rfl 0 (by decide) (hts (.fieldLink RX1 9 "PorridgeSea$Draws" "x" "I") (List.mem_of_getElem? (i := 1) rfl)) (fun _ h9 => h9) rfl dX1_draw_20 ?_
  refine lv_bipush (v := nI 8) hx hb dX1_draw_23 (by decide) ?_
  refine lv_iushr hx hb dX1_draw_25 rfl ?_
  refine lv_topi (fun y6 e7 => ?_)
  refine lv_iload_n hx hb dX1_draw_26 rfl (lv_at hl 1 rfl) ?_
  refine lv_irem hx hb dX1_draw_27 (by decide) ?_
  refine lv_topi (fun y8 e9 => ?_)
  refine lv_goto (tgt := 32) hx hb dX1_draw_28 (by decide) ?_
  have hP9 := hP.sub (ws' := [(draws, .inr (1, [.int y3]))]) [0] rfl
  have hD9 := hD.sub (ws' := [(draws, .inr (1, [.int y3]))]) [0] (by decide) rfl
  refine W.widen (k := 0) (n := 0) (Nat.le_of_ble_eq_true rfl) (Nat.le_of_ble_eq_true rfl) ?_
  exact W.iret (v := y8) hx hb hr (fun t ht9 hW9 => ⟨⟨y8, y3, rfl, trivial, by rw [ht9]; exact hP9, va_K.moved hW9.alike hK, hD9⟩, hS.F ht9⟩) hS.2.2 dX1_draw_32
set_option maxHeartbeats 4000000 in
set_option maxRecDepth 100000 in
theorem c_draw4 (l : Launch) (dC : Nat → ClassId) (dI : Nat → Nat → Nat) (ky : Nat → ClassId) (sz : Nat) (draws : Nat) (dx : Int32)  : Met l yX1_draw wsX1_draw ({ frames := 0, cells := 0, slots := 0, locals := 0 }) (PcU dC dI ky [.ref draws, .int (nI 4)] [(draws, .inr (1, [.int dx]))] sz) (va_Qi (fun (r : Int32) (dxG : Int32) => True) (BU dC dI ky (fun (dxG : Int32) => [(draws, .inr (1, [.int dxG]))]) (va_A [(draws, .inr (1, [.int dx]))] sz)) (va_A [(draws, .inr (1, [.int dx]))] sz)) 0 0 (va_A [(draws, .inr (1, [.int dx]))] sz) := by
  refine Met.ofW (cc := cX1_draw) (maxL := 2) (ret := (some .int)) (by decide) rfl ?_
  intro p e s m args below meth c s₁ B hml hv
  obtain ⟨rfl, hsz, hP, hK, hD0⟩ := hv
  have hx := B.exec
  have hb := B.bytes
  have hr := B.returns
  have hts := atoms_spec (ws := wsX1_draw) B.pre
  have hown : s.vm.findClass RX1 = some m.cls := findClass_of_methodNamed B.named
  have hlocks := B.notSynchronized
  have hin1 : ∀ w ∈ u_ws RX1 TX1 1, w ∈ wsX1_draw := by decide +kernel
  subst hsz
  have hD := hD0.self (sz := s.heap.size)
  generalize hAe : va_A [(draws, .inr (1, [.int dx]))] s.heap.size = A at hD ⊢
  have hA : ∀ q : Nat, s.heap.size ≤ q → A q := fun q h => by rw [← hAe]; exact Or.inr h
  have hS : va_S A s.heap s.heap [] := va_S.rf
  have hP : va_P (dC, dI) vwCl [(draws, .inr (1, [.int dx]))] s.heap := hP
  have hl := lv_entry ([.ref draws, .int (nI 4)]) (n := 2) (Nat.le_of_ble_eq_true rfl)
  rw [lg_entry_eq]
  generalize (lg_sl ([.ref draws, .int (nI 4)]) ++ List.replicate (2 - (lg_sl ([.ref draws, .int (nI 4)])).length) Slot.unset).toArray = ls at hl ⊢
  have hl : lv_has ls 2 [(0, .ref draws), (1, .int (nI 4))] := hl
  have hH0 : True := trivial
  refine lv_aload_n hx hb dX1_draw_0 rfl (lv_at hl 0 rfl) ?_
  refine lv_aload_n hx hb dX1_draw_1 rfl (lv_at hl 0 rfl) ?_
  refine va_get (D := (dC, dI)) (ci := 1) (v := .int dx) (C := RX1) (T := TX1) (N := 1) hx hb hts hin1 hown hK hP 0 rfl rfl 0 (by decide) (hts (.fieldLink RX1 9 "PorridgeSea$Draws" "x" "I") (List.mem_of_getElem? (i := 1) rfl)) (fun _ h9 => h9) rfl dX1_draw_2 ?_
  refine lv_ldc (v := nI 1103515245) hx hb hown (hts (.constant RX1 15 (nI 1103515245)) (List.mem_of_getElem? (i := 2) rfl)) dX1_draw_5 ?_
  refine lv_imul hx hb dX1_draw_7 ?_
  refine lv_topi (fun y1 e2 => ?_)
  refine lv_sipush (v := nI 12345) hx hb dX1_draw_8 (by decide) ?_
  refine lv_iadd hx hb dX1_draw_11 ?_
  refine lv_topi (fun y3 e4 => ?_)
  refine va_put (D := (dC, dI)) (ci := 1) (v := .int y3) (ty := .int) (C := RX1) (T := TX1) (N := 1) hx hb hts hin1 tyX1 tyX1_ok nmX1 hown hK hP hD hS 0 rfl rfl 0 (by decide) (hts (.fieldLink RX1 9 "PorridgeSea$Draws" "x" "I") (List.mem_of_getElem? (i := 1) rfl)) (fun _ h9 => h9) rfl (by decide +kernel) rfl rfl (Nat.le_of_ble_eq_true rfl) dX1_draw_12 (fun H locs hP hD hS => ?_)
  have hP : va_P (dC, dI) vwCl [(draws, .inr (1, [.int y3]))] H := hP
  have hD : va_D A [(draws, .inr (1, [.int y3]))] := hD
  refine lv_iload_n hx hb dX1_draw_15 rfl (lv_at hl 1 rfl) ?_
  refine lv_if_le (tgt := 31) hx hb dX1_draw_16 (by decide) (fun c5 => absurd c5 (by decide)) (fun c5 => ?_)
  refine lv_aload_n hx hb dX1_draw_19 rfl (lv_at hl 0 rfl) ?_
  refine va_get (D := (dC, dI)) (ci := 1) (v := .int y3) (C := RX1) (T := TX1) (N := 1) hx hb hts hin1 hown hK hP 0 rfl rfl 0 (by decide) (hts (.fieldLink RX1 9 "PorridgeSea$Draws" "x" "I") (List.mem_of_getElem? (i := 1) rfl)) (fun _ h9 => h9) rfl dX1_draw_20 ?_
  refine lv_bipush (v := nI 8) hx hb dX1_draw_23 (by decide) ?_
  refine lv_iushr hx hb dX1_draw_25 rfl ?_
  refine lv_topi (fun y6 e7 => ?_)
  refine lv_iload_n hx hb dX1_draw_26 rfl (lv_at hl 1 rfl) ?_
  refine lv_irem hx hb dX1_draw_27 (by decide) ?_
  refine lv_topi (fun y8 e9 => ?_)
  refine lv_goto (tgt := 32) hx hb dX1_draw_28 (by decide) ?_
  have hP9 := hP.sub (ws' := [(draws, .inr (1, [.int y3]))]) [0] rfl
  have hD9 := hD.sub (ws' := [(draws, .inr (1, [.int y3]))]) [0] (by decide) rfl
  refine W.widen (k := 0) (n := 0) (Nat.le_of_ble_eq_true rfl) (Nat.le_of_ble_eq_true rfl) ?_
  exact W.iret (v := y8) hx hb hr (fun t ht9 hW9 => ⟨⟨y8, y3, rfl, trivial, by rw [ht9]; exact hP9, va_K.moved hW9.alike hK, hD9⟩, hS.F ht9⟩) hS.2.2 dX1_draw_32
set_option maxRecDepth 20000 in
theorem lf_stirByDraw_1 (draws : Nat) (dx : Int32) (a : Nat) (heat : Int32) (cools : Int32) (skinHeat : Int32) (today : Int32) (stirs : Int32) (steps : Int32) (thickness : Nat) (lumpNames : Nat) (lumpCells : Nat) (boatNames : Nat) (boatCells : Nat) (loads : Nat) (spoons : Nat) (spoonsLeft : Nat) (depths : Nat) (thicknessF : Nat → Int32) (dxG_4 : Int32) (r3 : Int32) (dxG_9 : Int32) (r8 : Int32) (dxG_14 : Int32) (r13 : Int32) (dxG_18 : Int32) (r17 : Int32) (r19 : Int32) (c5 : r3 = 0) (c10 : r8 ≠ 0) (p20 : (r19 = (-1 : Int32) ∧ ¬ ((r8.toInt = 0 ∨ r8.toInt = 1) ∧ (r17.toInt = 0 ∨ r17.toInt = 1) ∧ 0 ≤ r13.toInt ∧ r13.toInt < 4)) ∨ (r19 = nI 1 ∧ ((r8.toInt = 0 ∨ r8.toInt = 1) ∧ (r17.toInt = 0 ∨ r17.toInt = 1) ∧ 0 ≤ r13.toInt ∧ r13.toInt < 4) ∧ heat.toInt ≤ skinHeat.toInt) ∨ (r19 = nI 0 ∧ ((r8.toInt = 0 ∨ r8.toInt = 1) ∧ (r17.toInt = 0 ∨ r17.toInt = 1) ∧ 0 ≤ r13.toInt ∧ r13.toInt < 4) ∧ skinHeat.toInt < heat.toInt)) (c21 : r19 = 0) : 0 ≤ r13.toInt ∧ r13.toInt < ((4 : Nat) : Int) := by
  have k_0 := ia_n 1 (by decide)
  have k_1 := ia_n 0 (by decide)
  simp only [ia_lt, ia_le, ia_eq, ia_m1, ia_0, ia_1, ne_eq, true_and, and_true, false_and, and_false, or_false, false_or, or_true, true_or, not_true_eq_false, not_false_eq_true] at *
  all_goals omega
set_option maxRecDepth 20000 in
theorem lf_stirByDraw_2 (draws : Nat) (dx : Int32) (a : Nat) (heat : Int32) (cools : Int32) (skinHeat : Int32) (today : Int32) (stirs : Int32) (steps : Int32) (thickness : Nat) (lumpNames : Nat) (lumpCells : Nat) (boatNames : Nat) (boatCells : Nat) (loads : Nat) (spoons : Nat) (spoonsLeft : Nat) (depths : Nat) (thicknessF : Nat → Int32) (dxG_4 : Int32) (r3 : Int32) (dxG_9 : Int32) (r8 : Int32) (dxG_14 : Int32) (dxG_18 : Int32) (r17 : Int32) (r19 : Int32) (r13n : Nat) (c5 : r3 = 0) (c10 : r8 ≠ 0) (p20 : (r19 = (-1 : Int32) ∧ ¬ ((r8.toInt = 0 ∨ r8.toInt = 1) ∧ (r17.toInt = 0 ∨ r17.toInt = 1) ∧ 0 ≤ (nI r13n).toInt ∧ (nI r13n).toInt < 4)) ∨ (r19 = nI 1 ∧ ((r8.toInt = 0 ∨ r8.toInt = 1) ∧ (r17.toInt = 0 ∨ r17.toInt = 1) ∧ 0 ≤ (nI r13n).toInt ∧ (nI r13n).toInt < 4) ∧ heat.toInt ≤ skinHeat.toInt) ∨ (r19 = nI 0 ∧ ((r8.toInt = 0 ∨ r8.toInt = 1) ∧ (r17.toInt = 0 ∨ r17.toInt = 1) ∧ 0 ≤ (nI r13n).toInt ∧ (nI r13n).toInt < 4) ∧ skinHeat.toInt < heat.toInt)) (c21 : r19 = 0) (h22 : r13n < 4) : r8 = nI 0 ∨ r8 = nI 1 := by
  have k_0 := ia_n r13n (by omega)
  have k_1 := ia_n 1 (by decide)
  have k_2 := ia_n 0 (by decide)
  simp only [ia_lt, ia_le, ia_eq, ia_m1, ia_0, ia_1, ne_eq, true_and, and_true, false_and, and_false, or_false, false_or, or_true, true_or, not_true_eq_false, not_false_eq_true] at *
  all_goals omega
set_option maxRecDepth 20000 in
theorem lf_stirByDraw_3 (draws : Nat) (dx : Int32) (a : Nat) (heat : Int32) (cools : Int32) (skinHeat : Int32) (today : Int32) (stirs : Int32) (steps : Int32) (thickness : Nat) (lumpNames : Nat) (lumpCells : Nat) (boatNames : Nat) (boatCells : Nat) (loads : Nat) (spoons : Nat) (spoonsLeft : Nat) (depths : Nat) (thicknessF : Nat → Int32) (dxG_4 : Int32) (r3 : Int32) (dxG_9 : Int32) (dxG_14 : Int32) (dxG_18 : Int32) (r17 : Int32) (r19 : Int32) (r13n : Nat) (c5 : r3 = 0) (c10 : (nI 0) ≠ 0) (p20 : (r19 = (-1 : Int32) ∧ ¬ (((nI 0).toInt = 0 ∨ (nI 0).toInt = 1) ∧ (r17.toInt = 0 ∨ r17.toInt = 1) ∧ 0 ≤ (nI r13n).toInt ∧ (nI r13n).toInt < 4)) ∨ (r19 = nI 1 ∧ (((nI 0).toInt = 0 ∨ (nI 0).toInt = 1) ∧ (r17.toInt = 0 ∨ r17.toInt = 1) ∧ 0 ≤ (nI r13n).toInt ∧ (nI r13n).toInt < 4) ∧ heat.toInt ≤ skinHeat.toInt) ∨ (r19 = nI 0 ∧ (((nI 0).toInt = 0 ∨ (nI 0).toInt = 1) ∧ (r17.toInt = 0 ∨ r17.toInt = 1) ∧ 0 ≤ (nI r13n).toInt ∧ (nI r13n).toInt < 4) ∧ skinHeat.toInt < heat.toInt)) (c21 : r19 = 0) (h22 : r13n < 4) : r17 = nI 0 ∨ r17 = nI 1 := by
  have k_0 := ia_n 0 (by decide)
  have k_1 := ia_n r13n (by omega)
  have k_2 := ia_n 1 (by decide)
  simp only [ia_lt, ia_le, ia_eq, ia_m1, ia_0, ia_1, ne_eq, true_and, and_true, false_and, and_false, or_false, false_or, or_true, true_or, not_true_eq_false, not_false_eq_true] at *
  all_goals omega
set_option maxRecDepth 20000 in
theorem lf_stirByDraw_4 (draws : Nat) (dx : Int32) (a : Nat) (heat : Int32) (cools : Int32) (skinHeat : Int32) (today : Int32) (stirs : Int32) (steps : Int32) (thickness : Nat) (lumpNames : Nat) (lumpCells : Nat) (boatNames : Nat) (boatCells : Nat) (loads : Nat) (spoons : Nat) (spoonsLeft : Nat) (depths : Nat) (thicknessF : Nat → Int32) (dxG_4 : Int32) (r3 : Int32) (dxG_9 : Int32) (dxG_14 : Int32) (dxG_18 : Int32) (r17 : Int32) (r19 : Int32) (r13n : Nat) (c5 : r3 = 0) (c10 : (nI 1) ≠ 0) (p20 : (r19 = (-1 : Int32) ∧ ¬ (((nI 1).toInt = 0 ∨ (nI 1).toInt = 1) ∧ (r17.toInt = 0 ∨ r17.toInt = 1) ∧ 0 ≤ (nI r13n).toInt ∧ (nI r13n).toInt < 4)) ∨ (r19 = nI 1 ∧ (((nI 1).toInt = 0 ∨ (nI 1).toInt = 1) ∧ (r17.toInt = 0 ∨ r17.toInt = 1) ∧ 0 ≤ (nI r13n).toInt ∧ (nI r13n).toInt < 4) ∧ heat.toInt ≤ skinHeat.toInt) ∨ (r19 = nI 0 ∧ (((nI 1).toInt = 0 ∨ (nI 1).toInt = 1) ∧ (r17.toInt = 0 ∨ r17.toInt = 1) ∧ 0 ≤ (nI r13n).toInt ∧ (nI r13n).toInt < 4) ∧ skinHeat.toInt < heat.toInt)) (c21 : r19 = 0) (h22 : r13n < 4) : r17 = nI 0 ∨ r17 = nI 1 := by
  have k_0 := ia_n 1 (by decide)
  have k_1 := ia_n r13n (by omega)
  have k_2 := ia_n 0 (by decide)
  simp only [ia_lt, ia_le, ia_eq, ia_m1, ia_0, ia_1, ne_eq, true_and, and_true, false_and, and_false, or_false, false_or, or_true, true_or, not_true_eq_false, not_false_eq_true] at *
  all_goals omega
set_option maxRecDepth 20000 in
theorem lf_stirByDraw_5 (draws : Nat) (dx : Int32) (a : Nat) (heat : Int32) (cools : Int32) (skinHeat : Int32) (today : Int32) (stirs : Int32) (steps : Int32) (thickness : Nat) (lumpNames : Nat) (lumpCells : Nat) (boatNames : Nat) (boatCells : Nat) (loads : Nat) (spoons : Nat) (spoonsLeft : Nat) (depths : Nat) (thicknessF : Nat → Int32) (dxG_4 : Int32) (r3 : Int32) (dxG_9 : Int32) (r8 : Int32) (dxG_42 : Int32) (r41 : Int32) (dxG_46 : Int32) (r45 : Int32) (r47 : Int32) (c5 : r3 = 0) (c10 : r8 = 0) (p48 : (r47 = (-1 : Int32) ∧ ¬ ((r8.toInt = 0 ∨ r8.toInt = 1) ∧ (r45.toInt = 0 ∨ r45.toInt = 1) ∧ 0 ≤ r41.toInt ∧ r41.toInt < 4)) ∨ (r47 = nI 1 ∧ ((r8.toInt = 0 ∨ r8.toInt = 1) ∧ (r45.toInt = 0 ∨ r45.toInt = 1) ∧ 0 ≤ r41.toInt ∧ r41.toInt < 4) ∧ heat.toInt ≤ skinHeat.toInt) ∨ (r47 = nI 0 ∧ ((r8.toInt = 0 ∨ r8.toInt = 1) ∧ (r45.toInt = 0 ∨ r45.toInt = 1) ∧ 0 ≤ r41.toInt ∧ r41.toInt < 4) ∧ skinHeat.toInt < heat.toInt)) (c49 : r47 = 0) : 0 ≤ r41.toInt ∧ r41.toInt < ((4 : Nat) : Int) := by
  have k_0 := ia_n 1 (by decide)
  have k_1 := ia_n 0 (by decide)
  simp only [ia_lt, ia_le, ia_eq, ia_m1, ia_0, ia_1, ne_eq, true_and, and_true, false_and, and_false, or_false, false_or, or_true, true_or, not_true_eq_false, not_false_eq_true] at *
  all_goals omega
set_option maxRecDepth 20000 in
theorem lf_stirByDraw_6 (draws : Nat) (dx : Int32) (a : Nat) (heat : Int32) (cools : Int32) (skinHeat : Int32) (today : Int32) (stirs : Int32) (steps : Int32) (thickness : Nat) (lumpNames : Nat) (lumpCells : Nat) (boatNames : Nat) (boatCells : Nat) (loads : Nat) (spoons : Nat) (spoonsLeft : Nat) (depths : Nat) (thicknessF : Nat → Int32) (dxG_4 : Int32) (r3 : Int32) (dxG_9 : Int32) (r8 : Int32) (dxG_42 : Int32) (dxG_46 : Int32) (r45 : Int32) (r47 : Int32) (r41n : Nat) (c5 : r3 = 0) (c10 : r8 = 0) (p48 : (r47 = (-1 : Int32) ∧ ¬ ((r8.toInt = 0 ∨ r8.toInt = 1) ∧ (r45.toInt = 0 ∨ r45.toInt = 1) ∧ 0 ≤ (nI r41n).toInt ∧ (nI r41n).toInt < 4)) ∨ (r47 = nI 1 ∧ ((r8.toInt = 0 ∨ r8.toInt = 1) ∧ (r45.toInt = 0 ∨ r45.toInt = 1) ∧ 0 ≤ (nI r41n).toInt ∧ (nI r41n).toInt < 4) ∧ heat.toInt ≤ skinHeat.toInt) ∨ (r47 = nI 0 ∧ ((r8.toInt = 0 ∨ r8.toInt = 1) ∧ (r45.toInt = 0 ∨ r45.toInt = 1) ∧ 0 ≤ (nI r41n).toInt ∧ (nI r41n).toInt < 4) ∧ skinHeat.toInt < heat.toInt)) (c49 : r47 = 0) (h50 : r41n < 4) : r8 = nI 0 ∨ r8 = nI 1 := by
  have k_0 := ia_n r41n (by omega)
  have k_1 := ia_n 1 (by decide)
  have k_2 := ia_n 0 (by decide)
  simp only [ia_lt, ia_le, ia_eq, ia_m1, ia_0, ia_1, ne_eq, true_and, and_true, false_and, and_false, or_false, false_or, or_true, true_or, not_true_eq_false, not_false_eq_true] at *
  all_goals omega
set_option maxRecDepth 20000 in
theorem lf_stirByDraw_7 (draws : Nat) (dx : Int32) (a : Nat) (heat : Int32) (cools : Int32) (skinHeat : Int32) (today : Int32) (stirs : Int32) (steps : Int32) (thickness : Nat) (lumpNames : Nat) (lumpCells : Nat) (boatNames : Nat) (boatCells : Nat) (loads : Nat) (spoons : Nat) (spoonsLeft : Nat) (depths : Nat) (thicknessF : Nat → Int32) (dxG_4 : Int32) (r3 : Int32) (dxG_9 : Int32) (dxG_42 : Int32) (dxG_46 : Int32) (r45 : Int32) (r47 : Int32) (r41n : Nat) (c5 : r3 = 0) (c10 : (nI 0) = 0) (p48 : (r47 = (-1 : Int32) ∧ ¬ (((nI 0).toInt = 0 ∨ (nI 0).toInt = 1) ∧ (r45.toInt = 0 ∨ r45.toInt = 1) ∧ 0 ≤ (nI r41n).toInt ∧ (nI r41n).toInt < 4)) ∨ (r47 = nI 1 ∧ (((nI 0).toInt = 0 ∨ (nI 0).toInt = 1) ∧ (r45.toInt = 0 ∨ r45.toInt = 1) ∧ 0 ≤ (nI r41n).toInt ∧ (nI r41n).toInt < 4) ∧ heat.toInt ≤ skinHeat.toInt) ∨ (r47 = nI 0 ∧ (((nI 0).toInt = 0 ∨ (nI 0).toInt = 1) ∧ (r45.toInt = 0 ∨ r45.toInt = 1) ∧ 0 ≤ (nI r41n).toInt ∧ (nI r41n).toInt < 4) ∧ skinHeat.toInt < heat.toInt)) (c49 : r47 = 0) (h50 : r41n < 4) : r45 = nI 0 ∨ r45 = nI 1 := by
  have k_0 := ia_n 0 (by decide)
  have k_1 := ia_n r41n (by omega)
  have k_2 := ia_n 1 (by decide)
  simp only [ia_lt, ia_le, ia_eq, ia_m1, ia_0, ia_1, ne_eq, true_and, and_true, false_and, and_false, or_false, false_or, or_true, true_or, not_true_eq_false, not_false_eq_true] at *
  all_goals omega
set_option maxRecDepth 20000 in
theorem lf_stirByDraw_8 (draws : Nat) (dx : Int32) (a : Nat) (heat : Int32) (cools : Int32) (skinHeat : Int32) (today : Int32) (stirs : Int32) (steps : Int32) (thickness : Nat) (lumpNames : Nat) (lumpCells : Nat) (boatNames : Nat) (boatCells : Nat) (loads : Nat) (spoons : Nat) (spoonsLeft : Nat) (depths : Nat) (thicknessF : Nat → Int32) (dxG_4 : Int32) (r3 : Int32) (dxG_9 : Int32) (dxG_42 : Int32) (dxG_46 : Int32) (r45 : Int32) (r47 : Int32) (r41n : Nat) (c5 : r3 = 0) (c10 : (nI 1) = 0) (p48 : (r47 = (-1 : Int32) ∧ ¬ (((nI 1).toInt = 0 ∨ (nI 1).toInt = 1) ∧ (r45.toInt = 0 ∨ r45.toInt = 1) ∧ 0 ≤ (nI r41n).toInt ∧ (nI r41n).toInt < 4)) ∨ (r47 = nI 1 ∧ (((nI 1).toInt = 0 ∨ (nI 1).toInt = 1) ∧ (r45.toInt = 0 ∨ r45.toInt = 1) ∧ 0 ≤ (nI r41n).toInt ∧ (nI r41n).toInt < 4) ∧ heat.toInt ≤ skinHeat.toInt) ∨ (r47 = nI 0 ∧ (((nI 1).toInt = 0 ∨ (nI 1).toInt = 1) ∧ (r45.toInt = 0 ∨ r45.toInt = 1) ∧ 0 ≤ (nI r41n).toInt ∧ (nI r41n).toInt < 4) ∧ skinHeat.toInt < heat.toInt)) (c49 : r47 = 0) (h50 : r41n < 4) : r45 = nI 0 ∨ r45 = nI 1 := by
  have k_0 := ia_n 1 (by decide)
  have k_1 := ia_n r41n (by omega)
  have k_2 := ia_n 0 (by decide)
  simp only [ia_lt, ia_le, ia_eq, ia_m1, ia_0, ia_1, ne_eq, true_and, and_true, false_and, and_false, or_false, false_or, or_true, true_or, not_true_eq_false, not_false_eq_true] at *
  all_goals omega
set_option maxHeartbeats 4000000 in
set_option maxRecDepth 100000 in
theorem c_stirByDraw (l : Launch) (dC : Nat → ClassId) (dI : Nat → Nat → Nat) (ky : Nat → ClassId) (sz : Nat) (draws : Nat) (dx : Int32) (a : Nat) (heat : Int32) (cools : Int32) (skinHeat : Int32) (today : Int32) (stirs : Int32) (steps : Int32) (thickness : Nat) (lumpNames : Nat) (lumpCells : Nat) (boatNames : Nat) (boatCells : Nat) (loads : Nat) (spoons : Nat) (spoonsLeft : Nat) (depths : Nat) (thicknessF : Nat → Int32)  : Met l yX1_stirByDraw wsX1_stirByDraw ({ frames := 2, cells := 0, slots := 0, locals := 54 }) (PcU dC dI ky [.ref draws, .ref a] [(draws, .inr (1, [.int dx])), (a, .inr (7, [.int (nI 4), .int (nI 4), .int heat, .int cools, .int skinHeat, .int today, .int stirs, .int steps, .int (nI 0), .int (nI 0), .ref thickness, .ref lumpNames, .ref lumpCells, .ref boatNames, .ref boatCells, .ref loads, .ref spoons, .ref spoonsLeft, .ref depths])), (thickness, .inl (ky 0, 36, .inl thicknessF))] sz) (va_Qv (fun (u : Int32 × Int32 × (Nat → Int32)) => match u with | (dxG, stirsG, thicknessG) => True) (BU dC dI ky (fun (u : Int32 × Int32 × (Nat → Int32)) => match u with | (dxG, stirsG, thicknessG) => [(draws, .inr (1, [.int dxG])), (a, .inr (7, [.int (nI 4), .int (nI 4), .int heat, .int cools, .int skinHeat, .int today, .int stirsG, .int steps, .int (nI 0), .int (nI 0), .ref thickness, .ref lumpNames, .ref lumpCells, .ref boatNames, .ref boatCells, .ref loads, .ref spoons, .ref spoonsLeft, .ref depths])), (thickness, .inl (ky 0, 36, .inl thicknessG))]) (va_A [(draws, .inr (1, [.int dx])), (a, .inr (7, [.int (nI 4), .int (nI 4), .int heat, .int cools, .int skinHeat, .int today, .int stirs, .int steps, .int (nI 0), .int (nI 0), .ref thickness, .ref lumpNames, .ref lumpCells, .ref boatNames, .ref boatCells, .ref loads, .ref spoons, .ref spoonsLeft, .ref depths])), (thickness, .inl (ky 0, 36, .inl thicknessF))] sz)) (va_A [(draws, .inr (1, [.int dx])), (a, .inr (7, [.int (nI 4), .int (nI 4), .int heat, .int cools, .int skinHeat, .int today, .int stirs, .int steps, .int (nI 0), .int (nI 0), .ref thickness, .ref lumpNames, .ref lumpCells, .ref boatNames, .ref boatCells, .ref loads, .ref spoons, .ref spoonsLeft, .ref depths])), (thickness, .inl (ky 0, 36, .inl thicknessF))] sz)) 0 0 (va_A [(draws, .inr (1, [.int dx])), (a, .inr (7, [.int (nI 4), .int (nI 4), .int heat, .int cools, .int skinHeat, .int today, .int stirs, .int steps, .int (nI 0), .int (nI 0), .ref thickness, .ref lumpNames, .ref lumpCells, .ref boatNames, .ref boatCells, .ref loads, .ref spoons, .ref spoonsLeft, .ref depths])), (thickness, .inl (ky 0, 36, .inl thicknessF))] sz) := by
  refine Met.ofW (cc := cX1_stirByDraw) (maxL := 5) (ret := none) (by decide) rfl ?_
  intro p e s m args below meth c s₁ B hml hv
  obtain ⟨rfl, hsz, hP, hK, hD0⟩ := hv
  have hx := B.exec
  have hb := B.bytes
  have hr := B.returns
  have hts := atoms_spec (ws := wsX1_stirByDraw) B.pre
  have hown : s.vm.findClass RX1 = some m.cls := findClass_of_methodNamed B.named
  have hlocks := B.notSynchronized
  have hin7 : ∀ w ∈ u_ws RX7 TX7 19, w ∈ wsX1_stirByDraw := by decide +kernel
  subst hsz
  have hD := hD0.self (sz := s.heap.size)
  generalize hAe : va_A [(draws, .inr (1, [.int dx])), (a, .inr (7, [.int (nI 4), .int (nI 4), .int heat, .int cools, .int skinHeat, .int today, .int stirs, .int steps, .int (nI 0), .int (nI 0), .ref thickness, .ref lumpNames, .ref lumpCells, .ref boatNames, .ref boatCells, .ref loads, .ref spoons, .ref spoonsLeft, .ref depths])), (thickness, .inl (ky 0, 36, .inl thicknessF))] s.heap.size = A at hD ⊢
  have hA : ∀ q : Nat, s.heap.size ≤ q → A q := fun q h => by rw [← hAe]; exact Or.inr h
  have hS : va_S A s.heap s.heap [] := va_S.rf
  have hP : va_P (dC, dI) vwCl [(draws, .inr (1, [.int dx])), (a, .inr (7, [.int (nI 4), .int (nI 4), .int heat, .int cools, .int skinHeat, .int today, .int stirs, .int steps, .int (nI 0), .int (nI 0), .ref thickness, .ref lumpNames, .ref lumpCells, .ref boatNames, .ref boatCells, .ref loads, .ref spoons, .ref spoonsLeft, .ref depths])), (thickness, .inl (ky 0, 36, .inl thicknessF))] s.heap := hP
  have hl := lv_entry ([.ref draws, .ref a]) (n := 5) (Nat.le_of_ble_eq_true rfl)
  rw [lg_entry_eq]
  generalize (lg_sl ([.ref draws, .ref a]) ++ List.replicate (5 - (lg_sl ([.ref draws, .ref a])).length) Slot.unset).toArray = ls at hl ⊢
  have hl : lv_has ls 5 [(0, .ref draws), (1, .ref a)] := hl
  have hH0 : True := trivial
  refine lv_aload_n hx hb dX1_stirByDraw_0 rfl (lv_at hl 0 rfl) ?_
  refine lv_iconst (v := nI 3) hx hb dX1_stirByDraw_1 (by decide) ?_
  refine r_call_i (wr := [(a, .inr (7, [.int (nI 4), .int (nI 4), .int heat, .int cools, .int skinHeat, .int today, .int stirs, .int steps, .int (nI 0), .int (nI 0), .ref thickness, .ref lumpNames, .ref lumpCells, .ref boatNames, .ref boatCells, .ref loads, .ref spoons, .ref spoonsLeft, .ref depths])), (thickness, .inl (ky 0, 36, .inl thicknessF))]) (va_runV (As := [.int (nI 3)]) (rest := []) ⟨hx, hb, hml, hown, hts⟩ (c_draw3 l dC dI ky s.heap.size draws dx) (cwV 1 hts gX1_stirByDraw_X1_draw rfl rfl rfl (by decide +kernel) ⟨(Nat.le_of_ble_eq_true rfl), (Nat.le_of_ble_eq_true rfl)⟩) (pre_UV hK hP hD [0] (by decide) rfl (ci := 1) (q0 := 0) rfl rfl) rfl rfl hl.1 rfl (lv_room (Nat.le_of_ble_eq_true rfl)) dX1_stirByDraw_2 ⟨(Nat.le_of_ble_eq_true rfl), (Nat.le_of_ble_eq_true rfl)⟩) hP hD hS hA [0] [1, 2] rfl rfl (by decide) (by decide) (fun r3 u1 H locs p2 hP hD hS => ?_)
  obtain ⟨dxG_4, rfl⟩ : ∃ z, z = u1 := ⟨_, rfl⟩
  refine W.widen (k := 0) (n := 0) (Nat.le_of_ble_eq_true rfl) (Nat.le_of_ble_eq_true rfl) ?_
  have hP : va_P (dC, dI) vwCl [(a, .inr (7, [.int (nI 4), .int (nI 4), .int heat, .int cools, .int skinHeat, .int today, .int stirs, .int steps, .int (nI 0), .int (nI 0), .ref thickness, .ref lumpNames, .ref lumpCells, .ref boatNames, .ref boatCells, .ref loads, .ref spoons, .ref spoonsLeft, .ref depths])), (thickness, .inl (ky 0, 36, .inl thicknessF)), (draws, .inr (1, [.int dxG_4]))] H := hP
  have hD : va_D A [(a, .inr (7, [.int (nI 4), .int (nI 4), .int heat, .int cools, .int skinHeat, .int today, .int stirs, .int steps, .int (nI 0), .int (nI 0), .ref thickness, .ref lumpNames, .ref lumpCells, .ref boatNames, .ref boatCells, .ref loads, .ref spoons, .ref spoonsLeft, .ref depths])), (thickness, .inl (ky 0, 36, .inl thicknessF)), (draws, .inr (1, [.int dxG_4]))] := hD
  refine lv_if_eq (tgt := 9) hx hb dX1_stirByDraw_5 (by decide) (fun c5 => ?_) (fun c5 => ?_)
  · refine lv_aload_n hx hb dX1_stirByDraw_9 rfl (lv_at hl 0 rfl) ?_
    refine lv_iconst (v := nI 2) hx hb dX1_stirByDraw_10 (by decide) ?_
    refine r_call_i (wr := [(a, .inr (7, [.int (nI 4), .int (nI 4), .int heat, .int cools, .int skinHeat, .int today, .int stirs, .int steps, .int (nI 0), .int (nI 0), .ref thickness, .ref lumpNames, .ref lumpCells, .ref boatNames, .ref boatCells, .ref loads, .ref spoons, .ref spoonsLeft, .ref depths])), (thickness, .inl (ky 0, 36, .inl thicknessF))]) (va_runV (As := [.int (nI 2)]) (rest := []) ⟨hx, hb, hml, hown, hts⟩ (c_draw2 l dC dI ky H.size draws dxG_4) (cwV 1 hts gX1_stirByDraw_X1_draw rfl rfl rfl (by decide +kernel) ⟨(Nat.le_of_ble_eq_true rfl), (Nat.le_of_ble_eq_true rfl)⟩) (pre_UV hK hP hD [2] (by decide) rfl (ci := 1) (q0 := 2) rfl rfl) rfl rfl hl.1 rfl (lv_room (Nat.le_of_ble_eq_true rfl)) dX1_stirByDraw_11 ⟨(Nat.le_of_ble_eq_true rfl), (Nat.le_of_ble_eq_true rfl)⟩) hP hD hS hA [2] [0, 1] rfl rfl (by decide) (by decide) (fun r8 u6 H locs p7 hP hD hS => ?_)
    obtain ⟨dxG_9, rfl⟩ : ∃ z, z = u6 := ⟨_, rfl⟩
    refine W.widen (k := 0) (n := 0) (Nat.le_of_ble_eq_true rfl) (Nat.le_of_ble_eq_true rfl) ?_
    have hP : va_P (dC, dI) vwCl [(a, .inr (7, [.int (nI 4), .int (nI 4), .int heat, .int cools, .int skinHeat, .int today, .int stirs, .int steps, .int (nI 0), .int (nI 0), .ref thickness, .ref lumpNames, .ref lumpCells, .ref boatNames, .ref boatCells, .ref loads, .ref spoons, .ref spoonsLeft, .ref depths])), (thickness, .inl (ky 0, 36, .inl thicknessF)), (draws, .inr (1, [.int dxG_9]))] H := hP
    have hD : va_D A [(a, .inr (7, [.int (nI 4), .int (nI 4), .int heat, .int cools, .int skinHeat, .int today, .int stirs, .int steps, .int (nI 0), .int (nI 0), .ref thickness, .ref lumpNames, .ref lumpCells, .ref boatNames, .ref boatCells, .ref loads, .ref spoons, .ref spoonsLeft, .ref depths])), (thickness, .inl (ky 0, 36, .inl thicknessF)), (draws, .inr (1, [.int dxG_9]))] := hD
    refine lv_istore_n (lv' := [(2, .int r8), (0, .ref draws), (1, .ref a)]) hx hb dX1_stirByDraw_14 rfl hl (by decide) rfl (fun ls hl => ?_)
    refine lv_aload_n hx hb dX1_stirByDraw_15 rfl (lv_at hl 1 rfl) ?_
    refine lv_iload_n hx hb dX1_stirByDraw_16 rfl (lv_at hl 0 rfl) ?_
    refine lv_if_ne (tgt := 27) hx hb dX1_stirByDraw_17 (by decide) (fun c10 => ?_) (fun c10 => ?_)
    · refine lv_aload_n hx hb dX1_stirByDraw_27 rfl (lv_at hl 2 rfl) ?_
      refine va_get (D := (dC, dI)) (ci := 7) (v := .int (nI 4)) (C := RX7) (T := TX7) (N := 19) hx hb hts hin7 hown hK hP 0 rfl rfl 0 (by decide) (hts (.fieldLink RX1 45 "PorridgeSea$Sea" "wide" "I") (List.mem_of_getElem? (i := 2) rfl)) (fun _ h9 => h9) rfl dX1_stirByDraw_28 ?_
      refine r_call_i (wr := [(a, .inr (7, [.int (nI 4), .int (nI 4), .int heat, .int cools, .int skinHeat, .int today, .int stirs, .int steps, .int (nI 0), .int (nI 0), .ref thickness, .ref lumpNames, .ref lumpCells, .ref boatNames, .ref boatCells, .ref loads, .ref spoons, .ref spoonsLeft, .ref depths])), (thickness, .inl (ky 0, 36, .inl thicknessF))]) (va_runV (As := [.int (nI 4)]) (rest := []) ⟨hx, hb, hml, hown, hts⟩ (c_draw4 l dC dI ky H.size draws dxG_9) (cwV 1 hts gX1_stirByDraw_X1_draw rfl rfl rfl (by decide +kernel) ⟨(Nat.le_of_ble_eq_true rfl), (Nat.le_of_ble_eq_true rfl)⟩) (pre_UV hK hP hD [2] (by decide) rfl (ci := 1) (q0 := 2) rfl rfl) rfl rfl hl.1 rfl (lv_room (Nat.le_of_ble_eq_true rfl)) dX1_stirByDraw_31 ⟨(Nat.le_of_ble_eq_true rfl), (Nat.le_of_ble_eq_true rfl)⟩) hP hD hS hA [2] [0, 1] rfl rfl (by decide) (by decide) (fun r13 u11 H locs p12 hP hD hS => ?_)
      obtain ⟨dxG_14, rfl⟩ : ∃ z, z = u11 := ⟨_, rfl⟩
      refine W.widen (k := 0) (n := 0) (Nat.le_of_ble_eq_true rfl) (Nat.le_of_ble_eq_true rfl) ?_
      have hP : va_P (dC, dI) vwCl [(a, .inr (7, [.int (nI 4), .int (nI 4), .int heat, .int cools, .int skinHeat, .int today, .int stirs, .int steps, .int (nI 0), .int (nI 0), .ref thickness, .ref lumpNames, .ref lumpCells, .ref boatNames, .ref boatCells, .ref loads, .ref spoons, .ref spoonsLeft, .ref depths])), (thickness, .inl (ky 0, 36, .inl thicknessF)), (draws, .inr (1, [.int dxG_14]))] H := hP
      have hD : va_D A [(a, .inr (7, [.int (nI 4), .int (nI 4), .int heat, .int cools, .int skinHeat, .int today, .int stirs, .int steps, .int (nI 0), .int (nI 0), .ref thickness, .ref lumpNames, .ref lumpCells, .ref boatNames, .ref boatCells, .ref loads, .ref spoons, .ref spoonsLeft, .ref depths])), (thickness, .inl (ky 0, 36, .inl thicknessF)), (draws, .inr (1, [.int dxG_14]))] := hD
      refine lv_istore_n (lv' := [(3, .int r13), (2, .int r8), (0, .ref draws), (1, .ref a)]) hx hb dX1_stirByDraw_34 rfl hl (by decide) rfl (fun ls hl => ?_)
      refine lv_aload_n hx hb dX1_stirByDraw_35 rfl (lv_at hl 2 rfl) ?_
      refine lv_iconst (v := nI 2) hx hb dX1_stirByDraw_36 (by decide) ?_
      refine r_call_i (wr := [(a, .inr (7, [.int (nI 4), .int (nI 4), .int heat, .int cools, .int skinHeat, .int today, .int stirs, .int steps, .int (nI 0), .int (nI 0), .ref thickness, .ref lumpNames, .ref lumpCells, .ref boatNames, .ref boatCells, .ref loads, .ref spoons, .ref spoonsLeft, .ref depths])), (thickness, .inl (ky 0, 36, .inl thicknessF))]) (va_runV (As := [.int (nI 2)]) (rest := []) ⟨hx, hb, hml, hown, hts⟩ (c_draw2 l dC dI ky H.size draws dxG_14) (cwV 1 hts gX1_stirByDraw_X1_draw rfl rfl rfl (by decide +kernel) ⟨(Nat.le_of_ble_eq_true rfl), (Nat.le_of_ble_eq_true rfl)⟩) (pre_UV hK hP hD [2] (by decide) rfl (ci := 1) (q0 := 2) rfl rfl) rfl rfl hl.1 rfl (lv_room (Nat.le_of_ble_eq_true rfl)) dX1_stirByDraw_37 ⟨(Nat.le_of_ble_eq_true rfl), (Nat.le_of_ble_eq_true rfl)⟩) hP hD hS hA [2] [0, 1] rfl rfl (by decide) (by decide) (fun r17 u15 H locs p16 hP hD hS => ?_)
      obtain ⟨dxG_18, rfl⟩ : ∃ z, z = u15 := ⟨_, rfl⟩
      refine W.widen (k := 0) (n := 0) (Nat.le_of_ble_eq_true rfl) (Nat.le_of_ble_eq_true rfl) ?_
      have hP : va_P (dC, dI) vwCl [(a, .inr (7, [.int (nI 4), .int (nI 4), .int heat, .int cools, .int skinHeat, .int today, .int stirs, .int steps, .int (nI 0), .int (nI 0), .ref thickness, .ref lumpNames, .ref lumpCells, .ref boatNames, .ref boatCells, .ref loads, .ref spoons, .ref spoonsLeft, .ref depths])), (thickness, .inl (ky 0, 36, .inl thicknessF)), (draws, .inr (1, [.int dxG_18]))] H := hP
      have hD : va_D A [(a, .inr (7, [.int (nI 4), .int (nI 4), .int heat, .int cools, .int skinHeat, .int today, .int stirs, .int steps, .int (nI 0), .int (nI 0), .ref thickness, .ref lumpNames, .ref lumpCells, .ref boatNames, .ref boatCells, .ref loads, .ref spoons, .ref spoonsLeft, .ref depths])), (thickness, .inl (ky 0, 36, .inl thicknessF)), (draws, .inr (1, [.int dxG_18]))] := hD
      refine lv_istore (lv' := [(4, .int r17), (3, .int r13), (2, .int r8), (0, .ref draws), (1, .ref a)]) hx hb dX1_stirByDraw_40 hl (by decide) rfl (fun ls hl => ?_)
      refine lv_aload_n hx hb dX1_stirByDraw_42 rfl (lv_at hl 4 rfl) ?_
      refine lv_iload_n hx hb dX1_stirByDraw_43 rfl (lv_at hl 2 rfl) ?_
      refine lv_iload_n hx hb dX1_stirByDraw_44 rfl (lv_at hl 1 rfl) ?_
      refine lv_iload hx hb dX1_stirByDraw_45 (lv_at hl 0 rfl) ?_
      refine vp_callSi (W.runV (As := [.int r8, .int r13, .int r17]) (rest := []) ⟨hx, hb, hml, hown, hts⟩ (c_whyNotStirred l dC dI ky a heat cools skinHeat today stirs steps thickness lumpNames lumpCells boatNames boatCells loads spoons spoonsLeft depths r8 r13 r17) (cwV 3 hts gX1_stirByDraw_X7_whyNotStirred rfl rfl rfl (by decide +kernel) ⟨(Nat.le_of_ble_eq_true rfl), (Nat.le_of_ble_eq_true rfl)⟩) (pre_PV hK hP [0] rfl (ci := 7) (q0 := 0) rfl rfl) rfl rfl hl.1 rfl (lv_room (Nat.le_of_ble_eq_true rfl)) dX1_stirByDraw_47 ⟨(Nat.le_of_ble_eq_true rfl), (Nat.le_of_ble_eq_true rfl)⟩) (fun r19 p20 => ?_)
      refine lv_if_ne (tgt := 61) hx hb dX1_stirByDraw_50 (by decide) (fun c21 => ?_) (fun c21 => ?_)
      · have hP9 := hP.sub (ws' := [(draws, .inr (1, [.int dxG_18])), (a, .inr (7, [.int (nI 4), .int (nI 4), .int heat, .int cools, .int skinHeat, .int today, .int stirs, .int steps, .int (nI 0), .int (nI 0), .ref thickness, .ref lumpNames, .ref lumpCells, .ref boatNames, .ref boatCells, .ref loads, .ref spoons, .ref spoonsLeft, .ref depths])), (thickness, .inl (ky 0, 36, .inl thicknessF))]) [2, 0, 1] rfl
        have hD9 := hD.sub (ws' := [(draws, .inr (1, [.int dxG_18])), (a, .inr (7, [.int (nI 4), .int (nI 4), .int heat, .int cools, .int skinHeat, .int today, .int stirs, .int steps, .int (nI 0), .int (nI 0), .ref thickness, .ref lumpNames, .ref lumpCells, .ref boatNames, .ref boatCells, .ref loads, .ref spoons, .ref spoonsLeft, .ref depths])), (thickness, .inl (ky 0, 36, .inl thicknessF))]) [2, 0, 1] (by decide) rfl
        refine W.widen (k := 0) (n := 0) (Nat.le_of_ble_eq_true rfl) (Nat.le_of_ble_eq_true rfl) ?_
        exact W.vret hx hb hr (fun t ht9 hW9 => ⟨⟨(dxG_18, stirs, thicknessF), rfl, trivial, by rw [ht9]; exact hP9, va_K.moved hW9.alike hK, hD9⟩, hS.F ht9⟩) hS.2.2 dX1_stirByDraw_61
      · obtain ⟨r13n, h22, rfl⟩ := nat_of r13 4 (by decide) (lf_stirByDraw_1 draws dx a heat cools skinHeat today stirs steps thickness lumpNames lumpCells boatNames boatCells loads spoons spoonsLeft depths thicknessF dxG_4 r3 dxG_9 r8 dxG_14 r13 dxG_18 r17 r19 c5 c10 p20 c21)
        rcases (lf_stirByDraw_2 draws dx a heat cools skinHeat today stirs steps thickness lumpNames lumpCells boatNames boatCells loads spoons spoonsLeft depths thicknessF dxG_4 r3 dxG_9 r8 dxG_14 dxG_18 r17 r19 r13n c5 c10 p20 c21 h22) with rfl | rfl
        · rcases (lf_stirByDraw_3 draws dx a heat cools skinHeat today stirs steps thickness lumpNames lumpCells boatNames boatCells loads spoons spoonsLeft depths thicknessF dxG_4 r3 dxG_9 dxG_14 dxG_18 r17 r19 r13n c5 c10 p20 c21 h22) with rfl | rfl
          · refine lv_aload_n hx hb dX1_stirByDraw_53 rfl (lv_at hl 4 rfl) ?_
            refine lv_iload_n hx hb dX1_stirByDraw_54 rfl (lv_at hl 2 rfl) ?_
            refine lv_iload_n hx hb dX1_stirByDraw_55 rfl (lv_at hl 1 rfl) ?_
            refine lv_iload hx hb dX1_stirByDraw_56 (lv_at hl 0 rfl) ?_
            refine r_call_v (wr := [(draws, .inr (1, [.int dxG_18]))]) (va_runV (As := [.int (nI 0), .int (nI r13n), .int (nI 0)]) (rest := []) ⟨hx, hb, hml, hown, hts⟩ (c_stirLine00 l dC dI ky H.size a heat cools skinHeat today stirs steps thickness lumpNames lumpCells boatNames boatCells loads spoons spoonsLeft depths thicknessF r13n (by omega)) (cwV 3 hts gX1_stirByDraw_X7_stirLine rfl rfl rfl (by decide +kernel) ⟨(Nat.le_of_ble_eq_true rfl), (Nat.le_of_ble_eq_true rfl)⟩) (pre_UV hK hP hD [0, 1] (by decide) rfl (ci := 7) (q0 := 0) rfl rfl) rfl rfl hl.1 rfl (lv_room (Nat.le_of_ble_eq_true rfl)) dX1_stirByDraw_58 ⟨(Nat.le_of_ble_eq_true rfl), (Nat.le_of_ble_eq_true rfl)⟩) hP hD hS hA [0, 1] [2] rfl rfl (by decide) (by decide) (fun  u23 H locs p24 hP hD hS => ?_)
            obtain ⟨stirsG_25, thicknessG_26⟩ := u23
            refine W.widen (k := 0) (n := 0) (Nat.le_of_ble_eq_true rfl) (Nat.le_of_ble_eq_true rfl) ?_
            have hP : va_P (dC, dI) vwCl [(draws, .inr (1, [.int dxG_18])), (a, .inr (7, [.int (nI 4), .int (nI 4), .int heat, .int cools, .int skinHeat, .int today, .int stirsG_25, .int steps, .int (nI 0), .int (nI 0), .ref thickness, .ref lumpNames, .ref lumpCells, .ref boatNames, .ref boatCells, .ref loads, .ref spoons, .ref spoonsLeft, .ref depths])), (thickness, .inl (ky 0, 36, .inl thicknessG_26))] H := hP
            have hD : va_D A [(draws, .inr (1, [.int dxG_18])), (a, .inr (7, [.int (nI 4), .int (nI 4), .int heat, .int cools, .int skinHeat, .int today, .int stirsG_25, .int steps, .int (nI 0), .int (nI 0), .ref thickness, .ref lumpNames, .ref lumpCells, .ref boatNames, .ref boatCells, .ref loads, .ref spoons, .ref spoonsLeft, .ref depths])), (thickness, .inl (ky 0, 36, .inl thicknessG_26))] := hD
            have hP9 := hP.sub (ws' := [(draws, .inr (1, [.int dxG_18])), (a, .inr (7, [.int (nI 4), .int (nI 4), .int heat, .int cools, .int skinHeat, .int today, .int stirsG_25, .int steps, .int (nI 0), .int (nI 0), .ref thickness, .ref lumpNames, .ref lumpCells, .ref boatNames, .ref boatCells, .ref loads, .ref spoons, .ref spoonsLeft, .ref depths])), (thickness, .inl (ky 0, 36, .inl thicknessG_26))]) [0, 1, 2] rfl
            have hD9 := hD.sub (ws' := [(draws, .inr (1, [.int dxG_18])), (a, .inr (7, [.int (nI 4), .int (nI 4), .int heat, .int cools, .int skinHeat, .int today, .int stirsG_25, .int steps, .int (nI 0), .int (nI 0), .ref thickness, .ref lumpNames, .ref lumpCells, .ref boatNames, .ref boatCells, .ref loads, .ref spoons, .ref spoonsLeft, .ref depths])), (thickness, .inl (ky 0, 36, .inl thicknessG_26))]) [0, 1, 2] (by decide) rfl
            refine W.widen (k := 0) (n := 0) (Nat.le_of_ble_eq_true rfl) (Nat.le_of_ble_eq_true rfl) ?_
            exact W.vret hx hb hr (fun t ht9 hW9 => ⟨⟨(dxG_18, stirsG_25, thicknessG_26), rfl, trivial, by rw [ht9]; exact hP9, va_K.moved hW9.alike hK, hD9⟩, hS.F ht9⟩) hS.2.2 dX1_stirByDraw_61
          · refine lv_aload_n hx hb dX1_stirByDraw_53 rfl (lv_at hl 4 rfl) ?_
            refine lv_iload_n hx hb dX1_stirByDraw_54 rfl (lv_at hl 2 rfl) ?_
            refine lv_iload_n hx hb dX1_stirByDraw_55 rfl (lv_at hl 1 rfl) ?_
            refine lv_iload hx hb dX1_stirByDraw_56 (lv_at hl 0 rfl) ?_
            refine r_call_v (wr := [(draws, .inr (1, [.int dxG_18]))]) (va_runV (As := [.int (nI 0), .int (nI r13n), .int (nI 1)]) (rest := []) ⟨hx, hb, hml, hown, hts⟩ (c_stirLine01 l dC dI ky H.size a heat cools skinHeat today stirs steps thickness lumpNames lumpCells boatNames boatCells loads spoons spoonsLeft depths thicknessF r13n (by omega)) (cwV 3 hts gX1_stirByDraw_X7_stirLine rfl rfl rfl (by decide +kernel) ⟨(Nat.le_of_ble_eq_true rfl), (Nat.le_of_ble_eq_true rfl)⟩) (pre_UV hK hP hD [0, 1] (by decide) rfl (ci := 7) (q0 := 0) rfl rfl) rfl rfl hl.1 rfl (lv_room (Nat.le_of_ble_eq_true rfl)) dX1_stirByDraw_58 ⟨(Nat.le_of_ble_eq_true rfl), (Nat.le_of_ble_eq_true rfl)⟩) hP hD hS hA [0, 1] [2] rfl rfl (by decide) (by decide) (fun  u27 H locs p28 hP hD hS => ?_)
            obtain ⟨stirsG_29, thicknessG_30⟩ := u27
            refine W.widen (k := 0) (n := 0) (Nat.le_of_ble_eq_true rfl) (Nat.le_of_ble_eq_true rfl) ?_
            have hP : va_P (dC, dI) vwCl [(draws, .inr (1, [.int dxG_18])), (a, .inr (7, [.int (nI 4), .int (nI 4), .int heat, .int cools, .int skinHeat, .int today, .int stirsG_29, .int steps, .int (nI 0), .int (nI 0), .ref thickness, .ref lumpNames, .ref lumpCells, .ref boatNames, .ref boatCells, .ref loads, .ref spoons, .ref spoonsLeft, .ref depths])), (thickness, .inl (ky 0, 36, .inl thicknessG_30))] H := hP
            have hD : va_D A [(draws, .inr (1, [.int dxG_18])), (a, .inr (7, [.int (nI 4), .int (nI 4), .int heat, .int cools, .int skinHeat, .int today, .int stirsG_29, .int steps, .int (nI 0), .int (nI 0), .ref thickness, .ref lumpNames, .ref lumpCells, .ref boatNames, .ref boatCells, .ref loads, .ref spoons, .ref spoonsLeft, .ref depths])), (thickness, .inl (ky 0, 36, .inl thicknessG_30))] := hD
            have hP9 := hP.sub (ws' := [(draws, .inr (1, [.int dxG_18])), (a, .inr (7, [.int (nI 4), .int (nI 4), .int heat, .int cools, .int skinHeat, .int today, .int stirsG_29, .int steps, .int (nI 0), .int (nI 0), .ref thickness, .ref lumpNames, .ref lumpCells, .ref boatNames, .ref boatCells, .ref loads, .ref spoons, .ref spoonsLeft, .ref depths])), (thickness, .inl (ky 0, 36, .inl thicknessG_30))]) [0, 1, 2] rfl
            have hD9 := hD.sub (ws' := [(draws, .inr (1, [.int dxG_18])), (a, .inr (7, [.int (nI 4), .int (nI 4), .int heat, .int cools, .int skinHeat, .int today, .int stirsG_29, .int steps, .int (nI 0), .int (nI 0), .ref thickness, .ref lumpNames, .ref lumpCells, .ref boatNames, .ref boatCells, .ref loads, .ref spoons, .ref spoonsLeft, .ref depths])), (thickness, .inl (ky 0, 36, .inl thicknessG_30))]) [0, 1, 2] (by decide) rfl
            refine W.widen (k := 0) (n := 0) (Nat.le_of_ble_eq_true rfl) (Nat.le_of_ble_eq_true rfl) ?_
            exact W.vret hx hb hr (fun t ht9 hW9 => ⟨⟨(dxG_18, stirsG_29, thicknessG_30), rfl, trivial, by rw [ht9]; exact hP9, va_K.moved hW9.alike hK, hD9⟩, hS.F ht9⟩) hS.2.2 dX1_stirByDraw_61
        · rcases (lf_stirByDraw_4 draws dx a heat cools skinHeat today stirs steps thickness lumpNames lumpCells boatNames boatCells loads spoons spoonsLeft depths thicknessF dxG_4 r3 dxG_9 dxG_14 dxG_18 r17 r19 r13n c5 c10 p20 c21 h22) with rfl | rfl
          · refine lv_aload_n hx hb dX1_stirByDraw_53 rfl (lv_at hl 4 rfl) ?_
            refine lv_iload_n hx hb dX1_stirByDraw_54 rfl (lv_at hl 2 rfl) ?_
            refine lv_iload_n hx hb dX1_stirByDraw_55 rfl (lv_at hl 1 rfl) ?_
            refine lv_iload hx hb dX1_stirByDraw_56 (lv_at hl 0 rfl) ?_
            refine r_call_v (wr := [(draws, .inr (1, [.int dxG_18]))]) (va_runV (As := [.int (nI 1), .int (nI r13n), .int (nI 0)]) (rest := []) ⟨hx, hb, hml, hown, hts⟩ (c_stirLine10 l dC dI ky H.size a heat cools skinHeat today stirs steps thickness lumpNames lumpCells boatNames boatCells loads spoons spoonsLeft depths thicknessF r13n (by omega)) (cwV 3 hts gX1_stirByDraw_X7_stirLine rfl rfl rfl (by decide +kernel) ⟨(Nat.le_of_ble_eq_true rfl), (Nat.le_of_ble_eq_true rfl)⟩) (pre_UV hK hP hD [0, 1] (by decide) rfl (ci := 7) (q0 := 0) rfl rfl) rfl rfl hl.1 rfl (lv_room (Nat.le_of_ble_eq_true rfl)) dX1_stirByDraw_58 ⟨(Nat.le_of_ble_eq_true rfl), (Nat.le_of_ble_eq_true rfl)⟩) hP hD hS hA [0, 1] [2] rfl rfl (by decide) (by decide) (fun  u31 H locs p32 hP hD hS => ?_)
            obtain ⟨stirsG_33, thicknessG_34⟩ := u31
            refine W.widen (k := 0) (n := 0) (Nat.le_of_ble_eq_true rfl) (Nat.le_of_ble_eq_true rfl) ?_
            have hP : va_P (dC, dI) vwCl [(draws, .inr (1, [.int dxG_18])), (a, .inr (7, [.int (nI 4), .int (nI 4), .int heat, .int cools, .int skinHeat, .int today, .int stirsG_33, .int steps, .int (nI 0), .int (nI 0), .ref thickness, .ref lumpNames, .ref lumpCells, .ref boatNames, .ref boatCells, .ref loads, .ref spoons, .ref spoonsLeft, .ref depths])), (thickness, .inl (ky 0, 36, .inl thicknessG_34))] H := hP
            have hD : va_D A [(draws, .inr (1, [.int dxG_18])), (a, .inr (7, [.int (nI 4), .int (nI 4), .int heat, .int cools, .int skinHeat, .int today, .int stirsG_33, .int steps, .int (nI 0), .int (nI 0), .ref thickness, .ref lumpNames, .ref lumpCells, .ref boatNames, .ref boatCells, .ref loads, .ref spoons, .ref spoonsLeft, .ref depths])), (thickness, .inl (ky 0, 36, .inl thicknessG_34))] := hD
            have hP9 := hP.sub (ws' := [(draws, .inr (1, [.int dxG_18])), (a, .inr (7, [.int (nI 4), .int (nI 4), .int heat, .int cools, .int skinHeat, .int today, .int stirsG_33, .int steps, .int (nI 0), .int (nI 0), .ref thickness, .ref lumpNames, .ref lumpCells, .ref boatNames, .ref boatCells, .ref loads, .ref spoons, .ref spoonsLeft, .ref depths])), (thickness, .inl (ky 0, 36, .inl thicknessG_34))]) [0, 1, 2] rfl
            have hD9 := hD.sub (ws' := [(draws, .inr (1, [.int dxG_18])), (a, .inr (7, [.int (nI 4), .int (nI 4), .int heat, .int cools, .int skinHeat, .int today, .int stirsG_33, .int steps, .int (nI 0), .int (nI 0), .ref thickness, .ref lumpNames, .ref lumpCells, .ref boatNames, .ref boatCells, .ref loads, .ref spoons, .ref spoonsLeft, .ref depths])), (thickness, .inl (ky 0, 36, .inl thicknessG_34))]) [0, 1, 2] (by decide) rfl
            refine W.widen (k := 0) (n := 0) (Nat.le_of_ble_eq_true rfl) (Nat.le_of_ble_eq_true rfl) ?_
            exact W.vret hx hb hr (fun t ht9 hW9 => ⟨⟨(dxG_18, stirsG_33, thicknessG_34), rfl, trivial, by rw [ht9]; exact hP9, va_K.moved hW9.alike hK, hD9⟩, hS.F ht9⟩) hS.2.2 dX1_stirByDraw_61
          · refine lv_aload_n hx hb dX1_stirByDraw_53 rfl (lv_at hl 4 rfl) ?_
            refine lv_iload_n hx hb dX1_stirByDraw_54 rfl (lv_at hl 2 rfl) ?_
            refine lv_iload_n hx hb dX1_stirByDraw_55 rfl (lv_at hl 1 rfl) ?_
            refine lv_iload hx hb dX1_stirByDraw_56 (lv_at hl 0 rfl) ?_
            refine r_call_v (wr := [(draws, .inr (1, [.int dxG_18]))]) (va_runV (As := [.int (nI 1), .int (nI r13n), .int (nI 1)]) (rest := []) ⟨hx, hb, hml, hown, hts⟩ (c_stirLine11 l dC dI ky H.size a heat cools skinHeat today stirs steps thickness lumpNames lumpCells boatNames boatCells loads spoons spoonsLeft depths thicknessF r13n (by omega)) (cwV 3 hts gX1_stirByDraw_X7_stirLine rfl rfl rfl (by decide +kernel) ⟨(Nat.le_of_ble_eq_true rfl), (Nat.le_of_ble_eq_true rfl)⟩) (pre_UV hK hP hD [0, 1] (by decide) rfl (ci := 7) (q0 := 0) rfl rfl) rfl rfl hl.1 rfl (lv_room (Nat.le_of_ble_eq_true rfl)) dX1_stirByDraw_58 ⟨(Nat.le_of_ble_eq_true rfl), (Nat.le_of_ble_eq_true rfl)⟩) hP hD hS hA [0, 1] [2] rfl rfl (by decide) (by decide) (fun  u35 H locs p36 hP hD hS => ?_)
            obtain ⟨stirsG_37, thicknessG_38⟩ := u35
            refine W.widen (k := 0) (n := 0) (Nat.le_of_ble_eq_true rfl) (Nat.le_of_ble_eq_true rfl) ?_
            have hP : va_P (dC, dI) vwCl [(draws, .inr (1, [.int dxG_18])), (a, .inr (7, [.int (nI 4), .int (nI 4), .int heat, .int cools, .int skinHeat, .int today, .int stirsG_37, .int steps, .int (nI 0), .int (nI 0), .ref thickness, .ref lumpNames, .ref lumpCells, .ref boatNames, .ref boatCells, .ref loads, .ref spoons, .ref spoonsLeft, .ref depths])), (thickness, .inl (ky 0, 36, .inl thicknessG_38))] H := hP
            have hD : va_D A [(draws, .inr (1, [.int dxG_18])), (a, .inr (7, [.int (nI 4), .int (nI 4), .int heat, .int cools, .int skinHeat, .int today, .int stirsG_37, .int steps, .int (nI 0), .int (nI 0), .ref thickness, .ref lumpNames, .ref lumpCells, .ref boatNames, .ref boatCells, .ref loads, .ref spoons, .ref spoonsLeft, .ref depths])), (thickness, .inl (ky 0, 36, .inl thicknessG_38))] := hD
            have hP9 := hP.sub (ws' := [(draws, .inr (1, [.int dxG_18])), (a, .inr (7, [.int (nI 4), .int (nI 4), .int heat, .int cools, .int skinHeat, .int today, .int stirsG_37, .int steps, .int (nI 0), .int (nI 0), .ref thickness, .ref lumpNames, .ref lumpCells, .ref boatNames, .ref boatCells, .ref loads, .ref spoons, .ref spoonsLeft, .ref depths])), (thickness, .inl (ky 0, 36, .inl thicknessG_38))]) [0, 1, 2] rfl
            have hD9 := hD.sub (ws' := [(draws, .inr (1, [.int dxG_18])), (a, .inr (7, [.int (nI 4), .int (nI 4), .int heat, .int cools, .int skinHeat, .int today, .int stirsG_37, .int steps, .int (nI 0), .int (nI 0), .ref thickness, .ref lumpNames, .ref lumpCells, .ref boatNames, .ref boatCells, .ref loads, .ref spoons, .ref spoonsLeft, .ref depths])), (thickness, .inl (ky 0, 36, .inl thicknessG_38))]) [0, 1, 2] (by decide) rfl
            refine W.widen (k := 0) (n := 0) (Nat.le_of_ble_eq_true rfl) (Nat.le_of_ble_eq_true rfl) ?_
            exact W.vret hx hb hr (fun t ht9 hW9 => ⟨⟨(dxG_18, stirsG_37, thicknessG_38), rfl, trivial, by rw [ht9]; exact hP9, va_K.moved hW9.alike hK, hD9⟩, hS.F ht9⟩) hS.2.2 dX1_stirByDraw_61
    · refine lv_aload_n hx hb dX1_stirByDraw_20 rfl (lv_at hl 2 rfl) ?_
      refine va_get (D := (dC, dI)) (ci := 7) (v := .int (nI 4)) (C := RX7) (T := TX7) (N := 19) hx hb hts hin7 hown hK hP 0 rfl rfl 1 (by decide) (hts (.fieldLink RX1 42 "PorridgeSea$Sea" "high" "I") (List.mem_of_getElem? (i := 1) rfl)) (fun _ h9 => h9) rfl dX1_stirByDraw_21 ?_
      refine lv_goto (tgt := 31) hx hb dX1_stirByDraw_24 (by decide) ?_
      refine r_call_i (wr := [(a, .inr (7, [.int (nI 4), .int (nI 4), .int heat, .int cools, .int skinHeat, .int today, .int stirs, .int steps, .int (nI 0), .int (nI 0), .ref thickness, .ref lumpNames, .ref lumpCells, .ref boatNames, .ref boatCells, .ref loads, .ref spoons, .ref spoonsLeft, .ref depths])), (thickness, .inl (ky 0, 36, .inl thicknessF))]) (va_runV (As := [.int (nI 4)]) (rest := []) ⟨hx, hb, hml, hown, hts⟩ (c_draw4 l dC dI ky H.size draws dxG_9) (cwV 1 hts gX1_stirByDraw_X1_draw rfl rfl rfl (by decide +kernel) ⟨(Nat.le_of_ble_eq_true rfl), (Nat.le_of_ble_eq_true rfl)⟩) (pre_UV hK hP hD [2] (by decide) rfl (ci := 1) (q0 := 2) rfl rfl) rfl rfl hl.1 rfl (lv_room (Nat.le_of_ble_eq_true rfl)) dX1_stirByDraw_31 ⟨(Nat.le_of_ble_eq_true rfl), (Nat.le_of_ble_eq_true rfl)⟩) hP hD hS hA [2] [0, 1] rfl rfl (by decide) (by decide) (fun r41 u39 H locs p40 hP hD hS => ?_)
      obtain ⟨dxG_42, rfl⟩ : ∃ z, z = u39 := ⟨_, rfl⟩
      refine W.widen (k := 0) (n := 0) (Nat.le_of_ble_eq_true rfl) (Nat.le_of_ble_eq_true rfl) ?_
      have hP : va_P (dC, dI) vwCl [(a, .inr (7, [.int (nI 4), .int (nI 4), .int heat, .int cools, .int skinHeat, .int today, .int stirs, .int steps, .int (nI 0), .int (nI 0), .ref thickness, .ref lumpNames, .ref lumpCells, .ref boatNames, .ref boatCells, .ref loads, .ref spoons, .ref spoonsLeft, .ref depths])), (thickness, .inl (ky 0, 36, .inl thicknessF)), (draws, .inr (1, [.int dxG_42]))] H := hP
      have hD : va_D A [(a, .inr (7, [.int (nI 4), .int (nI 4), .int heat, .int cools, .int skinHeat, .int today, .int stirs, .int steps, .int (nI 0), .int (nI 0), .ref thickness, .ref lumpNames, .ref lumpCells, .ref boatNames, .ref boatCells, .ref loads, .ref spoons, .ref spoonsLeft, .ref depths])), (thickness, .inl (ky 0, 36, .inl thicknessF)), (draws, .inr (1, [.int dxG_42]))] := hD
      refine lv_istore_n (lv' := [(3, .int r41), (2, .int r8), (0, .ref draws), (1, .ref a)]) hx hb dX1_stirByDraw_34 rfl hl (by decide) rfl (fun ls hl => ?_)
      refine lv_aload_n hx hb dX1_stirByDraw_35 rfl (lv_at hl 2 rfl) ?_
      refine lv_iconst (v := nI 2) hx hb dX1_stirByDraw_36 (by decide) ?_
      refine r_call_i (wr := [(a, .inr (7, [.int (nI 4), .int (nI 4), .int heat, .int cools, .int skinHeat, .int today, .int stirs, .int steps, .int (nI 0), .int (nI 0), .ref thickness, .ref lumpNames, .ref lumpCells, .ref boatNames, .ref boatCells, .ref loads, .ref spoons, .ref spoonsLeft, .ref depths])), (thickness, .inl (ky 0, 36, .inl thicknessF))]) (va_runV (As := [.int (nI 2)]) (rest := []) ⟨hx, hb, hml, hown, hts⟩ (c_draw2 l dC dI ky H.size draws dxG_42) (cwV 1 hts gX1_stirByDraw_X1_draw rfl rfl rfl (by decide +kernel) ⟨(Nat.le_of_ble_eq_true rfl), (Nat.le_of_ble_eq_true rfl)⟩) (pre_UV hK hP hD [2] (by decide) rfl (ci := 1) (q0 := 2) rfl rfl) rfl rfl hl.1 rfl (lv_room (Nat.le_of_ble_eq_true rfl)) dX1_stirByDraw_37 ⟨(Nat.le_of_ble_eq_true rfl), (Nat.le_of_ble_eq_true rfl)⟩) hP hD hS hA [2] [0, 1] rfl rfl (by decide) (by decide) (fun r45 u43 H locs p44 hP hD hS => ?_)
      obtain ⟨dxG_46, rfl⟩ : ∃ z, z = u43 := ⟨_, rfl⟩
      refine W.widen (k := 0) (n := 0) (Nat.le_of_ble_eq_true rfl) (Nat.le_of_ble_eq_true rfl) ?_
      have hP : va_P (dC, dI) vwCl [(a, .inr (7, [.int (nI 4), .int (nI 4), .int heat, .int cools, .int skinHeat, .int today, .int stirs, .int steps, .int (nI 0), .int (nI 0), .ref thickness, .ref lumpNames, .ref lumpCells, .ref boatNames, .ref boatCells, .ref loads, .ref spoons, .ref spoonsLeft, .ref depths])), (thickness, .inl (ky 0, 36, .inl thicknessF)), (draws, .inr (1, [.int dxG_46]))] H := hP
      have hD : va_D A [(a, .inr (7, [.int (nI 4), .int (nI 4), .int heat, .int cools, .int skinHeat, .int today, .int stirs, .int steps, .int (nI 0), .int (nI 0), .ref thickness, .ref lumpNames, .ref lumpCells, .ref boatNames, .ref boatCells, .ref loads, .ref spoons, .ref spoonsLeft, .ref depths])), (thickness, .inl (ky 0, 36, .inl thicknessF)), (draws, .inr (1, [.int dxG_46]))] := hD
      refine lv_istore (lv' := [(4, .int r45), (3, .int r41), (2, .int r8), (0, .ref draws), (1, .ref a)]) hx hb dX1_stirByDraw_40 hl (by decide) rfl (fun ls hl => ?_)
      refine lv_aload_n hx hb dX1_stirByDraw_42 rfl (lv_at hl 4 rfl) ?_
      refine lv_iload_n hx hb dX1_stirByDraw_43 rfl (lv_at hl 2 rfl) ?_
      refine lv_iload_n hx hb dX1_stirByDraw_44 rfl (lv_at hl 1 rfl) ?_
      refine lv_iload hx hb dX1_stirByDraw_45 (lv_at hl 0 rfl) ?_
      refine vp_callSi (W.runV (As := [.int r8, .int r41, .int r45]) (rest := []) ⟨hx, hb, hml, hown, hts⟩ (c_whyNotStirred l dC dI ky a heat cools skinHeat today stirs steps thickness lumpNames lumpCells boatNames boatCells loads spoons spoonsLeft depths r8 r41 r45) (cwV 3 hts gX1_stirByDraw_X7_whyNotStirred rfl rfl rfl (by decide +kernel) ⟨(Nat.le_of_ble_eq_true rfl), (Nat.le_of_ble_eq_true rfl)⟩) (pre_PV hK hP [0] rfl (ci := 7) (q0 := 0) rfl rfl) rfl rfl hl.1 rfl (lv_room (Nat.le_of_ble_eq_true rfl)) dX1_stirByDraw_47 ⟨(Nat.le_of_ble_eq_true rfl), (Nat.le_of_ble_eq_true rfl)⟩) (fun r47 p48 => ?_)
      refine lv_if_ne (tgt := 61) hx hb dX1_stirByDraw_50 (by decide) (fun c49 => ?_) (fun c49 => ?_)
      · have hP9 := hP.sub (ws' := [(draws, .inr (1, [.int dxG_46])), (a, .inr (7, [.int (nI 4), .int (nI 4), .int heat, .int cools, .int skinHeat, .int today, .int stirs, .int steps, .int (nI 0), .int (nI 0), .ref thickness, .ref lumpNames, .ref lumpCells, .ref boatNames, .ref boatCells, .ref loads, .ref spoons, .ref spoonsLeft, .ref depths])), (thickness, .inl (ky 0, 36, .inl thicknessF))]) [2, 0, 1] rfl
        have hD9 := hD.sub (ws' := [(draws, .inr (1, [.int dxG_46])), (a, .inr (7, [.int (nI 4), .int (nI 4), .int heat, .int cools, .int skinHeat, .int today, .int stirs, .int steps, .int (nI 0), .int (nI 0), .ref thickness, .ref lumpNames, .ref lumpCells, .ref boatNames, .ref boatCells, .ref loads, .ref spoons, .ref spoonsLeft, .ref depths])), (thickness, .inl (ky 0, 36, .inl thicknessF))]) [2, 0, 1] (by decide) rfl
        refine W.widen (k := 0) (n := 0) (Nat.le_of_ble_eq_true rfl) (Nat.le_of_ble_eq_true rfl) ?_
        exact W.vret hx hb hr (fun t ht9 hW9 => ⟨⟨(dxG_46, stirs, thicknessF), rfl, trivial, by rw [ht9]; exact hP9, va_K.moved hW9.alike hK, hD9⟩, hS.F ht9⟩) hS.2.2 dX1_stirByDraw_61
      · obtain ⟨r41n, h50, rfl⟩ := nat_of r41 4 (by decide) (lf_stirByDraw_5 draws dx a heat cools skinHeat today stirs steps thickness lumpNames lumpCells boatNames boatCells loads spoons spoonsLeft depths thicknessF dxG_4 r3 dxG_9 r8 dxG_42 r41 dxG_46 r45 r47 c5 c10 p48 c49)
        rcases (lf_stirByDraw_6 draws dx a heat cools skinHeat today stirs steps thickness lumpNames lumpCells boatNames boatCells loads spoons spoonsLeft depths thicknessF dxG_4 r3 dxG_9 r8 dxG_42 dxG_46 r45 r47 r41n c5 c10 p48 c49 h50) with rfl | rfl
        · rcases (lf_stirByDraw_7 draws dx a heat cools skinHeat today stirs steps thickness lumpNames lumpCells boatNames boatCells loads spoons spoonsLeft depths thicknessF dxG_4 r3 dxG_9 dxG_42 dxG_46 r45 r47 r41n c5 c10 p48 c49 h50) with rfl | rfl
          · refine lv_aload_n hx hb dX1_stirByDraw_53 rfl (lv_at hl 4 rfl) ?_
            refine lv_iload_n hx hb dX1_stirByDraw_54 rfl (lv_at hl 2 rfl) ?_
            refine lv_iload_n hx hb dX1_stirByDraw_55 rfl (lv_at hl 1 rfl) ?_
            refine lv_iload hx hb dX1_stirByDraw_56 (lv_at hl 0 rfl) ?_
            refine r_call_v (wr := [(draws, .inr (1, [.int dxG_46]))]) (va_runV (As := [.int (nI 0), .int (nI r41n), .int (nI 0)]) (rest := []) ⟨hx, hb, hml, hown, hts⟩ (c_stirLine00 l dC dI ky H.size a heat cools skinHeat today stirs steps thickness lumpNames lumpCells boatNames boatCells loads spoons spoonsLeft depths thicknessF r41n (by omega)) (cwV 3 hts gX1_stirByDraw_X7_stirLine rfl rfl rfl (by decide +kernel) ⟨(Nat.le_of_ble_eq_true rfl), (Nat.le_of_ble_eq_true rfl)⟩) (pre_UV hK hP hD [0, 1] (by decide) rfl (ci := 7) (q0 := 0) rfl rfl) rfl rfl hl.1 rfl (lv_room (Nat.le_of_ble_eq_true rfl)) dX1_stirByDraw_58 ⟨(Nat.le_of_ble_eq_true rfl), (Nat.le_of_ble_eq_true rfl)⟩) hP hD hS hA [0, 1] [2] rfl rfl (by decide) (by decide) (fun  u51 H locs p52 hP hD hS => ?_)
            obtain ⟨stirsG_53, thicknessG_54⟩ := u51
            refine W.widen (k := 0) (n := 0) (Nat.le_of_ble_eq_true rfl) (Nat.le_of_ble_eq_true rfl) ?_
            have hP : va_P (dC, dI) vwCl [(draws, .inr (1, [.int dxG_46])), (a, .inr (7, [.int (nI 4), .int (nI 4), .int heat, .int cools, .int skinHeat, .int today, .int stirsG_53, .int steps, .int (nI 0), .int (nI 0), .ref thickness, .ref lumpNames, .ref lumpCells, .ref boatNames, .ref boatCells, .ref loads, .ref spoons, .ref spoonsLeft, .ref depths])), (thickness, .inl (ky 0, 36, .inl thicknessG_54))] H := hP
            have hD : va_D A [(draws, .inr (1, [.int dxG_46])), (a, .inr (7, [.int (nI 4), .int (nI 4), .int heat, .int cools, .int skinHeat, .int today, .int stirsG_53, .int steps, .int (nI 0), .int (nI 0), .ref thickness, .ref lumpNames, .ref lumpCells, .ref boatNames, .ref boatCells, .ref loads, .ref spoons, .ref spoonsLeft, .ref depths])), (thickness, .inl (ky 0, 36, .inl thicknessG_54))] := hD
            have hP9 := hP.sub (ws' := [(draws, .inr (1, [.int dxG_46])), (a, .inr (7, [.int (nI 4), .int (nI 4), .int heat, .int cools, .int skinHeat, .int today, .int stirsG_53, .int steps, .int (nI 0), .int (nI 0), .ref thickness, .ref lumpNames, .ref lumpCells, .ref boatNames, .ref boatCells, .ref loads, .ref spoons, .ref spoonsLeft, .ref depths])), (thickness, .inl (ky 0, 36, .inl thicknessG_54))]) [0, 1, 2] rfl
            have hD9 := hD.sub (ws' := [(draws, .inr (1, [.int dxG_46])), (a, .inr (7, [.int (nI 4), .int (nI 4), .int heat, .int cools, .int skinHeat, .int today, .int stirsG_53, .int steps, .int (nI 0), .int (nI 0), .ref thickness, .ref lumpNames, .ref lumpCells, .ref boatNames, .ref boatCells, .ref loads, .ref spoons, .ref spoonsLeft, .ref depths])), (thickness, .inl (ky 0, 36, .inl thicknessG_54))]) [0, 1, 2] (by decide) rfl
            refine W.widen (k := 0) (n := 0) (Nat.le_of_ble_eq_true rfl) (Nat.le_of_ble_eq_true rfl) ?_
            exact W.vret hx hb hr (fun t ht9 hW9 => ⟨⟨(dxG_46, stirsG_53, thicknessG_54), rfl, trivial, by rw [ht9]; exact hP9, va_K.moved hW9.alike hK, hD9⟩, hS.F ht9⟩) hS.2.2 dX1_stirByDraw_61
          · refine lv_aload_n hx hb dX1_stirByDraw_53 rfl (lv_at hl 4 rfl) ?_
            refine lv_iload_n hx hb dX1_stirByDraw_54 rfl (lv_at hl 2 rfl) ?_
            refine lv_iload_n hx hb dX1_stirByDraw_55 rfl (lv_at hl 1 rfl) ?_
            refine lv_iload hx hb dX1_stirByDraw_56 (lv_at hl 0 rfl) ?_
            refine r_call_v (wr := [(draws, .inr (1, [.int dxG_46]))]) (va_runV (As := [.int (nI 0), .int (nI r41n), .int (nI 1)]) (rest := []) ⟨hx, hb, hml, hown, hts⟩ (c_stirLine01 l dC dI ky H.size a heat cools skinHeat today stirs steps thickness lumpNames lumpCells boatNames boatCells loads spoons spoonsLeft depths thicknessF r41n (by omega)) (cwV 3 hts gX1_stirByDraw_X7_stirLine rfl rfl rfl (by decide +kernel) ⟨(Nat.le_of_ble_eq_true rfl), (Nat.le_of_ble_eq_true rfl)⟩) (pre_UV hK hP hD [0, 1] (by decide) rfl (ci := 7) (q0 := 0) rfl rfl) rfl rfl hl.1 rfl (lv_room (Nat.le_of_ble_eq_true rfl)) dX1_stirByDraw_58 ⟨(Nat.le_of_ble_eq_true rfl), (Nat.le_of_ble_eq_true rfl)⟩) hP hD hS hA [0, 1] [2] rfl rfl (by decide) (by decide) (fun  u55 H locs p56 hP hD hS => ?_)
            obtain ⟨stirsG_57, thicknessG_58⟩ := u55
            refine W.widen (k := 0) (n := 0) (Nat.le_of_ble_eq_true rfl) (Nat.le_of_ble_eq_true rfl) ?_
            have hP : va_P (dC, dI) vwCl [(draws, .inr (1, [.int dxG_46])), (a, .inr (7, [.int (nI 4), .int (nI 4), .int heat, .int cools, .int skinHeat, .int today, .int stirsG_57, .int steps, .int (nI 0), .int (nI 0), .ref thickness, .ref lumpNames, .ref lumpCells, .ref boatNames, .ref boatCells, .ref loads, .ref spoons, .ref spoonsLeft, .ref depths])), (thickness, .inl (ky 0, 36, .inl thicknessG_58))] H := hP
            have hD : va_D A [(draws, .inr (1, [.int dxG_46])), (a, .inr (7, [.int (nI 4), .int (nI 4), .int heat, .int cools, .int skinHeat, .int today, .int stirsG_57, .int steps, .int (nI 0), .int (nI 0), .ref thickness, .ref lumpNames, .ref lumpCells, .ref boatNames, .ref boatCells, .ref loads, .ref spoons, .ref spoonsLeft, .ref depths])), (thickness, .inl (ky 0, 36, .inl thicknessG_58))] := hD
            have hP9 := hP.sub (ws' := [(draws, .inr (1, [.int dxG_46])), (a, .inr (7, [.int (nI 4), .int (nI 4), .int heat, .int cools, .int skinHeat, .int today, .int stirsG_57, .int steps, .int (nI 0), .int (nI 0), .ref thickness, .ref lumpNames, .ref lumpCells, .ref boatNames, .ref boatCells, .ref loads, .ref spoons, .ref spoonsLeft, .ref depths])), (thickness, .inl (ky 0, 36, .inl thicknessG_58))]) [0, 1, 2] rfl
            have hD9 := hD.sub (ws' := [(draws, .inr (1, [.int dxG_46])), (a, .inr (7, [.int (nI 4), .int (nI 4), .int heat, .int cools, .int skinHeat, .int today, .int stirsG_57, .int steps, .int (nI 0), .int (nI 0), .ref thickness, .ref lumpNames, .ref lumpCells, .ref boatNames, .ref boatCells, .ref loads, .ref spoons, .ref spoonsLeft, .ref depths])), (thickness, .inl (ky 0, 36, .inl thicknessG_58))]) [0, 1, 2] (by decide) rfl
            refine W.widen (k := 0) (n := 0) (Nat.le_of_ble_eq_true rfl) (Nat.le_of_ble_eq_true rfl) ?_
            exact W.vret hx hb hr (fun t ht9 hW9 => ⟨⟨(dxG_46, stirsG_57, thicknessG_58), rfl, trivial, by rw [ht9]; exact hP9, va_K.moved hW9.alike hK, hD9⟩, hS.F ht9⟩) hS.2.2 dX1_stirByDraw_61
        · rcases (lf_stirByDraw_8 draws dx a heat cools skinHeat today stirs steps thickness lumpNames lumpCells boatNames boatCells loads spoons spoonsLeft depths thicknessF dxG_4 r3 dxG_9 dxG_42 dxG_46 r45 r47 r41n c5 c10 p48 c49 h50) with rfl | rfl
          · refine lv_aload_n hx hb dX1_stirByDraw_53 rfl (lv_at hl 4 rfl) ?_
            refine lv_iload_n hx hb dX1_stirByDraw_54 rfl (lv_at hl 2 rfl) ?_
            refine lv_iload_n hx hb dX1_stirByDraw_55 rfl (lv_at hl 1 rfl) ?_
            refine lv_iload hx hb dX1_stirByDraw_56 (lv_at hl 0 rfl) ?_
            refine r_call_v (wr := [(draws, .inr (1, [.int dxG_46]))]) (va_runV (As := [.int (nI 1), .int (nI r41n), .int (nI 0)]) (rest := []) ⟨hx, hb, hml, hown, hts⟩ (c_stirLine10 l dC dI ky H.size a heat cools skinHeat today stirs steps thickness lumpNames lumpCells boatNames boatCells loads spoons spoonsLeft depths thicknessF r41n (by omega)) (cwV 3 hts gX1_stirByDraw_X7_stirLine rfl rfl rfl (by decide +kernel) ⟨(Nat.le_of_ble_eq_true rfl), (Nat.le_of_ble_eq_true rfl)⟩) (pre_UV hK hP hD [0, 1] (by decide) rfl (ci := 7) (q0 := 0) rfl rfl) rfl rfl hl.1 rfl (lv_room (Nat.le_of_ble_eq_true rfl)) dX1_stirByDraw_58 ⟨(Nat.le_of_ble_eq_true rfl), (Nat.le_of_ble_eq_true rfl)⟩) hP hD hS hA [0, 1] [2] rfl rfl (by decide) (by decide) (fun  u59 H locs p60 hP hD hS => ?_)
            obtain ⟨stirsG_61, thicknessG_62⟩ := u59
            refine W.widen (k := 0) (n := 0) (Nat.le_of_ble_eq_true rfl) (Nat.le_of_ble_eq_true rfl) ?_
            have hP : va_P (dC, dI) vwCl [(draws, .inr (1, [.int dxG_46])), (a, .inr (7, [.int (nI 4), .int (nI 4), .int heat, .int cools, .int skinHeat, .int today, .int stirsG_61, .int steps, .int (nI 0), .int (nI 0), .ref thickness, .ref lumpNames, .ref lumpCells, .ref boatNames, .ref boatCells, .ref loads, .ref spoons, .ref spoonsLeft, .ref depths])), (thickness, .inl (ky 0, 36, .inl thicknessG_62))] H := hP
            have hD : va_D A [(draws, .inr (1, [.int dxG_46])), (a, .inr (7, [.int (nI 4), .int (nI 4), .int heat, .int cools, .int skinHeat, .int today, .int stirsG_61, .int steps, .int (nI 0), .int (nI 0), .ref thickness, .ref lumpNames, .ref lumpCells, .ref boatNames, .ref boatCells, .ref loads, .ref spoons, .ref spoonsLeft, .ref depths])), (thickness, .inl (ky 0, 36, .inl thicknessG_62))] := hD
            have hP9 := hP.sub (ws' := [(draws, .inr (1, [.int dxG_46])), (a, .inr (7, [.int (nI 4), .int (nI 4), .int heat, .int cools, .int skinHeat, .int today, .int stirsG_61, .int steps, .int (nI 0), .int (nI 0), .ref thickness, .ref lumpNames, .ref lumpCells, .ref boatNames, .ref boatCells, .ref loads, .ref spoons, .ref spoonsLeft, .ref depths])), (thickness, .inl (ky 0, 36, .inl thicknessG_62))]) [0, 1, 2] rfl
            have hD9 := hD.sub (ws' := [(draws, .inr (1, [.int dxG_46])), (a, .inr (7, [.int (nI 4), .int (nI 4), .int heat, .int cools, .int skinHeat, .int today, .int stirsG_61, .int steps, .int (nI 0), .int (nI 0), .ref thickness, .ref lumpNames, .ref lumpCells, .ref boatNames, .ref boatCells, .ref loads, .ref spoons, .ref spoonsLeft, .ref depths])), (thickness, .inl (ky 0, 36, .inl thicknessG_62))]) [0, 1, 2] (by decide) rfl
            refine W.widen (k := 0) (n := 0) (Nat.le_of_ble_eq_true rfl) (Nat.le_of_ble_eq_true rfl) ?_
            exact W.vret hx hb hr (fun t ht9 hW9 => ⟨⟨(dxG_46, stirsG_61, thicknessG_62), rfl, trivial, by rw [ht9]; exact hP9, va_K.moved hW9.alike hK, hD9⟩, hS.F ht9⟩) hS.2.2 dX1_stirByDraw_61
          · refine lv_aload_n hx hb dX1_stirByDraw_53 rfl (lv_at hl 4 rfl) ?_
            refine lv_iload_n hx hb dX1_stirByDraw_54 rfl (lv_at hl 2 rfl) ?_
            refine lv_iload_n hx hb dX1_stirByDraw_55 rfl (lv_at hl 1 rfl) ?_
            refine lv_iload hx hb dX1_stirByDraw_56 (lv_at hl 0 rfl) ?_
            refine r_call_v (wr := [(draws, .inr (1, [.int dxG_46]))]) (va_runV (As := [.int (nI 1), .int (nI r41n), .int (nI 1)]) (rest := []) ⟨hx, hb, hml, hown, hts⟩ (c_stirLine11 l dC dI ky H.size a heat cools skinHeat today stirs steps thickness lumpNames lumpCells boatNames boatCells loads spoons spoonsLeft depths thicknessF r41n (by omega)) (cwV 3 hts gX1_stirByDraw_X7_stirLine rfl rfl rfl (by decide +kernel) ⟨(Nat.le_of_ble_eq_true rfl), (Nat.le_of_ble_eq_true rfl)⟩) (pre_UV hK hP hD [0, 1] (by decide) rfl (ci := 7) (q0 := 0) rfl rfl) rfl rfl hl.1 rfl (lv_room (Nat.le_of_ble_eq_true rfl)) dX1_stirByDraw_58 ⟨(Nat.le_of_ble_eq_true rfl), (Nat.le_of_ble_eq_true rfl)⟩) hP hD hS hA [0, 1] [2] rfl rfl (by decide) (by decide) (fun  u63 H locs p64 hP hD hS => ?_)
            obtain ⟨stirsG_65, thicknessG_66⟩ := u63
            refine W.widen (k := 0) (n := 0) (Nat.le_of_ble_eq_true rfl) (Nat.le_of_ble_eq_true rfl) ?_
            have hP : va_P (dC, dI) vwCl [(draws, .inr (1, [.int dxG_46])), (a, .inr (7, [.int (nI 4), .int (nI 4), .int heat, .int cools, .int skinHeat, .int today, .int stirsG_65, .int steps, .int (nI 0), .int (nI 0), .ref thickness, .ref lumpNames, .ref lumpCells, .ref boatNames, .ref boatCells, .ref loads, .ref spoons, .ref spoonsLeft, .ref depths])), (thickness, .inl (ky 0, 36, .inl thicknessG_66))] H := hP
            have hD : va_D A [(draws, .inr (1, [.int dxG_46])), (a, .inr (7, [.int (nI 4), .int (nI 4), .int heat, .int cools, .int skinHeat, .int today, .int stirsG_65, .int steps, .int (nI 0), .int (nI 0), .ref thickness, .ref lumpNames, .ref lumpCells, .ref boatNames, .ref boatCells, .ref loads, .ref spoons, .ref spoonsLeft, .ref depths])), (thickness, .inl (ky 0, 36, .inl thicknessG_66))] := hD
            have hP9 := hP.sub (ws' := [(draws, .inr (1, [.int dxG_46])), (a, .inr (7, [.int (nI 4), .int (nI 4), .int heat, .int cools, .int skinHeat, .int today, .int stirsG_65, .int steps, .int (nI 0), .int (nI 0), .ref thickness, .ref lumpNames, .ref lumpCells, .ref boatNames, .ref boatCells, .ref loads, .ref spoons, .ref spoonsLeft, .ref depths])), (thickness, .inl (ky 0, 36, .inl thicknessG_66))]) [0, 1, 2] rfl
            have hD9 := hD.sub (ws' := [(draws, .inr (1, [.int dxG_46])), (a, .inr (7, [.int (nI 4), .int (nI 4), .int heat, .int cools, .int skinHeat, .int today, .int stirsG_65, .int steps, .int (nI 0), .int (nI 0), .ref thickness, .ref lumpNames, .ref lumpCells, .ref boatNames, .ref boatCells, .ref loads, .ref spoons, .ref spoonsLeft, .ref depths])), (thickness, .inl (ky 0, 36, .inl thicknessG_66))]) [0, 1, 2] (by decide) rfl
            refine W.widen (k := 0) (n := 0) (Nat.le_of_ble_eq_true rfl) (Nat.le_of_ble_eq_true rfl) ?_
            exact W.vret hx hb hr (fun t ht9 hW9 => ⟨⟨(dxG_46, stirsG_65, thicknessG_66), rfl, trivial, by rw [ht9]; exact hP9, va_K.moved hW9.alike hK, hD9⟩, hS.F ht9⟩) hS.2.2 dX1_stirByDraw_61
  · have hP9 := hP.sub (ws' := [(draws, .inr (1, [.int dxG_4])), (a, .inr (7, [.int (nI 4), .int (nI 4), .int heat, .int cools, .int skinHeat, .int today, .int stirs, .int steps, .int (nI 0), .int (nI 0), .ref thickness, .ref lumpNames, .ref lumpCells, .ref boatNames, .ref boatCells, .ref loads, .ref spoons, .ref spoonsLeft, .ref depths])), (thickness, .inl (ky 0, 36, .inl thicknessF))]) [2, 0, 1] rfl
    have hD9 := hD.sub (ws' := [(draws, .inr (1, [.int dxG_4])), (a, .inr (7, [.int (nI 4), .int (nI 4), .int heat, .int cools, .int skinHeat, .int today, .int stirs, .int steps, .int (nI 0), .int (nI 0), .ref thickness, .ref lumpNames, .ref lumpCells, .ref boatNames, .ref boatCells, .ref loads, .ref spoons, .ref spoonsLeft, .ref depths])), (thickness, .inl (ky 0, 36, .inl thicknessF))]) [2, 0, 1] (by decide) rfl
    refine W.widen (k := 0) (n := 0) (Nat.le_of_ble_eq_true rfl) (Nat.le_of_ble_eq_true rfl) ?_
    exact W.vret hx hb hr (fun t ht9 hW9 => ⟨⟨(dxG_4, stirs, thicknessF), rfl, trivial, by rw [ht9]; exact hP9, va_K.moved hW9.alike hK, hD9⟩, hS.F ht9⟩) hS.2.2 dX1_stirByDraw_8
set_option maxHeartbeats 4000000 in
set_option maxRecDepth 100000 in
theorem c_rowByDraw (l : Launch) (dC : Nat → ClassId) (dI : Nat → Nat → Nat) (ky : Nat → ClassId) (sz : Nat) (draws : Nat) (a : Nat) (heat : Int32) (cools : Int32) (skinHeat : Int32) (today : Int32) (stirs : Int32) (steps : Int32) (thickness : Nat) (lumpNames : Nat) (lumpCells : Nat) (boatNames : Nat) (boatCells : Nat) (loads : Nat) (spoons : Nat) (spoonsLeft : Nat) (depths : Nat)  : Met l yX1_rowByDraw wsX1_rowByDraw ({ frames := 0, cells := 0, slots := 0, locals := 0 }) (PcU dC dI ky [.ref draws, .ref a] [(a, .inr (7, [.int (nI 4), .int (nI 4), .int heat, .int cools, .int skinHeat, .int today, .int stirs, .int steps, .int (nI 0), .int (nI 0), .ref thickness, .ref lumpNames, .ref lumpCells, .ref boatNames, .ref boatCells, .ref loads, .ref spoons, .ref spoonsLeft, .ref depths]))] sz) (va_Qv (fun (_ : Unit) => True) (BU dC dI ky (fun (_ : Unit) => [(a, .inr (7, [.int (nI 4), .int (nI 4), .int heat, .int cools, .int skinHeat, .int today, .int stirs, .int steps, .int (nI 0), .int (nI 0), .ref thickness, .ref lumpNames, .ref lumpCells, .ref boatNames, .ref boatCells, .ref loads, .ref spoons, .ref spoonsLeft, .ref depths]))]) (va_A [(a, .inr (7, [.int (nI 4), .int (nI 4), .int heat, .int cools, .int skinHeat, .int today, .int stirs, .int steps, .int (nI 0), .int (nI 0), .ref thickness, .ref lumpNames, .ref lumpCells, .ref boatNames, .ref boatCells, .ref loads, .ref spoons, .ref spoonsLeft, .ref depths]))] sz)) (va_A [(a, .inr (7, [.int (nI 4), .int (nI 4), .int heat, .int cools, .int skinHeat, .int today, .int stirs, .int steps, .int (nI 0), .int (nI 0), .ref thickness, .ref lumpNames, .ref lumpCells, .ref boatNames, .ref boatCells, .ref loads, .ref spoons, .ref spoonsLeft, .ref depths]))] sz)) 0 0 (va_A [(a, .inr (7, [.int (nI 4), .int (nI 4), .int heat, .int cools, .int skinHeat, .int today, .int stirs, .int steps, .int (nI 0), .int (nI 0), .ref thickness, .ref lumpNames, .ref lumpCells, .ref boatNames, .ref boatCells, .ref loads, .ref spoons, .ref spoonsLeft, .ref depths]))] sz) := by
  refine Met.ofW (cc := cX1_rowByDraw) (maxL := 4) (ret := none) (by decide) rfl ?_
  intro p e s m args below meth c s₁ B hml hv
  obtain ⟨rfl, hsz, hP, hK, hD0⟩ := hv
  have hx := B.exec
  have hb := B.bytes
  have hr := B.returns
  have hts := atoms_spec (ws := wsX1_rowByDraw) B.pre
  have hown : s.vm.findClass RX1 = some m.cls := findClass_of_methodNamed B.named
  have hlocks := B.notSynchronized
  have hin7 : ∀ w ∈ u_ws RX7 TX7 19, w ∈ wsX1_rowByDraw := by decide +kernel
  subst hsz
  have hD := hD0.self (sz := s.heap.size)
  generalize hAe : va_A [(a, .inr (7, [.int (nI 4), .int (nI 4), .int heat, .int cools, .int skinHeat, .int today, .int stirs, .int steps, .int (nI 0), .int (nI 0), .ref thickness, .ref lumpNames, .ref lumpCells, .ref boatNames, .ref boatCells, .ref loads, .ref spoons, .ref spoonsLeft, .ref depths]))] s.heap.size = A at hD ⊢
  have hA : ∀ q : Nat, s.heap.size ≤ q → A q := fun q h => by rw [← hAe]; exact Or.inr h
  have hS : va_S A s.heap s.heap [] := va_S.rf
  have hP : va_P (dC, dI) vwCl [(a, .inr (7, [.int (nI 4), .int (nI 4), .int heat, .int cools, .int skinHeat, .int today, .int stirs, .int steps, .int (nI 0), .int (nI 0), .ref thickness, .ref lumpNames, .ref lumpCells, .ref boatNames, .ref boatCells, .ref loads, .ref spoons, .ref spoonsLeft, .ref depths]))] s.heap := hP
  have hl := lv_entry ([.ref draws, .ref a]) (n := 4) (Nat.le_of_ble_eq_true rfl)
  rw [lg_entry_eq]
  generalize (lg_sl ([.ref draws, .ref a]) ++ List.replicate (4 - (lg_sl ([.ref draws, .ref a])).length) Slot.unset).toArray = ls at hl ⊢
  have hl : lv_has ls 4 [(0, .ref draws), (1, .ref a)] := hl
  have hH0 : True := trivial
  refine lv_iconst (v := nI 0) hx hb dX1_rowByDraw_0 (by decide) ?_
  refine lv_istore_n (lv' := [(2, .int (nI 0)), (0, .ref draws), (1, .ref a)]) hx hb dX1_rowByDraw_1 rfl hl (by decide) rfl (fun ls hl => ?_)
  refine lv_iload_n hx hb dX1_rowByDraw_2 rfl (lv_at hl 0 rfl) ?_
  refine lv_aload_n hx hb dX1_rowByDraw_3 rfl (lv_at hl 2 rfl) ?_
  refine va_get (D := (dC, dI)) (ci := 7) (v := .int (nI 0)) (C := RX7) (T := TX7) (N := 19) hx hb hts hin7 hown hK hP 0 rfl rfl 9 (by decide) (hts (.fieldLink RX1 56 "PorridgeSea$Sea" "boats" "I") (List.mem_of_getElem? (i := 1) rfl)) (fun _ h9 => h9) rfl dX1_rowByDraw_4 ?_
  refine lv_icmp_ge (tgt := 53) hx hb dX1_rowByDraw_7 (by decide) (fun c1 => ?_) (fun c1 => absurd (by decide) c1)
  have hP9 := hP.sub (ws' := [(a, .inr (7, [.int (nI 4), .int (nI 4), .int heat, .int cools, .int skinHeat, .int today, .int stirs, .int steps, .int (nI 0), .int (nI 0), .ref thickness, .ref lumpNames, .ref lumpCells, .ref boatNames, .ref boatCells, .ref loads, .ref spoons, .ref spoonsLeft, .ref depths]))]) [0] rfl
  have hD9 := hD.sub (ws' := [(a, .inr (7, [.int (nI 4), .int (nI 4), .int heat, .int cools, .int skinHeat, .int today, .int stirs, .int steps, .int (nI 0), .int (nI 0), .ref thickness, .ref lumpNames, .ref lumpCells, .ref boatNames, .ref boatCells, .ref loads, .ref spoons, .ref spoonsLeft, .ref depths]))]) [0] (by decide) rfl
  refine W.widen (k := 0) (n := 0) (Nat.le_of_ble_eq_true rfl) (Nat.le_of_ble_eq_true rfl) ?_
  exact W.vret hx hb hr (fun t ht9 hW9 => ⟨⟨(), rfl, trivial, by rw [ht9]; exact hP9, va_K.moved hW9.alike hK, hD9⟩, hS.F ht9⟩) hS.2.2 dX1_rowByDraw_53
set_option maxHeartbeats 4000000 in
set_option maxRecDepth 100000 in
theorem lp_drawDays {p : Program} {l : Launch} {e : Env} {R : Room} {s : State} {m : MethodId} {args : Array Value} {below : List Frame} {meth : Method} {c : Code} {Q : State → Prop} {dC : Nat → ClassId} {dI : Nat → Nat → Nat} {ky : Nat → ClassId} {H0 : Heap} {A : Nat → Prop} (hx : p.tables.exec = Jvm.exec) (hb : c.code = cX1_passDays) (hml : c.maxLocals = 6) (hown : s.vm.findClass RX1 = some m.cls) (hts : ∀ w ∈ wsX1_passDays, w.before args s = true) (hK : Kk dC dI ky s) (hA : ∀ q, H0.size ≤ q → A q) (hRf : 3 ≤ R.frames) (hRl : 78 ≤ R.locals) (hRc : 0 ≤ R.cells) (hRs : 0 ≤ R.slots) (draws : Nat) (dx : Int32) (a : Nat) (heat : Int32) (cools : Int32) (skinHeat : Int32) (stirs : Int32) (steps : Int32) (thickness : Nat) (lumpNames : Nat) (lumpCells : Nat) (boatNames : Nat) (boatCells : Nat) (loads : Nat) (spoons : Nat) (spoonsLeft : Nat) (depths : Nat) (thicknessF : Nat → Int32) (n : Nat) (sd : Int32) (hn : n ≤ 60) (kx : ∀ (i : Nat) (dxL : Int32) (heatL : Int32) (todayL : Int32) (stirsL : Int32) (thL : Nat → Int32), n = i → ∀ (H : Heap) (locs : List Loc) (ls : Array Slot), va_P (dC, dI) vwCl [(draws, .inr (1, [.int dxL])), (a, .inr (7, [.int (nI 4), .int (nI 4), .int heatL, .int cools, .int skinHeat, .int todayL, .int stirsL, .int steps, .int (nI 0), .int (nI 0), .ref thickness, .ref lumpNames, .ref lumpCells, .ref boatNames, .ref boatCells, .ref loads, .ref spoons, .ref spoonsLeft, .ref depths])), (thickness, .inl (ky 0, 36, .inl thL))] H → va_D A [(draws, .inr (1, [.int dxL])), (a, .inr (7, [.int (nI 4), .int (nI 4), .int heatL, .int cools, .int skinHeat, .int todayL, .int stirsL, .int steps, .int (nI 0), .int (nI 0), .ref thickness, .ref lumpNames, .ref lumpCells, .ref boatNames, .ref boatCells, .ref loads, .ref spoons, .ref spoonsLeft, .ref depths])), (thickness, .inl (ky 0, 36, .inl thL))] → va_S A H0 H locs → lv_has ls 6 [(5, .int (nI i)), (4, .int (nI n)), (0, .ref draws), (1, .ref a), (2, .int (nI n)), (3, .int sd)] → W p l e R s m args below meth c H locs 0 0 Q (F0 m 45 ls [])) :
    ∀ (nN i : Nat) (dxL : Int32) (heatL : Int32) (todayL : Int32) (stirsL : Int32) (thL : Nat → Int32), i ≤ n → n + 1 ≤ i + nN → ∀ (H : Heap) (locs : List Loc) (ls : Array Slot), va_P (dC, dI) vwCl [(draws, .inr (1, [.int dxL])), (a, .inr (7, [.int (nI 4), .int (nI 4), .int heatL, .int cools, .int skinHeat, .int todayL, .int stirsL, .int steps, .int (nI 0), .int (nI 0), .ref thickness, .ref lumpNames, .ref lumpCells, .ref boatNames, .ref boatCells, .ref loads, .ref spoons, .ref spoonsLeft, .ref depths])), (thickness, .inl (ky 0, 36, .inl thL))] H → va_D A [(draws, .inr (1, [.int dxL])), (a, .inr (7, [.int (nI 4), .int (nI 4), .int heatL, .int cools, .int skinHeat, .int todayL, .int stirsL, .int steps, .int (nI 0), .int (nI 0), .ref thickness, .ref lumpNames, .ref lumpCells, .ref boatNames, .ref boatCells, .ref loads, .ref spoons, .ref spoonsLeft, .ref depths])), (thickness, .inl (ky 0, 36, .inl thL))] → va_S A H0 H locs → lv_has ls 6 [(5, .int (nI i)), (4, .int (nI n)), (0, .ref draws), (1, .ref a), (2, .int (nI n)), (3, .int sd)] → W p l e R s m args below meth c H locs 0 0 Q (F0 m 18 ls []) := by
  intro nN
  induction nN with
  | zero => intro i dxL heatL todayL stirsL thL hi hnN; exfalso; omega
  | succ nN ih =>
    intro i dxL heatL todayL stirsL thL hi hnN  H locs ls hP hD hS hl
    refine lv_iload hx hb dX1_passDays_18 (lv_at hl 0 rfl) ?_
    refine lv_iload hx hb dX1_passDays_20 (lv_at hl 1 rfl) ?_
    refine n_icmp_ge (x := i) (y := n) (tgt := 45) hx hb (by omega) (by omega) dX1_passDays_22 (by decide) (fun c1 => ?_) (fun c1 => ?_)
    · exact kx i dxL heatL todayL stirsL thL (by omega)  H locs ls hP hD hS (lv_sub hl [0, 1, 2, 3, 4, 5] rfl)
    · refine lv_aload_n hx hb dX1_passDays_25 rfl (lv_at hl 2 rfl) ?_
      refine lv_aload_n hx hb dX1_passDays_26 rfl (lv_at hl 3 rfl) ?_
      refine r_call_v (wr := []) (va_runV (As := [.ref a]) (rest := []) ⟨hx, hb, hml, hown, hts⟩ (c_stirByDraw l dC dI ky H.size draws dxL a heatL cools skinHeat todayL stirsL steps thickness lumpNames lumpCells boatNames boatCells loads spoons spoonsLeft depths thL) (cwV 1 hts gX1_passDays_X1_stirByDraw rfl rfl rfl (by decide +kernel) ⟨(Nat.le_trans (Nat.le_of_ble_eq_true rfl) hRf), (Nat.le_trans (Nat.le_of_ble_eq_true rfl) hRl)⟩) (pre_UV hK hP hD [0, 1, 2] (by decide) rfl (ci := 1) (q0 := 0) rfl rfl) rfl rfl hl.1 rfl (lv_room (Nat.le_of_ble_eq_true rfl)) dX1_passDays_27 ⟨(Nat.le_trans (Nat.le_of_ble_eq_true rfl) hRc), (Nat.le_trans (Nat.le_of_ble_eq_true rfl) hRs)⟩) hP hD hS hA [0, 1, 2] [] rfl rfl (by decide) (by decide) (fun  u2 H locs p3 hP hD hS => ?_)
      obtain ⟨dxG_4, stirsG_5, thicknessG_6⟩ := u2
      have hP : va_P (dC, dI) vwCl [(draws, .inr (1, [.int dxG_4])), (a, .inr (7, [.int (nI 4), .int (nI 4), .int heatL, .int cools, .int skinHeat, .int todayL, .int stirsG_5, .int steps, .int (nI 0), .int (nI 0), .ref thickness, .ref lumpNames, .ref lumpCells, .ref boatNames, .ref boatCells, .ref loads, .ref spoons, .ref spoonsLeft, .ref depths])), (thickness, .inl (ky 0, 36, .inl thicknessG_6))] H := hP
      have hD : va_D A [(draws, .inr (1, [.int dxG_4])), (a, .inr (7, [.int (nI 4), .int (nI 4), .int heatL, .int cools, .int skinHeat, .int todayL, .int stirsG_5, .int steps, .int (nI 0), .int (nI 0), .ref thickness, .ref lumpNames, .ref lumpCells, .ref boatNames, .ref boatCells, .ref loads, .ref spoons, .ref spoonsLeft, .ref depths])), (thickness, .inl (ky 0, 36, .inl thicknessG_6))] := hD
      refine lv_aload_n hx hb dX1_passDays_30 rfl (lv_at hl 2 rfl) ?_
      refine lv_aload_n hx hb dX1_passDays_31 rfl (lv_at hl 3 rfl) ?_
      refine r_call_v (wr := [(draws, .inr (1, [.int dxG_4])), (thickness, .inl (ky 0, 36, .inl thicknessG_6))]) (va_runV (As := [.ref a]) (rest := []) ⟨hx, hb, hml, hown, hts⟩ (c_rowByDraw l dC dI ky H.size draws a heatL cools skinHeat todayL stirsG_5 steps thickness lumpNames lumpCells boatNames boatCells loads spoons spoonsLeft depths) (cwV 1 hts gX1_passDays_X1_rowByDraw rfl rfl rfl (by decide +kernel) ⟨(Nat.le_trans (Nat.le_of_ble_eq_true rfl) hRf), (Nat.le_trans (Nat.le_of_ble_eq_true rfl) hRl)⟩) (pre_UV hK hP hD [1] (by decide) rfl (ci := 1) (q0 := 0) rfl rfl) rfl rfl hl.1 rfl (lv_room (Nat.le_of_ble_eq_true rfl)) dX1_passDays_32 ⟨(Nat.le_trans (Nat.le_of_ble_eq_true rfl) hRc), (Nat.le_trans (Nat.le_of_ble_eq_true rfl) hRs)⟩) hP hD hS hA [1] [0, 2] rfl rfl (by decide) (by decide) (fun  u7 H locs p8 hP hD hS => ?_)
      have hP : va_P (dC, dI) vwCl [(draws, .inr (1, [.int dxG_4])), (thickness, .inl (ky 0, 36, .inl thicknessG_6)), (a, .inr (7, [.int (nI 4), .int (nI 4), .int heatL, .int cools, .int skinHeat, .int todayL, .int stirsG_5, .int steps, .int (nI 0), .int (nI 0), .ref thickness, .ref lumpNames, .ref lumpCells, .ref boatNames, .ref boatCells, .ref loads, .ref spoons, .ref spoonsLeft, .ref depths]))] H := hP
      have hD : va_D A [(draws, .inr (1, [.int dxG_4])), (thickness, .inl (ky 0, 36, .inl thicknessG_6)), (a, .inr (7, [.int (nI 4), .int (nI 4), .int heatL, .int cools, .int skinHeat, .int todayL, .int stirsG_5, .int steps, .int (nI 0), .int (nI 0), .ref thickness, .ref lumpNames, .ref lumpCells, .ref boatNames, .ref boatCells, .ref loads, .ref spoons, .ref spoonsLeft, .ref depths]))] := hD
      refine lv_aload_n hx hb dX1_passDays_35 rfl (lv_at hl 3 rfl) ?_
      refine r_call_v (wr := [(draws, .inr (1, [.int dxG_4])), (thickness, .inl (ky 0, 36, .inl thicknessG_6))]) (va_runV (As := []) (rest := []) ⟨hx, hb, hml, hown, hts⟩ (c_passDay l dC dI ky H.size a heatL cools skinHeat todayL stirsG_5 steps thickness lumpNames lumpCells boatNames boatCells loads spoons spoonsLeft depths) (cwV 0 hts gX1_passDays_X7_passDay rfl rfl rfl (by decide +kernel) ⟨(Nat.le_trans (Nat.le_of_ble_eq_true rfl) hRf), (Nat.le_trans (Nat.le_of_ble_eq_true rfl) hRl)⟩) (pre_UV hK hP hD [2] (by decide) rfl (ci := 7) (q0 := 2) rfl rfl) rfl rfl hl.1 rfl (lv_room (Nat.le_of_ble_eq_true rfl)) dX1_passDays_36 ⟨(Nat.le_trans (Nat.le_of_ble_eq_true rfl) hRc), (Nat.le_trans (Nat.le_of_ble_eq_true rfl) hRs)⟩) hP hD hS hA [2] [0, 1] rfl rfl (by decide) (by decide) (fun  u9 H locs p10 hP hD hS => ?_)
      obtain ⟨heatG_11, todayG_12⟩ := u9
      have hP : va_P (dC, dI) vwCl [(draws, .inr (1, [.int dxG_4])), (thickness, .inl (ky 0, 36, .inl thicknessG_6)), (a, .inr (7, [.int (nI 4), .int (nI 4), .int heatG_11, .int cools, .int skinHeat, .int todayG_12, .int stirsG_5, .int steps, .int (nI 0), .int (nI 0), .ref thickness, .ref lumpNames, .ref lumpCells, .ref boatNames, .ref boatCells, .ref loads, .ref spoons, .ref spoonsLeft, .ref depths]))] H := hP
      have hD : va_D A [(draws, .inr (1, [.int dxG_4])), (thickness, .inl (ky 0, 36, .inl thicknessG_6)), (a, .inr (7, [.int (nI 4), .int (nI 4), .int heatG_11, .int cools, .int skinHeat, .int todayG_12, .int stirsG_5, .int steps, .int (nI 0), .int (nI 0), .ref thickness, .ref lumpNames, .ref lumpCells, .ref boatNames, .ref boatCells, .ref loads, .ref spoons, .ref spoonsLeft, .ref depths]))] := hD
      refine lv_iinc (v := nI (i + 1)) (lv' := [(5, .int (nI (i + 1))), (4, .int (nI n)), (0, .ref draws), (1, .ref a), (2, .int (nI n)), (3, .int sd)]) hx hb dX1_passDays_39 hl (k := 0) rfl (show nI i + nI 1 = nI (i + 1) from nI_add _ _) (by decide) rfl (fun ls hl => ?_)
      refine lv_goto (tgt := 18) hx hb dX1_passDays_42 (by decide) ?_
      exact ih (i + 1) dxG_4 heatG_11 todayG_12 stirsG_5 thicknessG_6 (by omega) (by omega)  _ _ _ (hP.sub [0, 2, 1] rfl) (hD.sub [0, 2, 1] (by decide) rfl) hS (lv_sub hl [0, 1, 2, 3, 4, 5] rfl)
set_option maxHeartbeats 4000000 in
set_option maxRecDepth 100000 in
theorem c_drawPass (l : Launch) (dC : Nat → ClassId) (dI : Nat → Nat → Nat) (ky : Nat → ClassId) (sz : Nat) (draws : Nat) (dx : Int32) (a : Nat) (heat : Int32) (cools : Int32) (skinHeat : Int32) (stirs : Int32) (steps : Int32) (thickness : Nat) (lumpNames : Nat) (lumpCells : Nat) (boatNames : Nat) (boatCells : Nat) (loads : Nat) (spoons : Nat) (spoonsLeft : Nat) (depths : Nat) (thicknessF : Nat → Int32) (n : Nat) (sd : Int32) (hn : n ≤ 60) : Met l yX1_passDays wsX1_passDays ({ frames := 3, cells := 0, slots := 0, locals := 78 }) (PcU dC dI ky [.ref draws, .ref a, .int (nI n), .int sd] [(draws, .inr (1, [.int dx])), (a, .inr (7, [.int (nI 4), .int (nI 4), .int heat, .int cools, .int skinHeat, .int (nI 0), .int stirs, .int steps, .int (nI 0), .int (nI 0), .ref thickness, .ref lumpNames, .ref lumpCells, .ref boatNames, .ref boatCells, .ref loads, .ref spoons, .ref spoonsLeft, .ref depths])), (thickness, .inl (ky 0, 36, .inl thicknessF))] sz) (va_Qi (fun (r : Int32) (_ : Unit) => r = nI n) (BU dC dI ky (fun (_ : Unit) => []) (va_A [(draws, .inr (1, [.int dx])), (a, .inr (7, [.int (nI 4), .int (nI 4), .int heat, .int cools, .int skinHeat, .int (nI 0), .int stirs, .int steps, .int (nI 0), .int (nI 0), .ref thickness, .ref lumpNames, .ref lumpCells, .ref boatNames, .ref boatCells, .ref loads, .ref spoons, .ref spoonsLeft, .ref depths])), (thickness, .inl (ky 0, 36, .inl thicknessF))] sz)) (va_A [(draws, .inr (1, [.int dx])), (a, .inr (7, [.int (nI 4), .int (nI 4), .int heat, .int cools, .int skinHeat, .int (nI 0), .int stirs, .int steps, .int (nI 0), .int (nI 0), .ref thickness, .ref lumpNames, .ref lumpCells, .ref boatNames, .ref boatCells, .ref loads, .ref spoons, .ref spoonsLeft, .ref depths])), (thickness, .inl (ky 0, 36, .inl thicknessF))] sz)) 0 0 (va_A [(draws, .inr (1, [.int dx])), (a, .inr (7, [.int (nI 4), .int (nI 4), .int heat, .int cools, .int skinHeat, .int (nI 0), .int stirs, .int steps, .int (nI 0), .int (nI 0), .ref thickness, .ref lumpNames, .ref lumpCells, .ref boatNames, .ref boatCells, .ref loads, .ref spoons, .ref spoonsLeft, .ref depths])), (thickness, .inl (ky 0, 36, .inl thicknessF))] sz) := by
  refine Met.ofW (cc := cX1_passDays) (maxL := 6) (ret := (some .int)) (by decide) rfl ?_
  intro p e s m args below meth c s₁ B hml hv
  obtain ⟨rfl, hsz, hP, hK, hD0⟩ := hv
  have hx := B.exec
  have hb := B.bytes
  have hr := B.returns
  have hts := atoms_spec (ws := wsX1_passDays) B.pre
  have hown : s.vm.findClass RX1 = some m.cls := findClass_of_methodNamed B.named
  have hlocks := B.notSynchronized
  have hin1 : ∀ w ∈ u_ws RX1 TX1 1, w ∈ wsX1_passDays := by decide +kernel
  subst hsz
  have hD := hD0.self (sz := s.heap.size)
  generalize hAe : va_A [(draws, .inr (1, [.int dx])), (a, .inr (7, [.int (nI 4), .int (nI 4), .int heat, .int cools, .int skinHeat, .int (nI 0), .int stirs, .int steps, .int (nI 0), .int (nI 0), .ref thickness, .ref lumpNames, .ref lumpCells, .ref boatNames, .ref boatCells, .ref loads, .ref spoons, .ref spoonsLeft, .ref depths])), (thickness, .inl (ky 0, 36, .inl thicknessF))] s.heap.size = A at hD ⊢
  have hA : ∀ q : Nat, s.heap.size ≤ q → A q := fun q h => by rw [← hAe]; exact Or.inr h
  have hS : va_S A s.heap s.heap [] := va_S.rf
  have hP : va_P (dC, dI) vwCl [(draws, .inr (1, [.int dx])), (a, .inr (7, [.int (nI 4), .int (nI 4), .int heat, .int cools, .int skinHeat, .int (nI 0), .int stirs, .int steps, .int (nI 0), .int (nI 0), .ref thickness, .ref lumpNames, .ref lumpCells, .ref boatNames, .ref boatCells, .ref loads, .ref spoons, .ref spoonsLeft, .ref depths])), (thickness, .inl (ky 0, 36, .inl thicknessF))] s.heap := hP
  have hl := lv_entry ([.ref draws, .ref a, .int (nI n), .int sd]) (n := 6) (Nat.le_of_ble_eq_true rfl)
  rw [lg_entry_eq]
  generalize (lg_sl ([.ref draws, .ref a, .int (nI n), .int sd]) ++ List.replicate (6 - (lg_sl ([.ref draws, .ref a, .int (nI n), .int sd])).length) Slot.unset).toArray = ls at hl ⊢
  have hl : lv_has ls 6 [(0, .ref draws), (1, .ref a), (2, .int (nI n)), (3, .int sd)] := hl
  have hH0 : True := trivial
  refine lv_aload_n hx hb dX1_passDays_0 rfl (lv_at hl 0 rfl) ?_
  refine lv_iload_n hx hb dX1_passDays_1 rfl (lv_at hl 3 rfl) ?_
  refine va_put (D := (dC, dI)) (ci := 1) (v := .int sd) (ty := .int) (C := RX1) (T := TX1) (N := 1) hx hb hts hin1 tyX1 tyX1_ok nmX1 hown hK hP hD hS 0 rfl rfl 0 (by decide) (hts (.fieldLink RX1 9 "PorridgeSea$Draws" "x" "I") (List.mem_of_getElem? (i := 1) rfl)) (fun _ h9 => h9) rfl (by decide +kernel) rfl rfl (Nat.le_of_ble_eq_true rfl) dX1_passDays_2 (fun H locs hP hD hS => ?_)
  have hP : va_P (dC, dI) vwCl [(draws, .inr (1, [.int sd])), (a, .inr (7, [.int (nI 4), .int (nI 4), .int heat, .int cools, .int skinHeat, .int (nI 0), .int stirs, .int steps, .int (nI 0), .int (nI 0), .ref thickness, .ref lumpNames, .ref lumpCells, .ref boatNames, .ref boatCells, .ref loads, .ref spoons, .ref spoonsLeft, .ref depths])), (thickness, .inl (ky 0, 36, .inl thicknessF))] H := hP
  have hD : va_D A [(draws, .inr (1, [.int sd])), (a, .inr (7, [.int (nI 4), .int (nI 4), .int heat, .int cools, .int skinHeat, .int (nI 0), .int stirs, .int steps, .int (nI 0), .int (nI 0), .ref thickness, .ref lumpNames, .ref lumpCells, .ref boatNames, .ref boatCells, .ref loads, .ref spoons, .ref spoonsLeft, .ref depths])), (thickness, .inl (ky 0, 36, .inl thicknessF))] := hD
  refine lv_iload_n hx hb dX1_passDays_5 rfl (lv_at hl 2 rfl) ?_
  refine lv_aload_n hx hb dX1_passDays_6 rfl (lv_at hl 1 rfl) ?_
  refine vp_callSi (W.runV (As := []) (rest := [.int (nI n)]) ⟨hx, hb, hml, hown, hts⟩ (c_daysLeft0 l dC dI ky a heat cools skinHeat stirs steps thickness lumpNames lumpCells boatNames boatCells loads spoons spoonsLeft depths) (cwV 0 hts gX1_passDays_X7_daysLeft rfl rfl rfl (by decide +kernel) ⟨(Nat.le_of_ble_eq_true rfl), (Nat.le_of_ble_eq_true rfl)⟩) (pre_PV hK hP [1] rfl (ci := 7) (q0 := 1) rfl rfl) rfl rfl hl.1 rfl (lv_room (Nat.le_of_ble_eq_true rfl)) dX1_passDays_7 ⟨(Nat.le_of_ble_eq_true rfl), (Nat.le_of_ble_eq_true rfl)⟩) (fun r1 p2 => ?_)
  subst p2
  refine va_mmin hx hb (by rw [hml]; exact hl.1.symm) hown (hts _ (List.mem_of_getElem? (i := 2) rfl)) (hts _ (List.mem_of_getElem? (i := 3) rfl)) (hts _ (List.mem_of_getElem? (i := 4) rfl)) (hts _ (List.mem_of_getElem? (i := 5) rfl)) (Nat.le_of_ble_eq_true rfl) (Nat.le_of_ble_eq_true rfl) (Nat.le_of_ble_eq_true rfl) (Nat.le_of_ble_eq_true rfl) dX1_passDays_10 ?_
  refine r_ti (nI n) (if_neg (nI_nlt (by omega) (by omega))) ?_
  refine lv_istore (lv' := [(4, .int (nI n)), (0, .ref draws), (1, .ref a), (2, .int (nI n)), (3, .int sd)]) hx hb dX1_passDays_13 hl (by decide) rfl (fun ls hl => ?_)
  refine lv_iconst (v := nI 0) hx hb dX1_passDays_15 (by decide) ?_
  refine lv_istore (lv' := [(5, .int (nI 0)), (4, .int (nI n)), (0, .ref draws), (1, .ref a), (2, .int (nI n)), (3, .int sd)]) hx hb dX1_passDays_16 hl (by decide) rfl (fun ls hl => ?_)
  refine lp_drawDays hx hb hml hown hts hK hA (Nat.le_of_ble_eq_true rfl) (Nat.le_of_ble_eq_true rfl) (Nat.le_of_ble_eq_true rfl) (Nat.le_of_ble_eq_true rfl) draws dx a heat cools skinHeat stirs steps thickness lumpNames lumpCells boatNames boatCells loads spoons spoonsLeft depths thicknessF n sd hn ?_ (n + 1) 0 sd heat (nI 0) stirs thicknessF (by omega) (by omega)  _ _ _ hP hD hS (lv_sub hl [0, 1, 2, 3, 4, 5] rfl)
  intro i dxL heatL todayL stirsL thL hiN  H locs ls hP hD hS hl
  subst hiN
  refine lv_iload hx hb dX1_passDays_45 (lv_at hl 1 rfl) ?_
  have hP9 := hP.sub (ws' := []) [] rfl
  have hD9 := hD.sub (ws' := []) [] (by decide) rfl
  refine W.widen (k := 0) (n := 0) (Nat.le_of_ble_eq_true rfl) (Nat.le_of_ble_eq_true rfl) ?_
  exact W.iret (v := nI n) hx hb hr (fun t ht9 hW9 => ⟨⟨nI n, (), rfl, rfl, by rw [ht9]; exact hP9, va_K.moved hW9.alike hK, hD9⟩, hS.F ht9⟩) hS.2.2 dX1_passDays_47
set_option maxHeartbeats 4000000 in
set_option maxRecDepth 100000 in
theorem c_Image_init (l : Launch) (dC : Nat → ClassId) (dI : Nat → Nat → Nat) (ky : Nat → ClassId) (sz : Nat) (im : Nat)  : Met l yX3_init wsX3_init ({ frames := 2, cells := 12, slots := 146, locals := 41 }) (PcU dC dI ky [.ref im] [(im, .inr (3, [.null, .null, .int (nI 0)]))] sz) (va_Qv (fun (u : Nat × Nat × Nat × Nat × Nat × Nat × Nat × Nat × Nat × Nat × Nat × Nat × (Nat → Int32) × (Nat → Int64) × (Nat → Int32) × (Nat → Int64) × (Nat → Int32) × (Nat → Int32) × (Nat → Int32) × (Nat → Int32) × (Nat → Int32)) => match u with | (isea, isen, icodes, ithickness, ilumpNames, ilumpCells, iboatNames, iboatCells, iloads, ispoons, ispoonsLeft, idepths, ithicknessG, ilumpNamesG, ilumpCellsG, iboatNamesG, iboatCellsG, iloadsG, ispoonsG, ispoonsLeftG, idepthsG) => True) (BU dC dI ky (fun (u : Nat × Nat × Nat × Nat × Nat × Nat × Nat × Nat × Nat × Nat × Nat × Nat × (Nat → Int32) × (Nat → Int64) × (Nat → Int32) × (Nat → Int64) × (Nat → Int32) × (Nat → Int32) × (Nat → Int32) × (Nat → Int32) × (Nat → Int32)) => match u with | (isea, isen, icodes, ithickness, ilumpNames, ilumpCells, iboatNames, iboatCells, iloads, ispoons, ispoonsLeft, idepths, ithicknessG, ilumpNamesG, ilumpCellsG, iboatNamesG, iboatCellsG, iloadsG, ispoonsG, ispoonsLeftG, idepthsG) => [(im, .inr (3, [.ref isea, .ref isen, .int (nI 0)])), (isea, .inr (7, [.int (nI 4), .int (nI 4), .int (nI 10), .int (nI 1), .int (nI 3), .int (nI 0), .int (nI 0), .int (nI 0), .int (nI 0), .int (nI 0), .ref ithickness, .ref ilumpNames, .ref ilumpCells, .ref iboatNames, .ref iboatCells, .ref iloads, .ref ispoons, .ref ispoonsLeft, .ref idepths])), (ithickness, .inl (ky 0, 36, .inl ithicknessG)), (ilumpNames, .inl (ky 1, 6, .inr (.inl ilumpNamesG))), (ilumpCells, .inl (ky 0, 6, .inl ilumpCellsG)), (iboatNames, .inl (ky 1, 6, .inr (.inl iboatNamesG))), (iboatCells, .inl (ky 0, 6, .inl iboatCellsG)), (iloads, .inl (ky 0, 6, .inl iloadsG)), (ispoons, .inl (ky 0, 6, .inl ispoonsG)), (ispoonsLeft, .inl (ky 0, 6, .inl ispoonsLeftG)), (idepths, .inl (ky 0, 6, .inl idepthsG)), (isen, .inr (9, [.ref icodes, .int (nI 0), .int (nI 0)])), (icodes, .inl (ky 0, 40, .inl (fun _ => 0)))]) (va_A [(im, .inr (3, [.null, .null, .int (nI 0)]))] sz)) (va_A [(im, .inr (3, [.null, .null, .int (nI 0)]))] sz)) 12 146 (va_A [(im, .inr (3, [.null, .null, .int (nI 0)]))] sz) := by
  refine Met.ofW (cc := cX3_init) (maxL := 1) (ret := none) (by decide) rfl ?_
  intro p e s m args below meth c s₁ B hml hv
  obtain ⟨rfl, hsz, hP, hK, hD0⟩ := hv
  have hx := B.exec
  have hb := B.bytes
  have hr := B.returns
  have hts := atoms_spec (ws := wsX3_init) B.pre
  have hown : s.vm.findClass RX3 = some m.cls := findClass_of_methodNamed B.named
  have hlocks := B.notSynchronized
  have hini0 : meth.name = "<init>" := (name_of_methodNamed B.named B.method).1
  have hin3 : ∀ w ∈ u_ws RX3 TX3 3, w ∈ wsX3_init := by decide +kernel
  have hin7 : ∀ w ∈ u_ws RX7 TX7 19, w ∈ wsX3_init := by decide +kernel
  have hin9 : ∀ w ∈ u_ws RX9 TX9 3, w ∈ wsX3_init := by decide +kernel
  subst hsz
  have hD := hD0.self (sz := s.heap.size)
  generalize hAe : va_A [(im, .inr (3, [.null, .null, .int (nI 0)]))] s.heap.size = A at hD ⊢
  have hA : ∀ q : Nat, s.heap.size ≤ q → A q := fun q h => by rw [← hAe]; exact Or.inr h
  have hS : va_S A s.heap s.heap [] := va_S.rf
  have hP : va_P (dC, dI) vwCl [(im, .inr (3, [.null, .null, .int (nI 0)]))] s.heap := hP
  have hl := lv_entry ([.ref im]) (n := 1) (Nat.le_of_ble_eq_true rfl)
  rw [lg_entry_eq]
  generalize (lg_sl ([.ref im]) ++ List.replicate (1 - (lg_sl ([.ref im])).length) Slot.unset).toArray = ls at hl ⊢
  have hl : lv_has ls 1 [(0, .ref im)] := hl
  have hH0 : True := trivial
  refine lv_aload_n hx hb dX3_init_0 rfl (lv_at hl 0 rfl) ?_
  refine W.objInit hx hb hown (hts _ (List.mem_of_getElem? (i := 1) rfl)) (hts _ (List.mem_of_getElem? (i := 2) rfl)) (hts _ (List.mem_of_getElem? (i := 3) rfl)) rfl (by rw [hml]; exact hl.1) rfl dX3_init_1 (Nat.le_of_ble_eq_true rfl) (Nat.le_of_ble_eq_true rfl) ?_
  refine W.eq (g2 := F0 m 4 ls []) rfl ?_
  refine lv_aload_n hx hb dX3_init_4 rfl (lv_at hl 0 rfl) ?_
  refine va_new (ci := 7) (fs := [.int (nI 0), .int (nI 0), .int (nI 0), .int (nI 0), .int (nI 0), .int (nI 0), .int (nI 0), .int (nI 0), .int (nI 0), .int (nI 0), .null, .null, .null, .null, .null, .null, .null, .null, .null]) (C := RX7) (T := TX7) (N := 19) hx hb hts hin7 tyX7 tyX7_ok hown (hts (.classLink RX3 7 RX7) (List.mem_of_getElem? (i := 4) rfl)) (hts (.instantiable RX7 19) (List.mem_of_getElem? (i := 5) rfl)) (hts (.initialized RX7) (List.mem_of_getElem? (i := 6) rfl)) hK hP hD hS hA rfl (by decide +kernel) (Nat.le_of_ble_eq_true rfl) (Nat.le_of_ble_eq_true rfl) dX3_init_5 (fun q1 H hP hD hS => ?_)
  refine W.widen (k := 1) (n := 19) (Nat.le_of_ble_eq_true rfl) (Nat.le_of_ble_eq_true rfl) ?_
  have hP : va_P (dC, dI) vwCl [(im, .inr (3, [.null, .null, .int (nI 0)])), (q1, .inr (7, [.int (nI 0), .int (nI 0), .int (nI 0), .int (nI 0), .int (nI 0), .int (nI 0), .int (nI 0), .int (nI 0), .int (nI 0), .int (nI 0), .null, .null, .null, .null, .null, .null, .null, .null, .null]))] H := hP
  have hD : va_D A [(im, .inr (3, [.null, .null, .int (nI 0)])), (q1, .inr (7, [.int (nI 0), .int (nI 0), .int (nI 0), .int (nI 0), .int (nI 0), .int (nI 0), .int (nI 0), .int (nI 0), .int (nI 0), .int (nI 0), .null, .null, .null, .null, .null, .null, .null, .null, .null]))] := hD
  refine lv_dup hx hb dX3_init_8 rfl ?_
  refine r_call_v (wr := [(im, .inr (3, [.null, .null, .int (nI 0)]))]) (va_runI (As := []) (rest := [.ref q1, .ref im]) ⟨hx, hb, hml, hown, hts⟩ (c_Sea_init l dC dI ky H.size q1) (cwI 0 hts gX3_init_X7_init rfl rfl rfl (hts (.initialized RX7) (List.mem_of_getElem? (i := 6) rfl)) (hts (.methodLink RX3 9 yX7_init) (List.mem_of_getElem? (i := 13) rfl)) (hts (.instanceMethod yX7_init) (List.mem_of_getElem? (i := 14) rfl)) rfl (by decide +kernel) ⟨(Nat.le_of_ble_eq_true rfl), (Nat.le_of_ble_eq_true rfl)⟩) (pre_US hK hP hD [1] (by decide) rfl) rfl rfl hl.1 rfl (lv_room (Nat.le_of_ble_eq_true rfl)) dX3_init_9 ⟨(Nat.le_of_ble_eq_true rfl), (Nat.le_of_ble_eq_true rfl)⟩) hP hD hS hA [1] [0] rfl rfl (by decide) (by decide) (fun  u2 H locs p3 hP hD hS => ?_)
  obtain ⟨thickness_4, lumpNames_5, lumpCells_6, boatNames_7, boatCells_8, loads_9, spoons_10, spoonsLeft_11, depths_12, thicknessG_13⟩ := u2
  try dsimp only at p3
  have p14 := p3
  refine W.widen (k := 10) (n := 103) (Nat.le_of_ble_eq_true rfl) (Nat.le_of_ble_eq_true rfl) ?_
  have hP : va_P (dC, dI) vwCl [(im, .inr (3, [.null, .null, .int (nI 0)])), (q1, .inr (7, [.int (nI 4), .int (nI 4), .int (nI 10), .int (nI 1), .int (nI 3), .int (nI 0), .int (nI 0), .int (nI 0), .int (nI 0), .int (nI 0), .ref thickness_4, .ref lumpNames_5, .ref lumpCells_6, .ref boatNames_7, .ref boatCells_8, .ref loads_9, .ref spoons_10, .ref spoonsLeft_11, .ref depths_12])), (thickness_4, .inl (ky 0, 36, .inl thicknessG_13)), (lumpNames_5, .inl (ky 1, 6, .inr (.inl (fun _ => 0)))), (lumpCells_6, .inl (ky 0, 6, .inl (fun _ => 0))), (boatNames_7, .inl (ky 1, 6, .inr (.inl (fun _ => 0)))), (boatCells_8, .inl (ky 0, 6, .inl (fun _ => 0))), (loads_9, .inl (ky 0, 6, .inl (fun _ => 0))), (spoons_10, .inl (ky 0, 6, .inl (fun _ => 0))), (spoonsLeft_11, .inl (ky 0, 6, .inl (fun _ => 0))), (depths_12, .inl (ky 0, 6, .inl (fun _ => 0)))] H := hP
  have hD : va_D A [(im, .inr (3, [.null, .null, .int (nI 0)])), (q1, .inr (7, [.int (nI 4), .int (nI 4), .int (nI 10), .int (nI 1), .int (nI 3), .int (nI 0), .int (nI 0), .int (nI 0), .int (nI 0), .int (nI 0), .ref thickness_4, .ref lumpNames_5, .ref lumpCells_6, .ref boatNames_7, .ref boatCells_8, .ref loads_9, .ref spoons_10, .ref spoonsLeft_11, .ref depths_12])), (thickness_4, .inl (ky 0, 36, .inl thicknessG_13)), (lumpNames_5, .inl (ky 1, 6, .inr (.inl (fun _ => 0)))), (lumpCells_6, .inl (ky 0, 6, .inl (fun _ => 0))), (boatNames_7, .inl (ky 1, 6, .inr (.inl (fun _ => 0)))), (boatCells_8, .inl (ky 0, 6, .inl (fun _ => 0))), (loads_9, .inl (ky 0, 6, .inl (fun _ => 0))), (spoons_10, .inl (ky 0, 6, .inl (fun _ => 0))), (spoonsLeft_11, .inl (ky 0, 6, .inl (fun _ => 0))), (depths_12, .inl (ky 0, 6, .inl (fun _ => 0)))] := hD
  refine va_putF (D := (dC, dI)) (ci := 3) (v := .ref q1) (ty := .object "PorridgeSea$Sea") (C := RX3) (T := TX3) (N := 3) hx hb hts hin3 tyX3 tyX3_ok nmX3 hown hK hP hD hS 0 rfl rfl 0 (by decide) (hts (.fieldLink RX3 10 "PorridgeSea$Image" "sea" "LPorridgeSea$Sea;") (List.mem_of_getElem? (i := 7) rfl)) (fun _ h9 => h9) rfl hini0 rfl (by decide +kernel) rfl rfl (Nat.le_of_ble_eq_true rfl) dX3_init_12 (fun H locs hP hD hS => ?_)
  have hP : va_P (dC, dI) vwCl [(im, .inr (3, [.ref q1, .null, .int (nI 0)])), (q1, .inr (7, [.int (nI 4), .int (nI 4), .int (nI 10), .int (nI 1), .int (nI 3), .int (nI 0), .int (nI 0), .int (nI 0), .int (nI 0), .int (nI 0), .ref thickness_4, .ref lumpNames_5, .ref lumpCells_6, .ref boatNames_7, .ref boatCells_8, .ref loads_9, .ref spoons_10, .ref spoonsLeft_11, .ref depths_12])), (thickness_4, .inl (ky 0, 36, .inl thicknessG_13)), (lumpNames_5, .inl (ky 1, 6, .inr (.inl (fun _ => 0)))), (lumpCells_6, .inl (ky 0, 6, .inl (fun _ => 0))), (boatNames_7, .inl (ky 1, 6, .inr (.inl (fun _ => 0)))), (boatCells_8, .inl (ky 0, 6, .inl (fun _ => 0))), (loads_9, .inl (ky 0, 6, .inl (fun _ => 0))), (spoons_10, .inl (ky 0, 6, .inl (fun _ => 0))), (spoonsLeft_11, .inl (ky 0, 6, .inl (fun _ => 0))), (depths_12, .inl (ky 0, 6, .inl (fun _ => 0)))] H := hP
  have hD : va_D A [(im, .inr (3, [.ref q1, .null, .int (nI 0)])), (q1, .inr (7, [.int (nI 4), .int (nI 4), .int (nI 10), .int (nI 1), .int (nI 3), .int (nI 0), .int (nI 0), .int (nI 0), .int (nI 0), .int (nI 0), .ref thickness_4, .ref lumpNames_5, .ref lumpCells_6, .ref boatNames_7, .ref boatCells_8, .ref loads_9, .ref spoons_10, .ref spoonsLeft_11, .ref depths_12])), (thickness_4, .inl (ky 0, 36, .inl thicknessG_13)), (lumpNames_5, .inl (ky 1, 6, .inr (.inl (fun _ => 0)))), (lumpCells_6, .inl (ky 0, 6, .inl (fun _ => 0))), (boatNames_7, .inl (ky 1, 6, .inr (.inl (fun _ => 0)))), (boatCells_8, .inl (ky 0, 6, .inl (fun _ => 0))), (loads_9, .inl (ky 0, 6, .inl (fun _ => 0))), (spoons_10, .inl (ky 0, 6, .inl (fun _ => 0))), (spoonsLeft_11, .inl (ky 0, 6, .inl (fun _ => 0))), (depths_12, .inl (ky 0, 6, .inl (fun _ => 0)))] := hD
  refine lv_aload_n hx hb dX3_init_15 rfl (lv_at hl 0 rfl) ?_
  refine va_new (ci := 9) (fs := [.null, .int (nI 0), .int (nI 0)]) (C := RX9) (T := TX9) (N := 3) hx hb hts hin9 tyX9 tyX9_ok hown (hts (.classLink RX3 16 RX9) (List.mem_of_getElem? (i := 8) rfl)) (hts (.instantiable RX9 3) (List.mem_of_getElem? (i := 9) rfl)) (hts (.initialized RX9) (List.mem_of_getElem? (i := 10) rfl)) hK hP hD hS hA rfl (by decide +kernel) (Nat.le_of_ble_eq_true rfl) (Nat.le_of_ble_eq_true rfl) dX3_init_16 (fun q15 H hP hD hS => ?_)
  refine W.widen (k := 11) (n := 106) (Nat.le_of_ble_eq_true rfl) (Nat.le_of_ble_eq_true rfl) ?_
  have hP : va_P (dC, dI) vwCl [(im, .inr (3, [.ref q1, .null, .int (nI 0)])), (q1, .inr (7, [.int (nI 4), .int (nI 4), .int (nI 10), .int (nI 1), .int (nI 3), .int (nI 0), .int (nI 0), .int (nI 0), .int (nI 0), .int (nI 0), .ref thickness_4, .ref lumpNames_5, .ref lumpCells_6, .ref boatNames_7, .ref boatCells_8, .ref loads_9, .ref spoons_10, .ref spoonsLeft_11, .ref depths_12])), (thickness_4, .inl (ky 0, 36, .inl thicknessG_13)), (lumpNames_5, .inl (ky 1, 6, .inr (.inl (fun _ => 0)))), (lumpCells_6, .inl (ky 0, 6, .inl (fun _ => 0))), (boatNames_7, .inl (ky 1, 6, .inr (.inl (fun _ => 0)))), (boatCells_8, .inl (ky 0, 6, .inl (fun _ => 0))), (loads_9, .inl (ky 0, 6, .inl (fun _ => 0))), (spoons_10, .inl (ky 0, 6, .inl (fun _ => 0))), (spoonsLeft_11, .inl (ky 0, 6, .inl (fun _ => 0))), (depths_12, .inl (ky 0, 6, .inl (fun _ => 0))), (q15, .inr (9, [.null, .int (nI 0), .int (nI 0)]))] H := hP
  have hD : va_D A [(im, .inr (3, [.ref q1, .null, .int (nI 0)])), (q1, .inr (7, [.int (nI 4), .int (nI 4), .int (nI 10), .int (nI 1), .int (nI 3), .int (nI 0), .int (nI 0), .int (nI 0), .int (nI 0), .int (nI 0), .ref thickness_4, .ref lumpNames_5, .ref lumpCells_6, .ref boatNames_7, .ref boatCells_8, .ref loads_9, .ref spoons_10, .ref spoonsLeft_11, .ref depths_12])), (thickness_4, .inl (ky 0, 36, .inl thicknessG_13)), (lumpNames_5, .inl (ky 1, 6, .inr (.inl (fun _ => 0)))), (lumpCells_6, .inl (ky 0, 6, .inl (fun _ => 0))), (boatNames_7, .inl (ky 1, 6, .inr (.inl (fun _ => 0)))), (boatCells_8, .inl (ky 0, 6, .inl (fun _ => 0))), (loads_9, .inl (ky 0, 6, .inl (fun _ => 0))), (spoons_10, .inl (ky 0, 6, .inl (fun _ => 0))), (spoonsLeft_11, .inl (ky 0, 6, .inl (fun _ => 0))), (depths_12, .inl (ky 0, 6, .inl (fun _ => 0))), (q15, .inr (9, [.null, .int (nI 0), .int (nI 0)]))] := hD
  refine lv_dup hx hb dX3_init_19 rfl ?_
  refine r_call_v (wr := [(im, .inr (3, [.ref q1, .null, .int (nI 0)])), (q1, .inr (7, [.int (nI 4), .int (nI 4), .int (nI 10), .int (nI 1), .int (nI 3), .int (nI 0), .int (nI 0), .int (nI 0), .int (nI 0), .int (nI 0), .ref thickness_4, .ref lumpNames_5, .ref lumpCells_6, .ref boatNames_7, .ref boatCells_8, .ref loads_9, .ref spoons_10, .ref spoonsLeft_11, .ref depths_12])), (thickness_4, .inl (ky 0, 36, .inl thicknessG_13)), (lumpNames_5, .inl (ky 1, 6, .inr (.inl (fun _ => 0)))), (lumpCells_6, .inl (ky 0, 6, .inl (fun _ => 0))), (boatNames_7, .inl (ky 1, 6, .inr (.inl (fun _ => 0)))), (boatCells_8, .inl (ky 0, 6, .inl (fun _ => 0))), (loads_9, .inl (ky 0, 6, .inl (fun _ => 0))), (spoons_10, .inl (ky 0, 6, .inl (fun _ => 0))), (spoonsLeft_11, .inl (ky 0, 6, .inl (fun _ => 0))), (depths_12, .inl (ky 0, 6, .inl (fun _ => 0)))]) (va_runI (As := []) (rest := [.ref q15, .ref im]) ⟨hx, hb, hml, hown, hts⟩ (c_Sentence_init l dC dI ky H.size q15) (cwI 0 hts gX3_init_X9_init rfl rfl rfl (hts (.initialized RX9) (List.mem_of_getElem? (i := 10) rfl)) (hts (.methodLink RX3 18 yX9_init) (List.mem_of_getElem? (i := 42) rfl)) (hts (.instanceMethod yX9_init) (List.mem_of_getElem? (i := 43) rfl)) rfl (by decide +kernel) ⟨(Nat.le_of_ble_eq_true rfl), (Nat.le_of_ble_eq_true rfl)⟩) (pre_US hK hP hD [11] (by decide) rfl) rfl rfl hl.1 rfl (lv_room (Nat.le_of_ble_eq_true rfl)) dX3_init_20 ⟨(Nat.le_of_ble_eq_true rfl), (Nat.le_of_ble_eq_true rfl)⟩) hP hD hS hA [11] [0, 1, 2, 3, 4, 5, 6, 7, 8, 9, 10] rfl rfl (by decide) (by decide) (fun  u16 H locs p17 hP hD hS => ?_)
  obtain ⟨codes_18, rfl⟩ : ∃ z, z = u16 := ⟨_, rfl⟩
  refine W.widen (k := 12) (n := 146) (Nat.le_of_ble_eq_true rfl) (Nat.le_of_ble_eq_true rfl) ?_
  have hP : va_P (dC, dI) vwCl [(im, .inr (3, [.ref q1, .null, .int (nI 0)])), (q1, .inr (7, [.int (nI 4), .int (nI 4), .int (nI 10), .int (nI 1), .int (nI 3), .int (nI 0), .int (nI 0), .int (nI 0), .int (nI 0), .int (nI 0), .ref thickness_4, .ref lumpNames_5, .ref lumpCells_6, .ref boatNames_7, .ref boatCells_8, .ref loads_9, .ref spoons_10, .ref spoonsLeft_11, .ref depths_12])), (thickness_4, .inl (ky 0, 36, .inl thicknessG_13)), (lumpNames_5, .inl (ky 1, 6, .inr (.inl (fun _ => 0)))), (lumpCells_6, .inl (ky 0, 6, .inl (fun _ => 0))), (boatNames_7, .inl (ky 1, 6, .inr (.inl (fun _ => 0)))), (boatCells_8, .inl (ky 0, 6, .inl (fun _ => 0))), (loads_9, .inl (ky 0, 6, .inl (fun _ => 0))), (spoons_10, .inl (ky 0, 6, .inl (fun _ => 0))), (spoonsLeft_11, .inl (ky 0, 6, .inl (fun _ => 0))), (depths_12, .inl (ky 0, 6, .inl (fun _ => 0))), (q15, .inr (9, [.ref codes_18, .int (nI 0), .int (nI 0)])), (codes_18, .inl (ky 0, 40, .inl (fun _ => 0)))] H := hP
  have hD : va_D A [(im, .inr (3, [.ref q1, .null, .int (nI 0)])), (q1, .inr (7, [.int (nI 4), .int (nI 4), .int (nI 10), .int (nI 1), .int (nI 3), .int (nI 0), .int (nI 0), .int (nI 0), .int (nI 0), .int (nI 0), .ref thickness_4, .ref lumpNames_5, .ref lumpCells_6, .ref boatNames_7, .ref boatCells_8, .ref loads_9, .ref spoons_10, .ref spoonsLeft_11, .ref depths_12])), (thickness_4, .inl (ky 0, 36, .inl thicknessG_13)), (lumpNames_5, .inl (ky 1, 6, .inr (.inl (fun _ => 0)))), (lumpCells_6, .inl (ky 0, 6, .inl (fun _ => 0))), (boatNames_7, .inl (ky 1, 6, .inr (.inl (fun _ => 0)))), (boatCells_8, .inl (ky 0, 6, .inl (fun _ => 0))), (loads_9, .inl (ky 0, 6, .inl (fun _ => 0))), (spoons_10, .inl (ky 0, 6, .inl (fun _ => 0))), (spoonsLeft_11, .inl (ky 0, 6, .inl (fun _ => 0))), (depths_12, .inl (ky 0, 6, .inl (fun _ => 0))), (q15, .inr (9, [.ref codes_18, .int (nI 0), .int (nI 0)])), (codes_18, .inl (ky 0, 40, .inl (fun _ => 0)))] := hD
  refine va_putF (D := (dC, dI)) (ci := 3) (v := .ref q15) (ty := .object "PorridgeSea$Sentence") (C := RX3) (T := TX3) (N := 3) hx hb hts hin3 tyX3 tyX3_ok nmX3 hown hK hP hD hS 0 rfl rfl 1 (by decide) (hts (.fieldLink RX3 19 "PorridgeSea$Image" "sentence" "LPorridgeSea$Sentence;") (List.mem_of_getElem? (i := 11) rfl)) (fun _ h9 => h9) rfl hini0 rfl (by decide +kernel) rfl rfl (Nat.le_of_ble_eq_true rfl) dX3_init_23 (fun H locs hP hD hS => ?_)
  have hP : va_P (dC, dI) vwCl [(im, .inr (3, [.ref q1, .ref q15, .int (nI 0)])), (q1, .inr (7, [.int (nI 4), .int (nI 4), .int (nI 10), .int (nI 1), .int (nI 3), .int (nI 0), .int (nI 0), .int (nI 0), .int (nI 0), .int (nI 0), .ref thickness_4, .ref lumpNames_5, .ref lumpCells_6, .ref boatNames_7, .ref boatCells_8, .ref loads_9, .ref spoons_10, .ref spoonsLeft_11, .ref depths_12])), (thickness_4, .inl (ky 0, 36, .inl thicknessG_13)), (lumpNames_5, .inl (ky 1, 6, .inr (.inl (fun _ => 0)))), (lumpCells_6, .inl (ky 0, 6, .inl (fun _ => 0))), (boatNames_7, .inl (ky 1, 6, .inr (.inl (fun _ => 0)))), (boatCells_8, .inl (ky 0, 6, .inl (fun _ => 0))), (loads_9, .inl (ky 0, 6, .inl (fun _ => 0))), (spoons_10, .inl (ky 0, 6, .inl (fun _ => 0))), (spoonsLeft_11, .inl (ky 0, 6, .inl (fun _ => 0))), (depths_12, .inl (ky 0, 6, .inl (fun _ => 0))), (q15, .inr (9, [.ref codes_18, .int (nI 0), .int (nI 0)])), (codes_18, .inl (ky 0, 40, .inl (fun _ => 0)))] H := hP
  have hD : va_D A [(im, .inr (3, [.ref q1, .ref q15, .int (nI 0)])), (q1, .inr (7, [.int (nI 4), .int (nI 4), .int (nI 10), .int (nI 1), .int (nI 3), .int (nI 0), .int (nI 0), .int (nI 0), .int (nI 0), .int (nI 0), .ref thickness_4, .ref lumpNames_5, .ref lumpCells_6, .ref boatNames_7, .ref boatCells_8, .ref loads_9, .ref spoons_10, .ref spoonsLeft_11, .ref depths_12])), (thickness_4, .inl (ky 0, 36, .inl thicknessG_13)), (lumpNames_5, .inl (ky 1, 6, .inr (.inl (fun _ => 0)))), (lumpCells_6, .inl (ky 0, 6, .inl (fun _ => 0))), (boatNames_7, .inl (ky 1, 6, .inr (.inl (fun _ => 0)))), (boatCells_8, .inl (ky 0, 6, .inl (fun _ => 0))), (loads_9, .inl (ky 0, 6, .inl (fun _ => 0))), (spoons_10, .inl (ky 0, 6, .inl (fun _ => 0))), (spoonsLeft_11, .inl (ky 0, 6, .inl (fun _ => 0))), (depths_12, .inl (ky 0, 6, .inl (fun _ => 0))), (q15, .inr (9, [.ref codes_18, .int (nI 0), .int (nI 0)])), (codes_18, .inl (ky 0, 40, .inl (fun _ => 0)))] := hD
  refine lv_aload_n hx hb dX3_init_26 rfl (lv_at hl 0 rfl) ?_
  refine lv_iconst (v := nI 0) hx hb dX3_init_27 (by decide) ?_
  refine va_put (D := (dC, dI)) (ci := 3) (v := .int (nI 0)) (ty := .boolean) (C := RX3) (T := TX3) (N := 3) hx hb hts hin3 tyX3 tyX3_ok nmX3 hown hK hP hD hS 0 rfl rfl 2 (by decide) (hts (.fieldLink RX3 23 "PorridgeSea$Image" "kept" "Z") (List.mem_of_getElem? (i := 12) rfl)) (fun _ h9 => h9) rfl (by decide +kernel) (by decide) (by decide) (Nat.le_of_ble_eq_true rfl) dX3_init_28 (fun H locs hP hD hS => ?_)
  have hP : va_P (dC, dI) vwCl [(im, .inr (3, [.ref q1, .ref q15, .int (nI 0)])), (q1, .inr (7, [.int (nI 4), .int (nI 4), .int (nI 10), .int (nI 1), .int (nI 3), .int (nI 0), .int (nI 0), .int (nI 0), .int (nI 0), .int (nI 0), .ref thickness_4, .ref lumpNames_5, .ref lumpCells_6, .ref boatNames_7, .ref boatCells_8, .ref loads_9, .ref spoons_10, .ref spoonsLeft_11, .ref depths_12])), (thickness_4, .inl (ky 0, 36, .inl thicknessG_13)), (lumpNames_5, .inl (ky 1, 6, .inr (.inl (fun _ => 0)))), (lumpCells_6, .inl (ky 0, 6, .inl (fun _ => 0))), (boatNames_7, .inl (ky 1, 6, .inr (.inl (fun _ => 0)))), (boatCells_8, .inl (ky 0, 6, .inl (fun _ => 0))), (loads_9, .inl (ky 0, 6, .inl (fun _ => 0))), (spoons_10, .inl (ky 0, 6, .inl (fun _ => 0))), (spoonsLeft_11, .inl (ky 0, 6, .inl (fun _ => 0))), (depths_12, .inl (ky 0, 6, .inl (fun _ => 0))), (q15, .inr (9, [.ref codes_18, .int (nI 0), .int (nI 0)])), (codes_18, .inl (ky 0, 40, .inl (fun _ => 0)))] H := hP
  have hD : va_D A [(im, .inr (3, [.ref q1, .ref q15, .int (nI 0)])), (q1, .inr (7, [.int (nI 4), .int (nI 4), .int (nI 10), .int (nI 1), .int (nI 3), .int (nI 0), .int (nI 0), .int (nI 0), .int (nI 0), .int (nI 0), .ref thickness_4, .ref lumpNames_5, .ref lumpCells_6, .ref boatNames_7, .ref boatCells_8, .ref loads_9, .ref spoons_10, .ref spoonsLeft_11, .ref depths_12])), (thickness_4, .inl (ky 0, 36, .inl thicknessG_13)), (lumpNames_5, .inl (ky 1, 6, .inr (.inl (fun _ => 0)))), (lumpCells_6, .inl (ky 0, 6, .inl (fun _ => 0))), (boatNames_7, .inl (ky 1, 6, .inr (.inl (fun _ => 0)))), (boatCells_8, .inl (ky 0, 6, .inl (fun _ => 0))), (loads_9, .inl (ky 0, 6, .inl (fun _ => 0))), (spoons_10, .inl (ky 0, 6, .inl (fun _ => 0))), (spoonsLeft_11, .inl (ky 0, 6, .inl (fun _ => 0))), (depths_12, .inl (ky 0, 6, .inl (fun _ => 0))), (q15, .inr (9, [.ref codes_18, .int (nI 0), .int (nI 0)])), (codes_18, .inl (ky 0, 40, .inl (fun _ => 0)))] := hD
  have hP9 := hP.sub (ws' := [(im, .inr (3, [.ref q1, .ref q15, .int (nI 0)])), (q1, .inr (7, [.int (nI 4), .int (nI 4), .int (nI 10), .int (nI 1), .int (nI 3), .int (nI 0), .int (nI 0), .int (nI 0), .int (nI 0), .int (nI 0), .ref thickness_4, .ref lumpNames_5, .ref lumpCells_6, .ref boatNames_7, .ref boatCells_8, .ref loads_9, .ref spoons_10, .ref spoonsLeft_11, .ref depths_12])), (thickness_4, .inl (ky 0, 36, .inl thicknessG_13)), (lumpNames_5, .inl (ky 1, 6, .inr (.inl (fun _ => 0)))), (lumpCells_6, .inl (ky 0, 6, .inl (fun _ => 0))), (boatNames_7, .inl (ky 1, 6, .inr (.inl (fun _ => 0)))), (boatCells_8, .inl (ky 0, 6, .inl (fun _ => 0))), (loads_9, .inl (ky 0, 6, .inl (fun _ => 0))), (spoons_10, .inl (ky 0, 6, .inl (fun _ => 0))), (spoonsLeft_11, .inl (ky 0, 6, .inl (fun _ => 0))), (depths_12, .inl (ky 0, 6, .inl (fun _ => 0))), (q15, .inr (9, [.ref codes_18, .int (nI 0), .int (nI 0)])), (codes_18, .inl (ky 0, 40, .inl (fun _ => 0)))]) [0, 1, 2, 3, 4, 5, 6, 7, 8, 9, 10, 11, 12] rfl
  have hD9 := hD.sub (ws' := [(im, .inr (3, [.ref q1, .ref q15, .int (nI 0)])), (q1, .inr (7, [.int (nI 4), .int (nI 4), .int (nI 10), .int (nI 1), .int (nI 3), .int (nI 0), .int (nI 0), .int (nI 0), .int (nI 0), .int (nI 0), .ref thickness_4, .ref lumpNames_5, .ref lumpCells_6, .ref boatNames_7, .ref boatCells_8, .ref loads_9, .ref spoons_10, .ref spoonsLeft_11, .ref depths_12])), (thickness_4, .inl (ky 0, 36, .inl thicknessG_13)), (lumpNames_5, .inl (ky 1, 6, .inr (.inl (fun _ => 0)))), (lumpCells_6, .inl (ky 0, 6, .inl (fun _ => 0))), (boatNames_7, .inl (ky 1, 6, .inr (.inl (fun _ => 0)))), (boatCells_8, .inl (ky 0, 6, .inl (fun _ => 0))), (loads_9, .inl (ky 0, 6, .inl (fun _ => 0))), (spoons_10, .inl (ky 0, 6, .inl (fun _ => 0))), (spoonsLeft_11, .inl (ky 0, 6, .inl (fun _ => 0))), (depths_12, .inl (ky 0, 6, .inl (fun _ => 0))), (q15, .inr (9, [.ref codes_18, .int (nI 0), .int (nI 0)])), (codes_18, .inl (ky 0, 40, .inl (fun _ => 0)))]) [0, 1, 2, 3, 4, 5, 6, 7, 8, 9, 10, 11, 12] (by decide) rfl
  refine W.widen (k := 12) (n := 146) (Nat.le_of_ble_eq_true rfl) (Nat.le_of_ble_eq_true rfl) ?_
  exact W.vret hx hb hr (fun t ht9 hW9 => ⟨⟨(q1, q15, codes_18, thickness_4, lumpNames_5, lumpCells_6, boatNames_7, boatCells_8, loads_9, spoons_10, spoonsLeft_11, depths_12, thicknessG_13, fun _ => 0, fun _ => 0, fun _ => 0, fun _ => 0, fun _ => 0, fun _ => 0, fun _ => 0, fun _ => 0), rfl, trivial, by rw [ht9]; exact hP9, va_K.moved hW9.alike hK, hD9⟩, hS.F ht9⟩) hS.2.2 dX3_init_31
