theorem dX12_refuse_0 : decode cX12_refuse 0 = .ok (.aload_n 0, 1) := by decide +kernel
theorem dX12_refuse_1 : decode cX12_refuse 1 = .ok (.iconst 1, 1) := by decide +kernel
theorem dX12_refuse_2 : decode cX12_refuse 2 = .ok (.putfield 1, 3) := by decide +kernel
theorem dX12_refuse_5 : decode cX12_refuse 5 = .ok (.iconst 0, 1) := by decide +kernel
theorem dX12_refuse_6 : decode cX12_refuse 6 = .ok (.ireturn, 1) := by decide +kernel
theorem dX12_come_0 : decode cX12_come 0 = .ok (.bipush 24, 2) := by decide +kernel
theorem dX12_come_2 : decode cX12_come 2 = .ok (.istore_n 2, 1) := by decide +kernel
theorem dX12_come_3 : decode cX12_come 3 = .ok (.iload_n 2, 1) := by decide +kernel
theorem dX12_come_4 : decode cX12_come 4 = .ok (.ifCond .lt 35, 3) := by decide +kernel
theorem dX12_come_7 : decode cX12_come 7 = .ok (.aload_n 0, 1) := by decide +kernel
theorem dX12_come_8 : decode cX12_come 8 = .ok (.getfield 7, 3) := by decide +kernel
theorem dX12_come_11 : decode cX12_come 11 = .ok (.aload_n 0, 1) := by decide +kernel
theorem dX12_come_12 : decode cX12_come 12 = .ok (.getfield 11, 3) := by decide +kernel
theorem dX12_come_15 : decode cX12_come 15 = .ok (.iload_n 1, 1) := by decide +kernel
theorem dX12_come_16 : decode cX12_come 16 = .ok (.iload_n 2, 1) := by decide +kernel
theorem dX12_come_17 : decode cX12_come 17 = .ok (.iushr, 1) := by decide +kernel
theorem dX12_come_18 : decode cX12_come 18 = .ok (.sipush 255, 3) := by decide +kernel
theorem dX12_come_21 : decode cX12_come 21 = .ok (.iand, 1) := by decide +kernel
theorem dX12_come_22 : decode cX12_come 22 = .ok (.iastore, 1) := by decide +kernel
theorem dX12_come_23 : decode cX12_come 23 = .ok (.aload_n 0, 1) := by decide +kernel
theorem dX12_come_24 : decode cX12_come 24 = .ok (.dup, 1) := by decide +kernel
theorem dX12_come_25 : decode cX12_come 25 = .ok (.getfield 11, 3) := by decide +kernel
theorem dX12_come_28 : decode cX12_come 28 = .ok (.iconst 1, 1) := by decide +kernel
theorem dX12_come_29 : decode cX12_come 29 = .ok (.iadd, 1) := by decide +kernel
theorem dX12_come_30 : decode cX12_come 30 = .ok (.putfield 11, 3) := by decide +kernel
theorem dX12_come_33 : decode cX12_come 33 = .ok (.iinc 2 (-8), 3) := by decide +kernel
theorem dX12_come_36 : decode cX12_come 36 = .ok (.goto (-33), 3) := by decide +kernel
theorem dX12_come_39 : decode cX12_come 39 = .ok (.return_, 1) := by decide +kernel
theorem dX12_feed_0 : decode cX12_feed 0 = .ok (.aload_n 0, 1) := by decide +kernel
theorem dX12_feed_1 : decode cX12_feed 1 = .ok (.iconst 0, 1) := by decide +kernel
theorem dX12_feed_2 : decode cX12_feed 2 = .ok (.putfield 1, 3) := by decide +kernel
theorem dX12_feed_5 : decode cX12_feed 5 = .ok (.aload_n 0, 1) := by decide +kernel
theorem dX12_feed_6 : decode cX12_feed 6 = .ok (.getfield 11, 3) := by decide +kernel
theorem dX12_feed_9 : decode cX12_feed 9 = .ok (.bipush 20, 2) := by decide +kernel
theorem dX12_feed_11 : decode cX12_feed 11 = .ok (.iadd, 1) := by decide +kernel
theorem dX12_feed_12 : decode cX12_feed 12 = .ok (.sipush 940, 3) := by decide +kernel
theorem dX12_feed_15 : decode cX12_feed 15 = .ok (.if_icmp .le 5, 3) := by decide +kernel
theorem dX12_feed_20 : decode cX12_feed 20 = .ok (.aload_n 0, 1) := by decide +kernel
theorem dX12_feed_21 : decode cX12_feed 21 = .ok (.iload_n 1, 1) := by decide +kernel
theorem dX12_feed_22 : decode cX12_feed 22 = .ok (.invokevirtual 14, 3) := by decide +kernel
theorem dX12_feed_25 : decode cX12_feed 25 = .ok (.aload_n 0, 1) := by decide +kernel
theorem dX12_feed_26 : decode cX12_feed 26 = .ok (.iload_n 2, 1) := by decide +kernel
theorem dX12_feed_27 : decode cX12_feed 27 = .ok (.invokevirtual 14, 3) := by decide +kernel
theorem dX12_feed_30 : decode cX12_feed 30 = .ok (.aload_n 0, 1) := by decide +kernel
theorem dX12_feed_31 : decode cX12_feed 31 = .ok (.iload_n 3, 1) := by decide +kernel
theorem dX12_feed_32 : decode cX12_feed 32 = .ok (.invokevirtual 14, 3) := by decide +kernel
theorem dX12_feed_35 : decode cX12_feed 35 = .ok (.aload_n 0, 1) := by decide +kernel
theorem dX12_feed_36 : decode cX12_feed 36 = .ok (.iload 4, 2) := by decide +kernel
theorem dX12_feed_38 : decode cX12_feed 38 = .ok (.invokevirtual 14, 3) := by decide +kernel
theorem dX12_feed_41 : decode cX12_feed 41 = .ok (.aload_n 0, 1) := by decide +kernel
theorem dX12_feed_42 : decode cX12_feed 42 = .ok (.iload 5, 2) := by decide +kernel
theorem dX12_feed_44 : decode cX12_feed 44 = .ok (.invokevirtual 14, 3) := by decide +kernel
theorem dX12_feed_47 : decode cX12_feed 47 = .ok (.aload_n 0, 1) := by decide +kernel
theorem dX12_feed_48 : decode cX12_feed 48 = .ok (.getfield 11, 3) := by decide +kernel
theorem dX12_feed_51 : decode cX12_feed 51 = .ok (.ireturn, 1) := by decide +kernel
theorem dX12_feed_18 : decode cX12_feed 18 = .ok (.iconst (-1), 1) := by decide +kernel
theorem dX12_feed_19 : decode cX12_feed 19 = .ok (.ireturn, 1) := by decide +kernel
theorem dX12_end_0 : decode cX12_end 0 = .ok (.aload_n 0, 1) := by decide +kernel
theorem dX12_end_1 : decode cX12_end 1 = .ok (.iconst 0, 1) := by decide +kernel
theorem dX12_end_2 : decode cX12_end 2 = .ok (.putfield 1, 3) := by decide +kernel
theorem dX12_end_5 : decode cX12_end 5 = .ok (.iload_n 1, 1) := by decide +kernel
theorem dX12_end_6 : decode cX12_end 6 = .ok (.ifCond .lt 11, 3) := by decide +kernel
theorem dX12_end_17 : decode cX12_end 17 = .ok (.iconst 0, 1) := by decide +kernel
theorem dX12_end_18 : decode cX12_end 18 = .ok (.ireturn, 1) := by decide +kernel
theorem dX12_end_9 : decode cX12_end 9 = .ok (.iload_n 1, 1) := by decide +kernel
theorem dX12_end_10 : decode cX12_end 10 = .ok (.aload_n 0, 1) := by decide +kernel
theorem dX12_end_11 : decode cX12_end 11 = .ok (.getfield 11, 3) := by decide +kernel
theorem dX12_end_14 : decode cX12_end 14 = .ok (.if_icmp .le 5, 3) := by decide +kernel
theorem dX12_end_19 : decode cX12_end 19 = .ok (.aload_n 0, 1) := by decide +kernel
theorem dX12_end_20 : decode cX12_end 20 = .ok (.iload_n 1, 1) := by decide +kernel
theorem dX12_end_21 : decode cX12_end 21 = .ok (.putfield 11, 3) := by decide +kernel
theorem dX12_end_24 : decode cX12_end 24 = .ok (.iconst 1, 1) := by decide +kernel
theorem dX12_end_25 : decode cX12_end 25 = .ok (.ireturn, 1) := by decide +kernel
theorem dX12_take_0 : decode cX12_take 0 = .ok (.aload_n 0, 1) := by decide +kernel
theorem dX12_take_1 : decode cX12_take 1 = .ok (.getfield 11, 3) := by decide +kernel
theorem dX12_take_4 : decode cX12_take 4 = .ok (.istore_n 1, 1) := by decide +kernel
theorem dX12_take_5 : decode cX12_take 5 = .ok (.aload_n 0, 1) := by decide +kernel
theorem dX12_take_6 : decode cX12_take 6 = .ok (.iconst 0, 1) := by decide +kernel
theorem dX12_take_7 : decode cX12_take 7 = .ok (.putfield 11, 3) := by decide +kernel
theorem dX12_take_10 : decode cX12_take 10 = .ok (.iload_n 1, 1) := by decide +kernel
theorem dX12_take_11 : decode cX12_take 11 = .ok (.ireturn, 1) := by decide +kernel
theorem dX12_isIn_0 : decode cX12_isIn 0 = .ok (.iload_n 0, 1) := by decide +kernel
theorem dX12_isIn_1 : decode cX12_isIn 1 = .ok (.iload_n 1, 1) := by decide +kernel
theorem dX12_isIn_2 : decode cX12_isIn 2 = .ok (.if_icmp .lt 12, 3) := by decide +kernel
theorem dX12_isIn_14 : decode cX12_isIn 14 = .ok (.iconst 0, 1) := by decide +kernel
theorem dX12_isIn_15 : decode cX12_isIn 15 = .ok (.ireturn, 1) := by decide +kernel
theorem dX12_isIn_5 : decode cX12_isIn 5 = .ok (.iload_n 0, 1) := by decide +kernel
theorem dX12_isIn_6 : decode cX12_isIn 6 = .ok (.iload_n 2, 1) := by decide +kernel
theorem dX12_isIn_7 : decode cX12_isIn 7 = .ok (.if_icmp .gt 7, 3) := by decide +kernel
theorem dX12_isIn_10 : decode cX12_isIn 10 = .ok (.iconst 1, 1) := by decide +kernel
theorem dX12_isIn_11 : decode cX12_isIn 11 = .ok (.goto 4, 3) := by decide +kernel
theorem dX12_has_0 : decode cX12_has 0 = .ok (.iload_n 0, 1) := by decide +kernel
theorem dX12_has_1 : decode cX12_has 1 = .ok (.iload_n 1, 1) := by decide +kernel
theorem dX12_has_2 : decode cX12_has 2 = .ok (.ishr, 1) := by decide +kernel
theorem dX12_has_3 : decode cX12_has 3 = .ok (.iconst 1, 1) := by decide +kernel
theorem dX12_has_4 : decode cX12_has 4 = .ok (.iand, 1) := by decide +kernel
theorem dX12_has_5 : decode cX12_has 5 = .ok (.iconst 1, 1) := by decide +kernel
theorem dX12_has_6 : decode cX12_has 6 = .ok (.if_icmp .ne 7, 3) := by decide +kernel
theorem dX12_has_13 : decode cX12_has 13 = .ok (.iconst 0, 1) := by decide +kernel
theorem dX12_has_14 : decode cX12_has 14 = .ok (.ireturn, 1) := by decide +kernel
theorem dX12_has_9 : decode cX12_has 9 = .ok (.iconst 1, 1) := by decide +kernel
theorem dX12_has_10 : decode cX12_has 10 = .ok (.goto 4, 3) := by decide +kernel
theorem dX12_bits_0 : decode cX12_bits 0 = .ok (.iconst 0, 1) := by decide +kernel
theorem dX12_bits_1 : decode cX12_bits 1 = .ok (.istore_n 1, 1) := by decide +kernel
theorem dX12_bits_2 : decode cX12_bits 2 = .ok (.iload_n 0, 1) := by decide +kernel
theorem dX12_bits_3 : decode cX12_bits 3 = .ok (.istore_n 2, 1) := by decide +kernel
theorem dX12_bits_4 : decode cX12_bits 4 = .ok (.iload_n 2, 1) := by decide +kernel
theorem dX12_bits_5 : decode cX12_bits 5 = .ok (.ifCond .eq 15, 3) := by decide +kernel
theorem dX12_bits_20 : decode cX12_bits 20 = .ok (.iload_n 1, 1) := by decide +kernel
theorem dX12_bits_21 : decode cX12_bits 21 = .ok (.ireturn, 1) := by decide +kernel
theorem dX12_bits_8 : decode cX12_bits 8 = .ok (.iinc 1 1, 3) := by decide +kernel
theorem dX12_bits_11 : decode cX12_bits 11 = .ok (.iload_n 2, 1) := by decide +kernel
theorem dX12_bits_12 : decode cX12_bits 12 = .ok (.iload_n 2, 1) := by decide +kernel
theorem dX12_bits_13 : decode cX12_bits 13 = .ok (.iconst 1, 1) := by decide +kernel
theorem dX12_bits_14 : decode cX12_bits 14 = .ok (.isub, 1) := by decide +kernel
theorem dX12_bits_15 : decode cX12_bits 15 = .ok (.iand, 1) := by decide +kernel
theorem dX12_bits_16 : decode cX12_bits 16 = .ok (.istore_n 2, 1) := by decide +kernel
theorem dX12_bits_17 : decode cX12_bits 17 = .ok (.goto (-13), 3) := by decide +kernel
theorem dX12_least_0 : decode cX12_least 0 = .ok (.iload_n 0, 1) := by decide +kernel
theorem dX12_least_1 : decode cX12_least 1 = .ok (.iload_n 1, 1) := by decide +kernel
theorem dX12_least_2 : decode cX12_least 2 = .ok (.if_icmp .ge 7, 3) := by decide +kernel
theorem dX12_least_9 : decode cX12_least 9 = .ok (.iload_n 1, 1) := by decide +kernel
theorem dX12_least_10 : decode cX12_least 10 = .ok (.ireturn, 1) := by decide +kernel
theorem dX12_least_5 : decode cX12_least 5 = .ok (.iload_n 0, 1) := by decide +kernel
theorem dX12_least_6 : decode cX12_least 6 = .ok (.goto 4, 3) := by decide +kernel
theorem dX12_size_0 : decode cX12_size 0 = .ok (.iload_n 0, 1) := by decide +kernel
theorem dX12_size_1 : decode cX12_size 1 = .ok (.ifCond .ge 8, 3) := by decide +kernel
theorem dX12_size_9 : decode cX12_size 9 = .ok (.iload_n 0, 1) := by decide +kernel
theorem dX12_size_10 : decode cX12_size 10 = .ok (.ireturn, 1) := by decide +kernel
theorem dX12_size_4 : decode cX12_size 4 = .ok (.iload_n 0, 1) := by decide +kernel
theorem dX12_size_5 : decode cX12_size 5 = .ok (.ineg, 1) := by decide +kernel
theorem dX12_size_6 : decode cX12_size 6 = .ok (.goto 4, 3) := by decide +kernel
theorem dX12_common_0 : decode cX12_common 0 = .ok (.iload_n 0, 1) := by decide +kernel
theorem dX12_common_1 : decode cX12_common 1 = .ok (.istore_n 2, 1) := by decide +kernel
theorem dX12_common_2 : decode cX12_common 2 = .ok (.iload_n 1, 1) := by decide +kernel
theorem dX12_common_3 : decode cX12_common 3 = .ok (.istore_n 3, 1) := by decide +kernel
theorem dX12_common_4 : decode cX12_common 4 = .ok (.iload_n 3, 1) := by decide +kernel
theorem dX12_common_5 : decode cX12_common 5 = .ok (.ifCond .eq 16, 3) := by decide +kernel
theorem dX12_common_21 : decode cX12_common 21 = .ok (.iload_n 2, 1) := by decide +kernel
theorem dX12_common_22 : decode cX12_common 22 = .ok (.ireturn, 1) := by decide +kernel
theorem dX12_common_8 : decode cX12_common 8 = .ok (.iload_n 2, 1) := by decide +kernel
theorem dX12_common_9 : decode cX12_common 9 = .ok (.iload_n 3, 1) := by decide +kernel
theorem dX12_common_10 : decode cX12_common 10 = .ok (.irem, 1) := by decide +kernel
theorem dX12_common_11 : decode cX12_common 11 = .ok (.istore 4, 2) := by decide +kernel
theorem dX12_common_13 : decode cX12_common 13 = .ok (.iload_n 3, 1) := by decide +kernel
theorem dX12_common_14 : decode cX12_common 14 = .ok (.istore_n 2, 1) := by decide +kernel
theorem dX12_common_15 : decode cX12_common 15 = .ok (.iload 4, 2) := by decide +kernel
theorem dX12_common_17 : decode cX12_common 17 = .ok (.istore_n 3, 1) := by decide +kernel
theorem dX12_common_18 : decode cX12_common 18 = .ok (.goto (-14), 3) := by decide +kernel
theorem dX12_tapeAt_0 : decode cX12_tapeAt 0 = .ok (.iload_n 1, 1) := by decide +kernel
theorem dX12_tapeAt_1 : decode cX12_tapeAt 1 = .ok (.aload_n 0, 1) := by decide +kernel
theorem dX12_tapeAt_2 : decode cX12_tapeAt 2 = .ok (.getfield 18, 3) := by decide +kernel
theorem dX12_tapeAt_5 : decode cX12_tapeAt 5 = .ok (.if_icmp .ge 12, 3) := by decide +kernel
theorem dX12_tapeAt_17 : decode cX12_tapeAt 17 = .ok (.iconst 0, 1) := by decide +kernel
theorem dX12_tapeAt_18 : decode cX12_tapeAt 18 = .ok (.ireturn, 1) := by decide +kernel
theorem dX12_tapeAt_8 : decode cX12_tapeAt 8 = .ok (.aload_n 0, 1) := by decide +kernel
theorem dX12_tapeAt_9 : decode cX12_tapeAt 9 = .ok (.getfield 7, 3) := by decide +kernel
theorem dX12_tapeAt_12 : decode cX12_tapeAt 12 = .ok (.iload_n 1, 1) := by decide +kernel
theorem dX12_tapeAt_13 : decode cX12_tapeAt 13 = .ok (.iaload, 1) := by decide +kernel
theorem dX12_tapeAt_14 : decode cX12_tapeAt 14 = .ok (.goto 4, 3) := by decide +kernel
theorem dX12_isDigit_0 : decode cX12_isDigit 0 = .ok (.iload_n 0, 1) := by decide +kernel
theorem dX12_isDigit_1 : decode cX12_isDigit 1 = .ok (.bipush 48, 2) := by decide +kernel
theorem dX12_isDigit_3 : decode cX12_isDigit 3 = .ok (.if_icmp .lt 13, 3) := by decide +kernel
theorem dX12_isDigit_16 : decode cX12_isDigit 16 = .ok (.iconst 0, 1) := by decide +kernel
theorem dX12_isDigit_17 : decode cX12_isDigit 17 = .ok (.ireturn, 1) := by decide +kernel
theorem dX12_isDigit_6 : decode cX12_isDigit 6 = .ok (.iload_n 0, 1) := by decide +kernel
theorem dX12_isDigit_7 : decode cX12_isDigit 7 = .ok (.bipush 57, 2) := by decide +kernel
theorem dX12_isDigit_9 : decode cX12_isDigit 9 = .ok (.if_icmp .gt 7, 3) := by decide +kernel
theorem dX12_isDigit_12 : decode cX12_isDigit 12 = .ok (.iconst 1, 1) := by decide +kernel
theorem dX12_isDigit_13 : decode cX12_isDigit 13 = .ok (.goto 4, 3) := by decide +kernel
theorem dX12_isLetter_0 : decode cX12_isLetter 0 = .ok (.iload_n 0, 1) := by decide +kernel
theorem dX12_isLetter_1 : decode cX12_isLetter 1 = .ok (.bipush 97, 2) := by decide +kernel
theorem dX12_isLetter_3 : decode cX12_isLetter 3 = .ok (.if_icmp .lt 13, 3) := by decide +kernel
theorem dX12_isLetter_16 : decode cX12_isLetter 16 = .ok (.iconst 0, 1) := by decide +kernel
theorem dX12_isLetter_17 : decode cX12_isLetter 17 = .ok (.ireturn, 1) := by decide +kernel
theorem dX12_isLetter_6 : decode cX12_isLetter 6 = .ok (.iload_n 0, 1) := by decide +kernel
theorem dX12_isLetter_7 : decode cX12_isLetter 7 = .ok (.bipush 122, 2) := by decide +kernel
theorem dX12_isLetter_9 : decode cX12_isLetter 9 = .ok (.if_icmp .gt 7, 3) := by decide +kernel
theorem dX12_isLetter_12 : decode cX12_isLetter 12 = .ok (.iconst 1, 1) := by decide +kernel
theorem dX12_isLetter_13 : decode cX12_isLetter 13 = .ok (.goto 4, 3) := by decide +kernel
theorem dX12_go_0 : decode cX12_go 0 = .ok (.aload_n 0, 1) := by decide +kernel
theorem dX12_go_1 : decode cX12_go 1 = .ok (.getfield 21, 3) := by decide +kernel
theorem dX12_go_4 : decode cX12_go 4 = .ok (.aload_n 0, 1) := by decide +kernel
theorem dX12_go_5 : decode cX12_go 5 = .ok (.getfield 18, 3) := by decide +kernel
theorem dX12_go_8 : decode cX12_go 8 = .ok (.if_icmp .ge 44, 3) := by decide +kernel
theorem dX12_go_11 : decode cX12_go 11 = .ok (.aload_n 0, 1) := by decide +kernel
theorem dX12_go_12 : decode cX12_go 12 = .ok (.getfield 7, 3) := by decide +kernel
theorem dX12_go_15 : decode cX12_go 15 = .ok (.aload_n 0, 1) := by decide +kernel
theorem dX12_go_16 : decode cX12_go 16 = .ok (.getfield 21, 3) := by decide +kernel
theorem dX12_go_19 : decode cX12_go 19 = .ok (.iaload, 1) := by decide +kernel
theorem dX12_go_20 : decode cX12_go 20 = .ok (.bipush 32, 2) := by decide +kernel
theorem dX12_go_22 : decode cX12_go 22 = .ok (.if_icmp .eq 17, 3) := by decide +kernel
theorem dX12_go_39 : decode cX12_go 39 = .ok (.aload_n 0, 1) := by decide +kernel
theorem dX12_go_40 : decode cX12_go 40 = .ok (.dup, 1) := by decide +kernel
theorem dX12_go_41 : decode cX12_go 41 = .ok (.getfield 21, 3) := by decide +kernel
theorem dX12_go_44 : decode cX12_go 44 = .ok (.iconst 1, 1) := by decide +kernel
theorem dX12_go_45 : decode cX12_go 45 = .ok (.iadd, 1) := by decide +kernel
theorem dX12_go_46 : decode cX12_go 46 = .ok (.putfield 21, 3) := by decide +kernel
theorem dX12_go_49 : decode cX12_go 49 = .ok (.goto (-49), 3) := by decide +kernel
theorem dX12_go_25 : decode cX12_go 25 = .ok (.aload_n 0, 1) := by decide +kernel
theorem dX12_go_26 : decode cX12_go 26 = .ok (.getfield 7, 3) := by decide +kernel
theorem dX12_go_29 : decode cX12_go 29 = .ok (.aload_n 0, 1) := by decide +kernel
theorem dX12_go_30 : decode cX12_go 30 = .ok (.getfield 21, 3) := by decide +kernel
theorem dX12_go_33 : decode cX12_go 33 = .ok (.iaload, 1) := by decide +kernel
theorem dX12_go_34 : decode cX12_go 34 = .ok (.bipush 10, 2) := by decide +kernel
theorem dX12_go_36 : decode cX12_go 36 = .ok (.if_icmp .ne 16, 3) := by decide +kernel
theorem dX12_go_52 : decode cX12_go 52 = .ok (.aload_n 0, 1) := by decide +kernel
theorem dX12_go_53 : decode cX12_go 53 = .ok (.aload_n 0, 1) := by decide +kernel
theorem dX12_go_54 : decode cX12_go 54 = .ok (.getfield 21, 3) := by decide +kernel
theorem dX12_go_57 : decode cX12_go 57 = .ok (.putfield 24, 3) := by decide +kernel
theorem dX12_go_60 : decode cX12_go 60 = .ok (.aload_n 0, 1) := by decide +kernel
theorem dX12_go_61 : decode cX12_go 61 = .ok (.getfield 18, 3) := by decide +kernel
theorem dX12_go_64 : decode cX12_go 64 = .ok (.aload_n 0, 1) := by decide +kernel
theorem dX12_go_65 : decode cX12_go 65 = .ok (.getfield 27, 3) := by decide +kernel
theorem dX12_go_68 : decode cX12_go 68 = .ok (.if_icmp .le 28, 3) := by decide +kernel
theorem dX12_go_96 : decode cX12_go 96 = .ok (.aload_n 0, 1) := by decide +kernel
theorem dX12_go_97 : decode cX12_go 97 = .ok (.getfield 21, 3) := by decide +kernel
theorem dX12_go_100 : decode cX12_go 100 = .ok (.aload_n 0, 1) := by decide +kernel
theorem dX12_go_101 : decode cX12_go 101 = .ok (.getfield 18, 3) := by decide +kernel
theorem dX12_go_104 : decode cX12_go 104 = .ok (.if_icmp .lt 9, 3) := by decide +kernel
theorem dX12_go_113 : decode cX12_go 113 = .ok (.aload_n 0, 1) := by decide +kernel
theorem dX12_go_114 : decode cX12_go 114 = .ok (.getfield 7, 3) := by decide +kernel
theorem dX12_go_117 : decode cX12_go 117 = .ok (.aload_n 0, 1) := by decide +kernel
theorem dX12_go_118 : decode cX12_go 118 = .ok (.getfield 21, 3) := by decide +kernel
theorem dX12_go_121 : decode cX12_go 121 = .ok (.iaload, 1) := by decide +kernel
theorem dX12_go_122 : decode cX12_go 122 = .ok (.istore_n 1, 1) := by decide +kernel
theorem dX12_go_123 : decode cX12_go 123 = .ok (.iload_n 1, 1) := by decide +kernel
theorem dX12_go_124 : decode cX12_go 124 = .ok (.invokestatic 33, 3) := by decide +kernel
theorem dX12_go_127 : decode cX12_go 127 = .ok (.ifCond .ne 71, 3) := by decide +kernel
theorem dX12_go_198 : decode cX12_go 198 = .ok (.iload_n 1, 1) := by decide +kernel
theorem dX12_go_199 : decode cX12_go 199 = .ok (.invokestatic 33, 3) := by decide +kernel
theorem dX12_go_202 : decode cX12_go 202 = .ok (.istore_n 2, 1) := by decide +kernel
theorem dX12_go_203 : decode cX12_go 203 = .ok (.iconst 1, 1) := by decide +kernel
theorem dX12_go_204 : decode cX12_go 204 = .ok (.istore_n 3, 1) := by decide +kernel
theorem dX12_go_205 : decode cX12_go 205 = .ok (.aload_n 0, 1) := by decide +kernel
theorem dX12_go_206 : decode cX12_go 206 = .ok (.lconst 0, 1) := by decide +kernel
theorem dX12_go_207 : decode cX12_go 207 = .ok (.putfield 43, 3) := by decide +kernel
theorem dX12_go_210 : decode cX12_go 210 = .ok (.aload_n 0, 1) := by decide +kernel
theorem dX12_go_211 : decode cX12_go 211 = .ok (.iconst 0, 1) := by decide +kernel
theorem dX12_go_212 : decode cX12_go 212 = .ok (.putfield 47, 3) := by decide +kernel
theorem dX12_go_215 : decode cX12_go 215 = .ok (.aload_n 0, 1) := by decide +kernel
theorem dX12_go_216 : decode cX12_go 216 = .ok (.aload_n 0, 1) := by decide +kernel
theorem dX12_go_217 : decode cX12_go 217 = .ok (.getfield 21, 3) := by decide +kernel
theorem dX12_go_220 : decode cX12_go 220 = .ok (.invokevirtual 50, 3) := by decide +kernel
theorem dX12_go_223 : decode cX12_go 223 = .ok (.invokestatic 33, 3) := by decide +kernel
theorem dX12_go_226 : decode cX12_go 226 = .ok (.ifCond .ne 17, 3) := by decide +kernel
theorem dX12_go_243 : decode cX12_go 243 = .ok (.aload_n 0, 1) := by decide +kernel
theorem dX12_go_244 : decode cX12_go 244 = .ok (.getfield 7, 3) := by decide +kernel
theorem dX12_go_247 : decode cX12_go 247 = .ok (.aload_n 0, 1) := by decide +kernel
theorem dX12_go_248 : decode cX12_go 248 = .ok (.getfield 21, 3) := by decide +kernel
theorem dX12_go_251 : decode cX12_go 251 = .ok (.iaload, 1) := by decide +kernel
theorem dX12_go_252 : decode cX12_go 252 = .ok (.istore 4, 2) := by decide +kernel
theorem dX12_go_254 : decode cX12_go 254 = .ok (.iload_n 3, 1) := by decide +kernel
theorem dX12_go_255 : decode cX12_go 255 = .ok (.ifCond .eq 16, 3) := by decide +kernel
theorem dX12_go_258 : decode cX12_go 258 = .ok (.iload 4, 2) := by decide +kernel
theorem dX12_go_260 : decode cX12_go 260 = .ok (.invokestatic 33, 3) := by decide +kernel
theorem dX12_go_263 : decode cX12_go 263 = .ok (.iload_n 2, 1) := by decide +kernel
theorem dX12_go_264 : decode cX12_go 264 = .ok (.if_icmp .ne 7, 3) := by decide +kernel
theorem dX12_go_267 : decode cX12_go 267 = .ok (.iconst 1, 1) := by decide +kernel
theorem dX12_go_268 : decode cX12_go 268 = .ok (.goto 4, 3) := by decide +kernel
theorem dX12_go_271 : decode cX12_go 271 = .ok (.iconst 0, 1) := by decide +kernel
theorem dX12_go_272 : decode cX12_go 272 = .ok (.istore_n 3, 1) := by decide +kernel
theorem dX12_go_273 : decode cX12_go 273 = .ok (.aload_n 0, 1) := by decide +kernel
theorem dX12_go_274 : decode cX12_go 274 = .ok (.getfield 21, 3) := by decide +kernel
theorem dX12_go_277 : decode cX12_go 277 = .ok (.aload_n 0, 1) := by decide +kernel
theorem dX12_go_278 : decode cX12_go 278 = .ok (.getfield 24, 3) := by decide +kernel
theorem dX12_go_281 : decode cX12_go 281 = .ok (.isub, 1) := by decide +kernel
theorem dX12_go_282 : decode cX12_go 282 = .ok (.bipush 7, 2) := by decide +kernel
theorem dX12_go_284 : decode cX12_go 284 = .ok (.if_icmp .ge 23, 3) := by decide +kernel
theorem dX12_go_287 : decode cX12_go 287 = .ok (.aload_n 0, 1) := by decide +kernel
theorem dX12_go_288 : decode cX12_go 288 = .ok (.ldc2_w 54, 3) := by decide +kernel
theorem dX12_go_291 : decode cX12_go 291 = .ok (.aload_n 0, 1) := by decide +kernel
theorem dX12_go_292 : decode cX12_go 292 = .ok (.getfield 43, 3) := by decide +kernel
theorem dX12_go_295 : decode cX12_go 295 = .ok (.lmul, 1) := by decide +kernel
theorem dX12_go_296 : decode cX12_go 296 = .ok (.iload 4, 2) := by decide +kernel
theorem dX12_go_298 : decode cX12_go 298 = .ok (.i2l, 1) := by decide +kernel
theorem dX12_go_299 : decode cX12_go 299 = .ok (.ladd, 1) := by decide +kernel
theorem dX12_go_300 : decode cX12_go 300 = .ok (.ldc2_w 56, 3) := by decide +kernel
theorem dX12_go_303 : decode cX12_go 303 = .ok (.lsub, 1) := by decide +kernel
theorem dX12_go_304 : decode cX12_go 304 = .ok (.putfield 43, 3) := by decide +kernel
theorem dX12_go_307 : decode cX12_go 307 = .ok (.aload_n 0, 1) := by decide +kernel
theorem dX12_go_308 : decode cX12_go 308 = .ok (.getfield 21, 3) := by decide +kernel
theorem dX12_go_311 : decode cX12_go 311 = .ok (.aload_n 0, 1) := by decide +kernel
theorem dX12_go_312 : decode cX12_go 312 = .ok (.getfield 24, 3) := by decide +kernel
theorem dX12_go_315 : decode cX12_go 315 = .ok (.isub, 1) := by decide +kernel
theorem dX12_go_316 : decode cX12_go 316 = .ok (.iconst 3, 1) := by decide +kernel
theorem dX12_go_317 : decode cX12_go 317 = .ok (.if_icmp .ge 20, 3) := by decide +kernel
theorem dX12_go_337 : decode cX12_go 337 = .ok (.aload_n 0, 1) := by decide +kernel
theorem dX12_go_338 : decode cX12_go 338 = .ok (.dup, 1) := by decide +kernel
theorem dX12_go_339 : decode cX12_go 339 = .ok (.getfield 21, 3) := by decide +kernel
theorem dX12_go_342 : decode cX12_go 342 = .ok (.iconst 1, 1) := by decide +kernel
theorem dX12_go_343 : decode cX12_go 343 = .ok (.iadd, 1) := by decide +kernel
theorem dX12_go_344 : decode cX12_go 344 = .ok (.putfield 21, 3) := by decide +kernel
theorem dX12_go_347 : decode cX12_go 347 = .ok (.goto (-132), 3) := by decide +kernel
theorem dX12_go_320 : decode cX12_go 320 = .ok (.aload_n 0, 1) := by decide +kernel
theorem dX12_go_321 : decode cX12_go 321 = .ok (.bipush 10, 2) := by decide +kernel
theorem dX12_go_323 : decode cX12_go 323 = .ok (.aload_n 0, 1) := by decide +kernel
theorem dX12_go_324 : decode cX12_go 324 = .ok (.getfield 47, 3) := by decide +kernel
theorem dX12_go_327 : decode cX12_go 327 = .ok (.imul, 1) := by decide +kernel
theorem dX12_go_328 : decode cX12_go 328 = .ok (.iload 4, 2) := by decide +kernel
theorem dX12_go_330 : decode cX12_go 330 = .ok (.iadd, 1) := by decide +kernel
theorem dX12_go_331 : decode cX12_go 331 = .ok (.bipush 48, 2) := by decide +kernel
theorem dX12_go_333 : decode cX12_go 333 = .ok (.isub, 1) := by decide +kernel
theorem dX12_go_334 : decode cX12_go 334 = .ok (.putfield 47, 3) := by decide +kernel
theorem dX12_go_229 : decode cX12_go 229 = .ok (.aload_n 0, 1) := by decide +kernel
theorem dX12_go_230 : decode cX12_go 230 = .ok (.aload_n 0, 1) := by decide +kernel
theorem dX12_go_231 : decode cX12_go 231 = .ok (.getfield 21, 3) := by decide +kernel
theorem dX12_go_234 : decode cX12_go 234 = .ok (.invokevirtual 50, 3) := by decide +kernel
theorem dX12_go_237 : decode cX12_go 237 = .ok (.invokestatic 37, 3) := by decide +kernel
theorem dX12_go_240 : decode cX12_go 240 = .ok (.ifCond .eq 110, 3) := by decide +kernel
theorem dX12_go_350 : decode cX12_go 350 = .ok (.aload_n 0, 1) := by decide +kernel
theorem dX12_go_351 : decode cX12_go 351 = .ok (.iload_n 3, 1) := by decide +kernel
theorem dX12_go_352 : decode cX12_go 352 = .ok (.ifCond .eq 25, 3) := by decide +kernel
theorem dX12_go_355 : decode cX12_go 355 = .ok (.aload_n 0, 1) := by decide +kernel
theorem dX12_go_356 : decode cX12_go 356 = .ok (.getfield 21, 3) := by decide +kernel
theorem dX12_go_359 : decode cX12_go 359 = .ok (.aload_n 0, 1) := by decide +kernel
theorem dX12_go_360 : decode cX12_go 360 = .ok (.getfield 24, 3) := by decide +kernel
theorem dX12_go_363 : decode cX12_go 363 = .ok (.isub, 1) := by decide +kernel
theorem dX12_go_364 : decode cX12_go 364 = .ok (.iload_n 2, 1) := by decide +kernel
theorem dX12_go_365 : decode cX12_go 365 = .ok (.ifCond .eq 8, 3) := by decide +kernel
theorem dX12_go_368 : decode cX12_go 368 = .ok (.bipush 7, 2) := by decide +kernel
theorem dX12_go_370 : decode cX12_go 370 = .ok (.goto 4, 3) := by decide +kernel
theorem dX12_go_374 : decode cX12_go 374 = .ok (.if_icmp .le 7, 3) := by decide +kernel
theorem dX12_go_381 : decode cX12_go 381 = .ok (.iload_n 2, 1) := by decide +kernel
theorem dX12_go_382 : decode cX12_go 382 = .ok (.ifCond .eq 7, 3) := by decide +kernel
theorem dX12_go_385 : decode cX12_go 385 = .ok (.iconst 2, 1) := by decide +kernel
theorem dX12_go_386 : decode cX12_go 386 = .ok (.goto 4, 3) := by decide +kernel
theorem dX12_go_390 : decode cX12_go 390 = .ok (.putfield 30, 3) := by decide +kernel
theorem dX12_go_393 : decode cX12_go 393 = .ok (.return_, 1) := by decide +kernel
theorem dX12_go_377 : decode cX12_go 377 = .ok (.iconst 1, 1) := by decide +kernel
theorem dX12_go_378 : decode cX12_go 378 = .ok (.goto 12, 3) := by decide +kernel
theorem dX12_go_373 : decode cX12_go 373 = .ok (.iconst 3, 1) := by decide +kernel
theorem dX12_go_389 : decode cX12_go 389 = .ok (.iconst 3, 1) := by decide +kernel
theorem dX12_go_130 : decode cX12_go 130 = .ok (.iload_n 1, 1) := by decide +kernel
theorem dX12_go_131 : decode cX12_go 131 = .ok (.invokestatic 37, 3) := by decide +kernel
theorem dX12_go_134 : decode cX12_go 134 = .ok (.ifCond .ne 64, 3) := by decide +kernel
theorem dX12_go_137 : decode cX12_go 137 = .ok (.aload_n 0, 1) := by decide +kernel
theorem dX12_go_138 : decode cX12_go 138 = .ok (.iload_n 1, 1) := by decide +kernel
theorem dX12_go_139 : decode cX12_go 139 = .ok (.bipush 59, 2) := by decide +kernel
theorem dX12_go_141 : decode cX12_go 141 = .ok (.if_icmp .eq 33, 3) := by decide +kernel
theorem dX12_go_174 : decode cX12_go 174 = .ok (.iconst 4, 1) := by decide +kernel
theorem dX12_go_175 : decode cX12_go 175 = .ok (.goto 4, 3) := by decide +kernel
theorem dX12_go_144 : decode cX12_go 144 = .ok (.iload_n 1, 1) := by decide +kernel
theorem dX12_go_145 : decode cX12_go 145 = .ok (.bipush 60, 2) := by decide +kernel
theorem dX12_go_147 : decode cX12_go 147 = .ok (.if_icmp .eq 27, 3) := by decide +kernel
theorem dX12_go_150 : decode cX12_go 150 = .ok (.iload_n 1, 1) := by decide +kernel
theorem dX12_go_151 : decode cX12_go 151 = .ok (.bipush 61, 2) := by decide +kernel
theorem dX12_go_153 : decode cX12_go 153 = .ok (.if_icmp .eq 21, 3) := by decide +kernel
theorem dX12_go_156 : decode cX12_go 156 = .ok (.iload_n 1, 1) := by decide +kernel
theorem dX12_go_157 : decode cX12_go 157 = .ok (.bipush 62, 2) := by decide +kernel
theorem dX12_go_159 : decode cX12_go 159 = .ok (.if_icmp .eq 15, 3) := by decide +kernel
theorem dX12_go_162 : decode cX12_go 162 = .ok (.iload_n 1, 1) := by decide +kernel
theorem dX12_go_163 : decode cX12_go 163 = .ok (.bipush 40, 2) := by decide +kernel
theorem dX12_go_165 : decode cX12_go 165 = .ok (.if_icmp .eq 9, 3) := by decide +kernel
theorem dX12_go_168 : decode cX12_go 168 = .ok (.iload_n 1, 1) := by decide +kernel
theorem dX12_go_169 : decode cX12_go 169 = .ok (.bipush 41, 2) := by decide +kernel
theorem dX12_go_171 : decode cX12_go 171 = .ok (.if_icmp .ne 7, 3) := by decide +kernel
theorem dX12_go_178 : decode cX12_go 178 = .ok (.iconst 1, 1) := by decide +kernel
theorem dX12_go_179 : decode cX12_go 179 = .ok (.putfield 30, 3) := by decide +kernel
theorem dX12_go_182 : decode cX12_go 182 = .ok (.aload_n 0, 1) := by decide +kernel
theorem dX12_go_183 : decode cX12_go 183 = .ok (.iload_n 1, 1) := by decide +kernel
theorem dX12_go_184 : decode cX12_go 184 = .ok (.putfield 40, 3) := by decide +kernel
theorem dX12_go_187 : decode cX12_go 187 = .ok (.aload_n 0, 1) := by decide +kernel
theorem dX12_go_188 : decode cX12_go 188 = .ok (.dup, 1) := by decide +kernel
theorem dX12_go_189 : decode cX12_go 189 = .ok (.getfield 21, 3) := by decide +kernel
theorem dX12_go_192 : decode cX12_go 192 = .ok (.iconst 1, 1) := by decide +kernel
theorem dX12_go_193 : decode cX12_go 193 = .ok (.iadd, 1) := by decide +kernel
theorem dX12_go_194 : decode cX12_go 194 = .ok (.putfield 21, 3) := by decide +kernel
theorem dX12_go_197 : decode cX12_go 197 = .ok (.return_, 1) := by decide +kernel
theorem dX12_go_107 : decode cX12_go 107 = .ok (.aload_n 0, 1) := by decide +kernel
theorem dX12_go_108 : decode cX12_go 108 = .ok (.iconst 0, 1) := by decide +kernel
theorem dX12_go_109 : decode cX12_go 109 = .ok (.putfield 30, 3) := by decide +kernel
theorem dX12_go_112 : decode cX12_go 112 = .ok (.return_, 1) := by decide +kernel
theorem dX12_go_71 : decode cX12_go 71 = .ok (.aload_n 0, 1) := by decide +kernel
theorem dX12_go_72 : decode cX12_go 72 = .ok (.getfield 24, 3) := by decide +kernel
theorem dX12_go_75 : decode cX12_go 75 = .ok (.aload_n 0, 1) := by decide +kernel
theorem dX12_go_76 : decode cX12_go 76 = .ok (.getfield 27, 3) := by decide +kernel
theorem dX12_go_79 : decode cX12_go 79 = .ok (.if_icmp .lt 17, 3) := by decide +kernel
theorem dX12_go_82 : decode cX12_go 82 = .ok (.aload_n 0, 1) := by decide +kernel
theorem dX12_go_83 : decode cX12_go 83 = .ok (.aload_n 0, 1) := by decide +kernel
theorem dX12_go_84 : decode cX12_go 84 = .ok (.getfield 27, 3) := by decide +kernel
theorem dX12_go_87 : decode cX12_go 87 = .ok (.putfield 24, 3) := by decide +kernel
theorem dX12_go_90 : decode cX12_go 90 = .ok (.aload_n 0, 1) := by decide +kernel
theorem dX12_go_91 : decode cX12_go 91 = .ok (.iconst 1, 1) := by decide +kernel
theorem dX12_go_92 : decode cX12_go 92 = .ok (.putfield 30, 3) := by decide +kernel
theorem dX12_go_95 : decode cX12_go 95 = .ok (.return_, 1) := by decide +kernel
theorem dX12_spelt_0 : decode cX12_spelt 0 = .ok (.ldc2_w 54, 3) := by decide +kernel
theorem dX12_spelt_3 : decode cX12_spelt 3 = .ok (.iload_n 0, 1) := by decide +kernel
theorem dX12_spelt_4 : decode cX12_spelt 4 = .ok (.i2l, 1) := by decide +kernel
theorem dX12_spelt_5 : decode cX12_spelt 5 = .ok (.ldc2_w 56, 3) := by decide +kernel
theorem dX12_spelt_8 : decode cX12_spelt 8 = .ok (.lsub, 1) := by decide +kernel
theorem dX12_spelt_9 : decode cX12_spelt 9 = .ok (.lmul, 1) := by decide +kernel
theorem dX12_spelt_10 : decode cX12_spelt 10 = .ok (.iload_n 1, 1) := by decide +kernel
theorem dX12_spelt_11 : decode cX12_spelt 11 = .ok (.i2l, 1) := by decide +kernel
theorem dX12_spelt_12 : decode cX12_spelt 12 = .ok (.ladd, 1) := by decide +kernel
theorem dX12_spelt_13 : decode cX12_spelt 13 = .ok (.ldc2_w 56, 3) := by decide +kernel
theorem dX12_spelt_16 : decode cX12_spelt 16 = .ok (.lsub, 1) := by decide +kernel
theorem dX12_spelt_17 : decode cX12_spelt 17 = .ok (.lstore 6, 2) := by decide +kernel
theorem dX12_spelt_19 : decode cX12_spelt 19 = .ok (.iload_n 2, 1) := by decide +kernel
theorem dX12_spelt_20 : decode cX12_spelt 20 = .ok (.ifCond .le 18, 3) := by decide +kernel
theorem dX12_spelt_23 : decode cX12_spelt 23 = .ok (.ldc2_w 54, 3) := by decide +kernel
theorem dX12_spelt_26 : decode cX12_spelt 26 = .ok (.lload 6, 2) := by decide +kernel
theorem dX12_spelt_28 : decode cX12_spelt 28 = .ok (.lmul, 1) := by decide +kernel
theorem dX12_spelt_29 : decode cX12_spelt 29 = .ok (.iload_n 2, 1) := by decide +kernel
theorem dX12_spelt_30 : decode cX12_spelt 30 = .ok (.i2l, 1) := by decide +kernel
theorem dX12_spelt_31 : decode cX12_spelt 31 = .ok (.ladd, 1) := by decide +kernel
theorem dX12_spelt_32 : decode cX12_spelt 32 = .ok (.ldc2_w 56, 3) := by decide +kernel
theorem dX12_spelt_35 : decode cX12_spelt 35 = .ok (.lsub, 1) := by decide +kernel
theorem dX12_spelt_36 : decode cX12_spelt 36 = .ok (.lstore 6, 2) := by decide +kernel
theorem dX12_spelt_38 : decode cX12_spelt 38 = .ok (.iload_n 3, 1) := by decide +kernel
theorem dX12_spelt_39 : decode cX12_spelt 39 = .ok (.ifCond .le 18, 3) := by decide +kernel
theorem dX12_spelt_42 : decode cX12_spelt 42 = .ok (.ldc2_w 54, 3) := by decide +kernel
theorem dX12_spelt_45 : decode cX12_spelt 45 = .ok (.lload 6, 2) := by decide +kernel
theorem dX12_spelt_47 : decode cX12_spelt 47 = .ok (.lmul, 1) := by decide +kernel
theorem dX12_spelt_48 : decode cX12_spelt 48 = .ok (.iload_n 3, 1) := by decide +kernel
theorem dX12_spelt_49 : decode cX12_spelt 49 = .ok (.i2l, 1) := by decide +kernel
theorem dX12_spelt_50 : decode cX12_spelt 50 = .ok (.ladd, 1) := by decide +kernel
theorem dX12_spelt_51 : decode cX12_spelt 51 = .ok (.ldc2_w 56, 3) := by decide +kernel
theorem dX12_spelt_54 : decode cX12_spelt 54 = .ok (.lsub, 1) := by decide +kernel
theorem dX12_spelt_55 : decode cX12_spelt 55 = .ok (.lstore 6, 2) := by decide +kernel
theorem dX12_spelt_57 : decode cX12_spelt 57 = .ok (.iload 4, 2) := by decide +kernel
theorem dX12_spelt_59 : decode cX12_spelt 59 = .ok (.ifCond .le 19, 3) := by decide +kernel
theorem dX12_spelt_62 : decode cX12_spelt 62 = .ok (.ldc2_w 54, 3) := by decide +kernel
theorem dX12_spelt_65 : decode cX12_spelt 65 = .ok (.lload 6, 2) := by decide +kernel
theorem dX12_spelt_67 : decode cX12_spelt 67 = .ok (.lmul, 1) := by decide +kernel
theorem dX12_spelt_68 : decode cX12_spelt 68 = .ok (.iload 4, 2) := by decide +kernel
theorem dX12_spelt_70 : decode cX12_spelt 70 = .ok (.i2l, 1) := by decide +kernel
theorem dX12_spelt_71 : decode cX12_spelt 71 = .ok (.ladd, 1) := by decide +kernel
theorem dX12_spelt_72 : decode cX12_spelt 72 = .ok (.ldc2_w 56, 3) := by decide +kernel
theorem dX12_spelt_75 : decode cX12_spelt 75 = .ok (.lsub, 1) := by decide +kernel
theorem dX12_spelt_76 : decode cX12_spelt 76 = .ok (.lstore 6, 2) := by decide +kernel
theorem dX12_spelt_78 : decode cX12_spelt 78 = .ok (.iload 5, 2) := by decide +kernel
theorem dX12_spelt_80 : decode cX12_spelt 80 = .ok (.ifCond .le 19, 3) := by decide +kernel
theorem dX12_spelt_99 : decode cX12_spelt 99 = .ok (.lload 6, 2) := by decide +kernel
theorem dX12_spelt_101 : decode cX12_spelt 101 = .ok (.lreturn, 1) := by decide +kernel
theorem dX12_spelt_83 : decode cX12_spelt 83 = .ok (.ldc2_w 54, 3) := by decide +kernel
theorem dX12_spelt_86 : decode cX12_spelt 86 = .ok (.lload 6, 2) := by decide +kernel
theorem dX12_spelt_88 : decode cX12_spelt 88 = .ok (.lmul, 1) := by decide +kernel
theorem dX12_spelt_89 : decode cX12_spelt 89 = .ok (.iload 5, 2) := by decide +kernel
theorem dX12_spelt_91 : decode cX12_spelt 91 = .ok (.i2l, 1) := by decide +kernel
theorem dX12_spelt_92 : decode cX12_spelt 92 = .ok (.ladd, 1) := by decide +kernel
theorem dX12_spelt_93 : decode cX12_spelt 93 = .ok (.ldc2_w 56, 3) := by decide +kernel
theorem dX12_spelt_96 : decode cX12_spelt 96 = .ok (.lsub, 1) := by decide +kernel
theorem dX12_spelt_97 : decode cX12_spelt 97 = .ok (.lstore 6, 2) := by decide +kernel
theorem dX12_wordOf_0 : decode cX12_wordOf 0 = .ok (.iload_n 0, 1) := by decide +kernel
theorem dX12_wordOf_1 : decode cX12_wordOf 1 = .ok (.tableswitch 558 0 29 #[135, 148, 163, 177, 191, 205, 220, 234, 248, 261, 277, 289, 303, 317, 332, 346, 361, 376, 390, 405, 418, 430, 443, 456, 471, 487, 503, 515, 529, 544], 135) := by decide +kernel
theorem dX12_wordOf_559 : decode cX12_wordOf 559 = .ok (.bipush 110, 2) := by decide +kernel
theorem dX12_wordOf_561 : decode cX12_wordOf 561 = .ok (.bipush 117, 2) := by decide +kernel
theorem dX12_wordOf_563 : decode cX12_wordOf 563 = .ok (.bipush 109, 2) := by decide +kernel
theorem dX12_wordOf_565 : decode cX12_wordOf 565 = .ok (.bipush 98, 2) := by decide +kernel
theorem dX12_wordOf_567 : decode cX12_wordOf 567 = .ok (.bipush 101, 2) := by decide +kernel
theorem dX12_wordOf_569 : decode cX12_wordOf 569 = .ok (.bipush 114, 2) := by decide +kernel
theorem dX12_wordOf_571 : decode cX12_wordOf 571 = .ok (.invokestatic 58, 3) := by decide +kernel
theorem dX12_wordOf_574 : decode cX12_wordOf 574 = .ok (.lreturn, 1) := by decide +kernel
theorem dX12_wordOf_136 : decode cX12_wordOf 136 = .ok (.bipush 115, 2) := by decide +kernel
theorem dX12_wordOf_138 : decode cX12_wordOf 138 = .ok (.bipush 101, 2) := by decide +kernel
theorem dX12_wordOf_140 : decode cX12_wordOf 140 = .ok (.bipush 97, 2) := by decide +kernel
theorem dX12_wordOf_142 : decode cX12_wordOf 142 = .ok (.iconst 0, 1) := by decide +kernel
theorem dX12_wordOf_143 : decode cX12_wordOf 143 = .ok (.iconst 0, 1) := by decide +kernel
theorem dX12_wordOf_144 : decode cX12_wordOf 144 = .ok (.iconst 0, 1) := by decide +kernel
theorem dX12_wordOf_145 : decode cX12_wordOf 145 = .ok (.invokestatic 58, 3) := by decide +kernel
theorem dX12_wordOf_148 : decode cX12_wordOf 148 = .ok (.lreturn, 1) := by decide +kernel
theorem dX12_wordOf_149 : decode cX12_wordOf 149 = .ok (.bipush 116, 2) := by decide +kernel
theorem dX12_wordOf_151 : decode cX12_wordOf 151 = .ok (.bipush 104, 2) := by decide +kernel
theorem dX12_wordOf_153 : decode cX12_wordOf 153 = .ok (.bipush 105, 2) := by decide +kernel
theorem dX12_wordOf_155 : decode cX12_wordOf 155 = .ok (.bipush 99, 2) := by decide +kernel
theorem dX12_wordOf_157 : decode cX12_wordOf 157 = .ok (.bipush 107, 2) := by decide +kernel
theorem dX12_wordOf_159 : decode cX12_wordOf 159 = .ok (.iconst 0, 1) := by decide +kernel
theorem dX12_wordOf_160 : decode cX12_wordOf 160 = .ok (.invokestatic 58, 3) := by decide +kernel
theorem dX12_wordOf_163 : decode cX12_wordOf 163 = .ok (.lreturn, 1) := by decide +kernel
theorem dX12_wordOf_164 : decode cX12_wordOf 164 = .ok (.bipush 108, 2) := by decide +kernel
theorem dX12_wordOf_166 : decode cX12_wordOf 166 = .ok (.bipush 117, 2) := by decide +kernel
theorem dX12_wordOf_168 : decode cX12_wordOf 168 = .ok (.bipush 109, 2) := by decide +kernel
theorem dX12_wordOf_170 : decode cX12_wordOf 170 = .ok (.bipush 112, 2) := by decide +kernel
theorem dX12_wordOf_172 : decode cX12_wordOf 172 = .ok (.iconst 0, 1) := by decide +kernel
theorem dX12_wordOf_173 : decode cX12_wordOf 173 = .ok (.iconst 0, 1) := by decide +kernel
theorem dX12_wordOf_174 : decode cX12_wordOf 174 = .ok (.invokestatic 58, 3) := by decide +kernel
theorem dX12_wordOf_177 : decode cX12_wordOf 177 = .ok (.lreturn, 1) := by decide +kernel
theorem dX12_wordOf_178 : decode cX12_wordOf 178 = .ok (.bipush 98, 2) := by decide +kernel
theorem dX12_wordOf_180 : decode cX12_wordOf 180 = .ok (.bipush 111, 2) := by decide +kernel
theorem dX12_wordOf_182 : decode cX12_wordOf 182 = .ok (.bipush 97, 2) := by decide +kernel
theorem dX12_wordOf_184 : decode cX12_wordOf 184 = .ok (.bipush 116, 2) := by decide +kernel
theorem dX12_wordOf_186 : decode cX12_wordOf 186 = .ok (.iconst 0, 1) := by decide +kernel
theorem dX12_wordOf_187 : decode cX12_wordOf 187 = .ok (.iconst 0, 1) := by decide +kernel
theorem dX12_wordOf_188 : decode cX12_wordOf 188 = .ok (.invokestatic 58, 3) := by decide +kernel
theorem dX12_wordOf_191 : decode cX12_wordOf 191 = .ok (.lreturn, 1) := by decide +kernel
theorem dX12_wordOf_192 : decode cX12_wordOf 192 = .ok (.bipush 104, 2) := by decide +kernel
theorem dX12_wordOf_194 : decode cX12_wordOf 194 = .ok (.bipush 101, 2) := by decide +kernel
theorem dX12_wordOf_196 : decode cX12_wordOf 196 = .ok (.bipush 97, 2) := by decide +kernel
theorem dX12_wordOf_198 : decode cX12_wordOf 198 = .ok (.bipush 116, 2) := by decide +kernel
theorem dX12_wordOf_200 : decode cX12_wordOf 200 = .ok (.iconst 0, 1) := by decide +kernel
theorem dX12_wordOf_201 : decode cX12_wordOf 201 = .ok (.iconst 0, 1) := by decide +kernel
theorem dX12_wordOf_202 : decode cX12_wordOf 202 = .ok (.invokestatic 58, 3) := by decide +kernel
theorem dX12_wordOf_205 : decode cX12_wordOf 205 = .ok (.lreturn, 1) := by decide +kernel
theorem dX12_wordOf_206 : decode cX12_wordOf 206 = .ok (.bipush 99, 2) := by decide +kernel
theorem dX12_wordOf_208 : decode cX12_wordOf 208 = .ok (.bipush 111, 2) := by decide +kernel
theorem dX12_wordOf_210 : decode cX12_wordOf 210 = .ok (.bipush 111, 2) := by decide +kernel
theorem dX12_wordOf_212 : decode cX12_wordOf 212 = .ok (.bipush 108, 2) := by decide +kernel
theorem dX12_wordOf_214 : decode cX12_wordOf 214 = .ok (.bipush 115, 2) := by decide +kernel
theorem dX12_wordOf_216 : decode cX12_wordOf 216 = .ok (.iconst 0, 1) := by decide +kernel
theorem dX12_wordOf_217 : decode cX12_wordOf 217 = .ok (.invokestatic 58, 3) := by decide +kernel
theorem dX12_wordOf_220 : decode cX12_wordOf 220 = .ok (.lreturn, 1) := by decide +kernel
theorem dX12_wordOf_221 : decode cX12_wordOf 221 = .ok (.bipush 115, 2) := by decide +kernel
theorem dX12_wordOf_223 : decode cX12_wordOf 223 = .ok (.bipush 107, 2) := by decide +kernel
theorem dX12_wordOf_225 : decode cX12_wordOf 225 = .ok (.bipush 105, 2) := by decide +kernel
theorem dX12_wordOf_227 : decode cX12_wordOf 227 = .ok (.bipush 110, 2) := by decide +kernel
theorem dX12_wordOf_229 : decode cX12_wordOf 229 = .ok (.iconst 0, 1) := by decide +kernel
theorem dX12_wordOf_230 : decode cX12_wordOf 230 = .ok (.iconst 0, 1) := by decide +kernel
theorem dX12_wordOf_231 : decode cX12_wordOf 231 = .ok (.invokestatic 58, 3) := by decide +kernel
theorem dX12_wordOf_234 : decode cX12_wordOf 234 = .ok (.lreturn, 1) := by decide +kernel
theorem dX12_wordOf_235 : decode cX12_wordOf 235 = .ok (.bipush 115, 2) := by decide +kernel
theorem dX12_wordOf_237 : decode cX12_wordOf 237 = .ok (.bipush 116, 2) := by decide +kernel
theorem dX12_wordOf_239 : decode cX12_wordOf 239 = .ok (.bipush 105, 2) := by decide +kernel
theorem dX12_wordOf_241 : decode cX12_wordOf 241 = .ok (.bipush 114, 2) := by decide +kernel
theorem dX12_wordOf_243 : decode cX12_wordOf 243 = .ok (.iconst 0, 1) := by decide +kernel
theorem dX12_wordOf_244 : decode cX12_wordOf 244 = .ok (.iconst 0, 1) := by decide +kernel
theorem dX12_wordOf_245 : decode cX12_wordOf 245 = .ok (.invokestatic 58, 3) := by decide +kernel
theorem dX12_wordOf_248 : decode cX12_wordOf 248 = .ok (.lreturn, 1) := by decide +kernel
theorem dX12_wordOf_249 : decode cX12_wordOf 249 = .ok (.bipush 114, 2) := by decide +kernel
theorem dX12_wordOf_251 : decode cX12_wordOf 251 = .ok (.bipush 111, 2) := by decide +kernel
theorem dX12_wordOf_253 : decode cX12_wordOf 253 = .ok (.bipush 119, 2) := by decide +kernel
theorem dX12_wordOf_255 : decode cX12_wordOf 255 = .ok (.iconst 0, 1) := by decide +kernel
theorem dX12_wordOf_256 : decode cX12_wordOf 256 = .ok (.iconst 0, 1) := by decide +kernel
theorem dX12_wordOf_257 : decode cX12_wordOf 257 = .ok (.iconst 0, 1) := by decide +kernel
theorem dX12_wordOf_258 : decode cX12_wordOf 258 = .ok (.invokestatic 58, 3) := by decide +kernel
theorem dX12_wordOf_261 : decode cX12_wordOf 261 = .ok (.lreturn, 1) := by decide +kernel
theorem dX12_wordOf_262 : decode cX12_wordOf 262 = .ok (.bipush 99, 2) := by decide +kernel
theorem dX12_wordOf_264 : decode cX12_wordOf 264 = .ok (.bipush 111, 2) := by decide +kernel
theorem dX12_wordOf_266 : decode cX12_wordOf 266 = .ok (.bipush 108, 2) := by decide +kernel
theorem dX12_wordOf_268 : decode cX12_wordOf 268 = .ok (.bipush 117, 2) := by decide +kernel
theorem dX12_wordOf_270 : decode cX12_wordOf 270 = .ok (.bipush 109, 2) := by decide +kernel
theorem dX12_wordOf_272 : decode cX12_wordOf 272 = .ok (.bipush 110, 2) := by decide +kernel
theorem dX12_wordOf_274 : decode cX12_wordOf 274 = .ok (.invokestatic 58, 3) := by decide +kernel
theorem dX12_wordOf_277 : decode cX12_wordOf 277 = .ok (.lreturn, 1) := by decide +kernel
theorem dX12_wordOf_278 : decode cX12_wordOf 278 = .ok (.bipush 111, 2) := by decide +kernel
theorem dX12_wordOf_280 : decode cX12_wordOf 280 = .ok (.bipush 110, 2) := by decide +kernel
theorem dX12_wordOf_282 : decode cX12_wordOf 282 = .ok (.iconst 0, 1) := by decide +kernel
theorem dX12_wordOf_283 : decode cX12_wordOf 283 = .ok (.iconst 0, 1) := by decide +kernel
theorem dX12_wordOf_284 : decode cX12_wordOf 284 = .ok (.iconst 0, 1) := by decide +kernel
theorem dX12_wordOf_285 : decode cX12_wordOf 285 = .ok (.iconst 0, 1) := by decide +kernel
theorem dX12_wordOf_286 : decode cX12_wordOf 286 = .ok (.invokestatic 58, 3) := by decide +kernel
theorem dX12_wordOf_289 : decode cX12_wordOf 289 = .ok (.lreturn, 1) := by decide +kernel
theorem dX12_wordOf_290 : decode cX12_wordOf 290 = .ok (.bipush 98, 2) := by decide +kernel
theorem dX12_wordOf_292 : decode cX12_wordOf 292 = .ok (.bipush 97, 2) := by decide +kernel
theorem dX12_wordOf_294 : decode cX12_wordOf 294 = .ok (.bipush 99, 2) := by decide +kernel
theorem dX12_wordOf_296 : decode cX12_wordOf 296 = .ok (.bipush 107, 2) := by decide +kernel
theorem dX12_wordOf_298 : decode cX12_wordOf 298 = .ok (.iconst 0, 1) := by decide +kernel
theorem dX12_wordOf_299 : decode cX12_wordOf 299 = .ok (.iconst 0, 1) := by decide +kernel
theorem dX12_wordOf_300 : decode cX12_wordOf 300 = .ok (.invokestatic 58, 3) := by decide +kernel
theorem dX12_wordOf_303 : decode cX12_wordOf 303 = .ok (.lreturn, 1) := by decide +kernel
theorem dX12_wordOf_304 : decode cX12_wordOf 304 = .ok (.bipush 101, 2) := by decide +kernel
theorem dX12_wordOf_306 : decode cX12_wordOf 306 = .ok (.bipush 97, 2) := by decide +kernel
theorem dX12_wordOf_308 : decode cX12_wordOf 308 = .ok (.bipush 115, 2) := by decide +kernel
theorem dX12_wordOf_310 : decode cX12_wordOf 310 = .ok (.bipush 116, 2) := by decide +kernel
theorem dX12_wordOf_312 : decode cX12_wordOf 312 = .ok (.iconst 0, 1) := by decide +kernel
theorem dX12_wordOf_313 : decode cX12_wordOf 313 = .ok (.iconst 0, 1) := by decide +kernel
theorem dX12_wordOf_314 : decode cX12_wordOf 314 = .ok (.invokestatic 58, 3) := by decide +kernel
theorem dX12_wordOf_317 : decode cX12_wordOf 317 = .ok (.lreturn, 1) := by decide +kernel
theorem dX12_wordOf_318 : decode cX12_wordOf 318 = .ok (.bipush 115, 2) := by decide +kernel
theorem dX12_wordOf_320 : decode cX12_wordOf 320 = .ok (.bipush 111, 2) := by decide +kernel
theorem dX12_wordOf_322 : decode cX12_wordOf 322 = .ok (.bipush 117, 2) := by decide +kernel
theorem dX12_wordOf_324 : decode cX12_wordOf 324 = .ok (.bipush 116, 2) := by decide +kernel
theorem dX12_wordOf_326 : decode cX12_wordOf 326 = .ok (.bipush 104, 2) := by decide +kernel
theorem dX12_wordOf_328 : decode cX12_wordOf 328 = .ok (.iconst 0, 1) := by decide +kernel
theorem dX12_wordOf_329 : decode cX12_wordOf 329 = .ok (.invokestatic 58, 3) := by decide +kernel
theorem dX12_wordOf_332 : decode cX12_wordOf 332 = .ok (.lreturn, 1) := by decide +kernel
theorem dX12_wordOf_333 : decode cX12_wordOf 333 = .ok (.bipush 119, 2) := by decide +kernel
theorem dX12_wordOf_335 : decode cX12_wordOf 335 = .ok (.bipush 101, 2) := by decide +kernel
theorem dX12_wordOf_337 : decode cX12_wordOf 337 = .ok (.bipush 115, 2) := by decide +kernel
theorem dX12_wordOf_339 : decode cX12_wordOf 339 = .ok (.bipush 116, 2) := by decide +kernel
theorem dX12_wordOf_341 : decode cX12_wordOf 341 = .ok (.iconst 0, 1) := by decide +kernel
theorem dX12_wordOf_342 : decode cX12_wordOf 342 = .ok (.iconst 0, 1) := by decide +kernel
theorem dX12_wordOf_343 : decode cX12_wordOf 343 = .ok (.invokestatic 58, 3) := by decide +kernel
theorem dX12_wordOf_346 : decode cX12_wordOf 346 = .ok (.lreturn, 1) := by decide +kernel
theorem dX12_wordOf_347 : decode cX12_wordOf 347 = .ok (.bipush 110, 2) := by decide +kernel
theorem dX12_wordOf_349 : decode cX12_wordOf 349 = .ok (.bipush 111, 2) := by decide +kernel
theorem dX12_wordOf_351 : decode cX12_wordOf 351 = .ok (.bipush 114, 2) := by decide +kernel
theorem dX12_wordOf_353 : decode cX12_wordOf 353 = .ok (.bipush 116, 2) := by decide +kernel
theorem dX12_wordOf_355 : decode cX12_wordOf 355 = .ok (.bipush 104, 2) := by decide +kernel
theorem dX12_wordOf_357 : decode cX12_wordOf 357 = .ok (.iconst 0, 1) := by decide +kernel
theorem dX12_wordOf_358 : decode cX12_wordOf 358 = .ok (.invokestatic 58, 3) := by decide +kernel
theorem dX12_wordOf_361 : decode cX12_wordOf 361 = .ok (.lreturn, 1) := by decide +kernel
theorem dX12_wordOf_362 : decode cX12_wordOf 362 = .ok (.bipush 102, 2) := by decide +kernel
theorem dX12_wordOf_364 : decode cX12_wordOf 364 = .ok (.bipush 108, 2) := by decide +kernel
theorem dX12_wordOf_366 : decode cX12_wordOf 366 = .ok (.bipush 111, 2) := by decide +kernel
theorem dX12_wordOf_368 : decode cX12_wordOf 368 = .ok (.bipush 117, 2) := by decide +kernel
theorem dX12_wordOf_370 : decode cX12_wordOf 370 = .ok (.bipush 114, 2) := by decide +kernel
theorem dX12_wordOf_372 : decode cX12_wordOf 372 = .ok (.iconst 0, 1) := by decide +kernel
theorem dX12_wordOf_373 : decode cX12_wordOf 373 = .ok (.invokestatic 58, 3) := by decide +kernel
theorem dX12_wordOf_376 : decode cX12_wordOf 376 = .ok (.lreturn, 1) := by decide +kernel
theorem dX12_wordOf_377 : decode cX12_wordOf 377 = .ok (.bipush 109, 2) := by decide +kernel
theorem dX12_wordOf_379 : decode cX12_wordOf 379 = .ok (.bipush 105, 2) := by decide +kernel
theorem dX12_wordOf_381 : decode cX12_wordOf 381 = .ok (.bipush 108, 2) := by decide +kernel
theorem dX12_wordOf_383 : decode cX12_wordOf 383 = .ok (.bipush 107, 2) := by decide +kernel
theorem dX12_wordOf_385 : decode cX12_wordOf 385 = .ok (.iconst 0, 1) := by decide +kernel
theorem dX12_wordOf_386 : decode cX12_wordOf 386 = .ok (.iconst 0, 1) := by decide +kernel
theorem dX12_wordOf_387 : decode cX12_wordOf 387 = .ok (.invokestatic 58, 3) := by decide +kernel
theorem dX12_wordOf_390 : decode cX12_wordOf 390 = .ok (.lreturn, 1) := by decide +kernel
theorem dX12_wordOf_391 : decode cX12_wordOf 391 = .ok (.bipush 115, 2) := by decide +kernel
theorem dX12_wordOf_393 : decode cX12_wordOf 393 = .ok (.bipush 116, 2) := by decide +kernel
theorem dX12_wordOf_395 : decode cX12_wordOf 395 = .ok (.bipush 111, 2) := by decide +kernel
theorem dX12_wordOf_397 : decode cX12_wordOf 397 = .ok (.bipush 118, 2) := by decide +kernel
theorem dX12_wordOf_399 : decode cX12_wordOf 399 = .ok (.bipush 101, 2) := by decide +kernel
theorem dX12_wordOf_401 : decode cX12_wordOf 401 = .ok (.iconst 0, 1) := by decide +kernel
theorem dX12_wordOf_402 : decode cX12_wordOf 402 = .ok (.invokestatic 58, 3) := by decide +kernel
theorem dX12_wordOf_405 : decode cX12_wordOf 405 = .ok (.lreturn, 1) := by decide +kernel
theorem dX12_wordOf_406 : decode cX12_wordOf 406 = .ok (.bipush 100, 2) := by decide +kernel
theorem dX12_wordOf_408 : decode cX12_wordOf 408 = .ok (.bipush 97, 2) := by decide +kernel
theorem dX12_wordOf_410 : decode cX12_wordOf 410 = .ok (.bipush 121, 2) := by decide +kernel
theorem dX12_wordOf_412 : decode cX12_wordOf 412 = .ok (.iconst 0, 1) := by decide +kernel
theorem dX12_wordOf_413 : decode cX12_wordOf 413 = .ok (.iconst 0, 1) := by decide +kernel
theorem dX12_wordOf_414 : decode cX12_wordOf 414 = .ok (.iconst 0, 1) := by decide +kernel
theorem dX12_wordOf_415 : decode cX12_wordOf 415 = .ok (.invokestatic 58, 3) := by decide +kernel
theorem dX12_wordOf_418 : decode cX12_wordOf 418 = .ok (.lreturn, 1) := by decide +kernel
theorem dX12_wordOf_419 : decode cX12_wordOf 419 = .ok (.bipush 111, 2) := by decide +kernel
theorem dX12_wordOf_421 : decode cX12_wordOf 421 = .ok (.bipush 114, 2) := by decide +kernel
theorem dX12_wordOf_423 : decode cX12_wordOf 423 = .ok (.iconst 0, 1) := by decide +kernel
theorem dX12_wordOf_424 : decode cX12_wordOf 424 = .ok (.iconst 0, 1) := by decide +kernel
theorem dX12_wordOf_425 : decode cX12_wordOf 425 = .ok (.iconst 0, 1) := by decide +kernel
theorem dX12_wordOf_426 : decode cX12_wordOf 426 = .ok (.iconst 0, 1) := by decide +kernel
theorem dX12_wordOf_427 : decode cX12_wordOf 427 = .ok (.invokestatic 58, 3) := by decide +kernel
theorem dX12_wordOf_430 : decode cX12_wordOf 430 = .ok (.lreturn, 1) := by decide +kernel
theorem dX12_wordOf_431 : decode cX12_wordOf 431 = .ok (.bipush 97, 2) := by decide +kernel
theorem dX12_wordOf_433 : decode cX12_wordOf 433 = .ok (.bipush 110, 2) := by decide +kernel
theorem dX12_wordOf_435 : decode cX12_wordOf 435 = .ok (.bipush 100, 2) := by decide +kernel
theorem dX12_wordOf_437 : decode cX12_wordOf 437 = .ok (.iconst 0, 1) := by decide +kernel
theorem dX12_wordOf_438 : decode cX12_wordOf 438 = .ok (.iconst 0, 1) := by decide +kernel
theorem dX12_wordOf_439 : decode cX12_wordOf 439 = .ok (.iconst 0, 1) := by decide +kernel
theorem dX12_wordOf_440 : decode cX12_wordOf 440 = .ok (.invokestatic 58, 3) := by decide +kernel
theorem dX12_wordOf_443 : decode cX12_wordOf 443 = .ok (.lreturn, 1) := by decide +kernel
theorem dX12_wordOf_444 : decode cX12_wordOf 444 = .ok (.bipush 110, 2) := by decide +kernel
theorem dX12_wordOf_446 : decode cX12_wordOf 446 = .ok (.bipush 111, 2) := by decide +kernel
theorem dX12_wordOf_448 : decode cX12_wordOf 448 = .ok (.bipush 116, 2) := by decide +kernel
theorem dX12_wordOf_450 : decode cX12_wordOf 450 = .ok (.iconst 0, 1) := by decide +kernel
theorem dX12_wordOf_451 : decode cX12_wordOf 451 = .ok (.iconst 0, 1) := by decide +kernel
theorem dX12_wordOf_452 : decode cX12_wordOf 452 = .ok (.iconst 0, 1) := by decide +kernel
theorem dX12_wordOf_453 : decode cX12_wordOf 453 = .ok (.invokestatic 58, 3) := by decide +kernel
theorem dX12_wordOf_456 : decode cX12_wordOf 456 = .ok (.lreturn, 1) := by decide +kernel
theorem dX12_wordOf_457 : decode cX12_wordOf 457 = .ok (.bipush 101, 2) := by decide +kernel
theorem dX12_wordOf_459 : decode cX12_wordOf 459 = .ok (.bipush 97, 2) := by decide +kernel
theorem dX12_wordOf_461 : decode cX12_wordOf 461 = .ok (.bipush 116, 2) := by decide +kernel
theorem dX12_wordOf_463 : decode cX12_wordOf 463 = .ok (.bipush 101, 2) := by decide +kernel
theorem dX12_wordOf_465 : decode cX12_wordOf 465 = .ok (.bipush 110, 2) := by decide +kernel
theorem dX12_wordOf_467 : decode cX12_wordOf 467 = .ok (.iconst 0, 1) := by decide +kernel
theorem dX12_wordOf_468 : decode cX12_wordOf 468 = .ok (.invokestatic 58, 3) := by decide +kernel
theorem dX12_wordOf_471 : decode cX12_wordOf 471 = .ok (.lreturn, 1) := by decide +kernel
theorem dX12_wordOf_472 : decode cX12_wordOf 472 = .ok (.bipush 97, 2) := by decide +kernel
theorem dX12_wordOf_474 : decode cX12_wordOf 474 = .ok (.bipush 102, 2) := by decide +kernel
theorem dX12_wordOf_476 : decode cX12_wordOf 476 = .ok (.bipush 108, 2) := by decide +kernel
theorem dX12_wordOf_478 : decode cX12_wordOf 478 = .ok (.bipush 111, 2) := by decide +kernel
theorem dX12_wordOf_480 : decode cX12_wordOf 480 = .ok (.bipush 97, 2) := by decide +kernel
theorem dX12_wordOf_482 : decode cX12_wordOf 482 = .ok (.bipush 116, 2) := by decide +kernel
theorem dX12_wordOf_484 : decode cX12_wordOf 484 = .ok (.invokestatic 58, 3) := by decide +kernel
theorem dX12_wordOf_487 : decode cX12_wordOf 487 = .ok (.lreturn, 1) := by decide +kernel
theorem dX12_wordOf_488 : decode cX12_wordOf 488 = .ok (.bipush 108, 2) := by decide +kernel
theorem dX12_wordOf_490 : decode cX12_wordOf 490 = .ok (.bipush 97, 2) := by decide +kernel
theorem dX12_wordOf_492 : decode cX12_wordOf 492 = .ok (.bipush 110, 2) := by decide +kernel
theorem dX12_wordOf_494 : decode cX12_wordOf 494 = .ok (.bipush 100, 2) := by decide +kernel
theorem dX12_wordOf_496 : decode cX12_wordOf 496 = .ok (.bipush 101, 2) := by decide +kernel
theorem dX12_wordOf_498 : decode cX12_wordOf 498 = .ok (.bipush 100, 2) := by decide +kernel
theorem dX12_wordOf_500 : decode cX12_wordOf 500 = .ok (.invokestatic 58, 3) := by decide +kernel
theorem dX12_wordOf_503 : decode cX12_wordOf 503 = .ok (.lreturn, 1) := by decide +kernel
theorem dX12_wordOf_504 : decode cX12_wordOf 504 = .ok (.bipush 98, 2) := by decide +kernel
theorem dX12_wordOf_506 : decode cX12_wordOf 506 = .ok (.bipush 121, 2) := by decide +kernel
theorem dX12_wordOf_508 : decode cX12_wordOf 508 = .ok (.iconst 0, 1) := by decide +kernel
theorem dX12_wordOf_509 : decode cX12_wordOf 509 = .ok (.iconst 0, 1) := by decide +kernel
theorem dX12_wordOf_510 : decode cX12_wordOf 510 = .ok (.iconst 0, 1) := by decide +kernel
theorem dX12_wordOf_511 : decode cX12_wordOf 511 = .ok (.iconst 0, 1) := by decide +kernel
theorem dX12_wordOf_512 : decode cX12_wordOf 512 = .ok (.invokestatic 58, 3) := by decide +kernel
theorem dX12_wordOf_515 : decode cX12_wordOf 515 = .ok (.lreturn, 1) := by decide +kernel
theorem dX12_wordOf_516 : decode cX12_wordOf 516 = .ok (.bipush 108, 2) := by decide +kernel
theorem dX12_wordOf_518 : decode cX12_wordOf 518 = .ok (.bipush 111, 2) := by decide +kernel
theorem dX12_wordOf_520 : decode cX12_wordOf 520 = .ok (.bipush 97, 2) := by decide +kernel
theorem dX12_wordOf_522 : decode cX12_wordOf 522 = .ok (.bipush 100, 2) := by decide +kernel
theorem dX12_wordOf_524 : decode cX12_wordOf 524 = .ok (.iconst 0, 1) := by decide +kernel
theorem dX12_wordOf_525 : decode cX12_wordOf 525 = .ok (.iconst 0, 1) := by decide +kernel
theorem dX12_wordOf_526 : decode cX12_wordOf 526 = .ok (.invokestatic 58, 3) := by decide +kernel
theorem dX12_wordOf_529 : decode cX12_wordOf 529 = .ok (.lreturn, 1) := by decide +kernel
theorem dX12_wordOf_530 : decode cX12_wordOf 530 = .ok (.bipush 100, 2) := by decide +kernel
theorem dX12_wordOf_532 : decode cX12_wordOf 532 = .ok (.bipush 101, 2) := by decide +kernel
theorem dX12_wordOf_534 : decode cX12_wordOf 534 = .ok (.bipush 112, 2) := by decide +kernel
theorem dX12_wordOf_536 : decode cX12_wordOf 536 = .ok (.bipush 116, 2) := by decide +kernel
theorem dX12_wordOf_538 : decode cX12_wordOf 538 = .ok (.bipush 104, 2) := by decide +kernel
theorem dX12_wordOf_540 : decode cX12_wordOf 540 = .ok (.iconst 0, 1) := by decide +kernel
theorem dX12_wordOf_541 : decode cX12_wordOf 541 = .ok (.invokestatic 58, 3) := by decide +kernel
theorem dX12_wordOf_544 : decode cX12_wordOf 544 = .ok (.lreturn, 1) := by decide +kernel
theorem dX12_wordOf_545 : decode cX12_wordOf 545 = .ok (.bipush 108, 2) := by decide +kernel
theorem dX12_wordOf_547 : decode cX12_wordOf 547 = .ok (.bipush 101, 2) := by decide +kernel
theorem dX12_wordOf_549 : decode cX12_wordOf 549 = .ok (.bipush 102, 2) := by decide +kernel
theorem dX12_wordOf_551 : decode cX12_wordOf 551 = .ok (.bipush 116, 2) := by decide +kernel
theorem dX12_wordOf_553 : decode cX12_wordOf 553 = .ok (.iconst 0, 1) := by decide +kernel
theorem dX12_wordOf_554 : decode cX12_wordOf 554 = .ok (.iconst 0, 1) := by decide +kernel
theorem dX12_wordOf_555 : decode cX12_wordOf 555 = .ok (.invokestatic 58, 3) := by decide +kernel
theorem dX12_wordOf_558 : decode cX12_wordOf 558 = .ok (.lreturn, 1) := by decide +kernel
theorem dX12_isWord_0 : decode cX12_isWord 0 = .ok (.aload_n 0, 1) := by decide +kernel
theorem dX12_isWord_1 : decode cX12_isWord 1 = .ok (.getfield 30, 3) := by decide +kernel
theorem dX12_isWord_4 : decode cX12_isWord 4 = .ok (.iconst 2, 1) := by decide +kernel
theorem dX12_isWord_5 : decode cX12_isWord 5 = .ok (.if_icmp .ne 19, 3) := by decide +kernel
theorem dX12_isWord_24 : decode cX12_isWord 24 = .ok (.iconst 0, 1) := by decide +kernel
theorem dX12_isWord_25 : decode cX12_isWord 25 = .ok (.ireturn, 1) := by decide +kernel
theorem dX12_isWord_8 : decode cX12_isWord 8 = .ok (.aload_n 0, 1) := by decide +kernel
theorem dX12_isWord_9 : decode cX12_isWord 9 = .ok (.getfield 43, 3) := by decide +kernel
theorem dX12_isWord_12 : decode cX12_isWord 12 = .ok (.iload_n 1, 1) := by decide +kernel
theorem dX12_isWord_13 : decode cX12_isWord 13 = .ok (.invokestatic 62, 3) := by decide +kernel
theorem dX12_isWord_16 : decode cX12_isWord 16 = .ok (.lcmp, 1) := by decide +kernel
theorem dX12_isWord_17 : decode cX12_isWord 17 = .ok (.ifCond .ne 7, 3) := by decide +kernel
theorem dX12_isWord_20 : decode cX12_isWord 20 = .ok (.iconst 1, 1) := by decide +kernel
theorem dX12_isWord_21 : decode cX12_isWord 21 = .ok (.goto 4, 3) := by decide +kernel
theorem dX12_isSign_0 : decode cX12_isSign 0 = .ok (.aload_n 0, 1) := by decide +kernel
theorem dX12_isSign_1 : decode cX12_isSign 1 = .ok (.getfield 30, 3) := by decide +kernel
theorem dX12_isSign_4 : decode cX12_isSign 4 = .ok (.iconst 4, 1) := by decide +kernel
theorem dX12_isSign_5 : decode cX12_isSign 5 = .ok (.if_icmp .ne 15, 3) := by decide +kernel
theorem dX12_isSign_20 : decode cX12_isSign 20 = .ok (.iconst 0, 1) := by decide +kernel
theorem dX12_isSign_21 : decode cX12_isSign 21 = .ok (.ireturn, 1) := by decide +kernel
theorem dX12_isSign_8 : decode cX12_isSign 8 = .ok (.aload_n 0, 1) := by decide +kernel
theorem dX12_isSign_9 : decode cX12_isSign 9 = .ok (.getfield 40, 3) := by decide +kernel
theorem dX12_isSign_12 : decode cX12_isSign 12 = .ok (.iload_n 1, 1) := by decide +kernel
theorem dX12_isSign_13 : decode cX12_isSign 13 = .ok (.if_icmp .ne 7, 3) := by decide +kernel
theorem dX12_isSign_16 : decode cX12_isSign 16 = .ok (.iconst 1, 1) := by decide +kernel
theorem dX12_isSign_17 : decode cX12_isSign 17 = .ok (.goto 4, 3) := by decide +kernel
theorem dX12_isName_0 : decode cX12_isName 0 = .ok (.aload_n 0, 1) := by decide +kernel
theorem dX12_isName_1 : decode cX12_isName 1 = .ok (.getfield 30, 3) := by decide +kernel
theorem dX12_isName_4 : decode cX12_isName 4 = .ok (.iconst 2, 1) := by decide +kernel
theorem dX12_isName_5 : decode cX12_isName 5 = .ok (.if_icmp .eq 5, 3) := by decide +kernel
theorem dX12_isName_10 : decode cX12_isName 10 = .ok (.iconst 0, 1) := by decide +kernel
theorem dX12_isName_11 : decode cX12_isName 11 = .ok (.istore_n 1, 1) := by decide +kernel
theorem dX12_isName_12 : decode cX12_isName 12 = .ok (.iload_n 1, 1) := by decide +kernel
theorem dX12_isName_13 : decode cX12_isName 13 = .ok (.bipush 30, 2) := by decide +kernel
theorem dX12_isName_15 : decode cX12_isName 15 = .ok (.if_icmp .gt 23, 3) := by decide +kernel
theorem dX12_isName_18 : decode cX12_isName 18 = .ok (.aload_n 0, 1) := by decide +kernel
theorem dX12_isName_19 : decode cX12_isName 19 = .ok (.getfield 43, 3) := by decide +kernel
theorem dX12_isName_22 : decode cX12_isName 22 = .ok (.iload_n 1, 1) := by decide +kernel
theorem dX12_isName_23 : decode cX12_isName 23 = .ok (.invokestatic 62, 3) := by decide +kernel
theorem dX12_isName_26 : decode cX12_isName 26 = .ok (.lcmp, 1) := by decide +kernel
theorem dX12_isName_27 : decode cX12_isName 27 = .ok (.ifCond .ne 5, 3) := by decide +kernel
theorem dX12_isName_32 : decode cX12_isName 32 = .ok (.iinc 1 1, 3) := by decide +kernel
theorem dX12_isName_35 : decode cX12_isName 35 = .ok (.goto (-23), 3) := by decide +kernel
theorem dX12_isName_30 : decode cX12_isName 30 = .ok (.iconst 0, 1) := by decide +kernel
theorem dX12_isName_31 : decode cX12_isName 31 = .ok (.ireturn, 1) := by decide +kernel
theorem dX12_isName_38 : decode cX12_isName 38 = .ok (.iconst 1, 1) := by decide +kernel
theorem dX12_isName_39 : decode cX12_isName 39 = .ok (.ireturn, 1) := by decide +kernel
theorem dX12_isName_8 : decode cX12_isName 8 = .ok (.iconst 0, 1) := by decide +kernel
theorem dX12_isName_9 : decode cX12_isName 9 = .ok (.ireturn, 1) := by decide +kernel
theorem dX12_bad_0 : decode cX12_bad 0 = .ok (.aload_n 0, 1) := by decide +kernel
theorem dX12_bad_1 : decode cX12_bad 1 = .ok (.aload_n 0, 1) := by decide +kernel
theorem dX12_bad_2 : decode cX12_bad 2 = .ok (.getfield 30, 3) := by decide +kernel
theorem dX12_bad_5 : decode cX12_bad 5 = .ok (.iconst 1, 1) := by decide +kernel
theorem dX12_bad_6 : decode cX12_bad 6 = .ok (.if_icmp .ne 7, 3) := by decide +kernel
theorem dX12_bad_13 : decode cX12_bad 13 = .ok (.iload_n 1, 1) := by decide +kernel
theorem dX12_bad_14 : decode cX12_bad 14 = .ok (.putfield 66, 3) := by decide +kernel
theorem dX12_bad_17 : decode cX12_bad 17 = .ok (.aload_n 0, 1) := by decide +kernel
theorem dX12_bad_18 : decode cX12_bad 18 = .ok (.aload_n 0, 1) := by decide +kernel
theorem dX12_bad_19 : decode cX12_bad 19 = .ok (.getfield 24, 3) := by decide +kernel
theorem dX12_bad_22 : decode cX12_bad 22 = .ok (.putfield 69, 3) := by decide +kernel
theorem dX12_bad_25 : decode cX12_bad 25 = .ok (.iconst 0, 1) := by decide +kernel
theorem dX12_bad_26 : decode cX12_bad 26 = .ok (.ireturn, 1) := by decide +kernel
theorem dX12_bad_9 : decode cX12_bad 9 = .ok (.iconst 1, 1) := by decide +kernel
theorem dX12_bad_10 : decode cX12_bad 10 = .ok (.goto 4, 3) := by decide +kernel
theorem dX12_readNumber_0 : decode cX12_readNumber 0 = .ok (.aload_n 0, 1) := by decide +kernel
theorem dX12_readNumber_1 : decode cX12_readNumber 1 = .ok (.getfield 30, 3) := by decide +kernel
theorem dX12_readNumber_4 : decode cX12_readNumber 4 = .ok (.iconst 3, 1) := by decide +kernel
theorem dX12_readNumber_5 : decode cX12_readNumber 5 = .ok (.if_icmp .eq 9, 3) := by decide +kernel
theorem dX12_readNumber_14 : decode cX12_readNumber 14 = .ok (.aload_n 0, 1) := by decide +kernel
theorem dX12_readNumber_15 : decode cX12_readNumber 15 = .ok (.getfield 47, 3) := by decide +kernel
theorem dX12_readNumber_18 : decode cX12_readNumber 18 = .ok (.iload_n 1, 1) := by decide +kernel
theorem dX12_readNumber_19 : decode cX12_readNumber 19 = .ok (.iload_n 2, 1) := by decide +kernel
theorem dX12_readNumber_20 : decode cX12_readNumber 20 = .ok (.invokestatic 75, 3) := by decide +kernel
theorem dX12_readNumber_23 : decode cX12_readNumber 23 = .ok (.ifCond .ne 9, 3) := by decide +kernel
theorem dX12_readNumber_32 : decode cX12_readNumber 32 = .ok (.aload_n 0, 1) := by decide +kernel
theorem dX12_readNumber_33 : decode cX12_readNumber 33 = .ok (.aload_n 0, 1) := by decide +kernel
theorem dX12_readNumber_34 : decode cX12_readNumber 34 = .ok (.getfield 47, 3) := by decide +kernel
theorem dX12_readNumber_37 : decode cX12_readNumber 37 = .ok (.putfield 79, 3) := by decide +kernel
theorem dX12_readNumber_40 : decode cX12_readNumber 40 = .ok (.aload_n 0, 1) := by decide +kernel
theorem dX12_readNumber_41 : decode cX12_readNumber 41 = .ok (.invokevirtual 82, 3) := by decide +kernel
theorem dX12_readNumber_44 : decode cX12_readNumber 44 = .ok (.iconst 1, 1) := by decide +kernel
theorem dX12_readNumber_45 : decode cX12_readNumber 45 = .ok (.ireturn, 1) := by decide +kernel
theorem dX12_readNumber_26 : decode cX12_readNumber 26 = .ok (.aload_n 0, 1) := by decide +kernel
theorem dX12_readNumber_27 : decode cX12_readNumber 27 = .ok (.iconst 2, 1) := by decide +kernel
theorem dX12_readNumber_28 : decode cX12_readNumber 28 = .ok (.invokevirtual 72, 3) := by decide +kernel
theorem dX12_readNumber_31 : decode cX12_readNumber 31 = .ok (.ireturn, 1) := by decide +kernel
theorem dX12_readNumber_8 : decode cX12_readNumber 8 = .ok (.aload_n 0, 1) := by decide +kernel
theorem dX12_readNumber_9 : decode cX12_readNumber 9 = .ok (.iconst 1, 1) := by decide +kernel
theorem dX12_readNumber_10 : decode cX12_readNumber 10 = .ok (.invokevirtual 72, 3) := by decide +kernel
theorem dX12_readNumber_13 : decode cX12_readNumber 13 = .ok (.ireturn, 1) := by decide +kernel
theorem dX12_readEnd_0 : decode cX12_readEnd 0 = .ok (.aload_n 0, 1) := by decide +kernel
theorem dX12_readEnd_1 : decode cX12_readEnd 1 = .ok (.bipush 59, 2) := by decide +kernel
theorem dX12_readEnd_3 : decode cX12_readEnd 3 = .ok (.invokevirtual 86, 3) := by decide +kernel
theorem dX12_readEnd_6 : decode cX12_readEnd 6 = .ok (.ifCond .ne 9, 3) := by decide +kernel
theorem dX12_readEnd_15 : decode cX12_readEnd 15 = .ok (.aload_n 0, 1) := by decide +kernel
theorem dX12_readEnd_16 : decode cX12_readEnd 16 = .ok (.invokevirtual 82, 3) := by decide +kernel
theorem dX12_readEnd_19 : decode cX12_readEnd 19 = .ok (.iconst 1, 1) := by decide +kernel
theorem dX12_readEnd_20 : decode cX12_readEnd 20 = .ok (.ireturn, 1) := by decide +kernel
theorem dX12_readEnd_9 : decode cX12_readEnd 9 = .ok (.aload_n 0, 1) := by decide +kernel
theorem dX12_readEnd_10 : decode cX12_readEnd 10 = .ok (.iconst 1, 1) := by decide +kernel
theorem dX12_readEnd_11 : decode cX12_readEnd 11 = .ok (.invokevirtual 72, 3) := by decide +kernel
theorem dX12_readEnd_14 : decode cX12_readEnd 14 = .ok (.ireturn, 1) := by decide +kernel
theorem dX12_begin_0 : decode cX12_begin 0 = .ok (.aload_n 0, 1) := by decide +kernel
theorem dX12_begin_1 : decode cX12_begin 1 = .ok (.iconst 0, 1) := by decide +kernel
theorem dX12_begin_2 : decode cX12_begin 2 = .ok (.putfield 1, 3) := by decide +kernel
theorem dX12_begin_5 : decode cX12_begin 5 = .ok (.aload_n 0, 1) := by decide +kernel
theorem dX12_begin_6 : decode cX12_begin 6 = .ok (.aload_n 0, 1) := by decide +kernel
theorem dX12_begin_7 : decode cX12_begin 7 = .ok (.invokevirtual 89, 3) := by decide +kernel
theorem dX12_begin_10 : decode cX12_begin 10 = .ok (.putfield 18, 3) := by decide +kernel
theorem dX12_begin_13 : decode cX12_begin 13 = .ok (.aload_n 0, 1) := by decide +kernel
theorem dX12_begin_14 : decode cX12_begin 14 = .ok (.iload_n 1, 1) := by decide +kernel
theorem dX12_begin_15 : decode cX12_begin 15 = .ok (.putfield 27, 3) := by decide +kernel
theorem dX12_begin_18 : decode cX12_begin 18 = .ok (.aload_n 0, 1) := by decide +kernel
theorem dX12_begin_19 : decode cX12_begin 19 = .ok (.iconst 0, 1) := by decide +kernel
theorem dX12_begin_20 : decode cX12_begin 20 = .ok (.putfield 66, 3) := by decide +kernel
theorem dX12_begin_23 : decode cX12_begin 23 = .ok (.aload_n 0, 1) := by decide +kernel
theorem dX12_begin_24 : decode cX12_begin 24 = .ok (.iconst 0, 1) := by decide +kernel
theorem dX12_begin_25 : decode cX12_begin 25 = .ok (.putfield 21, 3) := by decide +kernel
theorem dX12_begin_28 : decode cX12_begin 28 = .ok (.aload_n 0, 1) := by decide +kernel
theorem dX12_begin_29 : decode cX12_begin 29 = .ok (.invokevirtual 82, 3) := by decide +kernel
theorem dX12_begin_32 : decode cX12_begin 32 = .ok (.return_, 1) := by decide +kernel
set_option maxRecDepth 100000 in
theorem ggX12_feed_X12_come : GoodIn wsX12_feed wsX12_come := goodIn_r _ [7, 8, 2, 9, 10, 11, 12, 13, 14, 15, 16, 17, 18, 19, 20, 21, 22, 23, 24, 25, 26, 27, 28, 29, 30, 31, 32, 33, 34, 35, 36, 37, 38, 39, 40, 41, 42, 43, 44, 45, 46, 47, 48, 49, 50, 51, 52, 53, 54, 55, 56, 57, 58, 59, 60] rfl (by decide +kernel)
set_option maxRecDepth 100000 in
theorem ggX12_go_X12_isLetter : GoodIn wsX12_go wsX12_isLetter := goodIn_r _ [15] rfl (by decide +kernel)
set_option maxRecDepth 100000 in
theorem ggX12_go_X12_tapeAt : GoodIn wsX12_go wsX12_tapeAt := goodIn_r _ [22, 2, 3, 23, 24, 25, 26, 27, 28, 29, 30, 31, 32, 33, 34, 35, 36, 37, 38, 39, 40, 41, 42, 43, 44, 45, 46, 47, 48, 49, 50, 51, 52, 53, 54, 55, 56, 57, 58, 59, 60, 61, 62, 63, 64, 65, 66, 67, 68, 69, 70, 71, 72, 73, 74] rfl (by decide +kernel)
set_option maxRecDepth 100000 in
theorem ggX12_go_X12_isDigit : GoodIn wsX12_go wsX12_isDigit := goodIn_r _ [18] rfl (by decide +kernel)
set_option maxRecDepth 100000 in
theorem ggX12_wordOf_X12_spelt : GoodIn wsX12_wordOf wsX12_spelt := goodIn_r _ [4, 5, 6] rfl (by decide +kernel)
set_option maxRecDepth 100000 in
theorem ggX12_isWord_X12_wordOf : GoodIn wsX12_isWord wsX12_wordOf := goodIn_r _ [6, 7, 8, 5, 9, 10, 11] rfl (by decide +kernel)
set_option maxRecDepth 100000 in
theorem ggX12_isName_X12_wordOf : GoodIn wsX12_isName wsX12_wordOf := goodIn_r _ [6, 7, 8, 5, 9, 10, 11] rfl (by decide +kernel)
set_option maxRecDepth 100000 in
theorem ggX12_readNumber_X12_isIn : GoodIn wsX12_readNumber wsX12_isIn := goodIn_r _ [14] rfl (by decide +kernel)
set_option maxRecDepth 100000 in
theorem ggX12_readNumber_X12_go : GoodIn wsX12_readNumber wsX12_go := goodIn_r _ [18, 19, 20, 21, 10, 22, 1, 23, 24, 2, 25, 26, 27, 28, 7, 29, 30, 31, 32, 33, 34, 35, 36, 37, 38, 39, 40, 41, 42, 43, 44, 45, 46, 47, 48, 49, 50, 51, 52, 53, 54, 55, 56, 57, 58, 59, 60, 61, 62, 63, 64, 65, 66, 67, 68, 69, 70, 71, 72, 73, 74, 75, 76, 77, 78, 79, 80, 81, 82, 83, 84, 85, 86, 87, 88] rfl (by decide +kernel)
set_option maxRecDepth 100000 in
theorem ggX12_readNumber_X12_bad : GoodIn wsX12_readNumber wsX12_bad := goodIn_r _ [8, 1, 9, 10, 11, 37, 38, 39, 40, 41, 42, 43, 44, 45, 46, 47, 48, 49, 50, 51, 52, 53, 54, 55, 56, 57, 58, 59, 60, 61, 62, 63, 64, 65, 66, 67, 68, 69, 70, 71, 72, 73, 74, 75, 76, 77, 78, 79, 80, 81, 82, 83, 84, 85, 86, 87, 88] rfl (by decide +kernel)
set_option maxRecDepth 100000 in
theorem ggX12_readEnd_X12_isSign : GoodIn wsX12_readEnd wsX12_isSign := goodIn_r _ [5, 6, 7, 37, 38, 39, 40, 41, 42, 43, 44, 45, 46, 47, 48, 49, 50, 51, 52, 53, 54, 55, 56, 57, 58, 59, 60, 61, 62, 63, 64, 65, 66, 67, 68, 69, 70, 71, 72, 73, 74, 75, 76, 77, 78, 79, 80, 81, 82, 83, 84, 85, 86, 87, 88] rfl (by decide +kernel)
set_option maxRecDepth 100000 in
theorem ggX12_readEnd_X12_go : GoodIn wsX12_readEnd wsX12_go := goodIn_r _ [18, 19, 20, 21, 13, 22, 6, 7, 23, 24, 25, 26, 27, 28, 4, 29, 30, 31, 32, 33, 34, 35, 36, 37, 38, 39, 40, 41, 42, 43, 44, 45, 46, 47, 48, 49, 50, 51, 52, 53, 54, 55, 56, 57, 58, 59, 60, 61, 62, 63, 64, 65, 66, 67, 68, 69, 70, 71, 72, 73, 74, 75, 76, 77, 78, 79, 80, 81, 82, 83, 84, 85, 86, 87, 88] rfl (by decide +kernel)
set_option maxRecDepth 100000 in
theorem ggX12_readEnd_X12_bad : GoodIn wsX12_readEnd wsX12_bad := goodIn_r _ [11, 6, 12, 13, 14, 37, 38, 39, 40, 41, 42, 43, 44, 45, 46, 47, 48, 49, 50, 51, 52, 53, 54, 55, 56, 57, 58, 59, 60, 61, 62, 63, 64, 65, 66, 67, 68, 69, 70, 71, 72, 73, 74, 75, 76, 77, 78, 79, 80, 81, 82, 83, 84, 85, 86, 87, 88] rfl (by decide +kernel)
set_option maxRecDepth 100000 in
theorem ggX12_begin_X12_take : GoodIn wsX12_begin wsX12_take := goodIn_r _ [10, 11, 34, 35, 36, 37, 38, 39, 40, 41, 42, 43, 44, 45, 46, 47, 48, 49, 50, 51, 52, 53, 54, 55, 56, 57, 58, 59, 60, 61, 62, 63, 64, 65, 66, 67, 68, 69, 70, 71, 72, 73, 74, 75, 76, 77, 78, 79, 80, 81, 82, 83, 84, 85] rfl (by decide +kernel)
set_option maxRecDepth 100000 in
theorem ggX12_begin_X12_go : GoodIn wsX12_begin wsX12_go := goodIn_r _ [15, 5, 2, 16, 17, 3, 18, 19, 20, 21, 22, 23, 24, 25, 9, 26, 27, 28, 29, 30, 31, 32, 33, 34, 35, 36, 37, 38, 39, 40, 41, 42, 43, 44, 45, 46, 47, 48, 49, 50, 51, 52, 53, 54, 55, 56, 57, 58, 59, 60, 61, 62, 63, 64, 65, 66, 67, 68, 69, 70, 71, 72, 73, 74, 75, 76, 77, 78, 79, 80, 81, 82, 83, 84, 85] rfl (by decide +kernel)
set_option maxRecDepth 100000 in
theorem gX12_feed_X12_come : GoodIn wsX12_feed (wsV RX12 14 RX12 yX12_come wsX12_come) := goodIn_app (goodIn_of _ (by decide +kernel)) ggX12_feed_X12_come
set_option maxRecDepth 100000 in
theorem gX12_go_X12_isLetter : GoodIn wsX12_go (va_wsS RX12 33 yX12_isLetter wsX12_isLetter) := goodIn_app (goodIn_of _ (by decide +kernel)) ggX12_go_X12_isLetter
set_option maxRecDepth 100000 in
theorem gX12_go_X12_tapeAt : GoodIn wsX12_go (wsV RX12 50 RX12 yX12_tapeAt wsX12_tapeAt) := goodIn_app (goodIn_of _ (by decide +kernel)) ggX12_go_X12_tapeAt
set_option maxRecDepth 100000 in
theorem gX12_go_X12_isDigit : GoodIn wsX12_go (va_wsS RX12 37 yX12_isDigit wsX12_isDigit) := goodIn_app (goodIn_of _ (by decide +kernel)) ggX12_go_X12_isDigit
set_option maxRecDepth 100000 in
theorem gX12_wordOf_X12_spelt : GoodIn wsX12_wordOf (va_wsS RX12 58 yX12_spelt wsX12_spelt) := goodIn_app (goodIn_of _ (by decide +kernel)) ggX12_wordOf_X12_spelt
set_option maxRecDepth 100000 in
theorem gX12_isWord_X12_wordOf : GoodIn wsX12_isWord (va_wsS RX12 62 yX12_wordOf wsX12_wordOf) := goodIn_app (goodIn_of _ (by decide +kernel)) ggX12_isWord_X12_wordOf
set_option maxRecDepth 100000 in
theorem gX12_isName_X12_wordOf : GoodIn wsX12_isName (va_wsS RX12 62 yX12_wordOf wsX12_wordOf) := goodIn_app (goodIn_of _ (by decide +kernel)) ggX12_isName_X12_wordOf
set_option maxRecDepth 100000 in
theorem gX12_readNumber_X12_isIn : GoodIn wsX12_readNumber (va_wsS RX12 75 yX12_isIn wsX12_isIn) := goodIn_app (goodIn_of _ (by decide +kernel)) ggX12_readNumber_X12_isIn
set_option maxRecDepth 100000 in
theorem gX12_readNumber_X12_go : GoodIn wsX12_readNumber (wsV RX12 82 RX12 yX12_go wsX12_go) := goodIn_app (goodIn_of _ (by decide +kernel)) ggX12_readNumber_X12_go
set_option maxRecDepth 100000 in
theorem gX12_readNumber_X12_bad : GoodIn wsX12_readNumber (wsV RX12 72 RX12 yX12_bad wsX12_bad) := goodIn_app (goodIn_of _ (by decide +kernel)) ggX12_readNumber_X12_bad
set_option maxRecDepth 100000 in
theorem gX12_readEnd_X12_isSign : GoodIn wsX12_readEnd (wsV RX12 86 RX12 yX12_isSign wsX12_isSign) := goodIn_app (goodIn_of _ (by decide +kernel)) ggX12_readEnd_X12_isSign
set_option maxRecDepth 100000 in
theorem gX12_readEnd_X12_go : GoodIn wsX12_readEnd (wsV RX12 82 RX12 yX12_go wsX12_go) := goodIn_app (goodIn_of _ (by decide +kernel)) ggX12_readEnd_X12_go
set_option maxRecDepth 100000 in
theorem gX12_readEnd_X12_bad : GoodIn wsX12_readEnd (wsV RX12 72 RX12 yX12_bad wsX12_bad) := goodIn_app (goodIn_of _ (by decide +kernel)) ggX12_readEnd_X12_bad
set_option maxRecDepth 100000 in
theorem gX12_begin_X12_take : GoodIn wsX12_begin (wsV RX12 89 RX12 yX12_take wsX12_take) := goodIn_app (goodIn_of _ (by decide +kernel)) ggX12_begin_X12_take
set_option maxRecDepth 100000 in
theorem gX12_begin_X12_go : GoodIn wsX12_begin (wsV RX12 82 RX12 yX12_go wsX12_go) := goodIn_app (goodIn_of _ (by decide +kernel)) ggX12_begin_X12_go
/-- every place of a row within its bounds -/
def ABnd (n : Nat) (lo hi : Nat → Int) (f : Nat → Int32) : Prop := ∀ j, j < n → lo j ≤ (f j).toInt ∧ (f j).toInt ≤ hi j
theorem ABnd_upd {n : Nat} {lo hi : Nat → Int} {f : Nat → Int32} (h : ABnd n lo hi f) (i : Nat) (v : Int32) (hv : lo i ≤ v.toInt ∧ v.toInt ≤ hi i) : ABnd n lo hi (upd f i v) := by
  intro j hj
  unfold upd
  by_cases e : j = i
  · rw [if_pos e, e]; exact hv
  · rw [if_neg e]; exact h j hj
def lo_RB (j : Nat) : Int := if j < 1 then (2 : Int) else if j < 2 then (2 : Int) else if j < 3 then (0 : Int) else if j < 4 then (0 : Int) else if j < 7 then (-2147483648 : Int) else if j < 43 then (0 : Int) else if j < 55 then (0 : Int) else if j < 67 then (-2147483648 : Int) else 0
def hi_RB (j : Nat) : Int := if j < 1 then (6 : Int) else if j < 2 then (6 : Int) else if j < 3 then (6 : Int) else if j < 4 then (6 : Int) else if j < 7 then (2147483647 : Int) else if j < 43 then (9 : Int) else if j < 55 then (35 : Int) else if j < 67 then (2147483647 : Int) else 0
def RB (f : Nat → Int32) : Prop := ABnd 67 lo_RB hi_RB f
theorem lo_RB_0 (j : Nat) (h1 : 0 ≤ j) (h2 : j < 1) : lo_RB j = 2 := by
  unfold lo_RB
  rw [if_pos (by omega)]
theorem hi_RB_0 (j : Nat) (h1 : 0 ≤ j) (h2 : j < 1) : hi_RB j = 6 := by
  unfold hi_RB
  rw [if_pos (by omega)]
theorem ld_RB_0 {f : Nat → Int32} (h : RB f) (j : Nat) (h1 : 0 ≤ j) (h2 : j < 1) : (2 : Int) ≤ (f j).toInt ∧ (f j).toInt ≤ 6 := by
  have h3 := h j (by omega)
  rw [lo_RB_0 _ h1 h2, hi_RB_0 _ h1 h2] at h3
  exact h3
theorem st_RB_0 {f : Nat → Int32} (h : RB f) (j : Nat) (h1 : 0 ≤ j) (h2 : j < 1) {v : Int32} (h3 : (2 : Int) ≤ v.toInt) (h4 : v.toInt ≤ 6) : RB (upd f j v) := ABnd_upd h j v (by
  rw [lo_RB_0 _ h1 h2, hi_RB_0 _ h1 h2]
  exact ⟨h3, h4⟩)
theorem lo_RB_1 (j : Nat) (h1 : 1 ≤ j) (h2 : j < 2) : lo_RB j = 2 := by
  unfold lo_RB
  rw [if_neg (by omega), if_pos (by omega)]
theorem hi_RB_1 (j : Nat) (h1 : 1 ≤ j) (h2 : j < 2) : hi_RB j = 6 := by
  unfold hi_RB
  rw [if_neg (by omega), if_pos (by omega)]
theorem ld_RB_1 {f : Nat → Int32} (h : RB f) (j : Nat) (h1 : 1 ≤ j) (h2 : j < 2) : (2 : Int) ≤ (f j).toInt ∧ (f j).toInt ≤ 6 := by
  have h3 := h j (by omega)
  rw [lo_RB_1 _ h1 h2, hi_RB_1 _ h1 h2] at h3
  exact h3
theorem st_RB_1 {f : Nat → Int32} (h : RB f) (j : Nat) (h1 : 1 ≤ j) (h2 : j < 2) {v : Int32} (h3 : (2 : Int) ≤ v.toInt) (h4 : v.toInt ≤ 6) : RB (upd f j v) := ABnd_upd h j v (by
  rw [lo_RB_1 _ h1 h2, hi_RB_1 _ h1 h2]
  exact ⟨h3, h4⟩)
theorem lo_RB_2 (j : Nat) (h1 : 2 ≤ j) (h2 : j < 3) : lo_RB j = 0 := by
  unfold lo_RB
  rw [if_neg (by omega), if_neg (by omega), if_pos (by omega)]
theorem hi_RB_2 (j : Nat) (h1 : 2 ≤ j) (h2 : j < 3) : hi_RB j = 6 := by
  unfold hi_RB
  rw [if_neg (by omega), if_neg (by omega), if_pos (by omega)]
theorem ld_RB_2 {f : Nat → Int32} (h : RB f) (j : Nat) (h1 : 2 ≤ j) (h2 : j < 3) : (0 : Int) ≤ (f j).toInt ∧ (f j).toInt ≤ 6 := by
  have h3 := h j (by omega)
  rw [lo_RB_2 _ h1 h2, hi_RB_2 _ h1 h2] at h3
  exact h3
theorem st_RB_2 {f : Nat → Int32} (h : RB f) (j : Nat) (h1 : 2 ≤ j) (h2 : j < 3) {v : Int32} (h3 : (0 : Int) ≤ v.toInt) (h4 : v.toInt ≤ 6) : RB (upd f j v) := ABnd_upd h j v (by
  rw [lo_RB_2 _ h1 h2, hi_RB_2 _ h1 h2]
  exact ⟨h3, h4⟩)
theorem lo_RB_3 (j : Nat) (h1 : 3 ≤ j) (h2 : j < 4) : lo_RB j = 0 := by
  unfold lo_RB
  rw [if_neg (by omega), if_neg (by omega), if_neg (by omega), if_pos (by omega)]
theorem hi_RB_3 (j : Nat) (h1 : 3 ≤ j) (h2 : j < 4) : hi_RB j = 6 := by
  unfold hi_RB
  rw [if_neg (by omega), if_neg (by omega), if_neg (by omega), if_pos (by omega)]
theorem ld_RB_3 {f : Nat → Int32} (h : RB f) (j : Nat) (h1 : 3 ≤ j) (h2 : j < 4) : (0 : Int) ≤ (f j).toInt ∧ (f j).toInt ≤ 6 := by
  have h3 := h j (by omega)
  rw [lo_RB_3 _ h1 h2, hi_RB_3 _ h1 h2] at h3
  exact h3
theorem st_RB_3 {f : Nat → Int32} (h : RB f) (j : Nat) (h1 : 3 ≤ j) (h2 : j < 4) {v : Int32} (h3 : (0 : Int) ≤ v.toInt) (h4 : v.toInt ≤ 6) : RB (upd f j v) := ABnd_upd h j v (by
  rw [lo_RB_3 _ h1 h2, hi_RB_3 _ h1 h2]
  exact ⟨h3, h4⟩)
theorem lo_RB_4 (j : Nat) (h1 : 4 ≤ j) (h2 : j < 7) : lo_RB j = -2147483648 := by
  unfold lo_RB
  rw [if_neg (by omega), if_neg (by omega), if_neg (by omega), if_neg (by omega), if_pos (by omega)]
theorem hi_RB_4 (j : Nat) (h1 : 4 ≤ j) (h2 : j < 7) : hi_RB j = 2147483647 := by
  unfold hi_RB
  rw [if_neg (by omega), if_neg (by omega), if_neg (by omega), if_neg (by omega), if_pos (by omega)]
theorem st_RB_4 {f : Nat → Int32} (h : RB f) (j : Nat) (h1 : 4 ≤ j) (h2 : j < 7) {v : Int32} (h3 : (-2147483648 : Int) ≤ v.toInt) (h4 : v.toInt ≤ 2147483647) : RB (upd f j v) := ABnd_upd h j v (by
  rw [lo_RB_4 _ h1 h2, hi_RB_4 _ h1 h2]
  exact ⟨h3, h4⟩)
theorem lo_RB_7 (j : Nat) (h1 : 7 ≤ j) (h2 : j < 43) : lo_RB j = 0 := by
  unfold lo_RB
  rw [if_neg (by omega), if_neg (by omega), if_neg (by omega), if_neg (by omega), if_neg (by omega), if_pos (by omega)]
theorem hi_RB_7 (j : Nat) (h1 : 7 ≤ j) (h2 : j < 43) : hi_RB j = 9 := by
  unfold hi_RB
  rw [if_neg (by omega), if_neg (by omega), if_neg (by omega), if_neg (by omega), if_neg (by omega), if_pos (by omega)]
theorem ld_RB_7 {f : Nat → Int32} (h : RB f) (j : Nat) (h1 : 7 ≤ j) (h2 : j < 43) : (0 : Int) ≤ (f j).toInt ∧ (f j).toInt ≤ 9 := by
  have h3 := h j (by omega)
  rw [lo_RB_7 _ h1 h2, hi_RB_7 _ h1 h2] at h3
  exact h3
theorem st_RB_7 {f : Nat → Int32} (h : RB f) (j : Nat) (h1 : 7 ≤ j) (h2 : j < 43) {v : Int32} (h3 : (0 : Int) ≤ v.toInt) (h4 : v.toInt ≤ 9) : RB (upd f j v) := ABnd_upd h j v (by
  rw [lo_RB_7 _ h1 h2, hi_RB_7 _ h1 h2]
  exact ⟨h3, h4⟩)
theorem lo_RB_43 (j : Nat) (h1 : 43 ≤ j) (h2 : j < 55) : lo_RB j = 0 := by
  unfold lo_RB
  rw [if_neg (by omega), if_neg (by omega), if_neg (by omega), if_neg (by omega), if_neg (by omega), if_neg (by omega), if_pos (by omega)]
theorem hi_RB_43 (j : Nat) (h1 : 43 ≤ j) (h2 : j < 55) : hi_RB j = 35 := by
  unfold hi_RB
  rw [if_neg (by omega), if_neg (by omega), if_neg (by omega), if_neg (by omega), if_neg (by omega), if_neg (by omega), if_pos (by omega)]
theorem ld_RB_43 {f : Nat → Int32} (h : RB f) (j : Nat) (h1 : 43 ≤ j) (h2 : j < 55) : (0 : Int) ≤ (f j).toInt ∧ (f j).toInt ≤ 35 := by
  have h3 := h j (by omega)
  rw [lo_RB_43 _ h1 h2, hi_RB_43 _ h1 h2] at h3
  exact h3
theorem st_RB_43 {f : Nat → Int32} (h : RB f) (j : Nat) (h1 : 43 ≤ j) (h2 : j < 55) {v : Int32} (h3 : (0 : Int) ≤ v.toInt) (h4 : v.toInt ≤ 35) : RB (upd f j v) := ABnd_upd h j v (by
  rw [lo_RB_43 _ h1 h2, hi_RB_43 _ h1 h2]
  exact ⟨h3, h4⟩)
theorem lo_RB_55 (j : Nat) (h1 : 55 ≤ j) (h2 : j < 67) : lo_RB j = -2147483648 := by
  unfold lo_RB
  rw [if_neg (by omega), if_neg (by omega), if_neg (by omega), if_neg (by omega), if_neg (by omega), if_neg (by omega), if_neg (by omega), if_pos (by omega)]
theorem hi_RB_55 (j : Nat) (h1 : 55 ≤ j) (h2 : j < 67) : hi_RB j = 2147483647 := by
  unfold hi_RB
  rw [if_neg (by omega), if_neg (by omega), if_neg (by omega), if_neg (by omega), if_neg (by omega), if_neg (by omega), if_neg (by omega), if_pos (by omega)]
theorem st_RB_55 {f : Nat → Int32} (h : RB f) (j : Nat) (h1 : 55 ≤ j) (h2 : j < 67) {v : Int32} (h3 : (-2147483648 : Int) ≤ v.toInt) (h4 : v.toInt ≤ 2147483647) : RB (upd f j v) := ABnd_upd h j v (by
  rw [lo_RB_55 _ h1 h2, hi_RB_55 _ h1 h2]
  exact ⟨h3, h4⟩)
def lo_NB (j : Nat) : Int := if j < 1 then (2 : Int) else if j < 2 then (2 : Int) else if j < 3 then (0 : Int) else if j < 4 then (0 : Int) else if j < 7 then (-2147483648 : Int) else if j < 43 then (0 : Int) else if j < 55 then (0 : Int) else if j < 67 then (-2147483648 : Int) else if j < 71 then (-2147483648 : Int) else if j < 107 then (0 : Int) else if j < 119 then (0 : Int) else if j < 132 then (-2147483648 : Int) else if j < 133 then (0 : Int) else if j < 373 then (-2147483648 : Int) else 0
def hi_NB (j : Nat) : Int := if j < 1 then (6 : Int) else if j < 2 then (6 : Int) else if j < 3 then (6 : Int) else if j < 4 then (6 : Int) else if j < 7 then (2147483647 : Int) else if j < 43 then (9 : Int) else if j < 55 then (35 : Int) else if j < 67 then (2147483647 : Int) else if j < 71 then (2147483647 : Int) else if j < 107 then (9 : Int) else if j < 119 then (35 : Int) else if j < 132 then (2147483647 : Int) else if j < 133 then (59 : Int) else if j < 373 then (2147483647 : Int) else 0
def NB (f : Nat → Int32) : Prop := ABnd 373 lo_NB hi_NB f
theorem lo_NB_0 (j : Nat) (h1 : 0 ≤ j) (h2 : j < 1) : lo_NB j = 2 := by
  unfold lo_NB
  rw [if_pos (by omega)]
theorem hi_NB_0 (j : Nat) (h1 : 0 ≤ j) (h2 : j < 1) : hi_NB j = 6 := by
  unfold hi_NB
  rw [if_pos (by omega)]
theorem ld_NB_0 {f : Nat → Int32} (h : NB f) (j : Nat) (h1 : 0 ≤ j) (h2 : j < 1) : (2 : Int) ≤ (f j).toInt ∧ (f j).toInt ≤ 6 := by
  have h3 := h j (by omega)
  rw [lo_NB_0 _ h1 h2, hi_NB_0 _ h1 h2] at h3
  exact h3
theorem lo_NB_1 (j : Nat) (h1 : 1 ≤ j) (h2 : j < 2) : lo_NB j = 2 := by
  unfold lo_NB
  rw [if_neg (by omega), if_pos (by omega)]
theorem hi_NB_1 (j : Nat) (h1 : 1 ≤ j) (h2 : j < 2) : hi_NB j = 6 := by
  unfold hi_NB
  rw [if_neg (by omega), if_pos (by omega)]
theorem ld_NB_1 {f : Nat → Int32} (h : NB f) (j : Nat) (h1 : 1 ≤ j) (h2 : j < 2) : (2 : Int) ≤ (f j).toInt ∧ (f j).toInt ≤ 6 := by
  have h3 := h j (by omega)
  rw [lo_NB_1 _ h1 h2, hi_NB_1 _ h1 h2] at h3
  exact h3
theorem lo_NB_2 (j : Nat) (h1 : 2 ≤ j) (h2 : j < 3) : lo_NB j = 0 := by
  unfold lo_NB
  rw [if_neg (by omega), if_neg (by omega), if_pos (by omega)]
theorem hi_NB_2 (j : Nat) (h1 : 2 ≤ j) (h2 : j < 3) : hi_NB j = 6 := by
  unfold hi_NB
  rw [if_neg (by omega), if_neg (by omega), if_pos (by omega)]
theorem ld_NB_2 {f : Nat → Int32} (h : NB f) (j : Nat) (h1 : 2 ≤ j) (h2 : j < 3) : (0 : Int) ≤ (f j).toInt ∧ (f j).toInt ≤ 6 := by
  have h3 := h j (by omega)
  rw [lo_NB_2 _ h1 h2, hi_NB_2 _ h1 h2] at h3
  exact h3
theorem lo_NB_3 (j : Nat) (h1 : 3 ≤ j) (h2 : j < 4) : lo_NB j = 0 := by
  unfold lo_NB
  rw [if_neg (by omega), if_neg (by omega), if_neg (by omega), if_pos (by omega)]
theorem hi_NB_3 (j : Nat) (h1 : 3 ≤ j) (h2 : j < 4) : hi_NB j = 6 := by
  unfold hi_NB
  rw [if_neg (by omega), if_neg (by omega), if_neg (by omega), if_pos (by omega)]
theorem ld_NB_3 {f : Nat → Int32} (h : NB f) (j : Nat) (h1 : 3 ≤ j) (h2 : j < 4) : (0 : Int) ≤ (f j).toInt ∧ (f j).toInt ≤ 6 := by
  have h3 := h j (by omega)
  rw [lo_NB_3 _ h1 h2, hi_NB_3 _ h1 h2] at h3
  exact h3
theorem lo_NB_7 (j : Nat) (h1 : 7 ≤ j) (h2 : j < 43) : lo_NB j = 0 := by
  unfold lo_NB
  rw [if_neg (by omega), if_neg (by omega), if_neg (by omega), if_neg (by omega), if_neg (by omega), if_pos (by omega)]
theorem hi_NB_7 (j : Nat) (h1 : 7 ≤ j) (h2 : j < 43) : hi_NB j = 9 := by
  unfold hi_NB
  rw [if_neg (by omega), if_neg (by omega), if_neg (by omega), if_neg (by omega), if_neg (by omega), if_pos (by omega)]
theorem ld_NB_7 {f : Nat → Int32} (h : NB f) (j : Nat) (h1 : 7 ≤ j) (h2 : j < 43) : (0 : Int) ≤ (f j).toInt ∧ (f j).toInt ≤ 9 := by
  have h3 := h j (by omega)
  rw [lo_NB_7 _ h1 h2, hi_NB_7 _ h1 h2] at h3
  exact h3
theorem lo_NB_43 (j : Nat) (h1 : 43 ≤ j) (h2 : j < 55) : lo_NB j = 0 := by
  unfold lo_NB
  rw [if_neg (by omega), if_neg (by omega), if_neg (by omega), if_neg (by omega), if_neg (by omega), if_neg (by omega), if_pos (by omega)]
theorem hi_NB_43 (j : Nat) (h1 : 43 ≤ j) (h2 : j < 55) : hi_NB j = 35 := by
  unfold hi_NB
  rw [if_neg (by omega), if_neg (by omega), if_neg (by omega), if_neg (by omega), if_neg (by omega), if_neg (by omega), if_pos (by omega)]
theorem ld_NB_43 {f : Nat → Int32} (h : NB f) (j : Nat) (h1 : 43 ≤ j) (h2 : j < 55) : (0 : Int) ≤ (f j).toInt ∧ (f j).toInt ≤ 35 := by
  have h3 := h j (by omega)
  rw [lo_NB_43 _ h1 h2, hi_NB_43 _ h1 h2] at h3
  exact h3
theorem lo_NB_67 (j : Nat) (h1 : 67 ≤ j) (h2 : j < 71) : lo_NB j = -2147483648 := by
  unfold lo_NB
  rw [if_neg (by omega), if_neg (by omega), if_neg (by omega), if_neg (by omega), if_neg (by omega), if_neg (by omega), if_neg (by omega), if_neg (by omega), if_pos (by omega)]
theorem hi_NB_67 (j : Nat) (h1 : 67 ≤ j) (h2 : j < 71) : hi_NB j = 2147483647 := by
  unfold hi_NB
  rw [if_neg (by omega), if_neg (by omega), if_neg (by omega), if_neg (by omega), if_neg (by omega), if_neg (by omega), if_neg (by omega), if_neg (by omega), if_pos (by omega)]
theorem st_NB_67 {f : Nat → Int32} (h : NB f) (j : Nat) (h1 : 67 ≤ j) (h2 : j < 71) {v : Int32} (h3 : (-2147483648 : Int) ≤ v.toInt) (h4 : v.toInt ≤ 2147483647) : NB (upd f j v) := ABnd_upd h j v (by
  rw [lo_NB_67 _ h1 h2, hi_NB_67 _ h1 h2]
  exact ⟨h3, h4⟩)
theorem lo_NB_71 (j : Nat) (h1 : 71 ≤ j) (h2 : j < 107) : lo_NB j = 0 := by
  unfold lo_NB
  rw [if_neg (by omega), if_neg (by omega), if_neg (by omega), if_neg (by omega), if_neg (by omega), if_neg (by omega), if_neg (by omega), if_neg (by omega), if_neg (by omega), if_pos (by omega)]
theorem hi_NB_71 (j : Nat) (h1 : 71 ≤ j) (h2 : j < 107) : hi_NB j = 9 := by
  unfold hi_NB
  rw [if_neg (by omega), if_neg (by omega), if_neg (by omega), if_neg (by omega), if_neg (by omega), if_neg (by omega), if_neg (by omega), if_neg (by omega), if_neg (by omega), if_pos (by omega)]
theorem ld_NB_71 {f : Nat → Int32} (h : NB f) (j : Nat) (h1 : 71 ≤ j) (h2 : j < 107) : (0 : Int) ≤ (f j).toInt ∧ (f j).toInt ≤ 9 := by
  have h3 := h j (by omega)
  rw [lo_NB_71 _ h1 h2, hi_NB_71 _ h1 h2] at h3
  exact h3
theorem st_NB_71 {f : Nat → Int32} (h : NB f) (j : Nat) (h1 : 71 ≤ j) (h2 : j < 107) {v : Int32} (h3 : (0 : Int) ≤ v.toInt) (h4 : v.toInt ≤ 9) : NB (upd f j v) := ABnd_upd h j v (by
  rw [lo_NB_71 _ h1 h2, hi_NB_71 _ h1 h2]
  exact ⟨h3, h4⟩)
theorem lo_NB_107 (j : Nat) (h1 : 107 ≤ j) (h2 : j < 119) : lo_NB j = 0 := by
  unfold lo_NB
  rw [if_neg (by omega), if_neg (by omega), if_neg (by omega), if_neg (by omega), if_neg (by omega), if_neg (by omega), if_neg (by omega), if_neg (by omega), if_neg (by omega), if_neg (by omega), if_pos (by omega)]
theorem hi_NB_107 (j : Nat) (h1 : 107 ≤ j) (h2 : j < 119) : hi_NB j = 35 := by
  unfold hi_NB
  rw [if_neg (by omega), if_neg (by omega), if_neg (by omega), if_neg (by omega), if_neg (by omega), if_neg (by omega), if_neg (by omega), if_neg (by omega), if_neg (by omega), if_neg (by omega), if_pos (by omega)]
theorem ld_NB_107 {f : Nat → Int32} (h : NB f) (j : Nat) (h1 : 107 ≤ j) (h2 : j < 119) : (0 : Int) ≤ (f j).toInt ∧ (f j).toInt ≤ 35 := by
  have h3 := h j (by omega)
  rw [lo_NB_107 _ h1 h2, hi_NB_107 _ h1 h2] at h3
  exact h3
theorem st_NB_107 {f : Nat → Int32} (h : NB f) (j : Nat) (h1 : 107 ≤ j) (h2 : j < 119) {v : Int32} (h3 : (0 : Int) ≤ v.toInt) (h4 : v.toInt ≤ 35) : NB (upd f j v) := ABnd_upd h j v (by
  rw [lo_NB_107 _ h1 h2, hi_NB_107 _ h1 h2]
  exact ⟨h3, h4⟩)
theorem lo_NB_119 (j : Nat) (h1 : 119 ≤ j) (h2 : j < 132) : lo_NB j = -2147483648 := by
  unfold lo_NB
  rw [if_neg (by omega), if_neg (by omega), if_neg (by omega), if_neg (by omega), if_neg (by omega), if_neg (by omega), if_neg (by omega), if_neg (by omega), if_neg (by omega), if_neg (by omega), if_neg (by omega), if_pos (by omega)]
theorem hi_NB_119 (j : Nat) (h1 : 119 ≤ j) (h2 : j < 132) : hi_NB j = 2147483647 := by
  unfold hi_NB
  rw [if_neg (by omega), if_neg (by omega), if_neg (by omega), if_neg (by omega), if_neg (by omega), if_neg (by omega), if_neg (by omega), if_neg (by omega), if_neg (by omega), if_neg (by omega), if_neg (by omega), if_pos (by omega)]
theorem st_NB_119 {f : Nat → Int32} (h : NB f) (j : Nat) (h1 : 119 ≤ j) (h2 : j < 132) {v : Int32} (h3 : (-2147483648 : Int) ≤ v.toInt) (h4 : v.toInt ≤ 2147483647) : NB (upd f j v) := ABnd_upd h j v (by
  rw [lo_NB_119 _ h1 h2, hi_NB_119 _ h1 h2]
  exact ⟨h3, h4⟩)
theorem lo_NB_132 (j : Nat) (h1 : 132 ≤ j) (h2 : j < 133) : lo_NB j = 0 := by
  unfold lo_NB
  rw [if_neg (by omega), if_neg (by omega), if_neg (by omega), if_neg (by omega), if_neg (by omega), if_neg (by omega), if_neg (by omega), if_neg (by omega), if_neg (by omega), if_neg (by omega), if_neg (by omega), if_neg (by omega), if_pos (by omega)]
theorem hi_NB_132 (j : Nat) (h1 : 132 ≤ j) (h2 : j < 133) : hi_NB j = 59 := by
  unfold hi_NB
  rw [if_neg (by omega), if_neg (by omega), if_neg (by omega), if_neg (by omega), if_neg (by omega), if_neg (by omega), if_neg (by omega), if_neg (by omega), if_neg (by omega), if_neg (by omega), if_neg (by omega), if_neg (by omega), if_pos (by omega)]
theorem ld_NB_132 {f : Nat → Int32} (h : NB f) (j : Nat) (h1 : 132 ≤ j) (h2 : j < 133) : (0 : Int) ≤ (f j).toInt ∧ (f j).toInt ≤ 59 := by
  have h3 := h j (by omega)
  rw [lo_NB_132 _ h1 h2, hi_NB_132 _ h1 h2] at h3
  exact h3
theorem st_NB_132 {f : Nat → Int32} (h : NB f) (j : Nat) (h1 : 132 ≤ j) (h2 : j < 133) {v : Int32} (h3 : (0 : Int) ≤ v.toInt) (h4 : v.toInt ≤ 59) : NB (upd f j v) := ABnd_upd h j v (by
  rw [lo_NB_132 _ h1 h2, hi_NB_132 _ h1 h2]
  exact ⟨h3, h4⟩)
theorem lo_NB_133 (j : Nat) (h1 : 133 ≤ j) (h2 : j < 373) : lo_NB j = -2147483648 := by
  unfold lo_NB
  rw [if_neg (by omega), if_neg (by omega), if_neg (by omega), if_neg (by omega), if_neg (by omega), if_neg (by omega), if_neg (by omega), if_neg (by omega), if_neg (by omega), if_neg (by omega), if_neg (by omega), if_neg (by omega), if_neg (by omega), if_pos (by omega)]
theorem hi_NB_133 (j : Nat) (h1 : 133 ≤ j) (h2 : j < 373) : hi_NB j = 2147483647 := by
  unfold hi_NB
  rw [if_neg (by omega), if_neg (by omega), if_neg (by omega), if_neg (by omega), if_neg (by omega), if_neg (by omega), if_neg (by omega), if_neg (by omega), if_neg (by omega), if_neg (by omega), if_neg (by omega), if_neg (by omega), if_neg (by omega), if_pos (by omega)]
theorem st_NB_133 {f : Nat → Int32} (h : NB f) (j : Nat) (h1 : 133 ≤ j) (h2 : j < 373) {v : Int32} (h3 : (-2147483648 : Int) ≤ v.toInt) (h4 : v.toInt ≤ 2147483647) : NB (upd f j v) := ABnd_upd h j v (by
  rw [lo_NB_133 _ h1 h2, hi_NB_133 _ h1 h2]
  exact ⟨h3, h4⟩)
def lo_AB64 (j : Nat) : Int := if j < 4 then (-2147483648 : Int) else if j < 40 then (0 : Int) else if j < 52 then (0 : Int) else if j < 64 then (-2147483648 : Int) else 0
def hi_AB64 (j : Nat) : Int := if j < 4 then (2147483647 : Int) else if j < 40 then (9 : Int) else if j < 52 then (35 : Int) else if j < 64 then (2147483647 : Int) else 0
def AB64 (f : Nat → Int32) : Prop := ABnd 64 lo_AB64 hi_AB64 f
def lo_AB512 (j : Nat) : Int := if j < 4 then (-2147483648 : Int) else if j < 40 then (0 : Int) else if j < 52 then (0 : Int) else if j < 64 then (-2147483648 : Int) else 0
def hi_AB512 (j : Nat) : Int := if j < 4 then (2147483647 : Int) else if j < 40 then (9 : Int) else if j < 52 then (35 : Int) else if j < 64 then (2147483647 : Int) else 0
def AB512 (f : Nat → Int32) : Prop := ABnd 512 (fun j => lo_AB512 (j % 64)) (fun j => hi_AB512 (j % 64)) f
def lo_AP36 (j : Nat) : Int := if j < 36 then (0 : Int) else 0
def hi_AP36 (j : Nat) : Int := if j < 36 then (9 : Int) else 0
def AP36 (f : Nat → Int32) : Prop := ABnd 36 lo_AP36 hi_AP36 f
theorem lo_AP36_0 (j : Nat) (h1 : 0 ≤ j) (h2 : j < 36) : lo_AP36 j = 0 := by
  unfold lo_AP36
  rw [if_pos (by omega)]
theorem hi_AP36_0 (j : Nat) (h1 : 0 ≤ j) (h2 : j < 36) : hi_AP36 j = 9 := by
  unfold hi_AP36
  rw [if_pos (by omega)]
theorem ld_AP36_0 {f : Nat → Int32} (h : AP36 f) (j : Nat) (h1 : 0 ≤ j) (h2 : j < 36) : (0 : Int) ≤ (f j).toInt ∧ (f j).toInt ≤ 9 := by
  have h3 := h j (by omega)
  rw [lo_AP36_0 _ h1 h2, hi_AP36_0 _ h1 h2] at h3
  exact h3
theorem st_AP36_0 {f : Nat → Int32} (h : AP36 f) (j : Nat) (h1 : 0 ≤ j) (h2 : j < 36) {v : Int32} (h3 : (0 : Int) ≤ v.toInt) (h4 : v.toInt ≤ 9) : AP36 (upd f j v) := ABnd_upd h j v (by
  rw [lo_AP36_0 _ h1 h2, hi_AP36_0 _ h1 h2]
  exact ⟨h3, h4⟩)
def lo_AB36 (j : Nat) : Int := if j < 36 then (0 : Int) else 0
def hi_AB36 (j : Nat) : Int := if j < 36 then (35 : Int) else 0
def AB36 (f : Nat → Int32) : Prop := ABnd 36 lo_AB36 hi_AB36 f
theorem lo_AB36_0 (j : Nat) (h1 : 0 ≤ j) (h2 : j < 36) : lo_AB36 j = 0 := by
  unfold lo_AB36
  rw [if_pos (by omega)]
theorem hi_AB36_0 (j : Nat) (h1 : 0 ≤ j) (h2 : j < 36) : hi_AB36 j = 35 := by
  unfold hi_AB36
  rw [if_pos (by omega)]
theorem ld_AB36_0 {f : Nat → Int32} (h : AB36 f) (j : Nat) (h1 : 0 ≤ j) (h2 : j < 36) : (0 : Int) ≤ (f j).toInt ∧ (f j).toInt ≤ 35 := by
  have h3 := h j (by omega)
  rw [lo_AB36_0 _ h1 h2, hi_AB36_0 _ h1 h2] at h3
  exact h3
theorem st_AB36_0 {f : Nat → Int32} (h : AB36 f) (j : Nat) (h1 : 0 ≤ j) (h2 : j < 36) {v : Int32} (h3 : (0 : Int) ≤ v.toInt) (h4 : v.toInt ≤ 35) : AB36 (upd f j v) := ABnd_upd h j v (by
  rw [lo_AB36_0 _ h1 h2, hi_AB36_0 _ h1 h2]
  exact ⟨h3, h4⟩)
theorem ia_addS (a b : Int32) (h1 : -1073741824 ≤ a.toInt) (h2 : a.toInt ≤ 1073741823) (h3 : -1073741824 ≤ b.toInt) (h4 : b.toInt ≤ 1073741823) : (a + b).toInt = a.toInt + b.toInt := by
  rw [Int32.toInt_add]
  exact Int.bmod_eq_of_le (by omega) (by omega)
theorem bits_lt (s : Int32) (h : s ≠ 0) : (s &&& (s - nI 1)).toBitVec.toNat < s.toBitVec.toNat := by
  have hn : nI 1 = (1 : Int32) := by decide
  rw [hn]
  have h1 : s.toBitVec.toNat ≠ 0 := fun e => h (Int32.toBitVec_inj.mp (BitVec.eq_of_toNat_eq (by rw [e]; rfl)))
  have h2 : (s - 1).toBitVec.toNat = s.toBitVec.toNat - 1 := by
    have h3 : (s - 1).toBitVec = s.toBitVec - 1#32 := rfl
    rw [h3, BitVec.toNat_sub]
    have h4 := s.toBitVec.isLt
    have h5 : (1#32).toNat = 1 := rfl
    rw [h5]; omega
  have h6 : (s &&& (s - 1)).toBitVec.toNat = s.toBitVec.toNat &&& (s - 1).toBitVec.toNat := rfl
  have h7 : s.toBitVec.toNat &&& (s - 1).toBitVec.toNat ≤ (s - 1).toBitVec.toNat := Nat.and_le_right
  omega
set_option maxRecDepth 20000 in
theorem lf_x_refuse_1   : (nI 0) = nI 0 := by
  try have k_0 := ia_n 0 (by first | decide | omega)
  try simp only [ia_lt, ia_le, ia_eq, ia_m1, ia_0, ia_1, ne_eq, true_and, and_true, false_and, and_false, or_false, false_or, or_true, true_or, not_true_eq_false, not_false_eq_true] at *
  all_goals omega
set_option maxHeartbeats 4000000 in
set_option maxRecDepth 100000 in
theorem c_x_refuse (l : Launch) (dC : Nat → ClassId) (dI : Nat → Nat → Nat) (ky : Nat → ClassId) (sz : Nat) (o : Nat) (kthrown : Int32) (ktape : Nat) (ktaped : Nat) (ksize : Nat) (klimit : Nat) (kto : Nat) (kfrom : Nat) (kkind : Int32) (knumber : Int32) (ksign : Int32) (kfault : Int32) (kplace : Int32) (kword : Int64) (ktold : Int32) (know : Nat) (kread : Nat) (kkept : Nat) (ksnaps : Nat) (kaside : Nat) (kname : Nat) (kreadName : Nat) (kkeptName : Nat) (kisKept : Nat) (konces : Nat) (ksnapMany : Nat) (khasCells : Int32) (kpoured : Nat) (kfar : Nat) (ksides : Nat) (ksideMany : Nat) (kwayDays : Int32) (khasWay : Int32) (klines : Nat) (kmet : Nat) (kmetMany : Nat) (ksunk : Nat) (ktrying : Nat) (ksunkMany : Nat) (ksending : Int32) (kfleets : Int32) (ktext : Nat) (ktexts : Nat) (kseed : Int32) (kline : Nat) (kwritten : Nat) (klineMany : Nat) (khasWritten : Int32) (knode : Nat) (knodes : Nat) (konesMany : Nat) (kwithin : Nat) (ktop : Nat) (iv_ko_0 : ktaped ≤ 940) (iv_ko_1 : ksize ≤ 940) (iv_ko_2 : klimit ≤ 900) (iv_ko_3 : kto ≤ ksize) (iv_ko_4 : kfrom ≤ 940) (iv_ko_5 : ksnapMany ≤ 8) (iv_ko_6 : ksideMany ≤ 36) (iv_ko_7 : kmetMany ≤ 3) (iv_ko_8 : ksunkMany ≤ 36) (iv_ko_9 : ktexts ≤ 64) (iv_ko_10 : klineMany ≤ 40) (iv_ko_11 : knodes ≤ 60) (iv_ko_12 : konesMany ≤ 20) (iv_ko_13 : kwithin ≤ 8) (iv_ko_14 : ktop ≤ 59) : Met l yX12_refuse wsX12_refuse ({ frames := 0, cells := 0, slots := 0, locals := 0 }) (PcU dC dI ky [.ref o] [(o, .inr (12, [.int kthrown, .ref ktape, .int (nI ktaped), .int (nI ksize), .int (nI klimit), .int (nI kto), .int (nI kfrom), .int kkind, .int knumber, .int ksign, .int kfault, .int kplace, .long kword, .int ktold, .ref know, .ref kread, .ref kkept, .ref ksnaps, .ref kaside, .ref kname, .ref kreadName, .ref kkeptName, .ref kisKept, .ref konces, .int (nI ksnapMany), .int khasCells, .ref kpoured, .ref kfar, .ref ksides, .int (nI ksideMany), .int kwayDays, .int khasWay, .ref klines, .ref kmet, .int (nI kmetMany), .ref ksunk, .ref ktrying, .int (nI ksunkMany), .int ksending, .int kfleets, .ref ktext, .int (nI ktexts), .int kseed, .ref kline, .ref kwritten, .int (nI klineMany), .int khasWritten, .ref knode, .int (nI knodes), .int (nI konesMany), .int (nI kwithin), .int (nI ktop)]))] sz) (va_Qi (fun (r : Int32) (kthrownG : Int32) => r = nI 0) (BU dC dI ky (fun (kthrownG : Int32) => [(o, .inr (12, [.int kthrownG, .ref ktape, .int (nI ktaped), .int (nI ksize), .int (nI klimit), .int (nI kto), .int (nI kfrom), .int kkind, .int knumber, .int ksign, .int kfault, .int kplace, .long kword, .int ktold, .ref know, .ref kread, .ref kkept, .ref ksnaps, .ref kaside, .ref kname, .ref kreadName, .ref kkeptName, .ref kisKept, .ref konces, .int (nI ksnapMany), .int khasCells, .ref kpoured, .ref kfar, .ref ksides, .int (nI ksideMany), .int kwayDays, .int khasWay, .ref klines, .ref kmet, .int (nI kmetMany), .ref ksunk, .ref ktrying, .int (nI ksunkMany), .int ksending, .int kfleets, .ref ktext, .int (nI ktexts), .int kseed, .ref kline, .ref kwritten, .int (nI klineMany), .int khasWritten, .ref knode, .int (nI knodes), .int (nI konesMany), .int (nI kwithin), .int (nI ktop)]))]) (va_A [(o, .inr (12, [.int kthrown, .ref ktape, .int (nI ktaped), .int (nI ksize), .int (nI klimit), .int (nI kto), .int (nI kfrom), .int kkind, .int knumber, .int ksign, .int kfault, .int kplace, .long kword, .int ktold, .ref know, .ref kread, .ref kkept, .ref ksnaps, .ref kaside, .ref kname, .ref kreadName, .ref kkeptName, .ref kisKept, .ref konces, .int (nI ksnapMany), .int khasCells, .ref kpoured, .ref kfar, .ref ksides, .int (nI ksideMany), .int kwayDays, .int khasWay, .ref klines, .ref kmet, .int (nI kmetMany), .ref ksunk, .ref ktrying, .int (nI ksunkMany), .int ksending, .int kfleets, .ref ktext, .int (nI ktexts), .int kseed, .ref kline, .ref kwritten, .int (nI klineMany), .int khasWritten, .ref knode, .int (nI knodes), .int (nI konesMany), .int (nI kwithin), .int (nI ktop)]))] sz)) (va_A [(o, .inr (12, [.int kthrown, .ref ktape, .int (nI ktaped), .int (nI ksize), .int (nI klimit), .int (nI kto), .int (nI kfrom), .int kkind, .int knumber, .int ksign, .int kfault, .int kplace, .long kword, .int ktold, .ref know, .ref kread, .ref kkept, .ref ksnaps, .ref kaside, .ref kname, .ref kreadName, .ref kkeptName, .ref kisKept, .ref konces, .int (nI ksnapMany), .int khasCells, .ref kpoured, .ref kfar, .ref ksides, .int (nI ksideMany), .int kwayDays, .int khasWay, .ref klines, .ref kmet, .int (nI kmetMany), .ref ksunk, .ref ktrying, .int (nI ksunkMany), .int ksending, .int kfleets, .ref ktext, .int (nI ktexts), .int kseed, .ref kline, .ref kwritten, .int (nI klineMany), .int khasWritten, .ref knode, .int (nI knodes), .int (nI konesMany), .int (nI kwithin), .int (nI ktop)]))] sz)) 0 0 (va_A [(o, .inr (12, [.int kthrown, .ref ktape, .int (nI ktaped), .int (nI ksize), .int (nI klimit), .int (nI kto), .int (nI kfrom), .int kkind, .int knumber, .int ksign, .int kfault, .int kplace, .long kword, .int ktold, .ref know, .ref kread, .ref kkept, .ref ksnaps, .ref kaside, .ref kname, .ref kreadName, .ref kkeptName, .ref kisKept, .ref konces, .int (nI ksnapMany), .int khasCells, .ref kpoured, .ref kfar, .ref ksides, .int (nI ksideMany), .int kwayDays, .int khasWay, .ref klines, .ref kmet, .int (nI kmetMany), .ref ksunk, .ref ktrying, .int (nI ksunkMany), .int ksending, .int kfleets, .ref ktext, .int (nI ktexts), .int kseed, .ref kline, .ref kwritten, .int (nI klineMany), .int khasWritten, .ref knode, .int (nI knodes), .int (nI konesMany), .int (nI kwithin), .int (nI ktop)]))] sz) := by
  refine Met.ofW (cc := cX12_refuse) (maxL := 1) (ret := (some .int)) (by decide) rfl ?_
  intro p e s m args below meth c s₁ B hml hv
  obtain ⟨rfl, hsz, hP, hK, hD0⟩ := hv
  have hx := B.exec
  have hb := B.bytes
  have hr := B.returns
  have hts := atoms_spec (ws := wsX12_refuse) B.pre
  have hown : s.vm.findClass RX12 = some m.cls := findClass_of_methodNamed B.named
  have hlocks := B.notSynchronized
  have hin12 : ∀ w ∈ u_ws RX12 TX12 52, w ∈ wsX12_refuse := by decide +kernel
  subst hsz
  have hD := hD0.self (sz := s.heap.size)
  generalize hAe : va_A [(o, .inr (12, [.int kthrown, .ref ktape, .int (nI ktaped), .int (nI ksize), .int (nI klimit), .int (nI kto), .int (nI kfrom), .int kkind, .int knumber, .int ksign, .int kfault, .int kplace, .long kword, .int ktold, .ref know, .ref kread, .ref kkept, .ref ksnaps, .ref kaside, .ref kname, .ref kreadName, .ref kkeptName, .ref kisKept, .ref konces, .int (nI ksnapMany), .int khasCells, .ref kpoured, .ref kfar, .ref ksides, .int (nI ksideMany), .int kwayDays, .int khasWay, .ref klines, .ref kmet, .int (nI kmetMany), .ref ksunk, .ref ktrying, .int (nI ksunkMany), .int ksending, .int kfleets, .ref ktext, .int (nI ktexts), .int kseed, .ref kline, .ref kwritten, .int (nI klineMany), .int khasWritten, .ref knode, .int (nI knodes), .int (nI konesMany), .int (nI kwithin), .int (nI ktop)]))] s.heap.size = A at hD ⊢
  have hA : ∀ q : Nat, s.heap.size ≤ q → A q := fun q h => by rw [← hAe]; exact Or.inr h
  have hS : va_S A s.heap s.heap [] := va_S.rf
  have hl := lv_entry ([.ref o]) (n := 1) (Nat.le_of_ble_eq_true rfl)
  rw [lg_entry_eq]
  generalize (lg_sl ([.ref o]) ++ List.replicate (1 - (lg_sl ([.ref o])).length) Slot.unset).toArray = ls at hl ⊢
  have hl : lv_has ls 1 [(0, .ref o)] := hl
  refine q_name (fun Q hQ => ?_)
  generalize ([.ref o] : List Value).toArray = args at hts hQ ⊢
  refine lv_aload_n hx hb dX12_refuse_0 rfl (lv_at hl 0 rfl) ?_
  refine lv_iconst (v := nI 1) hx hb dX12_refuse_1 (by decide) ?_
  refine va_put (D := (dC, dI)) (ci := 12) (v := .int (nI 1)) (ty := .int) (C := RX12) (T := TX12) (N := 52) hx hb hts hin12 tyX12 tyX12_ok nmX12 hown hK hP hD hS 0 rfl rfl 0 (by decide) (hts (.fieldLink RX12 1 "PorridgeSeaModel" "thrown" "I") (List.mem_of_getElem? (i := 1) rfl)) (fun _ h9 => h9) rfl (by decide +kernel) rfl rfl (Nat.le_of_ble_eq_true rfl) dX12_refuse_2 (fun H locs hP hD hS => ?_)
  have hP : va_P (dC, dI) vwCl [(o, .inr (12, [.int (nI 1), .ref ktape, .int (nI ktaped), .int (nI ksize), .int (nI klimit), .int (nI kto), .int (nI kfrom), .int kkind, .int knumber, .int ksign, .int kfault, .int kplace, .long kword, .int ktold, .ref know, .ref kread, .ref kkept, .ref ksnaps, .ref kaside, .ref kname, .ref kreadName, .ref kkeptName, .ref kisKept, .ref konces, .int (nI ksnapMany), .int khasCells, .ref kpoured, .ref kfar, .ref ksides, .int (nI ksideMany), .int kwayDays, .int khasWay, .ref klines, .ref kmet, .int (nI kmetMany), .ref ksunk, .ref ktrying, .int (nI ksunkMany), .int ksending, .int kfleets, .ref ktext, .int (nI ktexts), .int kseed, .ref kline, .ref kwritten, .int (nI klineMany), .int khasWritten, .ref knode, .int (nI knodes), .int (nI konesMany), .int (nI kwithin), .int (nI ktop)]))] H := hP
  have hD : va_D A [(o, .inr (12, [.int (nI 1), .ref ktape, .int (nI ktaped), .int (nI ksize), .int (nI klimit), .int (nI kto), .int (nI kfrom), .int kkind, .int knumber, .int ksign, .int kfault, .int kplace, .long kword, .int ktold, .ref know, .ref kread, .ref kkept, .ref ksnaps, .ref kaside, .ref kname, .ref kreadName, .ref kkeptName, .ref kisKept, .ref konces, .int (nI ksnapMany), .int khasCells, .ref kpoured, .ref kfar, .ref ksides, .int (nI ksideMany), .int kwayDays, .int khasWay, .ref klines, .ref kmet, .int (nI kmetMany), .ref ksunk, .ref ktrying, .int (nI ksunkMany), .int ksending, .int kfleets, .ref ktext, .int (nI ktexts), .int kseed, .ref kline, .ref kwritten, .int (nI klineMany), .int khasWritten, .ref knode, .int (nI knodes), .int (nI konesMany), .int (nI kwithin), .int (nI ktop)]))] := hD
  refine lv_iconst (v := nI 0) hx hb dX12_refuse_5 (by decide) ?_
  rw [hQ]
  exact W.iret (v := nI 0) hx hb hr (fun t9 ht9 hW9 => ⟨⟨nI 0, (nI 1), rfl, (lf_x_refuse_1), by rw [ht9]; exact hP, va_K.moved hW9.alike hK, hD⟩, hS.F ht9⟩) hS.2.2 dX12_refuse_6
set_option maxRecDepth 20000 in
theorem lf_x_end_1 (ktaped : Nat) (n : Int32) (iv_ko_0 : ktaped ≤ 940) (c1 : n < 0) : ((nI 0) = nI 1 ∧ (0 ≤ n.toInt ∧ n.toInt ≤ ktaped ∧ n = nI ktaped)) ∨ ((nI 0) = nI 0 ∧ (¬ (0 ≤ n.toInt ∧ n.toInt ≤ ktaped) ∧ ktaped = ktaped)) := by
  have b_n := ia_b n
  try have k_0 := ia_n 0 (by first | decide | omega)
  try have k_1 := ia_n 1 (by first | decide | omega)
  try have k_2 := ia_n ktaped (by first | decide | omega)
  try simp only [ia_lt, ia_le, ia_eq, ia_m1, ia_0, ia_1, ne_eq, true_and, and_true, false_and, and_false, or_false, false_or, or_true, true_or, not_true_eq_false, not_false_eq_true] at *
  all_goals omega
set_option maxRecDepth 20000 in
theorem lf_x_end_2 (ktaped : Nat) (n : Int32) (iv_ko_0 : ktaped ≤ 940) (c1 : ¬ n < 0) (c2 : n ≤ nI ktaped) : 0 ≤ n.toInt ∧ n.toInt < ((941 : Nat) : Int) := by
  have b_n := ia_b n
  try have k_0 := ia_n ktaped (by first | decide | omega)
  try simp only [ia_lt, ia_le, ia_eq, ia_m1, ia_0, ia_1, ne_eq, true_and, and_true, false_and, and_false, or_false, false_or, or_true, true_or, not_true_eq_false, not_false_eq_true] at *
  all_goals omega
set_option maxRecDepth 20000 in
theorem lf_x_end_3 (ktaped : Nat) (n : Int32) (n3 : Nat) (iv_ko_0 : ktaped ≤ 940) (c1 : ¬ n < 0) (c2 : n ≤ nI ktaped) (h4 : n3 < 941) (e5 : n = nI n3) : ((nI 1) = nI 1 ∧ (0 ≤ n.toInt ∧ n.toInt ≤ ktaped ∧ n = nI n3)) ∨ ((nI 1) = nI 0 ∧ (¬ (0 ≤ n.toInt ∧ n.toInt ≤ ktaped) ∧ n3 = ktaped)) := by
  have b_n := ia_b n
  try have k_0 := ia_n ktaped (by first | decide | omega)
  try have k_1 := ia_n n3 (by first | decide | omega)
  try have k_2 := ia_n 1 (by first | decide | omega)
  try have k_3 := ia_n 0 (by first | decide | omega)
  try simp only [ia_lt, ia_le, ia_eq, ia_m1, ia_0, ia_1, ne_eq, true_and, and_true, false_and, and_false, or_false, false_or, or_true, true_or, not_true_eq_false, not_false_eq_true] at *
  all_goals omega
set_option maxRecDepth 20000 in
theorem lf_x_end_4 (ktaped : Nat) (n : Int32) (n3 : Nat) (iv_ko_0 : ktaped ≤ 940) (c1 : ¬ n < 0) (c2 : n ≤ nI ktaped) (h4 : n3 < 941) (e5 : n = nI n3) : n3 ≤ 940 := by
  have b_n := ia_b n
  try have k_0 := ia_n ktaped (by first | decide | omega)
  try have k_1 := ia_n n3 (by first | decide | omega)
  try simp only [ia_lt, ia_le, ia_eq, ia_m1, ia_0, ia_1, ne_eq, true_and, and_true, false_and, and_false, or_false, false_or, or_true, true_or, not_true_eq_false, not_false_eq_true] at *
  all_goals omega
set_option maxRecDepth 20000 in
theorem lf_x_end_5 (ktaped : Nat) (n : Int32) (iv_ko_0 : ktaped ≤ 940) (c1 : ¬ n < 0) (c2 : ¬ n ≤ nI ktaped) : ((nI 0) = nI 1 ∧ (0 ≤ n.toInt ∧ n.toInt ≤ ktaped ∧ n = nI ktaped)) ∨ ((nI 0) = nI 0 ∧ (¬ (0 ≤ n.toInt ∧ n.toInt ≤ ktaped) ∧ ktaped = ktaped)) := by
  have b_n := ia_b n
  try have k_0 := ia_n ktaped (by first | decide | omega)
  try have k_1 := ia_n 0 (by first | decide | omega)
  try have k_2 := ia_n 1 (by first | decide | omega)
  try simp only [ia_lt, ia_le, ia_eq, ia_m1, ia_0, ia_1, ne_eq, true_and, and_true, false_and, and_false, or_false, false_or, or_true, true_or, not_true_eq_false, not_false_eq_true] at *
  all_goals omega
set_option maxHeartbeats 4000000 in
set_option maxRecDepth 100000 in
theorem c_x_end (l : Launch) (dC : Nat → ClassId) (dI : Nat → Nat → Nat) (ky : Nat → ClassId) (sz : Nat) (o : Nat) (kthrown : Int32) (ktape : Nat) (ktaped : Nat) (ksize : Nat) (klimit : Nat) (kto : Nat) (kfrom : Nat) (kkind : Int32) (knumber : Int32) (ksign : Int32) (kfault : Int32) (kplace : Int32) (kword : Int64) (ktold : Int32) (know : Nat) (kread : Nat) (kkept : Nat) (ksnaps : Nat) (kaside : Nat) (kname : Nat) (kreadName : Nat) (kkeptName : Nat) (kisKept : Nat) (konces : Nat) (ksnapMany : Nat) (khasCells : Int32) (kpoured : Nat) (kfar : Nat) (ksides : Nat) (ksideMany : Nat) (kwayDays : Int32) (khasWay : Int32) (klines : Nat) (kmet : Nat) (kmetMany : Nat) (ksunk : Nat) (ktrying : Nat) (ksunkMany : Nat) (ksending : Int32) (kfleets : Int32) (ktext : Nat) (ktexts : Nat) (kseed : Int32) (kline : Nat) (kwritten : Nat) (klineMany : Nat) (khasWritten : Int32) (knode : Nat) (knodes : Nat) (konesMany : Nat) (kwithin : Nat) (ktop : Nat) (n : Int32) (iv_ko_0 : ktaped ≤ 940) (iv_ko_1 : ksize ≤ 940) (iv_ko_2 : klimit ≤ 900) (iv_ko_3 : kto ≤ ksize) (iv_ko_4 : kfrom ≤ 940) (iv_ko_5 : ksnapMany ≤ 8) (iv_ko_6 : ksideMany ≤ 36) (iv_ko_7 : kmetMany ≤ 3) (iv_ko_8 : ksunkMany ≤ 36) (iv_ko_9 : ktexts ≤ 64) (iv_ko_10 : klineMany ≤ 40) (iv_ko_11 : knodes ≤ 60) (iv_ko_12 : konesMany ≤ 20) (iv_ko_13 : kwithin ≤ 8) (iv_ko_14 : ktop ≤ 59) : Met l yX12_end wsX12_end ({ frames := 0, cells := 0, slots := 0, locals := 0 }) (PcU dC dI ky [.ref o, .int n] [(o, .inr (12, [.int kthrown, .ref ktape, .int (nI ktaped), .int (nI ksize), .int (nI klimit), .int (nI kto), .int (nI kfrom), .int kkind, .int knumber, .int ksign, .int kfault, .int kplace, .long kword, .int ktold, .ref know, .ref kread, .ref kkept, .ref ksnaps, .ref kaside, .ref kname, .ref kreadName, .ref kkeptName, .ref kisKept, .ref konces, .int (nI ksnapMany), .int khasCells, .ref kpoured, .ref kfar, .ref ksides, .int (nI ksideMany), .int kwayDays, .int khasWay, .ref klines, .ref kmet, .int (nI kmetMany), .ref ksunk, .ref ktrying, .int (nI ksunkMany), .int ksending, .int kfleets, .ref ktext, .int (nI ktexts), .int kseed, .ref kline, .ref kwritten, .int (nI klineMany), .int khasWritten, .ref knode, .int (nI knodes), .int (nI konesMany), .int (nI kwithin), .int (nI ktop)]))] sz) (va_Qi (fun (r : Int32) (u : Int32 × Nat) => match u with | (kthrownG, ktapedG) => ((r = nI 1 ∧ (0 ≤ n.toInt ∧ n.toInt ≤ ktaped ∧ n = nI ktapedG)) ∨ (r = nI 0 ∧ (¬ (0 ≤ n.toInt ∧ n.toInt ≤ ktaped) ∧ ktapedG = ktaped))) ∧ (ktapedG ≤ 940)) (BU dC dI ky (fun (u : Int32 × Nat) => match u with | (kthrownG, ktapedG) => [(o, .inr (12, [.int kthrownG, .ref ktape, .int (nI ktapedG), .int (nI ksize), .int (nI klimit), .int (nI kto), .int (nI kfrom), .int kkind, .int knumber, .int ksign, .int kfault, .int kplace, .long kword, .int ktold, .ref know, .ref kread, .ref kkept, .ref ksnaps, .ref kaside, .ref kname, .ref kreadName, .ref kkeptName, .ref kisKept, .ref konces, .int (nI ksnapMany), .int khasCells, .ref kpoured, .ref kfar, .ref ksides, .int (nI ksideMany), .int kwayDays, .int khasWay, .ref klines, .ref kmet, .int (nI kmetMany), .ref ksunk, .ref ktrying, .int (nI ksunkMany), .int ksending, .int kfleets, .ref ktext, .int (nI ktexts), .int kseed, .ref kline, .ref kwritten, .int (nI klineMany), .int khasWritten, .ref knode, .int (nI knodes), .int (nI konesMany), .int (nI kwithin), .int (nI ktop)]))]) (va_A [(o, .inr (12, [.int kthrown, .ref ktape, .int (nI ktaped), .int (nI ksize), .int (nI klimit), .int (nI kto), .int (nI kfrom), .int kkind, .int knumber, .int ksign, .int kfault, .int kplace, .long kword, .int ktold, .ref know, .ref kread, .ref kkept, .ref ksnaps, .ref kaside, .ref kname, .ref kreadName, .ref kkeptName, .ref kisKept, .ref konces, .int (nI ksnapMany), .int khasCells, .ref kpoured, .ref kfar, .ref ksides, .int (nI ksideMany), .int kwayDays, .int khasWay, .ref klines, .ref kmet, .int (nI kmetMany), .ref ksunk, .ref ktrying, .int (nI ksunkMany), .int ksending, .int kfleets, .ref ktext, .int (nI ktexts), .int kseed, .ref kline, .ref kwritten, .int (nI klineMany), .int khasWritten, .ref knode, .int (nI knodes), .int (nI konesMany), .int (nI kwithin), .int (nI ktop)]))] sz)) (va_A [(o, .inr (12, [.int kthrown, .ref ktape, .int (nI ktaped), .int (nI ksize), .int (nI klimit), .int (nI kto), .int (nI kfrom), .int kkind, .int knumber, .int ksign, .int kfault, .int kplace, .long kword, .int ktold, .ref know, .ref kread, .ref kkept, .ref ksnaps, .ref kaside, .ref kname, .ref kreadName, .ref kkeptName, .ref kisKept, .ref konces, .int (nI ksnapMany), .int khasCells, .ref kpoured, .ref kfar, .ref ksides, .int (nI ksideMany), .int kwayDays, .int khasWay, .ref klines, .ref kmet, .int (nI kmetMany), .ref ksunk, .ref ktrying, .int (nI ksunkMany), .int ksending, .int kfleets, .ref ktext, .int (nI ktexts), .int kseed, .ref kline, .ref kwritten, .int (nI klineMany), .int khasWritten, .ref knode, .int (nI knodes), .int (nI konesMany), .int (nI kwithin), .int (nI ktop)]))] sz)) 0 0 (va_A [(o, .inr (12, [.int kthrown, .ref ktape, .int (nI ktaped), .int (nI ksize), .int (nI klimit), .int (nI kto), .int (nI kfrom), .int kkind, .int knumber, .int ksign, .int kfault, .int kplace, .long kword, .int ktold, .ref know, .ref kread, .ref kkept, .ref ksnaps, .ref kaside, .ref kname, .ref kreadName, .ref kkeptName, .ref kisKept, .ref konces, .int (nI ksnapMany), .int khasCells, .ref kpoured, .ref kfar, .ref ksides, .int (nI ksideMany), .int kwayDays, .int khasWay, .ref klines, .ref kmet, .int (nI kmetMany), .ref ksunk, .ref ktrying, .int (nI ksunkMany), .int ksending, .int kfleets, .ref ktext, .int (nI ktexts), .int kseed, .ref kline, .ref kwritten, .int (nI klineMany), .int khasWritten, .ref knode, .int (nI knodes), .int (nI konesMany), .int (nI kwithin), .int (nI ktop)]))] sz) := by
  refine Met.ofW (cc := cX12_end) (maxL := 2) (ret := (some .boolean)) (by decide) rfl ?_
  intro p e s m args below meth c s₁ B hml hv
  obtain ⟨rfl, hsz, hP, hK, hD0⟩ := hv
  have hx := B.exec
  have hb := B.bytes
  have hr := B.returns
  have hts := atoms_spec (ws := wsX12_end) B.pre
  have hown : s.vm.findClass RX12 = some m.cls := findClass_of_methodNamed B.named
  have hlocks := B.notSynchronized
  have hin12 : ∀ w ∈ u_ws RX12 TX12 52, w ∈ wsX12_end := by decide +kernel
  subst hsz
  have hD := hD0.self (sz := s.heap.size)
  generalize hAe : va_A [(o, .inr (12, [.int kthrown, .ref ktape, .int (nI ktaped), .int (nI ksize), .int (nI klimit), .int (nI kto), .int (nI kfrom), .int kkind, .int knumber, .int ksign, .int kfault, .int kplace, .long kword, .int ktold, .ref know, .ref kread, .ref kkept, .ref ksnaps, .ref kaside, .ref kname, .ref kreadName, .ref kkeptName, .ref kisKept, .ref konces, .int (nI ksnapMany), .int khasCells, .ref kpoured, .ref kfar, .ref ksides, .int (nI ksideMany), .int kwayDays, .int khasWay, .ref klines, .ref kmet, .int (nI kmetMany), .ref ksunk, .ref ktrying, .int (nI ksunkMany), .int ksending, .int kfleets, .ref ktext, .int (nI ktexts), .int kseed, .ref kline, .ref kwritten, .int (nI klineMany), .int khasWritten, .ref knode, .int (nI knodes), .int (nI konesMany), .int (nI kwithin), .int (nI ktop)]))] s.heap.size = A at hD ⊢
  have hA : ∀ q : Nat, s.heap.size ≤ q → A q := fun q h => by rw [← hAe]; exact Or.inr h
  have hS : va_S A s.heap s.heap [] := va_S.rf
  have hl := lv_entry ([.ref o, .int n]) (n := 2) (Nat.le_of_ble_eq_true rfl)
  rw [lg_entry_eq]
  generalize (lg_sl ([.ref o, .int n]) ++ List.replicate (2 - (lg_sl ([.ref o, .int n])).length) Slot.unset).toArray = ls at hl ⊢
  have hl : lv_has ls 2 [(0, .ref o), (1, .int n)] := hl
  refine q_name (fun Q hQ => ?_)
  generalize ([.ref o, .int n] : List Value).toArray = args at hts hQ ⊢
  refine lv_aload_n hx hb dX12_end_0 rfl (lv_at hl 0 rfl) ?_
  refine lv_iconst (v := nI 0) hx hb dX12_end_1 (by decide) ?_
  refine va_put (D := (dC, dI)) (ci := 12) (v := .int (nI 0)) (ty := .int) (C := RX12) (T := TX12) (N := 52) hx hb hts hin12 tyX12 tyX12_ok nmX12 hown hK hP hD hS 0 rfl rfl 0 (by decide) (hts (.fieldLink RX12 1 "PorridgeSeaModel" "thrown" "I") (List.mem_of_getElem? (i := 1) rfl)) (fun _ h9 => h9) rfl (by decide +kernel) rfl rfl (Nat.le_of_ble_eq_true rfl) dX12_end_2 (fun H locs hP hD hS => ?_)
  have hP : va_P (dC, dI) vwCl [(o, .inr (12, [.int (nI 0), .ref ktape, .int (nI ktaped), .int (nI ksize), .int (nI klimit), .int (nI kto), .int (nI kfrom), .int kkind, .int knumber, .int ksign, .int kfault, .int kplace, .long kword, .int ktold, .ref know, .ref kread, .ref kkept, .ref ksnaps, .ref kaside, .ref kname, .ref kreadName, .ref kkeptName, .ref kisKept, .ref konces, .int (nI ksnapMany), .int khasCells, .ref kpoured, .ref kfar, .ref ksides, .int (nI ksideMany), .int kwayDays, .int khasWay, .ref klines, .ref kmet, .int (nI kmetMany), .ref ksunk, .ref ktrying, .int (nI ksunkMany), .int ksending, .int kfleets, .ref ktext, .int (nI ktexts), .int kseed, .ref kline, .ref kwritten, .int (nI klineMany), .int khasWritten, .ref knode, .int (nI knodes), .int (nI konesMany), .int (nI kwithin), .int (nI ktop)]))] H := hP
  have hD : va_D A [(o, .inr (12, [.int (nI 0), .ref ktape, .int (nI ktaped), .int (nI ksize), .int (nI klimit), .int (nI kto), .int (nI kfrom), .int kkind, .int knumber, .int ksign, .int kfault, .int kplace, .long kword, .int ktold, .ref know, .ref kread, .ref kkept, .ref ksnaps, .ref kaside, .ref kname, .ref kreadName, .ref kkeptName, .ref kisKept, .ref konces, .int (nI ksnapMany), .int khasCells, .ref kpoured, .ref kfar, .ref ksides, .int (nI ksideMany), .int kwayDays, .int khasWay, .ref klines, .ref kmet, .int (nI kmetMany), .ref ksunk, .ref ktrying, .int (nI ksunkMany), .int ksending, .int kfleets, .ref ktext, .int (nI ktexts), .int kseed, .ref kline, .ref kwritten, .int (nI klineMany), .int khasWritten, .ref knode, .int (nI knodes), .int (nI konesMany), .int (nI kwithin), .int (nI ktop)]))] := hD
  refine lv_iload_n hx hb dX12_end_5 rfl (lv_at hl 1 rfl) ?_
  refine lv_if_lt (tgt := 17) hx hb dX12_end_6 (by decide) (fun c1 => ?_) (fun c1 => ?_)
  · refine lv_iconst (v := nI 0) hx hb dX12_end_17 (by decide) ?_
    rw [hQ]
    exact W.zret (v := nI 0) hx hb hr (by decide) (fun t9 ht9 hW9 => ⟨⟨nI 0, (nI 0, ktaped), rfl, ⟨(lf_x_end_1 ktaped n iv_ko_0 c1), iv_ko_0⟩, by rw [ht9]; exact hP, va_K.moved hW9.alike hK, hD⟩, hS.F ht9⟩) hS.2.2 dX12_end_18
  · refine lv_iload_n hx hb dX12_end_9 rfl (lv_at hl 1 rfl) ?_
    refine lv_aload_n hx hb dX12_end_10 rfl (lv_at hl 0 rfl) ?_
    refine va_get (D := (dC, dI)) (ci := 12) (v := .int (nI ktaped)) (C := RX12) (T := TX12) (N := 52) hx hb hts hin12 hown hK hP 0 rfl rfl 2 (by decide) (hts (.fieldLink RX12 11 "PorridgeSeaModel" "taped" "I") (List.mem_of_getElem? (i := 2) rfl)) (fun _ h9 => h9) rfl dX12_end_11 ?_
    refine lv_icmp_le (tgt := 19) hx hb dX12_end_14 (by decide) (fun c2 => ?_) (fun c2 => ?_)
    · refine lv_aload_n hx hb dX12_end_19 rfl (lv_at hl 0 rfl) ?_
      refine lv_iload_n hx hb dX12_end_20 rfl (lv_at hl 1 rfl) ?_
      obtain ⟨n3, h4, e5⟩ := nat_of n 941 (by decide) (lf_x_end_2 ktaped n iv_ko_0 c1 c2)
      rw [e5]
      refine va_put (D := (dC, dI)) (ci := 12) (v := .int (nI n3)) (ty := .int) (C := RX12) (T := TX12) (N := 52) hx hb hts hin12 tyX12 tyX12_ok nmX12 hown hK hP hD hS 0 rfl rfl 2 (by decide) (hts (.fieldLink RX12 11 "PorridgeSeaModel" "taped" "I") (List.mem_of_getElem? (i := 2) rfl)) (fun _ h9 => h9) rfl (by decide +kernel) rfl rfl (Nat.le_of_ble_eq_true rfl) dX12_end_21 (fun H locs hP hD hS => ?_)
      have hP : va_P (dC, dI) vwCl [(o, .inr (12, [.int (nI 0), .ref ktape, .int (nI n3), .int (nI ksize), .int (nI klimit), .int (nI kto), .int (nI kfrom), .int kkind, .int knumber, .int ksign, .int kfault, .int kplace, .long kword, .int ktold, .ref know, .ref kread, .ref kkept, .ref ksnaps, .ref kaside, .ref kname, .ref kreadName, .ref kkeptName, .ref kisKept, .ref konces, .int (nI ksnapMany), .int khasCells, .ref kpoured, .ref kfar, .ref ksides, .int (nI ksideMany), .int kwayDays, .int khasWay, .ref klines, .ref kmet, .int (nI kmetMany), .ref ksunk, .ref ktrying, .int (nI ksunkMany), .int ksending, .int kfleets, .ref ktext, .int (nI ktexts), .int kseed, .ref kline, .ref kwritten, .int (nI klineMany), .int khasWritten, .ref knode, .int (nI knodes), .int (nI konesMany), .int (nI kwithin), .int (nI ktop)]))] H := hP
      have hD : va_D A [(o, .inr (12, [.int (nI 0), .ref ktape, .int (nI n3), .int (nI ksize), .int (nI klimit), .int (nI kto), .int (nI kfrom), .int kkind, .int knumber, .int ksign, .int kfault, .int kplace, .long kword, .int ktold, .ref know, .ref kread, .ref kkept, .ref ksnaps, .ref kaside, .ref kname, .ref kreadName, .ref kkeptName, .ref kisKept, .ref konces, .int (nI ksnapMany), .int khasCells, .ref kpoured, .ref kfar, .ref ksides, .int (nI ksideMany), .int kwayDays, .int khasWay, .ref klines, .ref kmet, .int (nI kmetMany), .ref ksunk, .ref ktrying, .int (nI ksunkMany), .int ksending, .int kfleets, .ref ktext, .int (nI ktexts), .int kseed, .ref kline, .ref kwritten, .int (nI klineMany), .int khasWritten, .ref knode, .int (nI knodes), .int (nI konesMany), .int (nI kwithin), .int (nI ktop)]))] := hD
      refine lv_iconst (v := nI 1) hx hb dX12_end_24 (by decide) ?_
      rw [hQ]
      exact W.zret (v := nI 1) hx hb hr (by decide) (fun t9 ht9 hW9 => ⟨⟨nI 1, (nI 0, n3), rfl, ⟨(lf_x_end_3 ktaped n n3 iv_ko_0 c1 c2 h4 e5), (lf_x_end_4 ktaped n n3 iv_ko_0 c1 c2 h4 e5)⟩, by rw [ht9]; exact hP, va_K.moved hW9.alike hK, hD⟩, hS.F ht9⟩) hS.2.2 dX12_end_25
    · refine lv_iconst (v := nI 0) hx hb dX12_end_17 (by decide) ?_
      rw [hQ]
      exact W.zret (v := nI 0) hx hb hr (by decide) (fun t9 ht9 hW9 => ⟨⟨nI 0, (nI 0, ktaped), rfl, ⟨(lf_x_end_5 ktaped n iv_ko_0 c1 c2), iv_ko_0⟩, by rw [ht9]; exact hP, va_K.moved hW9.alike hK, hD⟩, hS.F ht9⟩) hS.2.2 dX12_end_18
set_option maxRecDepth 20000 in
theorem lf_x_take_1 (ktaped : Nat) (iv_ko_0 : ktaped ≤ 940) : (nI ktaped) = nI ktaped := by
  try have k_0 := ia_n ktaped (by first | decide | omega)
  try simp only [ia_lt, ia_le, ia_eq, ia_m1, ia_0, ia_1, ne_eq, true_and, and_true, false_and, and_false, or_false, false_or, or_true, true_or, not_true_eq_false, not_false_eq_true] at *
  all_goals omega
set_option maxRecDepth 20000 in
theorem lf_x_take_2   : 0 ≤ 940 := by
  try simp only [ia_lt, ia_le, ia_eq, ia_m1, ia_0, ia_1, ne_eq, true_and, and_true, false_and, and_false, or_false, false_or, or_true, true_or, not_true_eq_false, not_false_eq_true] at *
  all_goals omega
set_option maxHeartbeats 4000000 in
set_option maxRecDepth 100000 in
theorem c_x_take (l : Launch) (dC : Nat → ClassId) (dI : Nat → Nat → Nat) (ky : Nat → ClassId) (sz : Nat) (o : Nat) (kthrown : Int32) (ktape : Nat) (ktaped : Nat) (ksize : Nat) (klimit : Nat) (kto : Nat) (kfrom : Nat) (kkind : Int32) (knumber : Int32) (ksign : Int32) (kfault : Int32) (kplace : Int32) (kword : Int64) (ktold : Int32) (know : Nat) (kread : Nat) (kkept : Nat) (ksnaps : Nat) (kaside : Nat) (kname : Nat) (kreadName : Nat) (kkeptName : Nat) (kisKept : Nat) (konces : Nat) (ksnapMany : Nat) (khasCells : Int32) (kpoured : Nat) (kfar : Nat) (ksides : Nat) (ksideMany : Nat) (kwayDays : Int32) (khasWay : Int32) (klines : Nat) (kmet : Nat) (kmetMany : Nat) (ksunk : Nat) (ktrying : Nat) (ksunkMany : Nat) (ksending : Int32) (kfleets : Int32) (ktext : Nat) (ktexts : Nat) (kseed : Int32) (kline : Nat) (kwritten : Nat) (klineMany : Nat) (khasWritten : Int32) (knode : Nat) (knodes : Nat) (konesMany : Nat) (kwithin : Nat) (ktop : Nat) (iv_ko_0 : ktaped ≤ 940) (iv_ko_1 : ksize ≤ 940) (iv_ko_2 : klimit ≤ 900) (iv_ko_3 : kto ≤ ksize) (iv_ko_4 : kfrom ≤ 940) (iv_ko_5 : ksnapMany ≤ 8) (iv_ko_6 : ksideMany ≤ 36) (iv_ko_7 : kmetMany ≤ 3) (iv_ko_8 : ksunkMany ≤ 36) (iv_ko_9 : ktexts ≤ 64) (iv_ko_10 : klineMany ≤ 40) (iv_ko_11 : knodes ≤ 60) (iv_ko_12 : konesMany ≤ 20) (iv_ko_13 : kwithin ≤ 8) (iv_ko_14 : ktop ≤ 59) : Met l yX12_take wsX12_take ({ frames := 0, cells := 0, slots := 0, locals := 0 }) (PcU dC dI ky [.ref o] [(o, .inr (12, [.int kthrown, .ref ktape, .int (nI ktaped), .int (nI ksize), .int (nI klimit), .int (nI kto), .int (nI kfrom), .int kkind, .int knumber, .int ksign, .int kfault, .int kplace, .long kword, .int ktold, .ref know, .ref kread, .ref kkept, .ref ksnaps, .ref kaside, .ref kname, .ref kreadName, .ref kkeptName, .ref kisKept, .ref konces, .int (nI ksnapMany), .int khasCells, .ref kpoured, .ref kfar, .ref ksides, .int (nI ksideMany), .int kwayDays, .int khasWay, .ref klines, .ref kmet, .int (nI kmetMany), .ref ksunk, .ref ktrying, .int (nI ksunkMany), .int ksending, .int kfleets, .ref ktext, .int (nI ktexts), .int kseed, .ref kline, .ref kwritten, .int (nI klineMany), .int khasWritten, .ref knode, .int (nI knodes), .int (nI konesMany), .int (nI kwithin), .int (nI ktop)]))] sz) (va_Qi (fun (r : Int32) (ktapedG : Nat) => (r = nI ktaped) ∧ (ktapedG ≤ 940) ∧ (ktapedG = 0)) (BU dC dI ky (fun (ktapedG : Nat) => [(o, .inr (12, [.int kthrown, .ref ktape, .int (nI ktapedG), .int (nI ksize), .int (nI klimit), .int (nI kto), .int (nI kfrom), .int kkind, .int knumber, .int ksign, .int kfault, .int kplace, .long kword, .int ktold, .ref know, .ref kread, .ref kkept, .ref ksnaps, .ref kaside, .ref kname, .ref kreadName, .ref kkeptName, .ref kisKept, .ref konces, .int (nI ksnapMany), .int khasCells, .ref kpoured, .ref kfar, .ref ksides, .int (nI ksideMany), .int kwayDays, .int khasWay, .ref klines, .ref kmet, .int (nI kmetMany), .ref ksunk, .ref ktrying, .int (nI ksunkMany), .int ksending, .int kfleets, .ref ktext, .int (nI ktexts), .int kseed, .ref kline, .ref kwritten, .int (nI klineMany), .int khasWritten, .ref knode, .int (nI knodes), .int (nI konesMany), .int (nI kwithin), .int (nI ktop)]))]) (va_A [(o, .inr (12, [.int kthrown, .ref ktape, .int (nI ktaped), .int (nI ksize), .int (nI klimit), .int (nI kto), .int (nI kfrom), .int kkind, .int knumber, .int ksign, .int kfault, .int kplace, .long kword, .int ktold, .ref know, .ref kread, .ref kkept, .ref ksnaps, .ref kaside, .ref kname, .ref kreadName, .ref kkeptName, .ref kisKept, .ref konces, .int (nI ksnapMany), .int khasCells, .ref kpoured, .ref kfar, .ref ksides, .int (nI ksideMany), .int kwayDays, .int khasWay, .ref klines, .ref kmet, .int (nI kmetMany), .ref ksunk, .ref ktrying, .int (nI ksunkMany), .int ksending, .int kfleets, .ref ktext, .int (nI ktexts), .int kseed, .ref kline, .ref kwritten, .int (nI klineMany), .int khasWritten, .ref knode, .int (nI knodes), .int (nI konesMany), .int (nI kwithin), .int (nI ktop)]))] sz)) (va_A [(o, .inr (12, [.int kthrown, .ref ktape, .int (nI ktaped), .int (nI ksize), .int (nI klimit), .int (nI kto), .int (nI kfrom), .int kkind, .int knumber, .int ksign, .int kfault, .int kplace, .long kword, .int ktold, .ref know, .ref kread, .ref kkept, .ref ksnaps, .ref kaside, .ref kname, .ref kreadName, .ref kkeptName, .ref kisKept, .ref konces, .int (nI ksnapMany), .int khasCells, .ref kpoured, .ref kfar, .ref ksides, .int (nI ksideMany), .int kwayDays, .int khasWay, .ref klines, .ref kmet, .int (nI kmetMany), .ref ksunk, .ref ktrying, .int (nI ksunkMany), .int ksending, .int kfleets, .ref ktext, .int (nI ktexts), .int kseed, .ref kline, .ref kwritten, .int (nI klineMany), .int khasWritten, .ref knode, .int (nI knodes), .int (nI konesMany), .int (nI kwithin), .int (nI ktop)]))] sz)) 0 0 (va_A [(o, .inr (12, [.int kthrown, .ref ktape, .int (nI ktaped), .int (nI ksize), .int (nI klimit), .int (nI kto), .int (nI kfrom), .int kkind, .int knumber, .int ksign, .int kfault, .int kplace, .long kword, .int ktold, .ref know, .ref kread, .ref kkept, .ref ksnaps, .ref kaside, .ref kname, .ref kreadName, .ref kkeptName, .ref kisKept, .ref konces, .int (nI ksnapMany), .int khasCells, .ref kpoured, .ref kfar, .ref ksides, .int (nI ksideMany), .int kwayDays, .int khasWay, .ref klines, .ref kmet, .int (nI kmetMany), .ref ksunk, .ref ktrying, .int (nI ksunkMany), .int ksending, .int kfleets, .ref ktext, .int (nI ktexts), .int kseed, .ref kline, .ref kwritten, .int (nI klineMany), .int khasWritten, .ref knode, .int (nI knodes), .int (nI konesMany), .int (nI kwithin), .int (nI ktop)]))] sz) := by
  refine Met.ofW (cc := cX12_take) (maxL := 2) (ret := (some .int)) (by decide) rfl ?_
  intro p e s m args below meth c s₁ B hml hv
  obtain ⟨rfl, hsz, hP, hK, hD0⟩ := hv
  have hx := B.exec
  have hb := B.bytes
  have hr := B.returns
  have hts := atoms_spec (ws := wsX12_take) B.pre
  have hown : s.vm.findClass RX12 = some m.cls := findClass_of_methodNamed B.named
  have hlocks := B.notSynchronized
  have hin12 : ∀ w ∈ u_ws RX12 TX12 52, w ∈ wsX12_take := by decide +kernel
  subst hsz
  have hD := hD0.self (sz := s.heap.size)
  generalize hAe : va_A [(o, .inr (12, [.int kthrown, .ref ktape, .int (nI ktaped), .int (nI ksize), .int (nI klimit), .int (nI kto), .int (nI kfrom), .int kkind, .int knumber, .int ksign, .int kfault, .int kplace, .long kword, .int ktold, .ref know, .ref kread, .ref kkept, .ref ksnaps, .ref kaside, .ref kname, .ref kreadName, .ref kkeptName, .ref kisKept, .ref konces, .int (nI ksnapMany), .int khasCells, .ref kpoured, .ref kfar, .ref ksides, .int (nI ksideMany), .int kwayDays, .int khasWay, .ref klines, .ref kmet, .int (nI kmetMany), .ref ksunk, .ref ktrying, .int (nI ksunkMany), .int ksending, .int kfleets, .ref ktext, .int (nI ktexts), .int kseed, .ref kline, .ref kwritten, .int (nI klineMany), .int khasWritten, .ref knode, .int (nI knodes), .int (nI konesMany), .int (nI kwithin), .int (nI ktop)]))] s.heap.size = A at hD ⊢
  have hA : ∀ q : Nat, s.heap.size ≤ q → A q := fun q h => by rw [← hAe]; exact Or.inr h
  have hS : va_S A s.heap s.heap [] := va_S.rf
  have hl := lv_entry ([.ref o]) (n := 2) (Nat.le_of_ble_eq_true rfl)
  rw [lg_entry_eq]
  generalize (lg_sl ([.ref o]) ++ List.replicate (2 - (lg_sl ([.ref o])).length) Slot.unset).toArray = ls at hl ⊢
  have hl : lv_has ls 2 [(0, .ref o)] := hl
  refine q_name (fun Q hQ => ?_)
  generalize ([.ref o] : List Value).toArray = args at hts hQ ⊢
  refine lv_aload_n hx hb dX12_take_0 rfl (lv_at hl 0 rfl) ?_
  refine va_get (D := (dC, dI)) (ci := 12) (v := .int (nI ktaped)) (C := RX12) (T := TX12) (N := 52) hx hb hts hin12 hown hK hP 0 rfl rfl 2 (by decide) (hts (.fieldLink RX12 11 "PorridgeSeaModel" "taped" "I") (List.mem_of_getElem? (i := 1) rfl)) (fun _ h9 => h9) rfl dX12_take_1 ?_
  refine lv_istore_n (lv' := [(1, .int (nI ktaped)), (0, .ref o)]) hx hb dX12_take_4 rfl hl (by decide) rfl (fun ls hl => ?_)
  refine lv_aload_n hx hb dX12_take_5 rfl (lv_at hl 1 rfl) ?_
  refine lv_iconst (v := nI 0) hx hb dX12_take_6 (by decide) ?_
  refine va_put (D := (dC, dI)) (ci := 12) (v := .int (nI 0)) (ty := .int) (C := RX12) (T := TX12) (N := 52) hx hb hts hin12 tyX12 tyX12_ok nmX12 hown hK hP hD hS 0 rfl rfl 2 (by decide) (hts (.fieldLink RX12 11 "PorridgeSeaModel" "taped" "I") (List.mem_of_getElem? (i := 1) rfl)) (fun _ h9 => h9) rfl (by decide +kernel) rfl rfl (Nat.le_of_ble_eq_true rfl) dX12_take_7 (fun H locs hP hD hS => ?_)
  have hP : va_P (dC, dI) vwCl [(o, .inr (12, [.int kthrown, .ref ktape, .int (nI 0), .int (nI ksize), .int (nI klimit), .int (nI kto), .int (nI kfrom), .int kkind, .int knumber, .int ksign, .int kfault, .int kplace, .long kword, .int ktold, .ref know, .ref kread, .ref kkept, .ref ksnaps, .ref kaside, .ref kname, .ref kreadName, .ref kkeptName, .ref kisKept, .ref konces, .int (nI ksnapMany), .int khasCells, .ref kpoured, .ref kfar, .ref ksides, .int (nI ksideMany), .int kwayDays, .int khasWay, .ref klines, .ref kmet, .int (nI kmetMany), .ref ksunk, .ref ktrying, .int (nI ksunkMany), .int ksending, .int kfleets, .ref ktext, .int (nI ktexts), .int kseed, .ref kline, .ref kwritten, .int (nI klineMany), .int khasWritten, .ref knode, .int (nI knodes), .int (nI konesMany), .int (nI kwithin), .int (nI ktop)]))] H := hP
  have hD : va_D A [(o, .inr (12, [.int kthrown, .ref ktape, .int (nI 0), .int (nI ksize), .int (nI klimit), .int (nI kto), .int (nI kfrom), .int kkind, .int knumber, .int ksign, .int kfault, .int kplace, .long kword, .int ktold, .ref know, .ref kread, .ref kkept, .ref ksnaps, .ref kaside, .ref kname, .ref kreadName, .ref kkeptName, .ref kisKept, .ref konces, .int (nI ksnapMany), .int khasCells, .ref kpoured, .ref kfar, .ref ksides, .int (nI ksideMany), .int kwayDays, .int khasWay, .ref klines, .ref kmet, .int (nI kmetMany), .ref ksunk, .ref ktrying, .int (nI ksunkMany), .int ksending, .int kfleets, .ref ktext, .int (nI ktexts), .int kseed, .ref kline, .ref kwritten, .int (nI klineMany), .int khasWritten, .ref knode, .int (nI knodes), .int (nI konesMany), .int (nI kwithin), .int (nI ktop)]))] := hD
  refine lv_iload_n hx hb dX12_take_10 rfl (lv_at hl 0 rfl) ?_
  rw [hQ]
  exact W.iret (v := nI ktaped) hx hb hr (fun t9 ht9 hW9 => ⟨⟨nI ktaped, 0, rfl, ⟨(lf_x_take_1 ktaped iv_ko_0), (lf_x_take_2), rfl⟩, by rw [ht9]; exact hP, va_K.moved hW9.alike hK, hD⟩, hS.F ht9⟩) hS.2.2 dX12_take_11
set_option maxRecDepth 20000 in
theorem lf_x_isIn_1 (x : Int32) (a : Int32) (b : Int32) (c1 : x < a) : ((nI 0) = nI 1 ∧ (a.toInt ≤ x.toInt ∧ x.toInt ≤ b.toInt)) ∨ ((nI 0) = nI 0 ∧ (¬ (a.toInt ≤ x.toInt ∧ x.toInt ≤ b.toInt))) := by
  have b_x := ia_b x
  have b_a := ia_b a
  have b_b := ia_b b
  try have k_0 := ia_n 0 (by first | decide | omega)
  try have k_1 := ia_n 1 (by first | decide | omega)
  try simp only [ia_lt, ia_le, ia_eq, ia_m1, ia_0, ia_1, ne_eq, true_and, and_true, false_and, and_false, or_false, false_or, or_true, true_or, not_true_eq_false, not_false_eq_true] at *
  all_goals omega
set_option maxRecDepth 20000 in
theorem lf_x_isIn_2 (x : Int32) (a : Int32) (b : Int32) (c1 : ¬ x < a) (c2 : b < x) : ((nI 0) = nI 1 ∧ (a.toInt ≤ x.toInt ∧ x.toInt ≤ b.toInt)) ∨ ((nI 0) = nI 0 ∧ (¬ (a.toInt ≤ x.toInt ∧ x.toInt ≤ b.toInt))) := by
  have b_x := ia_b x
  have b_a := ia_b a
  have b_b := ia_b b
  try have k_0 := ia_n 0 (by first | decide | omega)
  try have k_1 := ia_n 1 (by first | decide | omega)
  try simp only [ia_lt, ia_le, ia_eq, ia_m1, ia_0, ia_1, ne_eq, true_and, and_true, false_and, and_false, or_false, false_or, or_true, true_or, not_true_eq_false, not_false_eq_true] at *
  all_goals omega
set_option maxRecDepth 20000 in
theorem lf_x_isIn_3 (x : Int32) (a : Int32) (b : Int32) (c1 : ¬ x < a) (c2 : ¬ b < x) : ((nI 1) = nI 1 ∧ (a.toInt ≤ x.toInt ∧ x.toInt ≤ b.toInt)) ∨ ((nI 1) = nI 0 ∧ (¬ (a.toInt ≤ x.toInt ∧ x.toInt ≤ b.toInt))) := by
  have b_x := ia_b x
  have b_a := ia_b a
  have b_b := ia_b b
  try have k_0 := ia_n 1 (by first | decide | omega)
  try have k_1 := ia_n 0 (by first | decide | omega)
  try simp only [ia_lt, ia_le, ia_eq, ia_m1, ia_0, ia_1, ne_eq, true_and, and_true, false_and, and_false, or_false, false_or, or_true, true_or, not_true_eq_false, not_false_eq_true] at *
  all_goals omega
set_option maxHeartbeats 4000000 in
set_option maxRecDepth 100000 in
theorem c_x_isIn (l : Launch) (dC : Nat → ClassId) (dI : Nat → Nat → Nat) (ky : Nat → ClassId) (x : Int32) (a : Int32) (b : Int32)  : Met l yX12_isIn wsX12_isIn ({ frames := 0, cells := 0, slots := 0, locals := 0 }) (PcP dC dI ky [.int x, .int a, .int b] []) (vp_Si (fun r : Int32 => (r = nI 1 ∧ (a.toInt ≤ x.toInt ∧ x.toInt ≤ b.toInt)) ∨ (r = nI 0 ∧ (¬ (a.toInt ≤ x.toInt ∧ x.toInt ≤ b.toInt))))) 0 0 (fun _ => False) := by
  refine Met.ofW (cc := cX12_isIn) (maxL := 3) (ret := (some .boolean)) (by decide) rfl ?_
  intro p e s m args below meth c s₁ B hml hv
  obtain ⟨rfl, hP, hK⟩ := hv
  have hx := B.exec
  have hb := B.bytes
  have hr := B.returns
  have hts := atoms_spec (ws := wsX12_isIn) B.pre
  have hown : s.vm.findClass RX12 = some m.cls := findClass_of_methodNamed B.named
  have hlocks := B.notSynchronized
  have hl := lv_entry ([.int x, .int a, .int b]) (n := 3) (Nat.le_of_ble_eq_true rfl)
  rw [lg_entry_eq]
  generalize (lg_sl ([.int x, .int a, .int b]) ++ List.replicate (3 - (lg_sl ([.int x, .int a, .int b])).length) Slot.unset).toArray = ls at hl ⊢
  have hl : lv_has ls 3 [(0, .int x), (1, .int a), (2, .int b)] := hl
  refine q_name (fun Q hQ => ?_)
  generalize ([.int x, .int a, .int b] : List Value).toArray = args at hts hQ ⊢
  refine lv_iload_n hx hb dX12_isIn_0 rfl (lv_at hl 0 rfl) ?_
  refine lv_iload_n hx hb dX12_isIn_1 rfl (lv_at hl 1 rfl) ?_
  refine lv_icmp_lt (tgt := 14) hx hb dX12_isIn_2 (by decide) (fun c1 => ?_) (fun c1 => ?_)
  · refine lv_iconst (v := nI 0) hx hb dX12_isIn_14 (by decide) ?_
    rw [hQ]
    exact W.zret (v := nI 0) hx hb hr (by decide) (fun t9 ht9 hW9 => ⟨nI 0, rfl, (lf_x_isIn_1 x a b c1), ht9⟩) (fun _ h => absurd h List.not_mem_nil) dX12_isIn_15
  · refine lv_iload_n hx hb dX12_isIn_5 rfl (lv_at hl 0 rfl) ?_
    refine lv_iload_n hx hb dX12_isIn_6 rfl (lv_at hl 2 rfl) ?_
    refine lv_icmp_gt (tgt := 14) hx hb dX12_isIn_7 (by decide) (fun c2 => ?_) (fun c2 => ?_)
    · refine lv_iconst (v := nI 0) hx hb dX12_isIn_14 (by decide) ?_
      rw [hQ]
      exact W.zret (v := nI 0) hx hb hr (by decide) (fun t9 ht9 hW9 => ⟨nI 0, rfl, (lf_x_isIn_2 x a b c1 c2), ht9⟩) (fun _ h => absurd h List.not_mem_nil) dX12_isIn_15
    · refine lv_iconst (v := nI 1) hx hb dX12_isIn_10 (by decide) ?_
      refine lv_goto (tgt := 15) hx hb dX12_isIn_11 (by decide) ?_
      rw [hQ]
      exact W.zret (v := nI 1) hx hb hr (by decide) (fun t9 ht9 hW9 => ⟨nI 1, rfl, (lf_x_isIn_3 x a b c1 c2), ht9⟩) (fun _ h => absurd h List.not_mem_nil) dX12_isIn_15
set_option maxRecDepth 20000 in
theorem lf_x_has_1   : (nI 0) = nI 0 ∨ (nI 0) = nI 1 := by
  try have k_0 := ia_n 0 (by first | decide | omega)
  try have k_1 := ia_n 1 (by first | decide | omega)
  try simp only [ia_lt, ia_le, ia_eq, ia_m1, ia_0, ia_1, ne_eq, true_and, and_true, false_and, and_false, or_false, false_or, or_true, true_or, not_true_eq_false, not_false_eq_true] at *
  all_goals omega
set_option maxRecDepth 20000 in
theorem lf_x_has_2   : (nI 1) = nI 0 ∨ (nI 1) = nI 1 := by
  try have k_0 := ia_n 1 (by first | decide | omega)
  try have k_1 := ia_n 0 (by first | decide | omega)
  try simp only [ia_lt, ia_le, ia_eq, ia_m1, ia_0, ia_1, ne_eq, true_and, and_true, false_and, and_false, or_false, false_or, or_true, true_or, not_true_eq_false, not_false_eq_true] at *
  all_goals omega
set_option maxHeartbeats 4000000 in
set_option maxRecDepth 100000 in
theorem c_x_has (l : Launch) (dC : Nat → ClassId) (dI : Nat → Nat → Nat) (ky : Nat → ClassId) (x : Int32) (y : Int32)  : Met l yX12_has wsX12_has ({ frames := 0, cells := 0, slots := 0, locals := 0 }) (PcP dC dI ky [.int x, .int y] []) (vp_Si (fun r : Int32 => r = nI 0 ∨ r = nI 1)) 0 0 (fun _ => False) := by
  refine Met.ofW (cc := cX12_has) (maxL := 2) (ret := (some .boolean)) (by decide) rfl ?_
  intro p e s m args below meth c s₁ B hml hv
  obtain ⟨rfl, hP, hK⟩ := hv
  have hx := B.exec
  have hb := B.bytes
  have hr := B.returns
  have hts := atoms_spec (ws := wsX12_has) B.pre
  have hown : s.vm.findClass RX12 = some m.cls := findClass_of_methodNamed B.named
  have hlocks := B.notSynchronized
  have hl := lv_entry ([.int x, .int y]) (n := 2) (Nat.le_of_ble_eq_true rfl)
  rw [lg_entry_eq]
  generalize (lg_sl ([.int x, .int y]) ++ List.replicate (2 - (lg_sl ([.int x, .int y])).length) Slot.unset).toArray = ls at hl ⊢
  have hl : lv_has ls 2 [(0, .int x), (1, .int y)] := hl
  refine q_name (fun Q hQ => ?_)
  generalize ([.int x, .int y] : List Value).toArray = args at hts hQ ⊢
  refine lv_iload_n hx hb dX12_has_0 rfl (lv_at hl 0 rfl) ?_
  refine lv_iload_n hx hb dX12_has_1 rfl (lv_at hl 1 rfl) ?_
  refine lv_ishr hx hb dX12_has_2 ?_
  refine lv_topi (fun y1 e2 => ?_)
  refine lv_iconst (v := nI 1) hx hb dX12_has_3 (by decide) ?_
  refine lv_iand hx hb dX12_has_4 ?_
  refine lv_topi (fun y3 e4 => ?_)
  refine lv_iconst (v := nI 1) hx hb dX12_has_5 (by decide) ?_
  refine lv_icmp_ne (tgt := 13) hx hb dX12_has_6 (by decide) (fun c5 => ?_) (fun c5 => ?_)
  · refine lv_iconst (v := nI 0) hx hb dX12_has_13 (by decide) ?_
    rw [hQ]
    exact W.zret (v := nI 0) hx hb hr (by decide) (fun t9 ht9 hW9 => ⟨nI 0, rfl, (lf_x_has_1), ht9⟩) (fun _ h => absurd h List.not_mem_nil) dX12_has_14
  · refine lv_iconst (v := nI 1) hx hb dX12_has_9 (by decide) ?_
    refine lv_goto (tgt := 14) hx hb dX12_has_10 (by decide) ?_
    rw [hQ]
    exact W.zret (v := nI 1) hx hb hr (by decide) (fun t9 ht9 hW9 => ⟨nI 1, rfl, (lf_x_has_2), ht9⟩) (fun _ h => absurd h List.not_mem_nil) dX12_has_14
set_option maxRecDepth 20000 in
theorem lf_x_bits_1 (x : Int32) (x6 : Int32) (x7 : Int32) (n9 : Nat) (y13 : Int32) (y15 : Int32) (y17 : Int32) (hm11 : x6.toBitVec.toNat < n9 + 1) (c12 : ¬ x6 = 0) (e14 : y13 = x7 + Int32.ofInt (1)) (e16 : y15 = x6 - (nI 1)) (e18 : y17 = x6 &&& y15) : y17.toBitVec.toNat < n9 := by
  subst_vars
  have h9 := bits_lt _ ‹_›
  omega
set_option maxHeartbeats 4000000 in
set_option maxRecDepth 100000 in
theorem c_x_bits (l : Launch) (dC : Nat → ClassId) (dI : Nat → Nat → Nat) (ky : Nat → ClassId) (x : Int32)  : Met l yX12_bits wsX12_bits ({ frames := 0, cells := 0, slots := 0, locals := 0 }) (PcP dC dI ky [.int x] []) (vp_Si (fun r : Int32 => True)) 0 0 (fun _ => False) := by
  refine Met.ofW (cc := cX12_bits) (maxL := 3) (ret := (some .int)) (by decide) rfl ?_
  intro p e s m args below meth c s₁ B hml hv
  obtain ⟨rfl, hP, hK⟩ := hv
  have hx := B.exec
  have hb := B.bytes
  have hr := B.returns
  have hts := atoms_spec (ws := wsX12_bits) B.pre
  have hown : s.vm.findClass RX12 = some m.cls := findClass_of_methodNamed B.named
  have hlocks := B.notSynchronized
  have hl := lv_entry ([.int x]) (n := 3) (Nat.le_of_ble_eq_true rfl)
  rw [lg_entry_eq]
  generalize (lg_sl ([.int x]) ++ List.replicate (3 - (lg_sl ([.int x])).length) Slot.unset).toArray = ls at hl ⊢
  have hl : lv_has ls 3 [(0, .int x)] := hl
  refine q_name (fun Q hQ => ?_)
  generalize ([.int x] : List Value).toArray = args at hts hQ ⊢
  refine lv_iconst (v := nI 0) hx hb dX12_bits_0 (by decide) ?_
  refine lv_istore_n (lv' := [(1, .int (nI 0)), (0, .int x)]) hx hb dX12_bits_1 rfl hl (by decide) rfl (fun ls hl => ?_)
  refine lv_iload_n hx hb dX12_bits_2 rfl (lv_at hl 1 rfl) ?_
  refine lv_istore_n (lv' := [(2, .int x), (1, .int (nI 0)), (0, .int x)]) hx hb dX12_bits_3 rfl hl (by decide) rfl (fun ls hl => ?_)
  have hL8 : ∀ (n9 : Nat) (x6 : Int32) (x7 : Int32), x6.toBitVec.toNat < n9 → ∀ (ls : Array Slot), lv_has ls 3 [(2, .int x6), (1, .int x7)] → W p l e (headSpec wsX12_bits ({ frames := 0, cells := 0, slots := 0, locals := 0 })).room s m args below meth c s.heap [] 0 0 Q (F0 m 4 ls []) := by
    intro n9
    induction n9 with
    | zero => intro x6 x7 h9; exact absurd h9 (Nat.not_lt_zero _)
    | succ n9 ih10 =>
      intro x6 x7 hm11 ls hl
      refine lv_iload_n hx hb dX12_bits_4 rfl (lv_at hl 0 rfl) ?_
      refine lv_if_eq (tgt := 20) hx hb dX12_bits_5 (by decide) (fun c12 => ?_) (fun c12 => ?_)
      · refine lv_iload_n hx hb dX12_bits_20 rfl (lv_at hl 1 rfl) ?_
        rw [hQ]
        exact W.iret (v := x7) hx hb hr (fun t9 ht9 hW9 => ⟨x7, rfl, trivial, ht9⟩) (fun _ h => absurd h List.not_mem_nil) dX12_bits_21
      · obtain ⟨y13, e14⟩ : ∃ z9 : Int32, z9 = x7 + Int32.ofInt (1) := ⟨_, rfl⟩
        refine lv_iinc (v := y13) (lv' := [(1, .int y13), (2, .int x6)]) hx hb dX12_bits_8 hl (k := 1) rfl e14.symm (by decide) rfl (fun ls hl => ?_)
        refine lv_iload_n hx hb dX12_bits_11 rfl (lv_at hl 1 rfl) ?_
        refine lv_iload_n hx hb dX12_bits_12 rfl (lv_at hl 1 rfl) ?_
        refine lv_iconst (v := nI 1) hx hb dX12_bits_13 (by decide) ?_
        refine lv_isub hx hb dX12_bits_14 ?_
        refine lv_topi (fun y15 e16 => ?_)
        refine lv_iand hx hb dX12_bits_15 ?_
        refine lv_topi (fun y17 e18 => ?_)
        refine lv_istore_n (lv' := [(2, .int y17), (1, .int y13)]) hx hb dX12_bits_16 rfl hl (by decide) rfl (fun ls hl => ?_)
        refine lv_goto (tgt := 4) hx hb dX12_bits_17 (by decide) ?_
        exact ih10 y17 y13  (lf_x_bits_1 x x6 x7 n9 y13 y15 y17 hm11 c12 e14 e16 e18) _ (lv_sub hl [0, 1] rfl)
  exact hL8 (x.toBitVec.toNat + 1) x (nI 0)  (Nat.lt_succ_self _) _ (lv_sub hl [0, 1] rfl)
set_option maxRecDepth 20000 in
theorem lf_x_least_1 (a : Int32) (b : Int32) (c1 : b ≤ a) : (b = a ∨ b = b) ∧ b.toInt ≤ a.toInt ∧ b.toInt ≤ b.toInt := by
  have b_a := ia_b a
  have b_b := ia_b b
  try simp only [ia_lt, ia_le, ia_eq, ia_m1, ia_0, ia_1, ne_eq, true_and, and_true, false_and, and_false, or_false, false_or, or_true, true_or, not_true_eq_false, not_false_eq_true] at *
  all_goals omega
set_option maxRecDepth 20000 in
theorem lf_x_least_2 (a : Int32) (b : Int32) (c1 : ¬ b ≤ a) : (a = a ∨ a = b) ∧ a.toInt ≤ a.toInt ∧ a.toInt ≤ b.toInt := by
  have b_a := ia_b a
  have b_b := ia_b b
  try simp only [ia_lt, ia_le, ia_eq, ia_m1, ia_0, ia_1, ne_eq, true_and, and_true, false_and, and_false, or_false, false_or, or_true, true_or, not_true_eq_false, not_false_eq_true] at *
  all_goals omega
set_option maxHeartbeats 4000000 in
set_option maxRecDepth 100000 in
theorem c_x_least (l : Launch) (dC : Nat → ClassId) (dI : Nat → Nat → Nat) (ky : Nat → ClassId) (a : Int32) (b : Int32)  : Met l yX12_least wsX12_least ({ frames := 0, cells := 0, slots := 0, locals := 0 }) (PcP dC dI ky [.int a, .int b] []) (vp_Si (fun r : Int32 => (r = a ∨ r = b) ∧ r.toInt ≤ a.toInt ∧ r.toInt ≤ b.toInt)) 0 0 (fun _ => False) := by
  refine Met.ofW (cc := cX12_least) (maxL := 2) (ret := (some .int)) (by decide) rfl ?_
  intro p e s m args below meth c s₁ B hml hv
  obtain ⟨rfl, hP, hK⟩ := hv
  have hx := B.exec
  have hb := B.bytes
  have hr := B.returns
  have hts := atoms_spec (ws := wsX12_least) B.pre
  have hown : s.vm.findClass RX12 = some m.cls := findClass_of_methodNamed B.named
  have hlocks := B.notSynchronized
  have hl := lv_entry ([.int a, .int b]) (n := 2) (Nat.le_of_ble_eq_true rfl)
  rw [lg_entry_eq]
  generalize (lg_sl ([.int a, .int b]) ++ List.replicate (2 - (lg_sl ([.int a, .int b])).length) Slot.unset).toArray = ls at hl ⊢
  have hl : lv_has ls 2 [(0, .int a), (1, .int b)] := hl
  refine q_name (fun Q hQ => ?_)
  generalize ([.int a, .int b] : List Value).toArray = args at hts hQ ⊢
  refine lv_iload_n hx hb dX12_least_0 rfl (lv_at hl 0 rfl) ?_
  refine lv_iload_n hx hb dX12_least_1 rfl (lv_at hl 1 rfl) ?_
  refine lv_icmp_ge (tgt := 9) hx hb dX12_least_2 (by decide) (fun c1 => ?_) (fun c1 => ?_)
  · refine lv_iload_n hx hb dX12_least_9 rfl (lv_at hl 1 rfl) ?_
    rw [hQ]
    exact W.iret (v := b) hx hb hr (fun t9 ht9 hW9 => ⟨b, rfl, (lf_x_least_1 a b c1), ht9⟩) (fun _ h => absurd h List.not_mem_nil) dX12_least_10
  · refine lv_iload_n hx hb dX12_least_5 rfl (lv_at hl 0 rfl) ?_
    refine lv_goto (tgt := 10) hx hb dX12_least_6 (by decide) ?_
    rw [hQ]
    exact W.iret (v := a) hx hb hr (fun t9 ht9 hW9 => ⟨a, rfl, (lf_x_least_2 a b c1), ht9⟩) (fun _ h => absurd h List.not_mem_nil) dX12_least_10
set_option maxHeartbeats 4000000 in
set_option maxRecDepth 100000 in
theorem c_x_size (l : Launch) (dC : Nat → ClassId) (dI : Nat → Nat → Nat) (ky : Nat → ClassId) (x : Int32)  : Met l yX12_size wsX12_size ({ frames := 0, cells := 0, slots := 0, locals := 0 }) (PcP dC dI ky [.int x] []) (vp_Si (fun r : Int32 => True)) 0 0 (fun _ => False) := by
  refine Met.ofW (cc := cX12_size) (maxL := 1) (ret := (some .int)) (by decide) rfl ?_
  intro p e s m args below meth c s₁ B hml hv
  obtain ⟨rfl, hP, hK⟩ := hv
  have hx := B.exec
  have hb := B.bytes
  have hr := B.returns
  have hts := atoms_spec (ws := wsX12_size) B.pre
  have hown : s.vm.findClass RX12 = some m.cls := findClass_of_methodNamed B.named
  have hlocks := B.notSynchronized
  have hl := lv_entry ([.int x]) (n := 1) (Nat.le_of_ble_eq_true rfl)
  rw [lg_entry_eq]
  generalize (lg_sl ([.int x]) ++ List.replicate (1 - (lg_sl ([.int x])).length) Slot.unset).toArray = ls at hl ⊢
  have hl : lv_has ls 1 [(0, .int x)] := hl
  refine q_name (fun Q hQ => ?_)
  generalize ([.int x] : List Value).toArray = args at hts hQ ⊢
  refine lv_iload_n hx hb dX12_size_0 rfl (lv_at hl 0 rfl) ?_
  refine lv_if_ge (tgt := 9) hx hb dX12_size_1 (by decide) (fun c1 => ?_) (fun c1 => ?_)
  · refine lv_iload_n hx hb dX12_size_9 rfl (lv_at hl 0 rfl) ?_
    rw [hQ]
    exact W.iret (v := x) hx hb hr (fun t9 ht9 hW9 => ⟨x, rfl, trivial, ht9⟩) (fun _ h => absurd h List.not_mem_nil) dX12_size_10
  · refine lv_iload_n hx hb dX12_size_4 rfl (lv_at hl 0 rfl) ?_
    refine lv_ineg hx hb dX12_size_5 ?_
    refine lv_topi (fun y2 e3 => ?_)
    refine lv_goto (tgt := 10) hx hb dX12_size_6 (by decide) ?_
    rw [hQ]
    exact W.iret (v := y2) hx hb hr (fun t9 ht9 hW9 => ⟨y2, rfl, trivial, ht9⟩) (fun _ h => absurd h List.not_mem_nil) dX12_size_10
set_option maxRecDepth 20000 in
theorem lf_x_common_1 (k9 : Nat) (j11 : k9 ≤ 9999) (j12 : 0 < k9) (j13 : k9 < 10000) : 0 < k9 ∧ k9 < 10000 := by
  try simp only [ia_lt, ia_le, ia_eq, ia_m1, ia_0, ia_1, ne_eq, true_and, and_true, false_and, and_false, or_false, false_or, or_true, true_or, not_true_eq_false, not_false_eq_true] at *
  all_goals omega
set_option maxRecDepth 20000 in
theorem lf_x_common_2 (k8 : Nat) (k9 : Nat) (n16 : Nat) (j10 : k8 ≤ 9999) (j11 : k9 ≤ 9999) (j12 : 0 < k9) (j13 : k9 < 10000) (j14 : k8 < 10000) (hm18 : k8 < n16 + 1) (c19 : 0 < k8) (f20 : k9 % k8 < k8) : (k9 % k8) ≤ 9999 := by
  try simp only [ia_lt, ia_le, ia_eq, ia_m1, ia_0, ia_1, ne_eq, true_and, and_true, false_and, and_false, or_false, false_or, or_true, true_or, not_true_eq_false, not_false_eq_true] at *
  all_goals omega
set_option maxRecDepth 20000 in
theorem lf_x_common_3 (k8 : Nat) (k9 : Nat) (n16 : Nat) (j10 : k8 ≤ 9999) (j11 : k9 ≤ 9999) (j12 : 0 < k9) (j13 : k9 < 10000) (j14 : k8 < 10000) (hm18 : k8 < n16 + 1) (c19 : 0 < k8) (f20 : k9 % k8 < k8) : (k9 % k8) < 10000 := by
  try simp only [ia_lt, ia_le, ia_eq, ia_m1, ia_0, ia_1, ne_eq, true_and, and_true, false_and, and_false, or_false, false_or, or_true, true_or, not_true_eq_false, not_false_eq_true] at *
  all_goals omega
set_option maxRecDepth 20000 in
theorem lf_x_common_4 (k8 : Nat) (k9 : Nat) (n16 : Nat) (j10 : k8 ≤ 9999) (j11 : k9 ≤ 9999) (j12 : 0 < k9) (j13 : k9 < 10000) (j14 : k8 < 10000) (hm18 : k8 < n16 + 1) (c19 : 0 < k8) (f20 : k9 % k8 < k8) : (k9 % k8) < n16 := by
  try simp only [ia_lt, ia_le, ia_eq, ia_m1, ia_0, ia_1, ne_eq, true_and, and_true, false_and, and_false, or_false, false_or, or_true, true_or, not_true_eq_false, not_false_eq_true] at *
  all_goals omega
set_option maxRecDepth 20000 in
theorem lf_x_common_5 (b : Nat) (hb2 : b < 10000) : b ≤ 9999 := by
  try simp only [ia_lt, ia_le, ia_eq, ia_m1, ia_0, ia_1, ne_eq, true_and, and_true, false_and, and_false, or_false, false_or, or_true, true_or, not_true_eq_false, not_false_eq_true] at *
  all_goals omega
set_option maxRecDepth 20000 in
theorem lf_x_common_6 (a : Nat) (ha : 0 < a) (ha2 : a < 10000) : a ≤ 9999 := by
  try simp only [ia_lt, ia_le, ia_eq, ia_m1, ia_0, ia_1, ne_eq, true_and, and_true, false_and, and_false, or_false, false_or, or_true, true_or, not_true_eq_false, not_false_eq_true] at *
  all_goals omega
set_option maxHeartbeats 4000000 in
set_option maxRecDepth 100000 in
theorem c_x_common (l : Launch) (dC : Nat → ClassId) (dI : Nat → Nat → Nat) (ky : Nat → ClassId) (a : Nat) (b : Nat) (ha : 0 < a) (ha2 : a < 10000) (hb2 : b < 10000) : Met l yX12_common wsX12_common ({ frames := 0, cells := 0, slots := 0, locals := 0 }) (PcP dC dI ky [.int (nI a), .int (nI b)] []) (vp_Si (fun r : Int32 => ∃ k9 : Nat, (0 < k9 ∧ k9 < 10000) ∧ r = nI k9)) 0 0 (fun _ => False) := by
  refine Met.ofW (cc := cX12_common) (maxL := 5) (ret := (some .int)) (by decide) rfl ?_
  intro p e s m args below meth c s₁ B hml hv
  obtain ⟨rfl, hP, hK⟩ := hv
  have hx := B.exec
  have hb := B.bytes
  have hr := B.returns
  have hts := atoms_spec (ws := wsX12_common) B.pre
  have hown : s.vm.findClass RX12 = some m.cls := findClass_of_methodNamed B.named
  have hlocks := B.notSynchronized
  have hl := lv_entry ([.int (nI a), .int (nI b)]) (n := 5) (Nat.le_of_ble_eq_true rfl)
  rw [lg_entry_eq]
  generalize (lg_sl ([.int (nI a), .int (nI b)]) ++ List.replicate (5 - (lg_sl ([.int (nI a), .int (nI b)])).length) Slot.unset).toArray = ls at hl ⊢
  have hl : lv_has ls 5 [(0, .int (nI a)), (1, .int (nI b))] := hl
  refine q_name (fun Q hQ => ?_)
  generalize ([.int (nI a), .int (nI b)] : List Value).toArray = args at hts hQ ⊢
  refine lv_iload_n hx hb dX12_common_0 rfl (lv_at hl 0 rfl) ?_
  refine lv_istore_n (lv' := [(2, .int (nI a)), (0, .int (nI a)), (1, .int (nI b))]) hx hb dX12_common_1 rfl hl (by decide) rfl (fun ls hl => ?_)
  refine lv_iload_n hx hb dX12_common_2 rfl (lv_at hl 2 rfl) ?_
  refine lv_istore_n (lv' := [(3, .int (nI b)), (2, .int (nI a)), (0, .int (nI a)), (1, .int (nI b))]) hx hb dX12_common_3 rfl hl (by decide) rfl (fun ls hl => ?_)
  have hL15 : ∀ (n16 : Nat) (k8 : Nat) (k9 : Nat), (k8 ≤ 9999) → (k9 ≤ 9999) → (0 < k9) → (k9 < 10000) → (k8 < 10000) → k8 < n16 → ∀ (ls : Array Slot), lv_has ls 5 [(3, .int (nI k8)), (2, .int (nI k9))] → W p l e (headSpec wsX12_common ({ frames := 0, cells := 0, slots := 0, locals := 0 })).room s m args below meth c s.heap [] 0 0 Q (F0 m 4 ls []) := by
    intro n16
    induction n16 with
    | zero => intro k8 k9 _ _ _ _ _ h9; exact absurd h9 (Nat.not_lt_zero _)
    | succ n16 ih17 =>
      intro k8 k9 j10 j11 j12 j13 j14 hm18 ls hl
      refine lv_iload_n hx hb dX12_common_4 rfl (lv_at hl 0 rfl) ?_
      refine n_if_eq (x := k8) (tgt := 21) hx hb (by omega) dX12_common_5 (by decide) (fun c19 => ?_) (fun c19 => ?_)
      · refine lv_iload_n hx hb dX12_common_21 rfl (lv_at hl 1 rfl) ?_
        rw [hQ]
        exact W.iret (v := nI k9) hx hb hr (fun t9 ht9 hW9 => ⟨nI k9, rfl, ⟨k9, (lf_x_common_1 k9 j11 j12 j13), rfl⟩, ht9⟩) (fun _ h => absurd h List.not_mem_nil) dX12_common_22
      · refine lv_iload_n hx hb dX12_common_8 rfl (lv_at hl 1 rfl) ?_
        refine lv_iload_n hx hb dX12_common_9 rfl (lv_at hl 0 rfl) ?_
        refine lv_irem hx hb dX12_common_10 (nI_ne0 (by omega) (by omega)) ?_
        refine r_ti (nI (k9 % k8)) (pk_rem (by omega) (by omega) (by omega)) ?_
        have f20 : k9 % k8 < k8 := Nat.mod_lt _ (by omega)
        refine lv_istore (lv' := [(4, .int (nI (k9 % k8))), (3, .int (nI k8)), (2, .int (nI k9))]) hx hb dX12_common_11 hl (by decide) rfl (fun ls hl => ?_)
        refine lv_iload_n hx hb dX12_common_13 rfl (lv_at hl 1 rfl) ?_
        refine lv_istore_n (lv' := [(2, .int (nI k8)), (4, .int (nI (k9 % k8))), (3, .int (nI k8))]) hx hb dX12_common_14 rfl hl (by decide) rfl (fun ls hl => ?_)
        refine lv_iload hx hb dX12_common_15 (lv_at hl 1 rfl) ?_
        refine lv_istore_n (lv' := [(3, .int (nI (k9 % k8))), (2, .int (nI k8)), (4, .int (nI (k9 % k8)))]) hx hb dX12_common_17 rfl hl (by decide) rfl (fun ls hl => ?_)
        refine lv_goto (tgt := 4) hx hb dX12_common_18 (by decide) ?_
        exact ih17 (k9 % k8) k8 (lf_x_common_2 k8 k9 n16 j10 j11 j12 j13 j14 hm18 c19 f20) j10 c19 j14 (lf_x_common_3 k8 k9 n16 j10 j11 j12 j13 j14 hm18 c19 f20) (lf_x_common_4 k8 k9 n16 j10 j11 j12 j13 j14 hm18 c19 f20) _ (lv_sub hl [0, 1] rfl)
  exact hL15 (b + 1) b a (lf_x_common_5 b hb2) (lf_x_common_6 a ha ha2) ha ha2 hb2 (Nat.lt_succ_self _) _ (lv_sub hl [0, 1] rfl)
set_option maxHeartbeats 4000000 in
set_option maxRecDepth 100000 in
theorem c_x_spelt (l : Launch) (dC : Nat → ClassId) (dI : Nat → Nat → Nat) (ky : Nat → ClassId) (sz : Nat) (x : Int32) (y : Int32) (z : Int32) (u : Int32) (v : Int32) (q : Int32)  : Met l yX12_spelt wsX12_spelt ({ frames := 0, cells := 0, slots := 0, locals := 0 }) (PcU dC dI ky [.int x, .int y, .int z, .int u, .int v, .int q] [] sz) (va_Ql (fun (r : Int64) (_ : Unit) => True) (BU dC dI ky (fun (_ : Unit) => []) (va_A [] sz)) (va_A [] sz)) 0 0 (va_A [] sz) := by
  refine Met.ofW (cc := cX12_spelt) (maxL := 8) (ret := (some .long)) (by decide) rfl ?_
  intro p e s m args below meth c s₁ B hml hv
  obtain ⟨rfl, hsz, hP, hK, hD0⟩ := hv
  have hx := B.exec
  have hb := B.bytes
  have hr := B.returns
  have hts := atoms_spec (ws := wsX12_spelt) B.pre
  have hown : s.vm.findClass RX12 = some m.cls := findClass_of_methodNamed B.named
  have hlocks := B.notSynchronized
  subst hsz
  have hD := hD0.self (sz := s.heap.size)
  generalize hAe : va_A [] s.heap.size = A at hD ⊢
  have hA : ∀ q : Nat, s.heap.size ≤ q → A q := fun q h => by rw [← hAe]; exact Or.inr h
  have hS : va_S A s.heap s.heap [] := va_S.rf
  have hl := lv_entry ([.int x, .int y, .int z, .int u, .int v, .int q]) (n := 8) (Nat.le_of_ble_eq_true rfl)
  rw [lg_entry_eq]
  generalize (lg_sl ([.int x, .int y, .int z, .int u, .int v, .int q]) ++ List.replicate (8 - (lg_sl ([.int x, .int y, .int z, .int u, .int v, .int q])).length) Slot.unset).toArray = ls at hl ⊢
  have hl : lv_has ls 8 [(0, .int x), (1, .int y), (2, .int z), (3, .int u), (4, .int v), (5, .int q)] := hl
  refine q_name (fun Q hQ => ?_)
  generalize ([.int x, .int y, .int z, .int u, .int v, .int q] : List Value).toArray = args at hts hQ ⊢
  refine lv_ldc2 (v := 27) hx hb hown (hts _ (List.mem_of_getElem? (i := 1) rfl)) dX12_spelt_0 ?_
  refine lv_iload_n hx hb dX12_spelt_3 rfl (lv_at hl 0 rfl) ?_
  obtain ⟨w1, e2⟩ : ∃ z9 : Int64, z9 = (x).toInt64 := ⟨_, rfl⟩
  refine lv_i2l (v := w1) hx hb dX12_spelt_4 e2.symm ?_
  refine lv_ldc2 (v := 96) hx hb hown (hts _ (List.mem_of_getElem? (i := 2) rfl)) dX12_spelt_5 ?_
  refine lv_lsub hx hb dX12_spelt_8 ?_
  refine lv_topl (fun w3 e4 => ?_)
  refine lv_lmul hx hb dX12_spelt_9 ?_
  refine lv_topl (fun w5 e6 => ?_)
  refine lv_iload_n hx hb dX12_spelt_10 rfl (lv_at hl 1 rfl) ?_
  obtain ⟨w7, e8⟩ : ∃ z9 : Int64, z9 = (y).toInt64 := ⟨_, rfl⟩
  refine lv_i2l (v := w7) hx hb dX12_spelt_11 e8.symm ?_
  refine lv_ladd hx hb dX12_spelt_12 ?_
  refine lv_topl (fun w9 e10 => ?_)
  refine lv_ldc2 (v := 96) hx hb hown (hts _ (List.mem_of_getElem? (i := 2) rfl)) dX12_spelt_13 ?_
  refine lv_lsub hx hb dX12_spelt_16 ?_
  refine lv_topl (fun w11 e12 => ?_)
  refine lv_lstore (lv' := [(6, .long w11), (0, .int x), (1, .int y), (2, .int z), (3, .int u), (4, .int v), (5, .int q)]) hx hb dX12_spelt_17 hl (by decide) rfl (fun ls hl => ?_)
  refine lv_iload_n hx hb dX12_spelt_19 rfl (lv_at hl 3 rfl) ?_
  have hJ15 : ∀ (w14 : Int64), ∀ (H : Heap) (locs : List Loc) (ls : Array Slot), va_P (dC, dI) vwCl [] H → va_D A [] → va_S A s.heap H locs → lv_has ls 8 [(6, .long w14), (3, .int u), (4, .int v), (5, .int q)] → W p l e (headSpec wsX12_spelt ({ frames := 0, cells := 0, slots := 0, locals := 0 })).room s m args below meth c H locs 0 0 Q (F0 m 38 ls []) := by
    intro w14 H locs ls hP hD hS hl
    refine lv_iload_n hx hb dX12_spelt_38 rfl (lv_at hl 1 rfl) ?_
    have hJ18 : ∀ (w17 : Int64), ∀ (H : Heap) (locs : List Loc) (ls : Array Slot), va_P (dC, dI) vwCl [] H → va_D A [] → va_S A s.heap H locs → lv_has ls 8 [(6, .long w17), (4, .int v), (5, .int q)] → W p l e (headSpec wsX12_spelt ({ frames := 0, cells := 0, slots := 0, locals := 0 })).room s m args below meth c H locs 0 0 Q (F0 m 57 ls []) := by
      intro w17 H locs ls hP hD hS hl
      refine lv_iload hx hb dX12_spelt_57 (lv_at hl 1 rfl) ?_
      have hJ21 : ∀ (w20 : Int64), ∀ (H : Heap) (locs : List Loc) (ls : Array Slot), va_P (dC, dI) vwCl [] H → va_D A [] → va_S A s.heap H locs → lv_has ls 8 [(6, .long w20), (5, .int q)] → W p l e (headSpec wsX12_spelt ({ frames := 0, cells := 0, slots := 0, locals := 0 })).room s m args below meth c H locs 0 0 Q (F0 m 78 ls []) := by
        intro w20 H locs ls hP hD hS hl
        refine lv_iload hx hb dX12_spelt_78 (lv_at hl 1 rfl) ?_
        refine lv_if_le (tgt := 99) hx hb dX12_spelt_80 (by decide) (fun c22 => ?_) (fun c22 => ?_)
        · refine lv_lload hx hb dX12_spelt_99 (lv_at hl 0 rfl) ?_
          rw [hQ]
          exact W.lret (v := w20) hx hb hr (fun t9 ht9 hW9 => ⟨⟨w20, (), rfl, trivial, by rw [ht9]; exact hP, va_K.moved hW9.alike hK, hD⟩, hS.F ht9⟩) hS.2.2 dX12_spelt_101
        · refine lv_ldc2 (v := 27) hx hb hown (hts _ (List.mem_of_getElem? (i := 1) rfl)) dX12_spelt_83 ?_
          refine lv_lload hx hb dX12_spelt_86 (lv_at hl 0 rfl) ?_
          refine lv_lmul hx hb dX12_spelt_88 ?_
          refine lv_topl (fun w23 e24 => ?_)
          refine lv_iload hx hb dX12_spelt_89 (lv_at hl 1 rfl) ?_
          obtain ⟨w25, e26⟩ : ∃ z9 : Int64, z9 = (q).toInt64 := ⟨_, rfl⟩
          refine lv_i2l (v := w25) hx hb dX12_spelt_91 e26.symm ?_
          refine lv_ladd hx hb dX12_spelt_92 ?_
          refine lv_topl (fun w27 e28 => ?_)
          refine lv_ldc2 (v := 96) hx hb hown (hts _ (List.mem_of_getElem? (i := 2) rfl)) dX12_spelt_93 ?_
          refine lv_lsub hx hb dX12_spelt_96 ?_
          refine lv_topl (fun w29 e30 => ?_)
          refine lv_lstore (lv' := [(6, .long w29), (5, .int q)]) hx hb dX12_spelt_97 hl (by decide) rfl (fun ls hl => ?_)
          refine lv_lload hx hb dX12_spelt_99 (lv_at hl 0 rfl) ?_
          rw [hQ]
          exact W.lret (v := w29) hx hb hr (fun t9 ht9 hW9 => ⟨⟨w29, (), rfl, trivial, by rw [ht9]; exact hP, va_K.moved hW9.alike hK, hD⟩, hS.F ht9⟩) hS.2.2 dX12_spelt_101
      refine lv_if_le (tgt := 78) hx hb dX12_spelt_59 (by decide) (fun c19 => ?_) (fun c19 => ?_)
      · exact hJ21 w17  _ _ _ hP hD hS (lv_sub hl [0, 2] rfl)
      · refine lv_ldc2 (v := 27) hx hb hown (hts _ (List.mem_of_getElem? (i := 1) rfl)) dX12_spelt_62 ?_
        refine lv_lload hx hb dX12_spelt_65 (lv_at hl 0 rfl) ?_
        refine lv_lmul hx hb dX12_spelt_67 ?_
        refine lv_topl (fun w31 e32 => ?_)
        refine lv_iload hx hb dX12_spelt_68 (lv_at hl 1 rfl) ?_
        obtain ⟨w33, e34⟩ : ∃ z9 : Int64, z9 = (v).toInt64 := ⟨_, rfl⟩
        refine lv_i2l (v := w33) hx hb dX12_spelt_70 e34.symm ?_
        refine lv_ladd hx hb dX12_spelt_71 ?_
        refine lv_topl (fun w35 e36 => ?_)
        refine lv_ldc2 (v := 96) hx hb hown (hts _ (List.mem_of_getElem? (i := 2) rfl)) dX12_spelt_72 ?_
        refine lv_lsub hx hb dX12_spelt_75 ?_
        refine lv_topl (fun w37 e38 => ?_)
        refine lv_lstore (lv' := [(6, .long w37), (4, .int v), (5, .int q)]) hx hb dX12_spelt_76 hl (by decide) rfl (fun ls hl => ?_)
        exact hJ21 w37  _ _ _ hP hD hS (lv_sub hl [0, 2] rfl)
    refine lv_if_le (tgt := 57) hx hb dX12_spelt_39 (by decide) (fun c16 => ?_) (fun c16 => ?_)
    · exact hJ18 w14  _ _ _ hP hD hS (lv_sub hl [0, 2, 3] rfl)
    · refine lv_ldc2 (v := 27) hx hb hown (hts _ (List.mem_of_getElem? (i := 1) rfl)) dX12_spelt_42 ?_
      refine lv_lload hx hb dX12_spelt_45 (lv_at hl 0 rfl) ?_
      refine lv_lmul hx hb dX12_spelt_47 ?_
      refine lv_topl (fun w39 e40 => ?_)
      refine lv_iload_n hx hb dX12_spelt_48 rfl (lv_at hl 1 rfl) ?_
      obtain ⟨w41, e42⟩ : ∃ z9 : Int64, z9 = (u).toInt64 := ⟨_, rfl⟩
      refine lv_i2l (v := w41) hx hb dX12_spelt_49 e42.symm ?_
      refine lv_ladd hx hb dX12_spelt_50 ?_
      refine lv_topl (fun w43 e44 => ?_)
      refine lv_ldc2 (v := 96) hx hb hown (hts _ (List.mem_of_getElem? (i := 2) rfl)) dX12_spelt_51 ?_
      refine lv_lsub hx hb dX12_spelt_54 ?_
      refine lv_topl (fun w45 e46 => ?_)
      refine lv_lstore (lv' := [(6, .long w45), (3, .int u), (4, .int v), (5, .int q)]) hx hb dX12_spelt_55 hl (by decide) rfl (fun ls hl => ?_)
      exact hJ18 w45  _ _ _ hP hD hS (lv_sub hl [0, 2, 3] rfl)
  refine lv_if_le (tgt := 38) hx hb dX12_spelt_20 (by decide) (fun c13 => ?_) (fun c13 => ?_)
  · exact hJ15 w11  _ _ _ hP hD hS (lv_sub hl [0, 4, 5, 6] rfl)
  · refine lv_ldc2 (v := 27) hx hb hown (hts _ (List.mem_of_getElem? (i := 1) rfl)) dX12_spelt_23 ?_
    refine lv_lload hx hb dX12_spelt_26 (lv_at hl 0 rfl) ?_
    refine lv_lmul hx hb dX12_spelt_28 ?_
    refine lv_topl (fun w47 e48 => ?_)
    refine lv_iload_n hx hb dX12_spelt_29 rfl (lv_at hl 3 rfl) ?_
    obtain ⟨w49, e50⟩ : ∃ z9 : Int64, z9 = (z).toInt64 := ⟨_, rfl⟩
    refine lv_i2l (v := w49) hx hb dX12_spelt_30 e50.symm ?_
    refine lv_ladd hx hb dX12_spelt_31 ?_
    refine lv_topl (fun w51 e52 => ?_)
    refine lv_ldc2 (v := 96) hx hb hown (hts _ (List.mem_of_getElem? (i := 2) rfl)) dX12_spelt_32 ?_
    refine lv_lsub hx hb dX12_spelt_35 ?_
    refine lv_topl (fun w53 e54 => ?_)
    refine lv_lstore (lv' := [(6, .long w53), (0, .int x), (1, .int y), (2, .int z), (3, .int u), (4, .int v), (5, .int q)]) hx hb dX12_spelt_36 hl (by decide) rfl (fun ls hl => ?_)
    exact hJ15 w53  _ _ _ hP hD hS (lv_sub hl [0, 4, 5, 6] rfl)
set_option maxHeartbeats 4000000 in
set_option maxRecDepth 100000 in
theorem c_x_wordOf (l : Launch) (dC : Nat → ClassId) (dI : Nat → Nat → Nat) (ky : Nat → ClassId) (sz : Nat) (x : Int32)  : Met l yX12_wordOf wsX12_wordOf ({ frames := 1, cells := 0, slots := 0, locals := 27 }) (PcU dC dI ky [.int x] [] sz) (va_Ql (fun (r : Int64) (_ : Unit) => True) (BU dC dI ky (fun (_ : Unit) => []) (va_A [] sz)) (va_A [] sz)) 0 0 (va_A [] sz) := by
  refine Met.ofW (cc := cX12_wordOf) (maxL := 1) (ret := (some .long)) (by decide) rfl ?_
  intro p e s m args below meth c s₁ B hml hv
  obtain ⟨rfl, hsz, hP, hK, hD0⟩ := hv
  have hx := B.exec
  have hb := B.bytes
  have hr := B.returns
  have hts := atoms_spec (ws := wsX12_wordOf) B.pre
  have hown : s.vm.findClass RX12 = some m.cls := findClass_of_methodNamed B.named
  have hlocks := B.notSynchronized
  subst hsz
  have hD := hD0.self (sz := s.heap.size)
  generalize hAe : va_A [] s.heap.size = A at hD ⊢
  have hA : ∀ q : Nat, s.heap.size ≤ q → A q := fun q h => by rw [← hAe]; exact Or.inr h
  have hS : va_S A s.heap s.heap [] := va_S.rf
  have hl := lv_entry ([.int x]) (n := 1) (Nat.le_of_ble_eq_true rfl)
  rw [lg_entry_eq]
  generalize (lg_sl ([.int x]) ++ List.replicate (1 - (lg_sl ([.int x])).length) Slot.unset).toArray = ls at hl ⊢
  have hl : lv_has ls 1 [(0, .int x)] := hl
  refine q_name (fun Q hQ => ?_)
  generalize ([.int x] : List Value).toArray = args at hts hQ ⊢
  refine lv_iload_n hx hb dX12_wordOf_0 rfl (lv_at hl 0 rfl) ?_
  rcases sw_0_29 x with c2 | c3 | c4 | c5 | c6 | c7 | c8 | c9 | c10 | c11 | c12 | c13 | c14 | c15 | c16 | c17 | c18 | c19 | c20 | c21 | c22 | c23 | c24 | c25 | c26 | c27 | c28 | c29 | c30 | c31 | c32
  · refine lv_tableOut (tgt := 559) hx hb dX12_wordOf_1 c2 (by decide) ?_
    refine lv_bipush (v := nI 110) hx hb dX12_wordOf_559 (by decide) ?_
    refine lv_bipush (v := nI 117) hx hb dX12_wordOf_561 (by decide) ?_
    refine lv_bipush (v := nI 109) hx hb dX12_wordOf_563 (by decide) ?_
    refine lv_bipush (v := nI 98) hx hb dX12_wordOf_565 (by decide) ?_
    refine lv_bipush (v := nI 101) hx hb dX12_wordOf_567 (by decide) ?_
    refine lv_bipush (v := nI 114) hx hb dX12_wordOf_569 (by decide) ?_
    refine r_call_l (wr := []) (va_runS (As := [.int (nI 110), .int (nI 117), .int (nI 109), .int (nI 98), .int (nI 101), .int (nI 114)]) (rest := []) ⟨hx, hb, hml, hown, hts⟩ (c_x_spelt l dC dI ky s.heap.size (nI 110) (nI 117) (nI 109) (nI 98) (nI 101) (nI 114)) (va_cwS 6 hts gX12_wordOf_X12_spelt rfl rfl rfl (by decide +kernel) ⟨(Nat.le_of_ble_eq_true rfl), (Nat.le_of_ble_eq_true rfl)⟩) (pre_US hK hP hD [] (by decide) rfl) rfl rfl hl.1 rfl (lv_room (Nat.le_of_ble_eq_true rfl)) dX12_wordOf_571 ⟨(Nat.le_of_ble_eq_true rfl), (Nat.le_of_ble_eq_true rfl)⟩) hP hD hS hA [] [] rfl rfl (by decide) (by decide) (fun r35 u33 H locs p34 hP hD hS => ?_)
    refine W.widen (k := 0) (n := 0) (Nat.le_of_ble_eq_true rfl) (Nat.le_of_ble_eq_true rfl) ?_
    have hP : va_P (dC, dI) vwCl [] H := hP
    have hD : va_D A [] := hD
    rw [hQ]
    exact W.lret (v := r35) hx hb hr (fun t9 ht9 hW9 => ⟨⟨r35, (), rfl, trivial, by rw [ht9]; exact hP, va_K.moved hW9.alike hK, hD⟩, hS.F ht9⟩) hS.2.2 dX12_wordOf_574
  · refine r_ti (nI 0) c3 ?_
    rw [c3] at hl
    refine lv_tableIn (off := 135) (tgt := 136) hx hb dX12_wordOf_1 (by decide) (by decide) rfl (by decide) ?_
    refine lv_bipush (v := nI 115) hx hb dX12_wordOf_136 (by decide) ?_
    refine lv_bipush (v := nI 101) hx hb dX12_wordOf_138 (by decide) ?_
    refine lv_bipush (v := nI 97) hx hb dX12_wordOf_140 (by decide) ?_
    refine lv_iconst (v := nI 0) hx hb dX12_wordOf_142 (by decide) ?_
    refine lv_iconst (v := nI 0) hx hb dX12_wordOf_143 (by decide) ?_
    refine lv_iconst (v := nI 0) hx hb dX12_wordOf_144 (by decide) ?_
    refine r_call_l (wr := []) (va_runS (As := [.int (nI 115), .int (nI 101), .int (nI 97), .int (nI 0), .int (nI 0), .int (nI 0)]) (rest := []) ⟨hx, hb, hml, hown, hts⟩ (c_x_spelt l dC dI ky s.heap.size (nI 115) (nI 101) (nI 97) (nI 0) (nI 0) (nI 0)) (va_cwS 6 hts gX12_wordOf_X12_spelt rfl rfl rfl (by decide +kernel) ⟨(Nat.le_of_ble_eq_true rfl), (Nat.le_of_ble_eq_true rfl)⟩) (pre_US hK hP hD [] (by decide) rfl) rfl rfl hl.1 rfl (lv_room (Nat.le_of_ble_eq_true rfl)) dX12_wordOf_145 ⟨(Nat.le_of_ble_eq_true rfl), (Nat.le_of_ble_eq_true rfl)⟩) hP hD hS hA [] [] rfl rfl (by decide) (by decide) (fun r38 u36 H locs p37 hP hD hS => ?_)
    refine W.widen (k := 0) (n := 0) (Nat.le_of_ble_eq_true rfl) (Nat.le_of_ble_eq_true rfl) ?_
    have hP : va_P (dC, dI) vwCl [] H := hP
    have hD : va_D A [] := hD
    rw [hQ]
    exact W.lret (v := r38) hx hb hr (fun t9 ht9 hW9 => ⟨⟨r38, (), rfl, trivial, by rw [ht9]; exact hP, va_K.moved hW9.alike hK, hD⟩, hS.F ht9⟩) hS.2.2 dX12_wordOf_148
  · refine r_ti (nI 1) c4 ?_
    rw [c4] at hl
    refine lv_tableIn (off := 148) (tgt := 149) hx hb dX12_wordOf_1 (by decide) (by decide) rfl (by decide) ?_
    refine lv_bipush (v := nI 116) hx hb dX12_wordOf_149 (by decide) ?_
    refine lv_bipush (v := nI 104) hx hb dX12_wordOf_151 (by decide) ?_
    refine lv_bipush (v := nI 105) hx hb dX12_wordOf_153 (by decide) ?_
    refine lv_bipush (v := nI 99) hx hb dX12_wordOf_155 (by decide) ?_
    refine lv_bipush (v := nI 107) hx hb dX12_wordOf_157 (by decide) ?_
    refine lv_iconst (v := nI 0) hx hb dX12_wordOf_159 (by decide) ?_
    refine r_call_l (wr := []) (va_runS (As := [.int (nI 116), .int (nI 104), .int (nI 105), .int (nI 99), .int (nI 107), .int (nI 0)]) (rest := []) ⟨hx, hb, hml, hown, hts⟩ (c_x_spelt l dC dI ky s.heap.size (nI 116) (nI 104) (nI 105) (nI 99) (nI 107) (nI 0)) (va_cwS 6 hts gX12_wordOf_X12_spelt rfl rfl rfl (by decide +kernel) ⟨(Nat.le_of_ble_eq_true rfl), (Nat.le_of_ble_eq_true rfl)⟩) (pre_US hK hP hD [] (by decide) rfl) rfl rfl hl.1 rfl (lv_room (Nat.le_of_ble_eq_true rfl)) dX12_wordOf_160 ⟨(Nat.le_of_ble_eq_true rfl), (Nat.le_of_ble_eq_true rfl)⟩) hP hD hS hA [] [] rfl rfl (by decide) (by decide) (fun r41 u39 H locs p40 hP hD hS => ?_)
    refine W.widen (k := 0) (n := 0) (Nat.le_of_ble_eq_true rfl) (Nat.le_of_ble_eq_true rfl) ?_
    have hP : va_P (dC, dI) vwCl [] H := hP
    have hD : va_D A [] := hD
    rw [hQ]
    exact W.lret (v := r41) hx hb hr (fun t9 ht9 hW9 => ⟨⟨r41, (), rfl, trivial, by rw [ht9]; exact hP, va_K.moved hW9.alike hK, hD⟩, hS.F ht9⟩) hS.2.2 dX12_wordOf_163
  · refine r_ti (nI 2) c5 ?_
    rw [c5] at hl
    refine lv_tableIn (off := 163) (tgt := 164) hx hb dX12_wordOf_1 (by decide) (by decide) rfl (by decide) ?_
    refine lv_bipush (v := nI 108) hx hb dX12_wordOf_164 (by decide) ?_
    refine lv_bipush (v := nI 117) hx hb dX12_wordOf_166 (by decide) ?_
    refine lv_bipush (v := nI 109) hx hb dX12_wordOf_168 (by decide) ?_
    refine lv_bipush (v := nI 112) hx hb dX12_wordOf_170 (by decide) ?_
    refine lv_iconst (v := nI 0) hx hb dX12_wordOf_172 (by decide) ?_
    refine lv_iconst (v := nI 0) hx hb dX12_wordOf_173 (by decide) ?_
    refine r_call_l (wr := []) (va_runS (As := [.int (nI 108), .int (nI 117), .int (nI 109), .int (nI 112), .int (nI 0), .int (nI 0)]) (rest := []) ⟨hx, hb, hml, hown, hts⟩ (c_x_spelt l dC dI ky s.heap.size (nI 108) (nI 117) (nI 109) (nI 112) (nI 0) (nI 0)) (va_cwS 6 hts gX12_wordOf_X12_spelt rfl rfl rfl (by decide +kernel) ⟨(Nat.le_of_ble_eq_true rfl), (Nat.le_of_ble_eq_true rfl)⟩) (pre_US hK hP hD [] (by decide) rfl) rfl rfl hl.1 rfl (lv_room (Nat.le_of_ble_eq_true rfl)) dX12_wordOf_174 ⟨(Nat.le_of_ble_eq_true rfl), (Nat.le_of_ble_eq_true rfl)⟩) hP hD hS hA [] [] rfl rfl (by decide) (by decide) (fun r44 u42 H locs p43 hP hD hS => ?_)
    refine W.widen (k := 0) (n := 0) (Nat.le_of_ble_eq_true rfl) (Nat.le_of_ble_eq_true rfl) ?_
    have hP : va_P (dC, dI) vwCl [] H := hP
    have hD : va_D A [] := hD
    rw [hQ]
    exact W.lret (v := r44) hx hb hr (fun t9 ht9 hW9 => ⟨⟨r44, (), rfl, trivial, by rw [ht9]; exact hP, va_K.moved hW9.alike hK, hD⟩, hS.F ht9⟩) hS.2.2 dX12_wordOf_177
  · refine r_ti (nI 3) c6 ?_
    rw [c6] at hl
    refine lv_tableIn (off := 177) (tgt := 178) hx hb dX12_wordOf_1 (by decide) (by decide) rfl (by decide) ?_
    refine lv_bipush (v := nI 98) hx hb dX12_wordOf_178 (by decide) ?_
    refine lv_bipush (v := nI 111) hx hb dX12_wordOf_180 (by decide) ?_
    refine lv_bipush (v := nI 97) hx hb dX12_wordOf_182 (by decide) ?_
    refine lv_bipush (v := nI 116) hx hb dX12_wordOf_184 (by decide) ?_
    refine lv_iconst (v := nI 0) hx hb dX12_wordOf_186 (by decide) ?_
    refine lv_iconst (v := nI 0) hx hb dX12_wordOf_187 (by decide) ?_
    refine r_call_l (wr := []) (va_runS (As := [.int (nI 98), .int (nI 111), .int (nI 97), .int (nI 116), .int (nI 0), .int (nI 0)]) (rest := []) ⟨hx, hb, hml, hown, hts⟩ (c_x_spelt l dC dI ky s.heap.size (nI 98) (nI 111) (nI 97) (nI 116) (nI 0) (nI 0)) (va_cwS 6 hts gX12_wordOf_X12_spelt rfl rfl rfl (by decide +kernel) ⟨(Nat.le_of_ble_eq_true rfl), (Nat.le_of_ble_eq_true rfl)⟩) (pre_US hK hP hD [] (by decide) rfl) rfl rfl hl.1 rfl (lv_room (Nat.le_of_ble_eq_true rfl)) dX12_wordOf_188 ⟨(Nat.le_of_ble_eq_true rfl), (Nat.le_of_ble_eq_true rfl)⟩) hP hD hS hA [] [] rfl rfl (by decide) (by decide) (fun r47 u45 H locs p46 hP hD hS => ?_)
    refine W.widen (k := 0) (n := 0) (Nat.le_of_ble_eq_true rfl) (Nat.le_of_ble_eq_true rfl) ?_
    have hP : va_P (dC, dI) vwCl [] H := hP
    have hD : va_D A [] := hD
    rw [hQ]
    exact W.lret (v := r47) hx hb hr (fun t9 ht9 hW9 => ⟨⟨r47, (), rfl, trivial, by rw [ht9]; exact hP, va_K.moved hW9.alike hK, hD⟩, hS.F ht9⟩) hS.2.2 dX12_wordOf_191
  · refine r_ti (nI 4) c7 ?_
    rw [c7] at hl
    refine lv_tableIn (off := 191) (tgt := 192) hx hb dX12_wordOf_1 (by decide) (by decide) rfl (by decide) ?_
    refine lv_bipush (v := nI 104) hx hb dX12_wordOf_192 (by decide) ?_
    refine lv_bipush (v := nI 101) hx hb dX12_wordOf_194 (by decide) ?_
    refine lv_bipush (v := nI 97) hx hb dX12_wordOf_196 (by decide) ?_
    refine lv_bipush (v := nI 116) hx hb dX12_wordOf_198 (by decide) ?_
    refine lv_iconst (v := nI 0) hx hb dX12_wordOf_200 (by decide) ?_
    refine lv_iconst (v := nI 0) hx hb dX12_wordOf_201 (by decide) ?_
    refine r_call_l (wr := []) (va_runS (As := [.int (nI 104), .int (nI 101), .int (nI 97), .int (nI 116), .int (nI 0), .int (nI 0)]) (rest := []) ⟨hx, hb, hml, hown, hts⟩ (c_x_spelt l dC dI ky s.heap.size (nI 104) (nI 101) (nI 97) (nI 116) (nI 0) (nI 0)) (va_cwS 6 hts gX12_wordOf_X12_spelt rfl rfl rfl (by decide +kernel) ⟨(Nat.le_of_ble_eq_true rfl), (Nat.le_of_ble_eq_true rfl)⟩) (pre_US hK hP hD [] (by decide) rfl) rfl rfl hl.1 rfl (lv_room (Nat.le_of_ble_eq_true rfl)) dX12_wordOf_202 ⟨(Nat.le_of_ble_eq_true rfl), (Nat.le_of_ble_eq_true rfl)⟩) hP hD hS hA [] [] rfl rfl (by decide) (by decide) (fun r50 u48 H locs p49 hP hD hS => ?_)
    refine W.widen (k := 0) (n := 0) (Nat.le_of_ble_eq_true rfl) (Nat.le_of_ble_eq_true rfl) ?_
    have hP : va_P (dC, dI) vwCl [] H := hP
    have hD : va_D A [] := hD
    rw [hQ]
    exact W.lret (v := r50) hx hb hr (fun t9 ht9 hW9 => ⟨⟨r50, (), rfl, trivial, by rw [ht9]; exact hP, va_K.moved hW9.alike hK, hD⟩, hS.F ht9⟩) hS.2.2 dX12_wordOf_205
  · refine r_ti (nI 5) c8 ?_
    rw [c8] at hl
    refine lv_tableIn (off := 205) (tgt := 206) hx hb dX12_wordOf_1 (by decide) (by decide) rfl (by decide) ?_
    refine lv_bipush (v := nI 99) hx hb dX12_wordOf_206 (by decide) ?_
    refine lv_bipush (v := nI 111) hx hb dX12_wordOf_208 (by decide) ?_
    refine lv_bipush (v := nI 111) hx hb dX12_wordOf_210 (by decide) ?_
    refine lv_bipush (v := nI 108) hx hb dX12_wordOf_212 (by decide) ?_
    refine lv_bipush (v := nI 115) hx hb dX12_wordOf_214 (by decide) ?_
    refine lv_iconst (v := nI 0) hx hb dX12_wordOf_216 (by decide) ?_
    refine r_call_l (wr := []) (va_runS (As := [.int (nI 99), .int (nI 111), .int (nI 111), .int (nI 108), .int (nI 115), .int (nI 0)]) (rest := []) ⟨hx, hb, hml, hown, hts⟩ (c_x_spelt l dC dI ky s.heap.size (nI 99) (nI 111) (nI 111) (nI 108) (nI 115) (nI 0)) (va_cwS 6 hts gX12_wordOf_X12_spelt rfl rfl rfl (by decide +kernel) ⟨(Nat.le_of_ble_eq_true rfl), (Nat.le_of_ble_eq_true rfl)⟩) (pre_US hK hP hD [] (by decide) rfl) rfl rfl hl.1 rfl (lv_room (Nat.le_of_ble_eq_true rfl)) dX12_wordOf_217 ⟨(Nat.le_of_ble_eq_true rfl), (Nat.le_of_ble_eq_true rfl)⟩) hP hD hS hA [] [] rfl rfl (by decide) (by decide) (fun r53 u51 H locs p52 hP hD hS => ?_)
    refine W.widen (k := 0) (n := 0) (Nat.le_of_ble_eq_true rfl) (Nat.le_of_ble_eq_true rfl) ?_
    have hP : va_P (dC, dI) vwCl [] H := hP
    have hD : va_D A [] := hD
    rw [hQ]
    exact W.lret (v := r53) hx hb hr (fun t9 ht9 hW9 => ⟨⟨r53, (), rfl, trivial, by rw [ht9]; exact hP, va_K.moved hW9.alike hK, hD⟩, hS.F ht9⟩) hS.2.2 dX12_wordOf_220
  · refine r_ti (nI 6) c9 ?_
    rw [c9] at hl
    refine lv_tableIn (off := 220) (tgt := 221) hx hb dX12_wordOf_1 (by decide) (by decide) rfl (by decide) ?_
    refine lv_bipush (v := nI 115) hx hb dX12_wordOf_221 (by decide) ?_
    refine lv_bipush (v := nI 107) hx hb dX12_wordOf_223 (by decide) ?_
    refine lv_bipush (v := nI 105) hx hb dX12_wordOf_225 (by decide) ?_
    refine lv_bipush (v := nI 110) hx hb dX12_wordOf_227 (by decide) ?_
    refine lv_iconst (v := nI 0) hx hb dX12_wordOf_229 (by decide) ?_
    refine lv_iconst (v := nI 0) hx hb dX12_wordOf_230 (by decide) ?_
    refine r_call_l (wr := []) (va_runS (As := [.int (nI 115), .int (nI 107), .int (nI 105), .int (nI 110), .int (nI 0), .int (nI 0)]) (rest := []) ⟨hx, hb, hml, hown, hts⟩ (c_x_spelt l dC dI ky s.heap.size (nI 115) (nI 107) (nI 105) (nI 110) (nI 0) (nI 0)) (va_cwS 6 hts gX12_wordOf_X12_spelt rfl rfl rfl (by decide +kernel) ⟨(Nat.le_of_ble_eq_true rfl), (Nat.le_of_ble_eq_true rfl)⟩) (pre_US hK hP hD [] (by decide) rfl) rfl rfl hl.1 rfl (lv_room (Nat.le_of_ble_eq_true rfl)) dX12_wordOf_231 ⟨(Nat.le_of_ble_eq_true rfl), (Nat.le_of_ble_eq_true rfl)⟩) hP hD hS hA [] [] rfl rfl (by decide) (by decide) (fun r56 u54 H locs p55 hP hD hS => ?_)
    refine W.widen (k := 0) (n := 0) (Nat.le_of_ble_eq_true rfl) (Nat.le_of_ble_eq_true rfl) ?_
    have hP : va_P (dC, dI) vwCl [] H := hP
    have hD : va_D A [] := hD
    rw [hQ]
    exact W.lret (v := r56) hx hb hr (fun t9 ht9 hW9 => ⟨⟨r56, (), rfl, trivial, by rw [ht9]; exact hP, va_K.moved hW9.alike hK, hD⟩, hS.F ht9⟩) hS.2.2 dX12_wordOf_234
  · refine r_ti (nI 7) c10 ?_
    rw [c10] at hl
    refine lv_tableIn (off := 234) (tgt := 235) hx hb dX12_wordOf_1 (by decide) (by decide) rfl (by decide) ?_
    refine lv_bipush (v := nI 115) hx hb dX12_wordOf_235 (by decide) ?_
    refine lv_bipush (v := nI 116) hx hb dX12_wordOf_237 (by decide) ?_
    refine lv_bipush (v := nI 105) hx hb dX12_wordOf_239 (by decide) ?_
    refine lv_bipush (v := nI 114) hx hb dX12_wordOf_241 (by decide) ?_
    refine lv_iconst (v := nI 0) hx hb dX12_wordOf_243 (by decide) ?_
    refine lv_iconst (v := nI 0) hx hb dX12_wordOf_244 (by decide) ?_
    refine r_call_l (wr := []) (va_runS (As := [.int (nI 115), .int (nI 116), .int (nI 105), .int (nI 114), .int (nI 0), .int (nI 0)]) (rest := []) ⟨hx, hb, hml, hown, hts⟩ (c_x_spelt l dC dI ky s.heap.size (nI 115) (nI 116) (nI 105) (nI 114) (nI 0) (nI 0)) (va_cwS 6 hts gX12_wordOf_X12_spelt rfl rfl rfl (by decide +kernel) ⟨(Nat.le_of_ble_eq_true rfl), (Nat.le_of_ble_eq_true rfl)⟩) (pre_US hK hP hD [] (by decide) rfl) rfl rfl hl.1 rfl (lv_room (Nat.le_of_ble_eq_true rfl)) dX12_wordOf_245 ⟨(Nat.le_of_ble_eq_true rfl), (Nat.le_of_ble_eq_true rfl)⟩) hP hD hS hA [] [] rfl rfl (by decide) (by decide) (fun r59 u57 H locs p58 hP hD hS => ?_)
    refine W.widen (k := 0) (n := 0) (Nat.le_of_ble_eq_true rfl) (Nat.le_of_ble_eq_true rfl) ?_
    have hP : va_P (dC, dI) vwCl [] H := hP
    have hD : va_D A [] := hD
    rw [hQ]
    exact W.lret (v := r59) hx hb hr (fun t9 ht9 hW9 => ⟨⟨r59, (), rfl, trivial, by rw [ht9]; exact hP, va_K.moved hW9.alike hK, hD⟩, hS.F ht9⟩) hS.2.2 dX12_wordOf_248
  · refine r_ti (nI 8) c11 ?_
    rw [c11] at hl
    refine lv_tableIn (off := 248) (tgt := 249) hx hb dX12_wordOf_1 (by decide) (by decide) rfl (by decide) ?_
    refine lv_bipush (v := nI 114) hx hb dX12_wordOf_249 (by decide) ?_
    refine lv_bipush (v := nI 111) hx hb dX12_wordOf_251 (by decide) ?_
    refine lv_bipush (v := nI 119) hx hb dX12_wordOf_253 (by decide) ?_
    refine lv_iconst (v := nI 0) hx hb dX12_wordOf_255 (by decide) ?_
    refine lv_iconst (v := nI 0) hx hb dX12_wordOf_256 (by decide) ?_
    refine lv_iconst (v := nI 0) hx hb dX12_wordOf_257 (by decide) ?_
    refine r_call_l (wr := []) (va_runS (As := [.int (nI 114), .int (nI 111), .int (nI 119), .int (nI 0), .int (nI 0), .int (nI 0)]) (rest := []) ⟨hx, hb, hml, hown, hts⟩ (c_x_spelt l dC dI ky s.heap.size (nI 114) (nI 111) (nI 119) (nI 0) (nI 0) (nI 0)) (va_cwS 6 hts gX12_wordOf_X12_spelt rfl rfl rfl (by decide +kernel) ⟨(Nat.le_of_ble_eq_true rfl), (Nat.le_of_ble_eq_true rfl)⟩) (pre_US hK hP hD [] (by decide) rfl) rfl rfl hl.1 rfl (lv_room (Nat.le_of_ble_eq_true rfl)) dX12_wordOf_258 ⟨(Nat.le_of_ble_eq_true rfl), (Nat.le_of_ble_eq_true rfl)⟩) hP hD hS hA [] [] rfl rfl (by decide) (by decide) (fun r62 u60 H locs p61 hP hD hS => ?_)
    refine W.widen (k := 0) (n := 0) (Nat.le_of_ble_eq_true rfl) (Nat.le_of_ble_eq_true rfl) ?_
    have hP : va_P (dC, dI) vwCl [] H := hP
    have hD : va_D A [] := hD
    rw [hQ]
    exact W.lret (v := r62) hx hb hr (fun t9 ht9 hW9 => ⟨⟨r62, (), rfl, trivial, by rw [ht9]; exact hP, va_K.moved hW9.alike hK, hD⟩, hS.F ht9⟩) hS.2.2 dX12_wordOf_261
  · refine r_ti (nI 9) c12 ?_
    rw [c12] at hl
    refine lv_tableIn (off := 261) (tgt := 262) hx hb dX12_wordOf_1 (by decide) (by decide) rfl (by decide) ?_
    refine lv_bipush (v := nI 99) hx hb dX12_wordOf_262 (by decide) ?_
    refine lv_bipush (v := nI 111) hx hb dX12_wordOf_264 (by decide) ?_
    refine lv_bipush (v := nI 108) hx hb dX12_wordOf_266 (by decide) ?_
    refine lv_bipush (v := nI 117) hx hb dX12_wordOf_268 (by decide) ?_
    refine lv_bipush (v := nI 109) hx hb dX12_wordOf_270 (by decide) ?_
    refine lv_bipush (v := nI 110) hx hb dX12_wordOf_272 (by decide) ?_
    refine r_call_l (wr := []) (va_runS (As := [.int (nI 99), .int (nI 111), .int (nI 108), .int (nI 117), .int (nI 109), .int (nI 110)]) (rest := []) ⟨hx, hb, hml, hown, hts⟩ (c_x_spelt l dC dI ky s.heap.size (nI 99) (nI 111) (nI 108) (nI 117) (nI 109) (nI 110)) (va_cwS 6 hts gX12_wordOf_X12_spelt rfl rfl rfl (by decide +kernel) ⟨(Nat.le_of_ble_eq_true rfl), (Nat.le_of_ble_eq_true rfl)⟩) (pre_US hK hP hD [] (by decide) rfl) rfl rfl hl.1 rfl (lv_room (Nat.le_of_ble_eq_true rfl)) dX12_wordOf_274 ⟨(Nat.le_of_ble_eq_true rfl), (Nat.le_of_ble_eq_true rfl)⟩) hP hD hS hA [] [] rfl rfl (by decide) (by decide) (fun r65 u63 H locs p64 hP hD hS => ?_)
    refine W.widen (k := 0) (n := 0) (Nat.le_of_ble_eq_true rfl) (Nat.le_of_ble_eq_true rfl) ?_
    have hP : va_P (dC, dI) vwCl [] H := hP
    have hD : va_D A [] := hD
    rw [hQ]
    exact W.lret (v := r65) hx hb hr (fun t9 ht9 hW9 => ⟨⟨r65, (), rfl, trivial, by rw [ht9]; exact hP, va_K.moved hW9.alike hK, hD⟩, hS.F ht9⟩) hS.2.2 dX12_wordOf_277
  · refine r_ti (nI 10) c13 ?_
    rw [c13] at hl
    refine lv_tableIn (off := 277) (tgt := 278) hx hb dX12_wordOf_1 (by decide) (by decide) rfl (by decide) ?_
    refine lv_bipush (v := nI 111) hx hb dX12_wordOf_278 (by decide) ?_
    refine lv_bipush (v := nI 110) hx hb dX12_wordOf_280 (by decide) ?_
    refine lv_iconst (v := nI 0) hx hb dX12_wordOf_282 (by decide) ?_
    refine lv_iconst (v := nI 0) hx hb dX12_wordOf_283 (by decide) ?_
    refine lv_iconst (v := nI 0) hx hb dX12_wordOf_284 (by decide) ?_
    refine lv_iconst (v := nI 0) hx hb dX12_wordOf_285 (by decide) ?_
    refine r_call_l (wr := []) (va_runS (As := [.int (nI 111), .int (nI 110), .int (nI 0), .int (nI 0), .int (nI 0), .int (nI 0)]) (rest := []) ⟨hx, hb, hml, hown, hts⟩ (c_x_spelt l dC dI ky s.heap.size (nI 111) (nI 110) (nI 0) (nI 0) (nI 0) (nI 0)) (va_cwS 6 hts gX12_wordOf_X12_spelt rfl rfl rfl (by decide +kernel) ⟨(Nat.le_of_ble_eq_true rfl), (Nat.le_of_ble_eq_true rfl)⟩) (pre_US hK hP hD [] (by decide) rfl) rfl rfl hl.1 rfl (lv_room (Nat.le_of_ble_eq_true rfl)) dX12_wordOf_286 ⟨(Nat.le_of_ble_eq_true rfl), (Nat.le_of_ble_eq_true rfl)⟩) hP hD hS hA [] [] rfl rfl (by decide) (by decide) (fun r68 u66 H locs p67 hP hD hS => ?_)
    refine W.widen (k := 0) (n := 0) (Nat.le_of_ble_eq_true rfl) (Nat.le_of_ble_eq_true rfl) ?_
    have hP : va_P (dC, dI) vwCl [] H := hP
    have hD : va_D A [] := hD
    rw [hQ]
    exact W.lret (v := r68) hx hb hr (fun t9 ht9 hW9 => ⟨⟨r68, (), rfl, trivial, by rw [ht9]; exact hP, va_K.moved hW9.alike hK, hD⟩, hS.F ht9⟩) hS.2.2 dX12_wordOf_289
  · refine r_ti (nI 11) c14 ?_
    rw [c14] at hl
    refine lv_tableIn (off := 289) (tgt := 290) hx hb dX12_wordOf_1 (by decide) (by decide) rfl (by decide) ?_
    refine lv_bipush (v := nI 98) hx hb dX12_wordOf_290 (by decide) ?_
    refine lv_bipush (v := nI 97) hx hb dX12_wordOf_292 (by decide) ?_
    refine lv_bipush (v := nI 99) hx hb dX12_wordOf_294 (by decide) ?_
    refine lv_bipush (v := nI 107) hx hb dX12_wordOf_296 (by decide) ?_
    refine lv_iconst (v := nI 0) hx hb dX12_wordOf_298 (by decide) ?_
    refine lv_iconst (v := nI 0) hx hb dX12_wordOf_299 (by decide) ?_
    refine r_call_l (wr := []) (va_runS (As := [.int (nI 98), .int (nI 97), .int (nI 99), .int (nI 107), .int (nI 0), .int (nI 0)]) (rest := []) ⟨hx, hb, hml, hown, hts⟩ (c_x_spelt l dC dI ky s.heap.size (nI 98) (nI 97) (nI 99) (nI 107) (nI 0) (nI 0)) (va_cwS 6 hts gX12_wordOf_X12_spelt rfl rfl rfl (by decide +kernel) ⟨(Nat.le_of_ble_eq_true rfl), (Nat.le_of_ble_eq_true rfl)⟩) (pre_US hK hP hD [] (by decide) rfl) rfl rfl hl.1 rfl (lv_room (Nat.le_of_ble_eq_true rfl)) dX12_wordOf_300 ⟨(Nat.le_of_ble_eq_true rfl), (Nat.le_of_ble_eq_true rfl)⟩) hP hD hS hA [] [] rfl rfl (by decide) (by decide) (fun r71 u69 H locs p70 hP hD hS => ?_)
    refine W.widen (k := 0) (n := 0) (Nat.le_of_ble_eq_true rfl) (Nat.le_of_ble_eq_true rfl) ?_
    have hP : va_P (dC, dI) vwCl [] H := hP
    have hD : va_D A [] := hD
    rw [hQ]
    exact W.lret (v := r71) hx hb hr (fun t9 ht9 hW9 => ⟨⟨r71, (), rfl, trivial, by rw [ht9]; exact hP, va_K.moved hW9.alike hK, hD⟩, hS.F ht9⟩) hS.2.2 dX12_wordOf_303
  · refine r_ti (nI 12) c15 ?_
    rw [c15] at hl
    refine lv_tableIn (off := 303) (tgt := 304) hx hb dX12_wordOf_1 (by decide) (by decide) rfl (by decide) ?_
    refine lv_bipush (v := nI 101) hx hb dX12_wordOf_304 (by decide) ?_
    refine lv_bipush (v := nI 97) hx hb dX12_wordOf_306 (by decide) ?_
    refine lv_bipush (v := nI 115) hx hb dX12_wordOf_308 (by decide) ?_
    refine lv_bipush (v := nI 116) hx hb dX12_wordOf_310 (by decide) ?_
    refine lv_iconst (v := nI 0) hx hb dX12_wordOf_312 (by decide) ?_
    refine lv_iconst (v := nI 0) hx hb dX12_wordOf_313 (by decide) ?_
    refine r_call_l (wr := []) (va_runS (As := [.int (nI 101), .int (nI 97), .int (nI 115), .int (nI 116), .int (nI 0), .int (nI 0)]) (rest := []) ⟨hx, hb, hml, hown, hts⟩ (c_x_spelt l dC dI ky s.heap.size (nI 101) (nI 97) (nI 115) (nI 116) (nI 0) (nI 0)) (va_cwS 6 hts gX12_wordOf_X12_spelt rfl rfl rfl (by decide +kernel) ⟨(Nat.le_of_ble_eq_true rfl), (Nat.le_of_ble_eq_true rfl)⟩) (pre_US hK hP hD [] (by decide) rfl) rfl rfl hl.1 rfl (lv_room (Nat.le_of_ble_eq_true rfl)) dX12_wordOf_314 ⟨(Nat.le_of_ble_eq_true rfl), (Nat.le_of_ble_eq_true rfl)⟩) hP hD hS hA [] [] rfl rfl (by decide) (by decide) (fun r74 u72 H locs p73 hP hD hS => ?_)
    refine W.widen (k := 0) (n := 0) (Nat.le_of_ble_eq_true rfl) (Nat.le_of_ble_eq_true rfl) ?_
    have hP : va_P (dC, dI) vwCl [] H := hP
    have hD : va_D A [] := hD
    rw [hQ]
    exact W.lret (v := r74) hx hb hr (fun t9 ht9 hW9 => ⟨⟨r74, (), rfl, trivial, by rw [ht9]; exact hP, va_K.moved hW9.alike hK, hD⟩, hS.F ht9⟩) hS.2.2 dX12_wordOf_317
  · refine r_ti (nI 13) c16 ?_
    rw [c16] at hl
    refine lv_tableIn (off := 317) (tgt := 318) hx hb dX12_wordOf_1 (by decide) (by decide) rfl (by decide) ?_
    refine lv_bipush (v := nI 115) hx hb dX12_wordOf_318 (by decide) ?_
    refine lv_bipush (v := nI 111) hx hb dX12_wordOf_320 (by decide) ?_
    refine lv_bipush (v := nI 117) hx hb dX12_wordOf_322 (by decide) ?_
    refine lv_bipush (v := nI 116) hx hb dX12_wordOf_324 (by decide) ?_
    refine lv_bipush (v := nI 104) hx hb dX12_wordOf_326 (by decide) ?_
    refine lv_iconst (v := nI 0) hx hb dX12_wordOf_328 (by decide) ?_
    refine r_call_l (wr := []) (va_runS (As := [.int (nI 115), .int (nI 111), .int (nI 117), .int (nI 116), .int (nI 104), .int (nI 0)]) (rest := []) ⟨hx, hb, hml, hown, hts⟩ (c_x_spelt l dC dI ky s.heap.size (nI 115) (nI 111) (nI 117) (nI 116) (nI 104) (nI 0)) (va_cwS 6 hts gX12_wordOf_X12_spelt rfl rfl rfl (by decide +kernel) ⟨(Nat.le_of_ble_eq_true rfl), (Nat.le_of_ble_eq_true rfl)⟩) (pre_US hK hP hD [] (by decide) rfl) rfl rfl hl.1 rfl (lv_room (Nat.le_of_ble_eq_true rfl)) dX12_wordOf_329 ⟨(Nat.le_of_ble_eq_true rfl), (Nat.le_of_ble_eq_true rfl)⟩) hP hD hS hA [] [] rfl rfl (by decide) (by decide) (fun r77 u75 H locs p76 hP hD hS => ?_)
    refine W.widen (k := 0) (n := 0) (Nat.le_of_ble_eq_true rfl) (Nat.le_of_ble_eq_true rfl) ?_
    have hP : va_P (dC, dI) vwCl [] H := hP
    have hD : va_D A [] := hD
    rw [hQ]
    exact W.lret (v := r77) hx hb hr (fun t9 ht9 hW9 => ⟨⟨r77, (), rfl, trivial, by rw [ht9]; exact hP, va_K.moved hW9.alike hK, hD⟩, hS.F ht9⟩) hS.2.2 dX12_wordOf_332
  · refine r_ti (nI 14) c17 ?_
    rw [c17] at hl
    refine lv_tableIn (off := 332) (tgt := 333) hx hb dX12_wordOf_1 (by decide) (by decide) rfl (by decide) ?_
    refine lv_bipush (v := nI 119) hx hb dX12_wordOf_333 (by decide) ?_
    refine lv_bipush (v := nI 101) hx hb dX12_wordOf_335 (by decide) ?_
    refine lv_bipush (v := nI 115) hx hb dX12_wordOf_337 (by decide) ?_
    refine lv_bipush (v := nI 116) hx hb dX12_wordOf_339 (by decide) ?_
    refine lv_iconst (v := nI 0) hx hb dX12_wordOf_341 (by decide) ?_
    refine lv_iconst (v := nI 0) hx hb dX12_wordOf_342 (by decide) ?_
    refine r_call_l (wr := []) (va_runS (As := [.int (nI 119), .int (nI 101), .int (nI 115), .int (nI 116), .int (nI 0), .int (nI 0)]) (rest := []) ⟨hx, hb, hml, hown, hts⟩ (c_x_spelt l dC dI ky s.heap.size (nI 119) (nI 101) (nI 115) (nI 116) (nI 0) (nI 0)) (va_cwS 6 hts gX12_wordOf_X12_spelt rfl rfl rfl (by decide +kernel) ⟨(Nat.le_of_ble_eq_true rfl), (Nat.le_of_ble_eq_true rfl)⟩) (pre_US hK hP hD [] (by decide) rfl) rfl rfl hl.1 rfl (lv_room (Nat.le_of_ble_eq_true rfl)) dX12_wordOf_343 ⟨(Nat.le_of_ble_eq_true rfl), (Nat.le_of_ble_eq_true rfl)⟩) hP hD hS hA [] [] rfl rfl (by decide) (by decide) (fun r80 u78 H locs p79 hP hD hS => ?_)
    refine W.widen (k := 0) (n := 0) (Nat.le_of_ble_eq_true rfl) (Nat.le_of_ble_eq_true rfl) ?_
    have hP : va_P (dC, dI) vwCl [] H := hP
    have hD : va_D A [] := hD
    rw [hQ]
    exact W.lret (v := r80) hx hb hr (fun t9 ht9 hW9 => ⟨⟨r80, (), rfl, trivial, by rw [ht9]; exact hP, va_K.moved hW9.alike hK, hD⟩, hS.F ht9⟩) hS.2.2 dX12_wordOf_346
  · refine r_ti (nI 15) c18 ?_
    rw [c18] at hl
    refine lv_tableIn (off := 346) (tgt := 347) hx hb dX12_wordOf_1 (by decide) (by decide) rfl (by decide) ?_
    refine lv_bipush (v := nI 110) hx hb dX12_wordOf_347 (by decide) ?_
    refine lv_bipush (v := nI 111) hx hb dX12_wordOf_349 (by decide) ?_
    refine lv_bipush (v := nI 114) hx hb dX12_wordOf_351 (by decide) ?_
    refine lv_bipush (v := nI 116) hx hb dX12_wordOf_353 (by decide) ?_
    refine lv_bipush (v := nI 104) hx hb dX12_wordOf_355 (by decide) ?_
    refine lv_iconst (v := nI 0) hx hb dX12_wordOf_357 (by decide) ?_
    refine r_call_l (wr := []) (va_runS (As := [.int (nI 110), .int (nI 111), .int (nI 114), .int (nI 116), .int (nI 104), .int (nI 0)]) (rest := []) ⟨hx, hb, hml, hown, hts⟩ (c_x_spelt l dC dI ky s.heap.size (nI 110) (nI 111) (nI 114) (nI 116) (nI 104) (nI 0)) (va_cwS 6 hts gX12_wordOf_X12_spelt rfl rfl rfl (by decide +kernel) ⟨(Nat.le_of_ble_eq_true rfl), (Nat.le_of_ble_eq_true rfl)⟩) (pre_US hK hP hD [] (by decide) rfl) rfl rfl hl.1 rfl (lv_room (Nat.le_of_ble_eq_true rfl)) dX12_wordOf_358 ⟨(Nat.le_of_ble_eq_true rfl), (Nat.le_of_ble_eq_true rfl)⟩) hP hD hS hA [] [] rfl rfl (by decide) (by decide) (fun r83 u81 H locs p82 hP hD hS => ?_)
    refine W.widen (k := 0) (n := 0) (Nat.le_of_ble_eq_true rfl) (Nat.le_of_ble_eq_true rfl) ?_
    have hP : va_P (dC, dI) vwCl [] H := hP
    have hD : va_D A [] := hD
    rw [hQ]
    exact W.lret (v := r83) hx hb hr (fun t9 ht9 hW9 => ⟨⟨r83, (), rfl, trivial, by rw [ht9]; exact hP, va_K.moved hW9.alike hK, hD⟩, hS.F ht9⟩) hS.2.2 dX12_wordOf_361
  · refine r_ti (nI 16) c19 ?_
    rw [c19] at hl
    refine lv_tableIn (off := 361) (tgt := 362) hx hb dX12_wordOf_1 (by decide) (by decide) rfl (by decide) ?_
    refine lv_bipush (v := nI 102) hx hb dX12_wordOf_362 (by decide) ?_
    refine lv_bipush (v := nI 108) hx hb dX12_wordOf_364 (by decide) ?_
    refine lv_bipush (v := nI 111) hx hb dX12_wordOf_366 (by decide) ?_
    refine lv_bipush (v := nI 117) hx hb dX12_wordOf_368 (by decide) ?_
    refine lv_bipush (v := nI 114) hx hb dX12_wordOf_370 (by decide) ?_
    refine lv_iconst (v := nI 0) hx hb dX12_wordOf_372 (by decide) ?_
    refine r_call_l (wr := []) (va_runS (As := [.int (nI 102), .int (nI 108), .int (nI 111), .int (nI 117), .int (nI 114), .int (nI 0)]) (rest := []) ⟨hx, hb, hml, hown, hts⟩ (c_x_spelt l dC dI ky s.heap.size (nI 102) (nI 108) (nI 111) (nI 117) (nI 114) (nI 0)) (va_cwS 6 hts gX12_wordOf_X12_spelt rfl rfl rfl (by decide +kernel) ⟨(Nat.le_of_ble_eq_true rfl), (Nat.le_of_ble_eq_true rfl)⟩) (pre_US hK hP hD [] (by decide) rfl) rfl rfl hl.1 rfl (lv_room (Nat.le_of_ble_eq_true rfl)) dX12_wordOf_373 ⟨(Nat.le_of_ble_eq_true rfl), (Nat.le_of_ble_eq_true rfl)⟩) hP hD hS hA [] [] rfl rfl (by decide) (by decide) (fun r86 u84 H locs p85 hP hD hS => ?_)
    refine W.widen (k := 0) (n := 0) (Nat.le_of_ble_eq_true rfl) (Nat.le_of_ble_eq_true rfl) ?_
    have hP : va_P (dC, dI) vwCl [] H := hP
    have hD : va_D A [] := hD
    rw [hQ]
    exact W.lret (v := r86) hx hb hr (fun t9 ht9 hW9 => ⟨⟨r86, (), rfl, trivial, by rw [ht9]; exact hP, va_K.moved hW9.alike hK, hD⟩, hS.F ht9⟩) hS.2.2 dX12_wordOf_376
  · refine r_ti (nI 17) c20 ?_
    rw [c20] at hl
    refine lv_tableIn (off := 376) (tgt := 377) hx hb dX12_wordOf_1 (by decide) (by decide) rfl (by decide) ?_
    refine lv_bipush (v := nI 109) hx hb dX12_wordOf_377 (by decide) ?_
    refine lv_bipush (v := nI 105) hx hb dX12_wordOf_379 (by decide) ?_
    refine lv_bipush (v := nI 108) hx hb dX12_wordOf_381 (by decide) ?_
    refine lv_bipush (v := nI 107) hx hb dX12_wordOf_383 (by decide) ?_
    refine lv_iconst (v := nI 0) hx hb dX12_wordOf_385 (by decide) ?_
    refine lv_iconst (v := nI 0) hx hb dX12_wordOf_386 (by decide) ?_
    refine r_call_l (wr := []) (va_runS (As := [.int (nI 109), .int (nI 105), .int (nI 108), .int (nI 107), .int (nI 0), .int (nI 0)]) (rest := []) ⟨hx, hb, hml, hown, hts⟩ (c_x_spelt l dC dI ky s.heap.size (nI 109) (nI 105) (nI 108) (nI 107) (nI 0) (nI 0)) (va_cwS 6 hts gX12_wordOf_X12_spelt rfl rfl rfl (by decide +kernel) ⟨(Nat.le_of_ble_eq_true rfl), (Nat.le_of_ble_eq_true rfl)⟩) (pre_US hK hP hD [] (by decide) rfl) rfl rfl hl.1 rfl (lv_room (Nat.le_of_ble_eq_true rfl)) dX12_wordOf_387 ⟨(Nat.le_of_ble_eq_true rfl), (Nat.le_of_ble_eq_true rfl)⟩) hP hD hS hA [] [] rfl rfl (by decide) (by decide) (fun r89 u87 H locs p88 hP hD hS => ?_)
    refine W.widen (k := 0) (n := 0) (Nat.le_of_ble_eq_true rfl) (Nat.le_of_ble_eq_true rfl) ?_
    have hP : va_P (dC, dI) vwCl [] H := hP
    have hD : va_D A [] := hD
    rw [hQ]
    exact W.lret (v := r89) hx hb hr (fun t9 ht9 hW9 => ⟨⟨r89, (), rfl, trivial, by rw [ht9]; exact hP, va_K.moved hW9.alike hK, hD⟩, hS.F ht9⟩) hS.2.2 dX12_wordOf_390
  · refine r_ti (nI 18) c21 ?_
    rw [c21] at hl
    refine lv_tableIn (off := 390) (tgt := 391) hx hb dX12_wordOf_1 (by decide) (by decide) rfl (by decide) ?_
    refine lv_bipush (v := nI 115) hx hb dX12_wordOf_391 (by decide) ?_
    refine lv_bipush (v := nI 116) hx hb dX12_wordOf_393 (by decide) ?_
    refine lv_bipush (v := nI 111) hx hb dX12_wordOf_395 (by decide) ?_
    refine lv_bipush (v := nI 118) hx hb dX12_wordOf_397 (by decide) ?_
    refine lv_bipush (v := nI 101) hx hb dX12_wordOf_399 (by decide) ?_
    refine lv_iconst (v := nI 0) hx hb dX12_wordOf_401 (by decide) ?_
    refine r_call_l (wr := []) (va_runS (As := [.int (nI 115), .int (nI 116), .int (nI 111), .int (nI 118), .int (nI 101), .int (nI 0)]) (rest := []) ⟨hx, hb, hml, hown, hts⟩ (c_x_spelt l dC dI ky s.heap.size (nI 115) (nI 116) (nI 111) (nI 118) (nI 101) (nI 0)) (va_cwS 6 hts gX12_wordOf_X12_spelt rfl rfl rfl (by decide +kernel) ⟨(Nat.le_of_ble_eq_true rfl), (Nat.le_of_ble_eq_true rfl)⟩) (pre_US hK hP hD [] (by decide) rfl) rfl rfl hl.1 rfl (lv_room (Nat.le_of_ble_eq_true rfl)) dX12_wordOf_402 ⟨(Nat.le_of_ble_eq_true rfl), (Nat.le_of_ble_eq_true rfl)⟩) hP hD hS hA [] [] rfl rfl (by decide) (by decide) (fun r92 u90 H locs p91 hP hD hS => ?_)
    refine W.widen (k := 0) (n := 0) (Nat.le_of_ble_eq_true rfl) (Nat.le_of_ble_eq_true rfl) ?_
    have hP : va_P (dC, dI) vwCl [] H := hP
    have hD : va_D A [] := hD
    rw [hQ]
    exact W.lret (v := r92) hx hb hr (fun t9 ht9 hW9 => ⟨⟨r92, (), rfl, trivial, by rw [ht9]; exact hP, va_K.moved hW9.alike hK, hD⟩, hS.F ht9⟩) hS.2.2 dX12_wordOf_405
  · refine r_ti (nI 19) c22 ?_
    rw [c22] at hl
    refine lv_tableIn (off := 405) (tgt := 406) hx hb dX12_wordOf_1 (by decide) (by decide) rfl (by decide) ?_
    refine lv_bipush (v := nI 100) hx hb dX12_wordOf_406 (by decide) ?_
    refine lv_bipush (v := nI 97) hx hb dX12_wordOf_408 (by decide) ?_
    refine lv_bipush (v := nI 121) hx hb dX12_wordOf_410 (by decide) ?_
    refine lv_iconst (v := nI 0) hx hb dX12_wordOf_412 (by decide) ?_
    refine lv_iconst (v := nI 0) hx hb dX12_wordOf_413 (by decide) ?_
    refine lv_iconst (v := nI 0) hx hb dX12_wordOf_414 (by decide) ?_
    refine r_call_l (wr := []) (va_runS (As := [.int (nI 100), .int (nI 97), .int (nI 121), .int (nI 0), .int (nI 0), .int (nI 0)]) (rest := []) ⟨hx, hb, hml, hown, hts⟩ (c_x_spelt l dC dI ky s.heap.size (nI 100) (nI 97) (nI 121) (nI 0) (nI 0) (nI 0)) (va_cwS 6 hts gX12_wordOf_X12_spelt rfl rfl rfl (by decide +kernel) ⟨(Nat.le_of_ble_eq_true rfl), (Nat.le_of_ble_eq_true rfl)⟩) (pre_US hK hP hD [] (by decide) rfl) rfl rfl hl.1 rfl (lv_room (Nat.le_of_ble_eq_true rfl)) dX12_wordOf_415 ⟨(Nat.le_of_ble_eq_true rfl), (Nat.le_of_ble_eq_true rfl)⟩) hP hD hS hA [] [] rfl rfl (by decide) (by decide) (fun r95 u93 H locs p94 hP hD hS => ?_)
    refine W.widen (k := 0) (n := 0) (Nat.le_of_ble_eq_true rfl) (Nat.le_of_ble_eq_true rfl) ?_
    have hP : va_P (dC, dI) vwCl [] H := hP
    have hD : va_D A [] := hD
    rw [hQ]
    exact W.lret (v := r95) hx hb hr (fun t9 ht9 hW9 => ⟨⟨r95, (), rfl, trivial, by rw [ht9]; exact hP, va_K.moved hW9.alike hK, hD⟩, hS.F ht9⟩) hS.2.2 dX12_wordOf_418
  · refine r_ti (nI 20) c23 ?_
    rw [c23] at hl
    refine lv_tableIn (off := 418) (tgt := 419) hx hb dX12_wordOf_1 (by decide) (by decide) rfl (by decide) ?_
    refine lv_bipush (v := nI 111) hx hb dX12_wordOf_419 (by decide) ?_
    refine lv_bipush (v := nI 114) hx hb dX12_wordOf_421 (by decide) ?_
    refine lv_iconst (v := nI 0) hx hb dX12_wordOf_423 (by decide) ?_
    refine lv_iconst (v := nI 0) hx hb dX12_wordOf_424 (by decide) ?_
    refine lv_iconst (v := nI 0) hx hb dX12_wordOf_425 (by decide) ?_
    refine lv_iconst (v := nI 0) hx hb dX12_wordOf_426 (by decide) ?_
    refine r_call_l (wr := []) (va_runS (As := [.int (nI 111), .int (nI 114), .int (nI 0), .int (nI 0), .int (nI 0), .int (nI 0)]) (rest := []) ⟨hx, hb, hml, hown, hts⟩ (c_x_spelt l dC dI ky s.heap.size (nI 111) (nI 114) (nI 0) (nI 0) (nI 0) (nI 0)) (va_cwS 6 hts gX12_wordOf_X12_spelt rfl rfl rfl (by decide +kernel) ⟨(Nat.le_of_ble_eq_true rfl), (Nat.le_of_ble_eq_true rfl)⟩) (pre_US hK hP hD [] (by decide) rfl) rfl rfl hl.1 rfl (lv_room (Nat.le_of_ble_eq_true rfl)) dX12_wordOf_427 ⟨(Nat.le_of_ble_eq_true rfl), (Nat.le_of_ble_eq_true rfl)⟩) hP hD hS hA [] [] rfl rfl (by decide) (by decide) (fun r98 u96 H locs p97 hP hD hS => ?_)
    refine W.widen (k := 0) (n := 0) (Nat.le_of_ble_eq_true rfl) (Nat.le_of_ble_eq_true rfl) ?_
    have hP : va_P (dC, dI) vwCl [] H := hP
    have hD : va_D A [] := hD
    rw [hQ]
    exact W.lret (v := r98) hx hb hr (fun t9 ht9 hW9 => ⟨⟨r98, (), rfl, trivial, by rw [ht9]; exact hP, va_K.moved hW9.alike hK, hD⟩, hS.F ht9⟩) hS.2.2 dX12_wordOf_430
  · refine r_ti (nI 21) c24 ?_
    rw [c24] at hl
    refine lv_tableIn (off := 430) (tgt := 431) hx hb dX12_wordOf_1 (by decide) (by decide) rfl (by decide) ?_
    refine lv_bipush (v := nI 97) hx hb dX12_wordOf_431 (by decide) ?_
    refine lv_bipush (v := nI 110) hx hb dX12_wordOf_433 (by decide) ?_
    refine lv_bipush (v := nI 100) hx hb dX12_wordOf_435 (by decide) ?_
    refine lv_iconst (v := nI 0) hx hb dX12_wordOf_437 (by decide) ?_
    refine lv_iconst (v := nI 0) hx hb dX12_wordOf_438 (by decide) ?_
    refine lv_iconst (v := nI 0) hx hb dX12_wordOf_439 (by decide) ?_
    refine r_call_l (wr := []) (va_runS (As := [.int (nI 97), .int (nI 110), .int (nI 100), .int (nI 0), .int (nI 0), .int (nI 0)]) (rest := []) ⟨hx, hb, hml, hown, hts⟩ (c_x_spelt l dC dI ky s.heap.size (nI 97) (nI 110) (nI 100) (nI 0) (nI 0) (nI 0)) (va_cwS 6 hts gX12_wordOf_X12_spelt rfl rfl rfl (by decide +kernel) ⟨(Nat.le_of_ble_eq_true rfl), (Nat.le_of_ble_eq_true rfl)⟩) (pre_US hK hP hD [] (by decide) rfl) rfl rfl hl.1 rfl (lv_room (Nat.le_of_ble_eq_true rfl)) dX12_wordOf_440 ⟨(Nat.le_of_ble_eq_true rfl), (Nat.le_of_ble_eq_true rfl)⟩) hP hD hS hA [] [] rfl rfl (by decide) (by decide) (fun r101 u99 H locs p100 hP hD hS => ?_)
    refine W.widen (k := 0) (n := 0) (Nat.le_of_ble_eq_true rfl) (Nat.le_of_ble_eq_true rfl) ?_
    have hP : va_P (dC, dI) vwCl [] H := hP
    have hD : va_D A [] := hD
    rw [hQ]
    exact W.lret (v := r101) hx hb hr (fun t9 ht9 hW9 => ⟨⟨r101, (), rfl, trivial, by rw [ht9]; exact hP, va_K.moved hW9.alike hK, hD⟩, hS.F ht9⟩) hS.2.2 dX12_wordOf_443
  · refine r_ti (nI 22) c25 ?_
    rw [c25] at hl
    refine lv_tableIn (off := 443) (tgt := 444) hx hb dX12_wordOf_1 (by decide) (by decide) rfl (by decide) ?_
    refine lv_bipush (v := nI 110) hx hb dX12_wordOf_444 (by decide) ?_
    refine lv_bipush (v := nI 111) hx hb dX12_wordOf_446 (by decide) ?_
    refine lv_bipush (v := nI 116) hx hb dX12_wordOf_448 (by decide) ?_
    refine lv_iconst (v := nI 0) hx hb dX12_wordOf_450 (by decide) ?_
    refine lv_iconst (v := nI 0) hx hb dX12_wordOf_451 (by decide) ?_
    refine lv_iconst (v := nI 0) hx hb dX12_wordOf_452 (by decide) ?_
    refine r_call_l (wr := []) (va_runS (As := [.int (nI 110), .int (nI 111), .int (nI 116), .int (nI 0), .int (nI 0), .int (nI 0)]) (rest := []) ⟨hx, hb, hml, hown, hts⟩ (c_x_spelt l dC dI ky s.heap.size (nI 110) (nI 111) (nI 116) (nI 0) (nI 0) (nI 0)) (va_cwS 6 hts gX12_wordOf_X12_spelt rfl rfl rfl (by decide +kernel) ⟨(Nat.le_of_ble_eq_true rfl), (Nat.le_of_ble_eq_true rfl)⟩) (pre_US hK hP hD [] (by decide) rfl) rfl rfl hl.1 rfl (lv_room (Nat.le_of_ble_eq_true rfl)) dX12_wordOf_453 ⟨(Nat.le_of_ble_eq_true rfl), (Nat.le_of_ble_eq_true rfl)⟩) hP hD hS hA [] [] rfl rfl (by decide) (by decide) (fun r104 u102 H locs p103 hP hD hS => ?_)
    refine W.widen (k := 0) (n := 0) (Nat.le_of_ble_eq_true rfl) (Nat.le_of_ble_eq_true rfl) ?_
    have hP : va_P (dC, dI) vwCl [] H := hP
    have hD : va_D A [] := hD
    rw [hQ]
    exact W.lret (v := r104) hx hb hr (fun t9 ht9 hW9 => ⟨⟨r104, (), rfl, trivial, by rw [ht9]; exact hP, va_K.moved hW9.alike hK, hD⟩, hS.F ht9⟩) hS.2.2 dX12_wordOf_456
  · refine r_ti (nI 23) c26 ?_
    rw [c26] at hl
    refine lv_tableIn (off := 456) (tgt := 457) hx hb dX12_wordOf_1 (by decide) (by decide) rfl (by decide) ?_
    refine lv_bipush (v := nI 101) hx hb dX12_wordOf_457 (by decide) ?_
    refine lv_bipush (v := nI 97) hx hb dX12_wordOf_459 (by decide) ?_
    refine lv_bipush (v := nI 116) hx hb dX12_wordOf_461 (by decide) ?_
    refine lv_bipush (v := nI 101) hx hb dX12_wordOf_463 (by decide) ?_
    refine lv_bipush (v := nI 110) hx hb dX12_wordOf_465 (by decide) ?_
    refine lv_iconst (v := nI 0) hx hb dX12_wordOf_467 (by decide) ?_
    refine r_call_l (wr := []) (va_runS (As := [.int (nI 101), .int (nI 97), .int (nI 116), .int (nI 101), .int (nI 110), .int (nI 0)]) (rest := []) ⟨hx, hb, hml, hown, hts⟩ (c_x_spelt l dC dI ky s.heap.size (nI 101) (nI 97) (nI 116) (nI 101) (nI 110) (nI 0)) (va_cwS 6 hts gX12_wordOf_X12_spelt rfl rfl rfl (by decide +kernel) ⟨(Nat.le_of_ble_eq_true rfl), (Nat.le_of_ble_eq_true rfl)⟩) (pre_US hK hP hD [] (by decide) rfl) rfl rfl hl.1 rfl (lv_room (Nat.le_of_ble_eq_true rfl)) dX12_wordOf_468 ⟨(Nat.le_of_ble_eq_true rfl), (Nat.le_of_ble_eq_true rfl)⟩) hP hD hS hA [] [] rfl rfl (by decide) (by decide) (fun r107 u105 H locs p106 hP hD hS => ?_)
    refine W.widen (k := 0) (n := 0) (Nat.le_of_ble_eq_true rfl) (Nat.le_of_ble_eq_true rfl) ?_
    have hP : va_P (dC, dI) vwCl [] H := hP
    have hD : va_D A [] := hD
    rw [hQ]
    exact W.lret (v := r107) hx hb hr (fun t9 ht9 hW9 => ⟨⟨r107, (), rfl, trivial, by rw [ht9]; exact hP, va_K.moved hW9.alike hK, hD⟩, hS.F ht9⟩) hS.2.2 dX12_wordOf_471
  · refine r_ti (nI 24) c27 ?_
    rw [c27] at hl
    refine lv_tableIn (off := 471) (tgt := 472) hx hb dX12_wordOf_1 (by decide) (by decide) rfl (by decide) ?_
    refine lv_bipush (v := nI 97) hx hb dX12_wordOf_472 (by decide) ?_
    refine lv_bipush (v := nI 102) hx hb dX12_wordOf_474 (by decide) ?_
    refine lv_bipush (v := nI 108) hx hb dX12_wordOf_476 (by decide) ?_
    refine lv_bipush (v := nI 111) hx hb dX12_wordOf_478 (by decide) ?_
    refine lv_bipush (v := nI 97) hx hb dX12_wordOf_480 (by decide) ?_
    refine lv_bipush (v := nI 116) hx hb dX12_wordOf_482 (by decide) ?_
    refine r_call_l (wr := []) (va_runS (As := [.int (nI 97), .int (nI 102), .int (nI 108), .int (nI 111), .int (nI 97), .int (nI 116)]) (rest := []) ⟨hx, hb, hml, hown, hts⟩ (c_x_spelt l dC dI ky s.heap.size (nI 97) (nI 102) (nI 108) (nI 111) (nI 97) (nI 116)) (va_cwS 6 hts gX12_wordOf_X12_spelt rfl rfl rfl (by decide +kernel) ⟨(Nat.le_of_ble_eq_true rfl), (Nat.le_of_ble_eq_true rfl)⟩) (pre_US hK hP hD [] (by decide) rfl) rfl rfl hl.1 rfl (lv_room (Nat.le_of_ble_eq_true rfl)) dX12_wordOf_484 ⟨(Nat.le_of_ble_eq_true rfl), (Nat.le_of_ble_eq_true rfl)⟩) hP hD hS hA [] [] rfl rfl (by decide) (by decide) (fun r110 u108 H locs p109 hP hD hS => ?_)
    refine W.widen (k := 0) (n := 0) (Nat.le_of_ble_eq_true rfl) (Nat.le_of_ble_eq_true rfl) ?_
    have hP : va_P (dC, dI) vwCl [] H := hP
    have hD : va_D A [] := hD
    rw [hQ]
    exact W.lret (v := r110) hx hb hr (fun t9 ht9 hW9 => ⟨⟨r110, (), rfl, trivial, by rw [ht9]; exact hP, va_K.moved hW9.alike hK, hD⟩, hS.F ht9⟩) hS.2.2 dX12_wordOf_487
  · refine r_ti (nI 25) c28 ?_
    rw [c28] at hl
    refine lv_tableIn (off := 487) (tgt := 488) hx hb dX12_wordOf_1 (by decide) (by decide) rfl (by decide) ?_
    refine lv_bipush (v := nI 108) hx hb dX12_wordOf_488 (by decide) ?_
    refine lv_bipush (v := nI 97) hx hb dX12_wordOf_490 (by decide) ?_
    refine lv_bipush (v := nI 110) hx hb dX12_wordOf_492 (by decide) ?_
    refine lv_bipush (v := nI 100) hx hb dX12_wordOf_494 (by decide) ?_
    refine lv_bipush (v := nI 101) hx hb dX12_wordOf_496 (by decide) ?_
    refine lv_bipush (v := nI 100) hx hb dX12_wordOf_498 (by decide) ?_
    refine r_call_l (wr := []) (va_runS (As := [.int (nI 108), .int (nI 97), .int (nI 110), .int (nI 100), .int (nI 101), .int (nI 100)]) (rest := []) ⟨hx, hb, hml, hown, hts⟩ (c_x_spelt l dC dI ky s.heap.size (nI 108) (nI 97) (nI 110) (nI 100) (nI 101) (nI 100)) (va_cwS 6 hts gX12_wordOf_X12_spelt rfl rfl rfl (by decide +kernel) ⟨(Nat.le_of_ble_eq_true rfl), (Nat.le_of_ble_eq_true rfl)⟩) (pre_US hK hP hD [] (by decide) rfl) rfl rfl hl.1 rfl (lv_room (Nat.le_of_ble_eq_true rfl)) dX12_wordOf_500 ⟨(Nat.le_of_ble_eq_true rfl), (Nat.le_of_ble_eq_true rfl)⟩) hP hD hS hA [] [] rfl rfl (by decide) (by decide) (fun r113 u111 H locs p112 hP hD hS => ?_)
    refine W.widen (k := 0) (n := 0) (Nat.le_of_ble_eq_true rfl) (Nat.le_of_ble_eq_true rfl) ?_
    have hP : va_P (dC, dI) vwCl [] H := hP
    have hD : va_D A [] := hD
    rw [hQ]
    exact W.lret (v := r113) hx hb hr (fun t9 ht9 hW9 => ⟨⟨r113, (), rfl, trivial, by rw [ht9]; exact hP, va_K.moved hW9.alike hK, hD⟩, hS.F ht9⟩) hS.2.2 dX12_wordOf_503
  · refine r_ti (nI 26) c29 ?_
    rw [c29] at hl
    refine lv_tableIn (off := 503) (tgt := 504) hx hb dX12_wordOf_1 (by decide) (by decide) rfl (by decide) ?_
    refine lv_bipush (v := nI 98) hx hb dX12_wordOf_504 (by decide) ?_
    refine lv_bipush (v := nI 121) hx hb dX12_wordOf_506 (by decide) ?_
    refine lv_iconst (v := nI 0) hx hb dX12_wordOf_508 (by decide) ?_
    refine lv_iconst (v := nI 0) hx hb dX12_wordOf_509 (by decide) ?_
    refine lv_iconst (v := nI 0) hx hb dX12_wordOf_510 (by decide) ?_
    refine lv_iconst (v := nI 0) hx hb dX12_wordOf_511 (by decide) ?_
    refine r_call_l (wr := []) (va_runS (As := [.int (nI 98), .int (nI 121), .int (nI 0), .int (nI 0), .int (nI 0), .int (nI 0)]) (rest := []) ⟨hx, hb, hml, hown, hts⟩ (c_x_spelt l dC dI ky s.heap.size (nI 98) (nI 121) (nI 0) (nI 0) (nI 0) (nI 0)) (va_cwS 6 hts gX12_wordOf_X12_spelt rfl rfl rfl (by decide +kernel) ⟨(Nat.le_of_ble_eq_true rfl), (Nat.le_of_ble_eq_true rfl)⟩) (pre_US hK hP hD [] (by decide) rfl) rfl rfl hl.1 rfl (lv_room (Nat.le_of_ble_eq_true rfl)) dX12_wordOf_512 ⟨(Nat.le_of_ble_eq_true rfl), (Nat.le_of_ble_eq_true rfl)⟩) hP hD hS hA [] [] rfl rfl (by decide) (by decide) (fun r116 u114 H locs p115 hP hD hS => ?_)
    refine W.widen (k := 0) (n := 0) (Nat.le_of_ble_eq_true rfl) (Nat.le_of_ble_eq_true rfl) ?_
    have hP : va_P (dC, dI) vwCl [] H := hP
    have hD : va_D A [] := hD
    rw [hQ]
    exact W.lret (v := r116) hx hb hr (fun t9 ht9 hW9 => ⟨⟨r116, (), rfl, trivial, by rw [ht9]; exact hP, va_K.moved hW9.alike hK, hD⟩, hS.F ht9⟩) hS.2.2 dX12_wordOf_515
  · refine r_ti (nI 27) c30 ?_
    rw [c30] at hl
    refine lv_tableIn (off := 515) (tgt := 516) hx hb dX12_wordOf_1 (by decide) (by decide) rfl (by decide) ?_
    refine lv_bipush (v := nI 108) hx hb dX12_wordOf_516 (by decide) ?_
    refine lv_bipush (v := nI 111) hx hb dX12_wordOf_518 (by decide) ?_
    refine lv_bipush (v := nI 97) hx hb dX12_wordOf_520 (by decide) ?_
    refine lv_bipush (v := nI 100) hx hb dX12_wordOf_522 (by decide) ?_
    refine lv_iconst (v := nI 0) hx hb dX12_wordOf_524 (by decide) ?_
    refine lv_iconst (v := nI 0) hx hb dX12_wordOf_525 (by decide) ?_
    refine r_call_l (wr := []) (va_runS (As := [.int (nI 108), .int (nI 111), .int (nI 97), .int (nI 100), .int (nI 0), .int (nI 0)]) (rest := []) ⟨hx, hb, hml, hown, hts⟩ (c_x_spelt l dC dI ky s.heap.size (nI 108) (nI 111) (nI 97) (nI 100) (nI 0) (nI 0)) (va_cwS 6 hts gX12_wordOf_X12_spelt rfl rfl rfl (by decide +kernel) ⟨(Nat.le_of_ble_eq_true rfl), (Nat.le_of_ble_eq_true rfl)⟩) (pre_US hK hP hD [] (by decide) rfl) rfl rfl hl.1 rfl (lv_room (Nat.le_of_ble_eq_true rfl)) dX12_wordOf_526 ⟨(Nat.le_of_ble_eq_true rfl), (Nat.le_of_ble_eq_true rfl)⟩) hP hD hS hA [] [] rfl rfl (by decide) (by decide) (fun r119 u117 H locs p118 hP hD hS => ?_)
    refine W.widen (k := 0) (n := 0) (Nat.le_of_ble_eq_true rfl) (Nat.le_of_ble_eq_true rfl) ?_
    have hP : va_P (dC, dI) vwCl [] H := hP
    have hD : va_D A [] := hD
    rw [hQ]
    exact W.lret (v := r119) hx hb hr (fun t9 ht9 hW9 => ⟨⟨r119, (), rfl, trivial, by rw [ht9]; exact hP, va_K.moved hW9.alike hK, hD⟩, hS.F ht9⟩) hS.2.2 dX12_wordOf_529
  · refine r_ti (nI 28) c31 ?_
    rw [c31] at hl
    refine lv_tableIn (off := 529) (tgt := 530) hx hb dX12_wordOf_1 (by decide) (by decide) rfl (by decide) ?_
    refine lv_bipush (v := nI 100) hx hb dX12_wordOf_530 (by decide) ?_
    refine lv_bipush (v := nI 101) hx hb dX12_wordOf_532 (by decide) ?_
    refine lv_bipush (v := nI 112) hx hb dX12_wordOf_534 (by decide) ?_
    refine lv_bipush (v := nI 116) hx hb dX12_wordOf_536 (by decide) ?_
    refine lv_bipush (v := nI 104) hx hb dX12_wordOf_538 (by decide) ?_
    refine lv_iconst (v := nI 0) hx hb dX12_wordOf_540 (by decide) ?_
    refine r_call_l (wr := []) (va_runS (As := [.int (nI 100), .int (nI 101), .int (nI 112), .int (nI 116), .int (nI 104), .int (nI 0)]) (rest := []) ⟨hx, hb, hml, hown, hts⟩ (c_x_spelt l dC dI ky s.heap.size (nI 100) (nI 101) (nI 112) (nI 116) (nI 104) (nI 0)) (va_cwS 6 hts gX12_wordOf_X12_spelt rfl rfl rfl (by decide +kernel) ⟨(Nat.le_of_ble_eq_true rfl), (Nat.le_of_ble_eq_true rfl)⟩) (pre_US hK hP hD [] (by decide) rfl) rfl rfl hl.1 rfl (lv_room (Nat.le_of_ble_eq_true rfl)) dX12_wordOf_541 ⟨(Nat.le_of_ble_eq_true rfl), (Nat.le_of_ble_eq_true rfl)⟩) hP hD hS hA [] [] rfl rfl (by decide) (by decide) (fun r122 u120 H locs p121 hP hD hS => ?_)
    refine W.widen (k := 0) (n := 0) (Nat.le_of_ble_eq_true rfl) (Nat.le_of_ble_eq_true rfl) ?_
    have hP : va_P (dC, dI) vwCl [] H := hP
    have hD : va_D A [] := hD
    rw [hQ]
    exact W.lret (v := r122) hx hb hr (fun t9 ht9 hW9 => ⟨⟨r122, (), rfl, trivial, by rw [ht9]; exact hP, va_K.moved hW9.alike hK, hD⟩, hS.F ht9⟩) hS.2.2 dX12_wordOf_544
  · refine r_ti (nI 29) c32 ?_
    rw [c32] at hl
    refine lv_tableIn (off := 544) (tgt := 545) hx hb dX12_wordOf_1 (by decide) (by decide) rfl (by decide) ?_
    refine lv_bipush (v := nI 108) hx hb dX12_wordOf_545 (by decide) ?_
    refine lv_bipush (v := nI 101) hx hb dX12_wordOf_547 (by decide) ?_
    refine lv_bipush (v := nI 102) hx hb dX12_wordOf_549 (by decide) ?_
    refine lv_bipush (v := nI 116) hx hb dX12_wordOf_551 (by decide) ?_
    refine lv_iconst (v := nI 0) hx hb dX12_wordOf_553 (by decide) ?_
    refine lv_iconst (v := nI 0) hx hb dX12_wordOf_554 (by decide) ?_
    refine r_call_l (wr := []) (va_runS (As := [.int (nI 108), .int (nI 101), .int (nI 102), .int (nI 116), .int (nI 0), .int (nI 0)]) (rest := []) ⟨hx, hb, hml, hown, hts⟩ (c_x_spelt l dC dI ky s.heap.size (nI 108) (nI 101) (nI 102) (nI 116) (nI 0) (nI 0)) (va_cwS 6 hts gX12_wordOf_X12_spelt rfl rfl rfl (by decide +kernel) ⟨(Nat.le_of_ble_eq_true rfl), (Nat.le_of_ble_eq_true rfl)⟩) (pre_US hK hP hD [] (by decide) rfl) rfl rfl hl.1 rfl (lv_room (Nat.le_of_ble_eq_true rfl)) dX12_wordOf_555 ⟨(Nat.le_of_ble_eq_true rfl), (Nat.le_of_ble_eq_true rfl)⟩) hP hD hS hA [] [] rfl rfl (by decide) (by decide) (fun r125 u123 H locs p124 hP hD hS => ?_)
    refine W.widen (k := 0) (n := 0) (Nat.le_of_ble_eq_true rfl) (Nat.le_of_ble_eq_true rfl) ?_
    have hP : va_P (dC, dI) vwCl [] H := hP
    have hD : va_D A [] := hD
    rw [hQ]
    exact W.lret (v := r125) hx hb hr (fun t9 ht9 hW9 => ⟨⟨r125, (), rfl, trivial, by rw [ht9]; exact hP, va_K.moved hW9.alike hK, hD⟩, hS.F ht9⟩) hS.2.2 dX12_wordOf_558
