theorem dJ6_bitCount_0f7a4_0 : decode cJ6_bitCount_0f7a4 0 = .ok (.iload_n 0, 1) := by decide +kernel
theorem dJ6_bitCount_0f7a4_1 : decode cJ6_bitCount_0f7a4 1 = .ok (.iload_n 0, 1) := by decide +kernel
theorem dJ6_bitCount_0f7a4_2 : decode cJ6_bitCount_0f7a4 2 = .ok (.iconst 1, 1) := by decide +kernel
theorem dJ6_bitCount_0f7a4_3 : decode cJ6_bitCount_0f7a4 3 = .ok (.iushr, 1) := by decide +kernel
theorem dJ6_bitCount_0f7a4_4 : decode cJ6_bitCount_0f7a4 4 = .ok (.ldc_w 265, 3) := by decide +kernel
theorem dJ6_bitCount_0f7a4_7 : decode cJ6_bitCount_0f7a4 7 = .ok (.iand, 1) := by decide +kernel
theorem dJ6_bitCount_0f7a4_8 : decode cJ6_bitCount_0f7a4 8 = .ok (.isub, 1) := by decide +kernel
theorem dJ6_bitCount_0f7a4_9 : decode cJ6_bitCount_0f7a4 9 = .ok (.istore_n 0, 1) := by decide +kernel
theorem dJ6_bitCount_0f7a4_10 : decode cJ6_bitCount_0f7a4 10 = .ok (.iload_n 0, 1) := by decide +kernel
theorem dJ6_bitCount_0f7a4_11 : decode cJ6_bitCount_0f7a4 11 = .ok (.ldc_w 266, 3) := by decide +kernel
theorem dJ6_bitCount_0f7a4_14 : decode cJ6_bitCount_0f7a4 14 = .ok (.iand, 1) := by decide +kernel
theorem dJ6_bitCount_0f7a4_15 : decode cJ6_bitCount_0f7a4 15 = .ok (.iload_n 0, 1) := by decide +kernel
theorem dJ6_bitCount_0f7a4_16 : decode cJ6_bitCount_0f7a4 16 = .ok (.iconst 2, 1) := by decide +kernel
theorem dJ6_bitCount_0f7a4_17 : decode cJ6_bitCount_0f7a4 17 = .ok (.iushr, 1) := by decide +kernel
theorem dJ6_bitCount_0f7a4_18 : decode cJ6_bitCount_0f7a4 18 = .ok (.ldc_w 266, 3) := by decide +kernel
theorem dJ6_bitCount_0f7a4_21 : decode cJ6_bitCount_0f7a4 21 = .ok (.iand, 1) := by decide +kernel
theorem dJ6_bitCount_0f7a4_22 : decode cJ6_bitCount_0f7a4 22 = .ok (.iadd, 1) := by decide +kernel
theorem dJ6_bitCount_0f7a4_23 : decode cJ6_bitCount_0f7a4 23 = .ok (.istore_n 0, 1) := by decide +kernel
theorem dJ6_bitCount_0f7a4_24 : decode cJ6_bitCount_0f7a4 24 = .ok (.iload_n 0, 1) := by decide +kernel
theorem dJ6_bitCount_0f7a4_25 : decode cJ6_bitCount_0f7a4 25 = .ok (.iload_n 0, 1) := by decide +kernel
theorem dJ6_bitCount_0f7a4_26 : decode cJ6_bitCount_0f7a4 26 = .ok (.iconst 4, 1) := by decide +kernel
theorem dJ6_bitCount_0f7a4_27 : decode cJ6_bitCount_0f7a4 27 = .ok (.iushr, 1) := by decide +kernel
theorem dJ6_bitCount_0f7a4_28 : decode cJ6_bitCount_0f7a4 28 = .ok (.iadd, 1) := by decide +kernel
theorem dJ6_bitCount_0f7a4_29 : decode cJ6_bitCount_0f7a4 29 = .ok (.ldc_w 267, 3) := by decide +kernel
theorem dJ6_bitCount_0f7a4_32 : decode cJ6_bitCount_0f7a4 32 = .ok (.iand, 1) := by decide +kernel
theorem dJ6_bitCount_0f7a4_33 : decode cJ6_bitCount_0f7a4 33 = .ok (.istore_n 0, 1) := by decide +kernel
theorem dJ6_bitCount_0f7a4_34 : decode cJ6_bitCount_0f7a4 34 = .ok (.iload_n 0, 1) := by decide +kernel
theorem dJ6_bitCount_0f7a4_35 : decode cJ6_bitCount_0f7a4 35 = .ok (.iload_n 0, 1) := by decide +kernel
theorem dJ6_bitCount_0f7a4_36 : decode cJ6_bitCount_0f7a4 36 = .ok (.bipush 8, 2) := by decide +kernel
theorem dJ6_bitCount_0f7a4_38 : decode cJ6_bitCount_0f7a4 38 = .ok (.iushr, 1) := by decide +kernel
theorem dJ6_bitCount_0f7a4_39 : decode cJ6_bitCount_0f7a4 39 = .ok (.iadd, 1) := by decide +kernel
theorem dJ6_bitCount_0f7a4_40 : decode cJ6_bitCount_0f7a4 40 = .ok (.istore_n 0, 1) := by decide +kernel
theorem dJ6_bitCount_0f7a4_41 : decode cJ6_bitCount_0f7a4 41 = .ok (.iload_n 0, 1) := by decide +kernel
theorem dJ6_bitCount_0f7a4_42 : decode cJ6_bitCount_0f7a4 42 = .ok (.iload_n 0, 1) := by decide +kernel
theorem dJ6_bitCount_0f7a4_43 : decode cJ6_bitCount_0f7a4 43 = .ok (.bipush 16, 2) := by decide +kernel
theorem dJ6_bitCount_0f7a4_45 : decode cJ6_bitCount_0f7a4 45 = .ok (.iushr, 1) := by decide +kernel
theorem dJ6_bitCount_0f7a4_46 : decode cJ6_bitCount_0f7a4 46 = .ok (.iadd, 1) := by decide +kernel
theorem dJ6_bitCount_0f7a4_47 : decode cJ6_bitCount_0f7a4 47 = .ok (.istore_n 0, 1) := by decide +kernel
theorem dJ6_bitCount_0f7a4_48 : decode cJ6_bitCount_0f7a4 48 = .ok (.iload_n 0, 1) := by decide +kernel
theorem dJ6_bitCount_0f7a4_49 : decode cJ6_bitCount_0f7a4 49 = .ok (.bipush 63, 2) := by decide +kernel
theorem dJ6_bitCount_0f7a4_51 : decode cJ6_bitCount_0f7a4 51 = .ok (.iand, 1) := by decide +kernel
theorem dJ6_bitCount_0f7a4_52 : decode cJ6_bitCount_0f7a4 52 = .ok (.ireturn, 1) := by decide +kernel
theorem dJ13_bitCount_95d88_0 : decode cJ13_bitCount_95d88 0 = .ok (.lload_n 0, 1) := by decide +kernel
theorem dJ13_bitCount_95d88_1 : decode cJ13_bitCount_95d88 1 = .ok (.lload_n 0, 1) := by decide +kernel
theorem dJ13_bitCount_95d88_2 : decode cJ13_bitCount_95d88 2 = .ok (.iconst 1, 1) := by decide +kernel
theorem dJ13_bitCount_95d88_3 : decode cJ13_bitCount_95d88 3 = .ok (.lushr, 1) := by decide +kernel
theorem dJ13_bitCount_95d88_4 : decode cJ13_bitCount_95d88 4 = .ok (.ldc2_w 314, 3) := by decide +kernel
theorem dJ13_bitCount_95d88_7 : decode cJ13_bitCount_95d88 7 = .ok (.land, 1) := by decide +kernel
theorem dJ13_bitCount_95d88_8 : decode cJ13_bitCount_95d88 8 = .ok (.lsub, 1) := by decide +kernel
theorem dJ13_bitCount_95d88_9 : decode cJ13_bitCount_95d88 9 = .ok (.lstore_n 0, 1) := by decide +kernel
theorem dJ13_bitCount_95d88_10 : decode cJ13_bitCount_95d88 10 = .ok (.lload_n 0, 1) := by decide +kernel
theorem dJ13_bitCount_95d88_11 : decode cJ13_bitCount_95d88 11 = .ok (.ldc2_w 316, 3) := by decide +kernel
theorem dJ13_bitCount_95d88_14 : decode cJ13_bitCount_95d88 14 = .ok (.land, 1) := by decide +kernel
theorem dJ13_bitCount_95d88_15 : decode cJ13_bitCount_95d88 15 = .ok (.lload_n 0, 1) := by decide +kernel
theorem dJ13_bitCount_95d88_16 : decode cJ13_bitCount_95d88 16 = .ok (.iconst 2, 1) := by decide +kernel
theorem dJ13_bitCount_95d88_17 : decode cJ13_bitCount_95d88 17 = .ok (.lushr, 1) := by decide +kernel
theorem dJ13_bitCount_95d88_18 : decode cJ13_bitCount_95d88 18 = .ok (.ldc2_w 316, 3) := by decide +kernel
theorem dJ13_bitCount_95d88_21 : decode cJ13_bitCount_95d88 21 = .ok (.land, 1) := by decide +kernel
theorem dJ13_bitCount_95d88_22 : decode cJ13_bitCount_95d88 22 = .ok (.ladd, 1) := by decide +kernel
theorem dJ13_bitCount_95d88_23 : decode cJ13_bitCount_95d88 23 = .ok (.lstore_n 0, 1) := by decide +kernel
theorem dJ13_bitCount_95d88_24 : decode cJ13_bitCount_95d88 24 = .ok (.lload_n 0, 1) := by decide +kernel
theorem dJ13_bitCount_95d88_25 : decode cJ13_bitCount_95d88 25 = .ok (.lload_n 0, 1) := by decide +kernel
theorem dJ13_bitCount_95d88_26 : decode cJ13_bitCount_95d88 26 = .ok (.iconst 4, 1) := by decide +kernel
theorem dJ13_bitCount_95d88_27 : decode cJ13_bitCount_95d88 27 = .ok (.lushr, 1) := by decide +kernel
theorem dJ13_bitCount_95d88_28 : decode cJ13_bitCount_95d88 28 = .ok (.ladd, 1) := by decide +kernel
theorem dJ13_bitCount_95d88_29 : decode cJ13_bitCount_95d88 29 = .ok (.ldc2_w 318, 3) := by decide +kernel
theorem dJ13_bitCount_95d88_32 : decode cJ13_bitCount_95d88 32 = .ok (.land, 1) := by decide +kernel
theorem dJ13_bitCount_95d88_33 : decode cJ13_bitCount_95d88 33 = .ok (.lstore_n 0, 1) := by decide +kernel
theorem dJ13_bitCount_95d88_34 : decode cJ13_bitCount_95d88 34 = .ok (.lload_n 0, 1) := by decide +kernel
theorem dJ13_bitCount_95d88_35 : decode cJ13_bitCount_95d88 35 = .ok (.lload_n 0, 1) := by decide +kernel
theorem dJ13_bitCount_95d88_36 : decode cJ13_bitCount_95d88 36 = .ok (.bipush 8, 2) := by decide +kernel
theorem dJ13_bitCount_95d88_38 : decode cJ13_bitCount_95d88 38 = .ok (.lushr, 1) := by decide +kernel
theorem dJ13_bitCount_95d88_39 : decode cJ13_bitCount_95d88 39 = .ok (.ladd, 1) := by decide +kernel
theorem dJ13_bitCount_95d88_40 : decode cJ13_bitCount_95d88 40 = .ok (.lstore_n 0, 1) := by decide +kernel
theorem dJ13_bitCount_95d88_41 : decode cJ13_bitCount_95d88 41 = .ok (.lload_n 0, 1) := by decide +kernel
theorem dJ13_bitCount_95d88_42 : decode cJ13_bitCount_95d88 42 = .ok (.lload_n 0, 1) := by decide +kernel
theorem dJ13_bitCount_95d88_43 : decode cJ13_bitCount_95d88 43 = .ok (.bipush 16, 2) := by decide +kernel
theorem dJ13_bitCount_95d88_45 : decode cJ13_bitCount_95d88 45 = .ok (.lushr, 1) := by decide +kernel
theorem dJ13_bitCount_95d88_46 : decode cJ13_bitCount_95d88 46 = .ok (.ladd, 1) := by decide +kernel
theorem dJ13_bitCount_95d88_47 : decode cJ13_bitCount_95d88 47 = .ok (.lstore_n 0, 1) := by decide +kernel
theorem dJ13_bitCount_95d88_48 : decode cJ13_bitCount_95d88 48 = .ok (.lload_n 0, 1) := by decide +kernel
theorem dJ13_bitCount_95d88_49 : decode cJ13_bitCount_95d88 49 = .ok (.lload_n 0, 1) := by decide +kernel
theorem dJ13_bitCount_95d88_50 : decode cJ13_bitCount_95d88 50 = .ok (.bipush 32, 2) := by decide +kernel
theorem dJ13_bitCount_95d88_52 : decode cJ13_bitCount_95d88 52 = .ok (.lushr, 1) := by decide +kernel
theorem dJ13_bitCount_95d88_53 : decode cJ13_bitCount_95d88 53 = .ok (.ladd, 1) := by decide +kernel
theorem dJ13_bitCount_95d88_54 : decode cJ13_bitCount_95d88 54 = .ok (.lstore_n 0, 1) := by decide +kernel
theorem dJ13_bitCount_95d88_55 : decode cJ13_bitCount_95d88 55 = .ok (.lload_n 0, 1) := by decide +kernel
theorem dJ13_bitCount_95d88_56 : decode cJ13_bitCount_95d88 56 = .ok (.l2i, 1) := by decide +kernel
theorem dJ13_bitCount_95d88_57 : decode cJ13_bitCount_95d88 57 = .ok (.bipush 127, 2) := by decide +kernel
theorem dJ13_bitCount_95d88_59 : decode cJ13_bitCount_95d88 59 = .ok (.iand, 1) := by decide +kernel
theorem dJ13_bitCount_95d88_60 : decode cJ13_bitCount_95d88 60 = .ok (.ireturn, 1) := by decide +kernel
theorem dX6_farnessOf_0 : decode cX6_farnessOf 0 = .ok (.iload_n 1, 1) := by decide +kernel
theorem dX6_farnessOf_1 : decode cX6_farnessOf 1 = .ok (.ifCond .lt 18, 3) := by decide +kernel
theorem dX6_farnessOf_19 : decode cX6_farnessOf 19 = .ok (.ldc 54, 2) := by decide +kernel
theorem dX6_farnessOf_21 : decode cX6_farnessOf 21 = .ok (.ireturn, 1) := by decide +kernel
theorem dX6_farnessOf_4 : decode cX6_farnessOf 4 = .ok (.iload_n 1, 1) := by decide +kernel
theorem dX6_farnessOf_5 : decode cX6_farnessOf 5 = .ok (.bipush 36, 2) := by decide +kernel
theorem dX6_farnessOf_7 : decode cX6_farnessOf 7 = .ok (.if_icmp .ge 12, 3) := by decide +kernel
theorem dX6_farnessOf_10 : decode cX6_farnessOf 10 = .ok (.aload_n 0, 1) := by decide +kernel
theorem dX6_farnessOf_11 : decode cX6_farnessOf 11 = .ok (.getfield 9, 3) := by decide +kernel
theorem dX6_farnessOf_14 : decode cX6_farnessOf 14 = .ok (.iload_n 1, 1) := by decide +kernel
theorem dX6_farnessOf_15 : decode cX6_farnessOf 15 = .ok (.iaload, 1) := by decide +kernel
theorem dX6_farnessOf_16 : decode cX6_farnessOf 16 = .ok (.goto 5, 3) := by decide +kernel
theorem dX6_farnessBy_0 : decode cX6_farnessBy 0 = .ok (.aload_n 1, 1) := by decide +kernel
theorem dX6_farnessBy_1 : decode cX6_farnessBy 1 = .ok (.iload_n 2, 1) := by decide +kernel
theorem dX6_farnessBy_2 : decode cX6_farnessBy 2 = .ok (.iload_n 3, 1) := by decide +kernel
theorem dX6_farnessBy_3 : decode cX6_farnessBy 3 = .ok (.invokevirtual 73, 3) := by decide +kernel
theorem dX6_farnessBy_6 : decode cX6_farnessBy 6 = .ok (.istore 5, 2) := by decide +kernel
theorem dX6_farnessBy_8 : decode cX6_farnessBy 8 = .ok (.iload 5, 2) := by decide +kernel
theorem dX6_farnessBy_10 : decode cX6_farnessBy 10 = .ok (.iconst (-1), 1) := by decide +kernel
theorem dX6_farnessBy_11 : decode cX6_farnessBy 11 = .ok (.if_icmp .eq 14, 3) := by decide +kernel
theorem dX6_farnessBy_25 : decode cX6_farnessBy 25 = .ok (.ldc 54, 2) := by decide +kernel
theorem dX6_farnessBy_27 : decode cX6_farnessBy 27 = .ok (.ireturn, 1) := by decide +kernel
theorem dX6_farnessBy_14 : decode cX6_farnessBy 14 = .ok (.aload_n 1, 1) := by decide +kernel
theorem dX6_farnessBy_15 : decode cX6_farnessBy 15 = .ok (.iload 5, 2) := by decide +kernel
theorem dX6_farnessBy_17 : decode cX6_farnessBy 17 = .ok (.invokevirtual 77, 3) := by decide +kernel
theorem dX6_farnessBy_20 : decode cX6_farnessBy 20 = .ok (.iload 4, 2) := by decide +kernel
theorem dX6_farnessBy_22 : decode cX6_farnessBy 22 = .ok (.if_icmp .le 6, 3) := by decide +kernel
theorem dX6_farnessBy_28 : decode cX6_farnessBy 28 = .ok (.aload_n 0, 1) := by decide +kernel
theorem dX6_farnessBy_29 : decode cX6_farnessBy 29 = .ok (.iload 5, 2) := by decide +kernel
theorem dX6_farnessBy_31 : decode cX6_farnessBy 31 = .ok (.invokevirtual 50, 3) := by decide +kernel
theorem dX6_farnessBy_34 : decode cX6_farnessBy 34 = .ok (.bipush 64, 2) := by decide +kernel
theorem dX6_farnessBy_36 : decode cX6_farnessBy 36 = .ok (.aload_n 1, 1) := by decide +kernel
theorem dX6_farnessBy_37 : decode cX6_farnessBy 37 = .ok (.iload 5, 2) := by decide +kernel
theorem dX6_farnessBy_39 : decode cX6_farnessBy 39 = .ok (.invokevirtual 77, 3) := by decide +kernel
theorem dX6_farnessBy_42 : decode cX6_farnessBy 42 = .ok (.imul, 1) := by decide +kernel
theorem dX6_farnessBy_43 : decode cX6_farnessBy 43 = .ok (.iadd, 1) := by decide +kernel
theorem dX6_farnessBy_44 : decode cX6_farnessBy 44 = .ok (.iconst 1, 1) := by decide +kernel
theorem dX6_farnessBy_45 : decode cX6_farnessBy 45 = .ok (.iadd, 1) := by decide +kernel
theorem dX6_farnessBy_46 : decode cX6_farnessBy 46 = .ok (.ireturn, 1) := by decide +kernel
theorem dX6_bringNearer_0 : decode cX6_bringNearer 0 = .ok (.iconst 0, 1) := by decide +kernel
theorem dX6_bringNearer_1 : decode cX6_bringNearer 1 = .ok (.istore 4, 2) := by decide +kernel
theorem dX6_bringNearer_3 : decode cX6_bringNearer 3 = .ok (.iconst 0, 1) := by decide +kernel
theorem dX6_bringNearer_4 : decode cX6_bringNearer 4 = .ok (.istore 5, 2) := by decide +kernel
theorem dX6_bringNearer_6 : decode cX6_bringNearer 6 = .ok (.iload 5, 2) := by decide +kernel
theorem dX6_bringNearer_8 : decode cX6_bringNearer 8 = .ok (.iconst 4, 1) := by decide +kernel
theorem dX6_bringNearer_9 : decode cX6_bringNearer 9 = .ok (.if_icmp .ge 48, 3) := by decide +kernel
theorem dX6_bringNearer_12 : decode cX6_bringNearer 12 = .ok (.iload_n 2, 1) := by decide +kernel
theorem dX6_bringNearer_13 : decode cX6_bringNearer 13 = .ok (.bipush 36, 2) := by decide +kernel
theorem dX6_bringNearer_15 : decode cX6_bringNearer 15 = .ok (.if_icmp .ge 42, 3) := by decide +kernel
theorem dX6_bringNearer_57 : decode cX6_bringNearer 57 = .ok (.iload 4, 2) := by decide +kernel
theorem dX6_bringNearer_59 : decode cX6_bringNearer 59 = .ok (.ireturn, 1) := by decide +kernel
theorem dX6_bringNearer_18 : decode cX6_bringNearer 18 = .ok (.aload_n 0, 1) := by decide +kernel
theorem dX6_bringNearer_19 : decode cX6_bringNearer 19 = .ok (.aload_n 1, 1) := by decide +kernel
theorem dX6_bringNearer_20 : decode cX6_bringNearer 20 = .ok (.iload_n 2, 1) := by decide +kernel
theorem dX6_bringNearer_21 : decode cX6_bringNearer 21 = .ok (.iload 5, 2) := by decide +kernel
theorem dX6_bringNearer_23 : decode cX6_bringNearer 23 = .ok (.iload_n 3, 1) := by decide +kernel
theorem dX6_bringNearer_24 : decode cX6_bringNearer 24 = .ok (.invokevirtual 69, 3) := by decide +kernel
theorem dX6_bringNearer_27 : decode cX6_bringNearer 27 = .ok (.istore 6, 2) := by decide +kernel
theorem dX6_bringNearer_29 : decode cX6_bringNearer 29 = .ok (.iload 6, 2) := by decide +kernel
theorem dX6_bringNearer_31 : decode cX6_bringNearer 31 = .ok (.aload_n 0, 1) := by decide +kernel
theorem dX6_bringNearer_32 : decode cX6_bringNearer 32 = .ok (.getfield 9, 3) := by decide +kernel
theorem dX6_bringNearer_35 : decode cX6_bringNearer 35 = .ok (.iload_n 2, 1) := by decide +kernel
theorem dX6_bringNearer_36 : decode cX6_bringNearer 36 = .ok (.iaload, 1) := by decide +kernel
theorem dX6_bringNearer_37 : decode cX6_bringNearer 37 = .ok (.if_icmp .ge 14, 3) := by decide +kernel
theorem dX6_bringNearer_51 : decode cX6_bringNearer 51 = .ok (.iinc 5 1, 3) := by decide +kernel
theorem dX6_bringNearer_54 : decode cX6_bringNearer 54 = .ok (.goto (-48), 3) := by decide +kernel
theorem dX6_bringNearer_40 : decode cX6_bringNearer 40 = .ok (.aload_n 0, 1) := by decide +kernel
theorem dX6_bringNearer_41 : decode cX6_bringNearer 41 = .ok (.getfield 9, 3) := by decide +kernel
theorem dX6_bringNearer_44 : decode cX6_bringNearer 44 = .ok (.iload_n 2, 1) := by decide +kernel
theorem dX6_bringNearer_45 : decode cX6_bringNearer 45 = .ok (.iload 6, 2) := by decide +kernel
theorem dX6_bringNearer_47 : decode cX6_bringNearer 47 = .ok (.iastore, 1) := by decide +kernel
theorem dX6_bringNearer_48 : decode cX6_bringNearer 48 = .ok (.iconst 1, 1) := by decide +kernel
theorem dX6_bringNearer_49 : decode cX6_bringNearer 49 = .ok (.istore 4, 2) := by decide +kernel
theorem dX6_measure_0 : decode cX6_measure 0 = .ok (.iconst 0, 1) := by decide +kernel
theorem dX6_measure_1 : decode cX6_measure 1 = .ok (.istore 4, 2) := by decide +kernel
theorem dX6_measure_3 : decode cX6_measure 3 = .ok (.iload 4, 2) := by decide +kernel
theorem dX6_measure_5 : decode cX6_measure 5 = .ok (.bipush 36, 2) := by decide +kernel
theorem dX6_measure_7 : decode cX6_measure 7 = .ok (.if_icmp .ge 28, 3) := by decide +kernel
theorem dX6_measure_10 : decode cX6_measure 10 = .ok (.aload_n 0, 1) := by decide +kernel
theorem dX6_measure_11 : decode cX6_measure 11 = .ok (.getfield 9, 3) := by decide +kernel
theorem dX6_measure_14 : decode cX6_measure 14 = .ok (.iload 4, 2) := by decide +kernel
theorem dX6_measure_16 : decode cX6_measure 16 = .ok (.iload 4, 2) := by decide +kernel
theorem dX6_measure_18 : decode cX6_measure 18 = .ok (.iload_n 2, 1) := by decide +kernel
theorem dX6_measure_19 : decode cX6_measure 19 = .ok (.if_icmp .ne 7, 3) := by decide +kernel
theorem dX6_measure_26 : decode cX6_measure 26 = .ok (.ldc 54, 2) := by decide +kernel
theorem dX6_measure_28 : decode cX6_measure 28 = .ok (.iastore, 1) := by decide +kernel
theorem dX6_measure_29 : decode cX6_measure 29 = .ok (.iinc 4 1, 3) := by decide +kernel
theorem dX6_measure_32 : decode cX6_measure 32 = .ok (.goto (-29), 3) := by decide +kernel
theorem dX6_measure_22 : decode cX6_measure 22 = .ok (.iconst 0, 1) := by decide +kernel
theorem dX6_measure_23 : decode cX6_measure 23 = .ok (.goto 5, 3) := by decide +kernel
theorem dX6_measure_35 : decode cX6_measure 35 = .ok (.iconst 1, 1) := by decide +kernel
theorem dX6_measure_36 : decode cX6_measure 36 = .ok (.istore 4, 2) := by decide +kernel
theorem dX6_measure_38 : decode cX6_measure 38 = .ok (.iconst 0, 1) := by decide +kernel
theorem dX6_measure_39 : decode cX6_measure 39 = .ok (.istore 5, 2) := by decide +kernel
theorem dX6_measure_41 : decode cX6_measure 41 = .ok (.iload 5, 2) := by decide +kernel
theorem dX6_measure_43 : decode cX6_measure 43 = .ok (.bipush 36, 2) := by decide +kernel
theorem dX6_measure_45 : decode cX6_measure 45 = .ok (.if_icmp .ge 72, 3) := by decide +kernel
theorem dX6_measure_48 : decode cX6_measure 48 = .ok (.iload 4, 2) := by decide +kernel
theorem dX6_measure_50 : decode cX6_measure 50 = .ok (.ifCond .eq 67, 3) := by decide +kernel
theorem dX6_measure_53 : decode cX6_measure 53 = .ok (.iconst 0, 1) := by decide +kernel
theorem dX6_measure_54 : decode cX6_measure 54 = .ok (.istore 4, 2) := by decide +kernel
theorem dX6_measure_56 : decode cX6_measure 56 = .ok (.iconst 0, 1) := by decide +kernel
theorem dX6_measure_57 : decode cX6_measure 57 = .ok (.istore 6, 2) := by decide +kernel
theorem dX6_measure_59 : decode cX6_measure 59 = .ok (.iload 6, 2) := by decide +kernel
theorem dX6_measure_61 : decode cX6_measure 61 = .ok (.aload_n 1, 1) := by decide +kernel
theorem dX6_measure_62 : decode cX6_measure 62 = .ok (.getfield 59, 3) := by decide +kernel
theorem dX6_measure_65 : decode cX6_measure 65 = .ok (.if_icmp .ge 46, 3) := by decide +kernel
theorem dX6_measure_111 : decode cX6_measure 111 = .ok (.iinc 5 1, 3) := by decide +kernel
theorem dX6_measure_114 : decode cX6_measure 114 = .ok (.goto (-73), 3) := by decide +kernel
theorem dX6_measure_68 : decode cX6_measure 68 = .ok (.iconst 0, 1) := by decide +kernel
theorem dX6_measure_69 : decode cX6_measure 69 = .ok (.istore 7, 2) := by decide +kernel
theorem dX6_measure_71 : decode cX6_measure 71 = .ok (.iload 7, 2) := by decide +kernel
theorem dX6_measure_73 : decode cX6_measure 73 = .ok (.aload_n 1, 1) := by decide +kernel
theorem dX6_measure_74 : decode cX6_measure 74 = .ok (.getfield 62, 3) := by decide +kernel
theorem dX6_measure_77 : decode cX6_measure 77 = .ok (.if_icmp .ge 28, 3) := by decide +kernel
theorem dX6_measure_105 : decode cX6_measure 105 = .ok (.iinc 6 1, 3) := by decide +kernel
theorem dX6_measure_108 : decode cX6_measure 108 = .ok (.goto (-49), 3) := by decide +kernel
theorem dX6_measure_80 : decode cX6_measure 80 = .ok (.iload 4, 2) := by decide +kernel
theorem dX6_measure_82 : decode cX6_measure 82 = .ok (.aload_n 0, 1) := by decide +kernel
theorem dX6_measure_83 : decode cX6_measure 83 = .ok (.aload_n 1, 1) := by decide +kernel
theorem dX6_measure_84 : decode cX6_measure 84 = .ok (.bipush 6, 2) := by decide +kernel
theorem dX6_measure_86 : decode cX6_measure 86 = .ok (.iload 6, 2) := by decide +kernel
theorem dX6_measure_88 : decode cX6_measure 88 = .ok (.imul, 1) := by decide +kernel
theorem dX6_measure_89 : decode cX6_measure 89 = .ok (.iload 7, 2) := by decide +kernel
theorem dX6_measure_91 : decode cX6_measure 91 = .ok (.iadd, 1) := by decide +kernel
theorem dX6_measure_92 : decode cX6_measure 92 = .ok (.iload_n 3, 1) := by decide +kernel
theorem dX6_measure_93 : decode cX6_measure 93 = .ok (.invokevirtual 65, 3) := by decide +kernel
theorem dX6_measure_96 : decode cX6_measure 96 = .ok (.ior, 1) := by decide +kernel
theorem dX6_measure_97 : decode cX6_measure 97 = .ok (.istore 4, 2) := by decide +kernel
theorem dX6_measure_99 : decode cX6_measure 99 = .ok (.iinc 7 1, 3) := by decide +kernel
theorem dX6_measure_102 : decode cX6_measure 102 = .ok (.goto (-31), 3) := by decide +kernel
theorem dX6_measure_117 : decode cX6_measure 117 = .ok (.return_, 1) := by decide +kernel
theorem dX6_firstSide_0 : decode cX6_firstSide 0 = .ok (.iconst 0, 1) := by decide +kernel
theorem dX6_firstSide_1 : decode cX6_firstSide 1 = .ok (.istore 4, 2) := by decide +kernel
theorem dX6_firstSide_3 : decode cX6_firstSide 3 = .ok (.iload 4, 2) := by decide +kernel
theorem dX6_firstSide_5 : decode cX6_firstSide 5 = .ok (.iconst 4, 1) := by decide +kernel
theorem dX6_firstSide_6 : decode cX6_firstSide 6 = .ok (.if_icmp .ge 29, 3) := by decide +kernel
theorem dX6_firstSide_9 : decode cX6_firstSide 9 = .ok (.aload_n 0, 1) := by decide +kernel
theorem dX6_firstSide_10 : decode cX6_firstSide 10 = .ok (.aload_n 1, 1) := by decide +kernel
theorem dX6_firstSide_11 : decode cX6_firstSide 11 = .ok (.iload_n 2, 1) := by decide +kernel
theorem dX6_firstSide_12 : decode cX6_firstSide 12 = .ok (.iload 4, 2) := by decide +kernel
theorem dX6_firstSide_14 : decode cX6_firstSide 14 = .ok (.iload_n 3, 1) := by decide +kernel
theorem dX6_firstSide_15 : decode cX6_firstSide 15 = .ok (.invokevirtual 69, 3) := by decide +kernel
theorem dX6_firstSide_18 : decode cX6_firstSide 18 = .ok (.aload_n 0, 1) := by decide +kernel
theorem dX6_firstSide_19 : decode cX6_firstSide 19 = .ok (.iload_n 2, 1) := by decide +kernel
theorem dX6_firstSide_20 : decode cX6_firstSide 20 = .ok (.invokevirtual 50, 3) := by decide +kernel
theorem dX6_firstSide_23 : decode cX6_firstSide 23 = .ok (.if_icmp .ne 6, 3) := by decide +kernel
theorem dX6_firstSide_29 : decode cX6_firstSide 29 = .ok (.iinc 4 1, 3) := by decide +kernel
theorem dX6_firstSide_32 : decode cX6_firstSide 32 = .ok (.goto (-29), 3) := by decide +kernel
theorem dX6_firstSide_26 : decode cX6_firstSide 26 = .ok (.iload 4, 2) := by decide +kernel
theorem dX6_firstSide_28 : decode cX6_firstSide 28 = .ok (.ireturn, 1) := by decide +kernel
theorem dX6_firstSide_35 : decode cX6_firstSide 35 = .ok (.iconst 0, 1) := by decide +kernel
theorem dX6_firstSide_36 : decode cX6_firstSide 36 = .ok (.ireturn, 1) := by decide +kernel
theorem dX6_follow_0 : decode cX6_follow 0 = .ok (.iload_n 2, 1) := by decide +kernel
theorem dX6_follow_1 : decode cX6_follow 1 = .ok (.istore 5, 2) := by decide +kernel
theorem dX6_follow_3 : decode cX6_follow 3 = .ok (.iload 4, 2) := by decide +kernel
theorem dX6_follow_5 : decode cX6_follow 5 = .ok (.istore 6, 2) := by decide +kernel
theorem dX6_follow_7 : decode cX6_follow 7 = .ok (.aload_n 0, 1) := by decide +kernel
theorem dX6_follow_8 : decode cX6_follow 8 = .ok (.iconst 0, 1) := by decide +kernel
theorem dX6_follow_9 : decode cX6_follow 9 = .ok (.putfield 18, 3) := by decide +kernel
theorem dX6_follow_12 : decode cX6_follow 12 = .ok (.aload_n 0, 1) := by decide +kernel
theorem dX6_follow_13 : decode cX6_follow 13 = .ok (.iload_n 2, 1) := by decide +kernel
theorem dX6_follow_14 : decode cX6_follow 14 = .ok (.iload_n 3, 1) := by decide +kernel
theorem dX6_follow_15 : decode cX6_follow 15 = .ok (.if_icmp .ne 7, 3) := by decide +kernel
theorem dX6_follow_22 : decode cX6_follow 22 = .ok (.iconst 1, 1) := by decide +kernel
theorem dX6_follow_18 : decode cX6_follow 18 = .ok (.iconst 0, 1) := by decide +kernel
theorem dX6_follow_19 : decode cX6_follow 19 = .ok (.goto 4, 3) := by decide +kernel
theorem dX6_follow_23 : decode cX6_follow 23 = .ok (.putfield 22, 3) := by decide +kernel
theorem dX6_follow_26 : decode cX6_follow 26 = .ok (.iload 5, 2) := by decide +kernel
theorem dX6_follow_28 : decode cX6_follow 28 = .ok (.iload_n 3, 1) := by decide +kernel
theorem dX6_follow_29 : decode cX6_follow 29 = .ok (.if_icmp .eq 97, 3) := by decide +kernel
theorem dX6_follow_126 : decode cX6_follow 126 = .ok (.return_, 1) := by decide +kernel
theorem dX6_follow_32 : decode cX6_follow 32 = .ok (.aload_n 0, 1) := by decide +kernel
theorem dX6_follow_33 : decode cX6_follow 33 = .ok (.getfield 18, 3) := by decide +kernel
theorem dX6_follow_36 : decode cX6_follow 36 = .ok (.bipush 36, 2) := by decide +kernel
theorem dX6_follow_38 : decode cX6_follow 38 = .ok (.if_icmp .ge 88, 3) := by decide +kernel
theorem dX6_follow_41 : decode cX6_follow 41 = .ok (.aload_n 0, 1) := by decide +kernel
theorem dX6_follow_42 : decode cX6_follow 42 = .ok (.aload_n 1, 1) := by decide +kernel
theorem dX6_follow_43 : decode cX6_follow 43 = .ok (.iload 5, 2) := by decide +kernel
theorem dX6_follow_45 : decode cX6_follow 45 = .ok (.iload 4, 2) := by decide +kernel
theorem dX6_follow_47 : decode cX6_follow 47 = .ok (.invokevirtual 80, 3) := by decide +kernel
theorem dX6_follow_50 : decode cX6_follow 50 = .ok (.istore 7, 2) := by decide +kernel
theorem dX6_follow_52 : decode cX6_follow 52 = .ok (.aload_n 1, 1) := by decide +kernel
theorem dX6_follow_53 : decode cX6_follow 53 = .ok (.iload 5, 2) := by decide +kernel
theorem dX6_follow_55 : decode cX6_follow 55 = .ok (.iload 7, 2) := by decide +kernel
theorem dX6_follow_57 : decode cX6_follow 57 = .ok (.invokevirtual 73, 3) := by decide +kernel
theorem dX6_follow_60 : decode cX6_follow 60 = .ok (.istore 8, 2) := by decide +kernel
theorem dX6_follow_62 : decode cX6_follow 62 = .ok (.aload_n 1, 1) := by decide +kernel
theorem dX6_follow_63 : decode cX6_follow 63 = .ok (.iload 8, 2) := by decide +kernel
theorem dX6_follow_65 : decode cX6_follow 65 = .ok (.invokevirtual 77, 3) := by decide +kernel
theorem dX6_follow_68 : decode cX6_follow 68 = .ok (.istore 9, 2) := by decide +kernel
theorem dX6_follow_70 : decode cX6_follow 70 = .ok (.iload 9, 2) := by decide +kernel
theorem dX6_follow_72 : decode cX6_follow 72 = .ok (.iload 6, 2) := by decide +kernel
theorem dX6_follow_74 : decode cX6_follow 74 = .ok (.if_icmp .le 17, 3) := by decide +kernel
theorem dX6_follow_77 : decode cX6_follow 77 = .ok (.aload_n 0, 1) := by decide +kernel
theorem dX6_follow_78 : decode cX6_follow 78 = .ok (.dup, 1) := by decide +kernel
theorem dX6_follow_79 : decode cX6_follow 79 = .ok (.getfield 22, 3) := by decide +kernel
theorem dX6_follow_82 : decode cX6_follow 82 = .ok (.iconst 1, 1) := by decide +kernel
theorem dX6_follow_83 : decode cX6_follow 83 = .ok (.iadd, 1) := by decide +kernel
theorem dX6_follow_84 : decode cX6_follow 84 = .ok (.putfield 22, 3) := by decide +kernel
theorem dX6_follow_87 : decode cX6_follow 87 = .ok (.iload 4, 2) := by decide +kernel
theorem dX6_follow_89 : decode cX6_follow 89 = .ok (.istore 6, 2) := by decide +kernel
theorem dX6_follow_91 : decode cX6_follow 91 = .ok (.iload 6, 2) := by decide +kernel
theorem dX6_follow_93 : decode cX6_follow 93 = .ok (.iload 9, 2) := by decide +kernel
theorem dX6_follow_95 : decode cX6_follow 95 = .ok (.isub, 1) := by decide +kernel
theorem dX6_follow_96 : decode cX6_follow 96 = .ok (.istore 6, 2) := by decide +kernel
theorem dX6_follow_98 : decode cX6_follow 98 = .ok (.aload_n 0, 1) := by decide +kernel
theorem dX6_follow_99 : decode cX6_follow 99 = .ok (.getfield 15, 3) := by decide +kernel
theorem dX6_follow_102 : decode cX6_follow 102 = .ok (.aload_n 0, 1) := by decide +kernel
theorem dX6_follow_103 : decode cX6_follow 103 = .ok (.getfield 18, 3) := by decide +kernel
theorem dX6_follow_106 : decode cX6_follow 106 = .ok (.iload 7, 2) := by decide +kernel
theorem dX6_follow_108 : decode cX6_follow 108 = .ok (.iastore, 1) := by decide +kernel
theorem dX6_follow_109 : decode cX6_follow 109 = .ok (.aload_n 0, 1) := by decide +kernel
theorem dX6_follow_110 : decode cX6_follow 110 = .ok (.dup, 1) := by decide +kernel
theorem dX6_follow_111 : decode cX6_follow 111 = .ok (.getfield 18, 3) := by decide +kernel
theorem dX6_follow_114 : decode cX6_follow 114 = .ok (.iconst 1, 1) := by decide +kernel
theorem dX6_follow_115 : decode cX6_follow 115 = .ok (.iadd, 1) := by decide +kernel
theorem dX6_follow_116 : decode cX6_follow 116 = .ok (.putfield 18, 3) := by decide +kernel
theorem dX6_follow_119 : decode cX6_follow 119 = .ok (.iload 8, 2) := by decide +kernel
theorem dX6_follow_121 : decode cX6_follow 121 = .ok (.istore 5, 2) := by decide +kernel
theorem dX6_follow_123 : decode cX6_follow 123 = .ok (.goto (-97), 3) := by decide +kernel
theorem dX6_find_0 : decode cX6_find 0 = .ok (.aload_n 1, 1) := by decide +kernel
theorem dX6_find_1 : decode cX6_find 1 = .ok (.iload_n 2, 1) := by decide +kernel
theorem dX6_find_2 : decode cX6_find 2 = .ok (.invokevirtual 25, 3) := by decide +kernel
theorem dX6_find_5 : decode cX6_find 5 = .ok (.ifCond .eq 19, 3) := by decide +kernel
theorem dX6_find_8 : decode cX6_find 8 = .ok (.aload_n 1, 1) := by decide +kernel
theorem dX6_find_9 : decode cX6_find 9 = .ok (.iload_n 3, 1) := by decide +kernel
theorem dX6_find_10 : decode cX6_find 10 = .ok (.invokevirtual 31, 3) := by decide +kernel
theorem dX6_find_13 : decode cX6_find 13 = .ok (.ifCond .eq 11, 3) := by decide +kernel
theorem dX6_find_16 : decode cX6_find 16 = .ok (.aload_n 1, 1) := by decide +kernel
theorem dX6_find_17 : decode cX6_find 17 = .ok (.iload_n 2, 1) := by decide +kernel
theorem dX6_find_18 : decode cX6_find 18 = .ok (.invokevirtual 34, 3) := by decide +kernel
theorem dX6_find_21 : decode cX6_find 21 = .ok (.ifCond .eq 5, 3) := by decide +kernel
theorem dX6_find_24 : decode cX6_find 24 = .ok (.iconst (-1), 1) := by decide +kernel
theorem dX6_find_25 : decode cX6_find 25 = .ok (.ireturn, 1) := by decide +kernel
theorem dX6_find_26 : decode cX6_find 26 = .ok (.aload_n 1, 1) := by decide +kernel
theorem dX6_find_27 : decode cX6_find 27 = .ok (.getfield 37, 3) := by decide +kernel
theorem dX6_find_30 : decode cX6_find 30 = .ok (.iload_n 2, 1) := by decide +kernel
theorem dX6_find_31 : decode cX6_find 31 = .ok (.iaload, 1) := by decide +kernel
theorem dX6_find_32 : decode cX6_find 32 = .ok (.istore 4, 2) := by decide +kernel
theorem dX6_find_34 : decode cX6_find 34 = .ok (.aload_n 1, 1) := by decide +kernel
theorem dX6_find_35 : decode cX6_find 35 = .ok (.getfield 40, 3) := by decide +kernel
theorem dX6_find_38 : decode cX6_find 38 = .ok (.iload_n 3, 1) := by decide +kernel
theorem dX6_find_39 : decode cX6_find 39 = .ok (.iaload, 1) := by decide +kernel
theorem dX6_find_40 : decode cX6_find 40 = .ok (.istore 5, 2) := by decide +kernel
theorem dX6_find_42 : decode cX6_find 42 = .ok (.aload_n 0, 1) := by decide +kernel
theorem dX6_find_43 : decode cX6_find 43 = .ok (.aload_n 1, 1) := by decide +kernel
theorem dX6_find_44 : decode cX6_find 44 = .ok (.iload 5, 2) := by decide +kernel
theorem dX6_find_46 : decode cX6_find 46 = .ok (.aload_n 1, 1) := by decide +kernel
theorem dX6_find_47 : decode cX6_find 47 = .ok (.getfield 43, 3) := by decide +kernel
theorem dX6_find_50 : decode cX6_find 50 = .ok (.iload_n 2, 1) := by decide +kernel
theorem dX6_find_51 : decode cX6_find 51 = .ok (.iaload, 1) := by decide +kernel
theorem dX6_find_52 : decode cX6_find 52 = .ok (.invokevirtual 46, 3) := by decide +kernel
theorem dX6_find_55 : decode cX6_find 55 = .ok (.aload_n 0, 1) := by decide +kernel
theorem dX6_find_56 : decode cX6_find 56 = .ok (.iload 4, 2) := by decide +kernel
theorem dX6_find_58 : decode cX6_find 58 = .ok (.invokevirtual 50, 3) := by decide +kernel
theorem dX6_find_61 : decode cX6_find 61 = .ok (.istore 6, 2) := by decide +kernel
theorem dX6_find_63 : decode cX6_find 63 = .ok (.iload 6, 2) := by decide +kernel
theorem dX6_find_65 : decode cX6_find 65 = .ok (.ldc 54, 2) := by decide +kernel
theorem dX6_find_67 : decode cX6_find 67 = .ok (.if_icmp .lt 5, 3) := by decide +kernel
theorem dX6_find_72 : decode cX6_find 72 = .ok (.aload_n 0, 1) := by decide +kernel
theorem dX6_find_73 : decode cX6_find 73 = .ok (.aload_n 1, 1) := by decide +kernel
theorem dX6_find_74 : decode cX6_find 74 = .ok (.iload 4, 2) := by decide +kernel
theorem dX6_find_76 : decode cX6_find 76 = .ok (.iload 5, 2) := by decide +kernel
theorem dX6_find_78 : decode cX6_find 78 = .ok (.aload_n 1, 1) := by decide +kernel
theorem dX6_find_79 : decode cX6_find 79 = .ok (.getfield 43, 3) := by decide +kernel
theorem dX6_find_82 : decode cX6_find 82 = .ok (.iload_n 2, 1) := by decide +kernel
theorem dX6_find_83 : decode cX6_find 83 = .ok (.iaload, 1) := by decide +kernel
theorem dX6_find_84 : decode cX6_find 84 = .ok (.invokevirtual 55, 3) := by decide +kernel
theorem dX6_find_87 : decode cX6_find 87 = .ok (.iload 6, 2) := by decide +kernel
theorem dX6_find_89 : decode cX6_find 89 = .ok (.bipush 64, 2) := by decide +kernel
theorem dX6_find_91 : decode cX6_find 91 = .ok (.idiv, 1) := by decide +kernel
theorem dX6_find_92 : decode cX6_find 92 = .ok (.ireturn, 1) := by decide +kernel
theorem dX6_find_70 : decode cX6_find 70 = .ok (.iconst (-1), 1) := by decide +kernel
theorem dX6_find_71 : decode cX6_find 71 = .ok (.ireturn, 1) := by decide +kernel
theorem dX6_sideAt_0 : decode cX6_sideAt 0 = .ok (.iload_n 1, 1) := by decide +kernel
theorem dX6_sideAt_1 : decode cX6_sideAt 1 = .ok (.ifCond .lt 20, 3) := by decide +kernel
theorem dX6_sideAt_21 : decode cX6_sideAt 21 = .ok (.iconst (-1), 1) := by decide +kernel
theorem dX6_sideAt_22 : decode cX6_sideAt 22 = .ok (.ireturn, 1) := by decide +kernel
theorem dX6_sideAt_4 : decode cX6_sideAt 4 = .ok (.iload_n 1, 1) := by decide +kernel
theorem dX6_sideAt_5 : decode cX6_sideAt 5 = .ok (.aload_n 0, 1) := by decide +kernel
theorem dX6_sideAt_6 : decode cX6_sideAt 6 = .ok (.getfield 18, 3) := by decide +kernel
theorem dX6_sideAt_9 : decode cX6_sideAt 9 = .ok (.if_icmp .ge 12, 3) := by decide +kernel
theorem dX6_sideAt_12 : decode cX6_sideAt 12 = .ok (.aload_n 0, 1) := by decide +kernel
theorem dX6_sideAt_13 : decode cX6_sideAt 13 = .ok (.getfield 15, 3) := by decide +kernel
theorem dX6_sideAt_16 : decode cX6_sideAt 16 = .ok (.iload_n 1, 1) := by decide +kernel
theorem dX6_sideAt_17 : decode cX6_sideAt 17 = .ok (.iaload, 1) := by decide +kernel
theorem dX6_sideAt_18 : decode cX6_sideAt 18 = .ok (.goto 4, 3) := by decide +kernel
set_option maxRecDepth 100000 in
theorem ggX6_farnessBy_X7_nextCell : GoodIn wsX6_farnessBy wsX7_nextCell := goodIn_r _ [6, 7, 8, 9, 5, 10, 11, 12, 34, 35, 36, 37, 38, 39, 40, 41, 42, 43, 44, 45, 46, 47, 48, 49, 50, 51, 52] rfl (by decide +kernel)
set_option maxRecDepth 100000 in
theorem ggX6_farnessBy_X7_stepCost : GoodIn wsX6_farnessBy wsX7_stepCost := goodIn_r _ [16, 17, 18, 19, 5, 20, 21, 22, 23, 24, 25, 26, 27, 34, 35, 36, 37, 38, 39, 40, 41, 42, 43, 44, 45, 46, 47, 48, 49, 50, 51, 52] rfl (by decide +kernel)
set_option maxRecDepth 100000 in
theorem ggX6_farnessBy_X6_farnessOf : GoodIn wsX6_farnessBy wsX6_farnessOf := goodIn_r _ [32, 33, 1, 53, 54, 55, 56] rfl (by decide +kernel)
set_option maxRecDepth 100000 in
theorem ggX6_bringNearer_X6_farnessBy : GoodIn wsX6_bringNearer wsX6_farnessBy := goodIn_r _ [6, 7, 8, 9, 10, 11, 12, 13, 14, 15, 16, 17, 18, 19, 20, 21, 22, 23, 24, 25, 26, 27, 28, 29, 30, 31, 32, 33, 34, 35, 36, 5, 37, 1, 42, 43, 44, 45, 46, 47, 48, 49, 50, 51, 52, 53, 54, 55, 56, 57, 58, 59, 60, 38, 39, 40, 41] rfl (by decide +kernel)
set_option maxRecDepth 100000 in
theorem ggX6_measure_X6_bringNearer : GoodIn wsX6_measure wsX6_bringNearer := goodIn_r _ [9, 1, 10, 11, 12, 8, 13, 2, 14, 15, 16, 17, 18, 19, 20, 21, 22, 23, 24, 25, 26, 27, 28, 29, 30, 31, 32, 33, 34, 35, 36, 37, 38, 39, 40, 41, 42, 43, 44, 45, 46, 47, 48, 49, 50, 51, 52, 53, 54, 55, 56, 57, 58, 59, 60, 61, 62, 63, 64, 65, 66] rfl (by decide +kernel)
set_option maxRecDepth 100000 in
theorem ggX6_firstSide_X6_farnessBy : GoodIn wsX6_firstSide wsX6_farnessBy := goodIn_r _ [5, 6, 7, 8, 9, 10, 11, 12, 13, 14, 15, 16, 17, 18, 19, 20, 21, 22, 23, 24, 25, 26, 27, 28, 29, 30, 31, 32, 33, 34, 35, 4, 36, 37, 38, 39, 40, 41, 42, 43, 44, 45, 46, 47, 48, 49, 50, 51, 52, 53, 54, 55, 56, 57, 58, 59, 60] rfl (by decide +kernel)
set_option maxRecDepth 100000 in
theorem ggX6_firstSide_X6_farnessOf : GoodIn wsX6_firstSide wsX6_farnessOf := goodIn_r _ [36, 37, 6, 57, 58, 59, 60] rfl (by decide +kernel)
set_option maxRecDepth 100000 in
theorem ggX6_follow_X6_firstSide : GoodIn wsX6_follow wsX6_firstSide := goodIn_r _ [8, 9, 10, 11, 7, 12, 13, 14, 15, 16, 17, 18, 19, 20, 21, 22, 23, 24, 25, 26, 27, 28, 29, 30, 31, 32, 33, 34, 35, 36, 37, 38, 39, 40, 41, 42, 43, 44, 49, 50, 51, 52, 53, 54, 55, 56, 57, 58, 59, 60, 61, 62, 63, 64, 65, 66, 67, 45, 46, 47, 48] rfl (by decide +kernel)
set_option maxRecDepth 100000 in
theorem ggX6_follow_X7_nextCell : GoodIn wsX6_follow wsX7_nextCell := goodIn_r _ [18, 19, 20, 21, 17, 22, 23, 24, 49, 50, 51, 52, 53, 54, 55, 56, 57, 58, 59, 60, 61, 62, 63, 64, 65, 66, 67] rfl (by decide +kernel)
set_option maxRecDepth 100000 in
theorem ggX6_follow_X7_stepCost : GoodIn wsX6_follow wsX7_stepCost := goodIn_r _ [28, 29, 30, 31, 17, 32, 33, 34, 35, 36, 37, 38, 39, 49, 50, 51, 52, 53, 54, 55, 56, 57, 58, 59, 60, 61, 62, 63, 64, 65, 66, 67] rfl (by decide +kernel)
set_option maxRecDepth 100000 in
theorem ggX6_find_X7_isBoat : GoodIn wsX6_find wsX7_isBoat := goodIn_r _ [9, 10, 78, 79, 80, 81, 82, 83, 84, 85, 86, 87, 88, 89, 90, 91, 92, 93, 94, 95, 96] rfl (by decide +kernel)
set_option maxRecDepth 100000 in
theorem ggX6_find_X7_isLump : GoodIn wsX6_find wsX7_isLump := goodIn_r _ [14, 15, 78, 79, 80, 81, 82, 83, 84, 85, 86, 87, 88, 89, 90, 91, 92, 93, 94, 95, 96] rfl (by decide +kernel)
set_option maxRecDepth 100000 in
theorem ggX6_find_X7_isEaten : GoodIn wsX6_find wsX7_isEaten := goodIn_r _ [19, 20, 21, 6, 7, 8, 9, 10, 78, 79, 80, 81, 82, 83, 84, 85, 86, 87, 88, 89, 90, 91, 92, 93, 94, 95, 96] rfl (by decide +kernel)
set_option maxRecDepth 100000 in
theorem ggX6_find_X6_measure : GoodIn wsX6_find wsX6_measure := goodIn_r _ [26, 27, 4, 28, 29, 30, 31, 32, 25, 33, 34, 35, 36, 37, 38, 39, 40, 8, 41, 42, 43, 44, 45, 46, 47, 48, 49, 50, 51, 52, 53, 54, 55, 56, 57, 58, 59, 60, 61, 62, 63, 64, 65, 66, 97, 98, 99, 100, 78, 79, 80, 81, 82, 83, 84, 85, 86, 87, 88, 89, 90, 91, 92, 93, 94, 95, 96] rfl (by decide +kernel)
set_option maxRecDepth 100000 in
theorem ggX6_find_X6_farnessOf : GoodIn wsX6_find wsX6_farnessOf := goodIn_r _ [66, 27, 4, 97, 98, 99, 100] rfl (by decide +kernel)
set_option maxRecDepth 100000 in
theorem ggX6_find_X6_follow : GoodIn wsX6_find wsX6_follow := goodIn_r _ [70, 71, 72, 73, 74, 75, 76, 25, 77, 34, 35, 36, 37, 4, 38, 39, 40, 8, 41, 42, 43, 44, 45, 46, 47, 48, 49, 50, 51, 52, 53, 54, 55, 56, 57, 58, 59, 60, 61, 62, 63, 64, 65, 66, 27, 97, 98, 99, 100, 78, 79, 80, 81, 82, 83, 84, 85, 86, 87, 88, 89, 90, 91, 92, 93, 94, 95, 96] rfl (by decide +kernel)
set_option maxRecDepth 100000 in
theorem gX6_farnessBy_X7_nextCell : GoodIn wsX6_farnessBy (wsV RX6 73 RX7 yX7_nextCell wsX7_nextCell) := goodIn_app (goodIn_of _ (by decide +kernel)) ggX6_farnessBy_X7_nextCell
set_option maxRecDepth 100000 in
theorem gX6_farnessBy_X7_stepCost : GoodIn wsX6_farnessBy (wsV RX6 77 RX7 yX7_stepCost wsX7_stepCost) := goodIn_app (goodIn_of _ (by decide +kernel)) ggX6_farnessBy_X7_stepCost
set_option maxRecDepth 100000 in
theorem gX6_farnessBy_X6_farnessOf : GoodIn wsX6_farnessBy (wsV RX6 50 RX6 yX6_farnessOf wsX6_farnessOf) := goodIn_app (goodIn_of _ (by decide +kernel)) ggX6_farnessBy_X6_farnessOf
set_option maxRecDepth 100000 in
theorem gX6_bringNearer_X6_farnessBy : GoodIn wsX6_bringNearer (wsV RX6 69 RX6 yX6_farnessBy wsX6_farnessBy) := goodIn_app (goodIn_of _ (by decide +kernel)) ggX6_bringNearer_X6_farnessBy
set_option maxRecDepth 100000 in
theorem gX6_measure_X6_bringNearer : GoodIn wsX6_measure (wsV RX6 65 RX6 yX6_bringNearer wsX6_bringNearer) := goodIn_app (goodIn_of _ (by decide +kernel)) ggX6_measure_X6_bringNearer
set_option maxRecDepth 100000 in
theorem gX6_firstSide_X6_farnessBy : GoodIn wsX6_firstSide (wsV RX6 69 RX6 yX6_farnessBy wsX6_farnessBy) := goodIn_app (goodIn_of _ (by decide +kernel)) ggX6_firstSide_X6_farnessBy
set_option maxRecDepth 100000 in
theorem gX6_firstSide_X6_farnessOf : GoodIn wsX6_firstSide (wsV RX6 50 RX6 yX6_farnessOf wsX6_farnessOf) := goodIn_app (goodIn_of _ (by decide +kernel)) ggX6_firstSide_X6_farnessOf
set_option maxRecDepth 100000 in
theorem gX6_follow_X6_firstSide : GoodIn wsX6_follow (wsV RX6 80 RX6 yX6_firstSide wsX6_firstSide) := goodIn_app (goodIn_of _ (by decide +kernel)) ggX6_follow_X6_firstSide
set_option maxRecDepth 100000 in
theorem gX6_follow_X7_nextCell : GoodIn wsX6_follow (wsV RX6 73 RX7 yX7_nextCell wsX7_nextCell) := goodIn_app (goodIn_of _ (by decide +kernel)) ggX6_follow_X7_nextCell
set_option maxRecDepth 100000 in
theorem gX6_follow_X7_stepCost : GoodIn wsX6_follow (wsV RX6 77 RX7 yX7_stepCost wsX7_stepCost) := goodIn_app (goodIn_of _ (by decide +kernel)) ggX6_follow_X7_stepCost
set_option maxRecDepth 100000 in
theorem gX6_find_X7_isBoat : GoodIn wsX6_find (wsV RX6 25 RX7 yX7_isBoat wsX7_isBoat) := goodIn_app (goodIn_of _ (by decide +kernel)) ggX6_find_X7_isBoat
set_option maxRecDepth 100000 in
theorem gX6_find_X7_isLump : GoodIn wsX6_find (wsV RX6 31 RX7 yX7_isLump wsX7_isLump) := goodIn_app (goodIn_of _ (by decide +kernel)) ggX6_find_X7_isLump
set_option maxRecDepth 100000 in
theorem gX6_find_X7_isEaten : GoodIn wsX6_find (wsV RX6 34 RX7 yX7_isEaten wsX7_isEaten) := goodIn_app (goodIn_of _ (by decide +kernel)) ggX6_find_X7_isEaten
set_option maxRecDepth 100000 in
theorem gX6_find_X6_measure : GoodIn wsX6_find (wsV RX6 46 RX6 yX6_measure wsX6_measure) := goodIn_app (goodIn_of _ (by decide +kernel)) ggX6_find_X6_measure
set_option maxRecDepth 100000 in
theorem gX6_find_X6_farnessOf : GoodIn wsX6_find (wsV RX6 50 RX6 yX6_farnessOf wsX6_farnessOf) := goodIn_app (goodIn_of _ (by decide +kernel)) ggX6_find_X6_farnessOf
set_option maxRecDepth 100000 in
theorem gX6_find_X6_follow : GoodIn wsX6_find (wsV RX6 55 RX6 yX6_follow wsX6_follow) := goodIn_app (goodIn_of _ (by decide +kernel)) ggX6_find_X6_follow
set_option maxHeartbeats 4000000 in
set_option maxRecDepth 100000 in
theorem c_j_bitI (l : Launch) (dC : Nat → ClassId) (dI : Nat → Nat → Nat) (ky : Nat → ClassId) (x : Int32)  : Met l yJ6_bitCount_0f7a4 wsJ6_bitCount_0f7a4 ({ frames := 0, cells := 0, slots := 0, locals := 0 }) (PcP dC dI ky [.int x] []) (vp_Si (fun r : Int32 => True)) 0 0 (fun _ => False) := by
  refine Met.ofW (cc := cJ6_bitCount_0f7a4) (maxL := 1) (ret := (some .int)) (by decide) rfl ?_
  intro p e s m args below meth c s₁ B hml hv
  obtain ⟨rfl, hP, hK⟩ := hv
  have hx := B.exec
  have hb := B.bytes
  have hr := B.returns
  have hts := atoms_spec (ws := wsJ6_bitCount_0f7a4) B.pre
  have hown : s.vm.findClass RJ6 = some m.cls := findClass_of_methodNamed B.named
  have hlocks := B.notSynchronized
  have hl := lv_entry ([.int x]) (n := 1) (Nat.le_of_ble_eq_true rfl)
  rw [lg_entry_eq]
  generalize (lg_sl ([.int x]) ++ List.replicate (1 - (lg_sl ([.int x])).length) Slot.unset).toArray = ls at hl ⊢
  have hl : lv_has ls 1 [(0, .int x)] := hl
  refine q_name (fun Q hQ => ?_)
  generalize ([.int x] : List Value).toArray = args at hts hQ ⊢
  refine lv_iload_n hx hb dJ6_bitCount_0f7a4_0 rfl (lv_at hl 0 rfl) ?_
  refine lv_iload_n hx hb dJ6_bitCount_0f7a4_1 rfl (lv_at hl 0 rfl) ?_
  refine lv_iconst (v := nI 1) hx hb dJ6_bitCount_0f7a4_2 (by decide) ?_
  refine lv_iushr hx hb dJ6_bitCount_0f7a4_3 rfl ?_
  refine lv_topi (fun y1 e2 => ?_)
  refine lv_ldcw (v := nI 1431655765) hx hb hown (hts (.constant RJ6 265 (nI 1431655765)) (List.mem_of_getElem? (i := 1) rfl)) dJ6_bitCount_0f7a4_4 ?_
  refine lv_iand hx hb dJ6_bitCount_0f7a4_7 ?_
  refine lv_topi (fun y3 e4 => ?_)
  refine lv_isub hx hb dJ6_bitCount_0f7a4_8 ?_
  refine lv_topi (fun y5 e6 => ?_)
  refine lv_istore_n (lv' := [(0, .int y5)]) hx hb dJ6_bitCount_0f7a4_9 rfl hl (by decide) rfl (fun ls hl => ?_)
  refine lv_iload_n hx hb dJ6_bitCount_0f7a4_10 rfl (lv_at hl 0 rfl) ?_
  refine lv_ldcw (v := nI 858993459) hx hb hown (hts (.constant RJ6 266 (nI 858993459)) (List.mem_of_getElem? (i := 2) rfl)) dJ6_bitCount_0f7a4_11 ?_
  refine lv_iand hx hb dJ6_bitCount_0f7a4_14 ?_
  refine lv_topi (fun y7 e8 => ?_)
  refine lv_iload_n hx hb dJ6_bitCount_0f7a4_15 rfl (lv_at hl 0 rfl) ?_
  refine lv_iconst (v := nI 2) hx hb dJ6_bitCount_0f7a4_16 (by decide) ?_
  refine lv_iushr hx hb dJ6_bitCount_0f7a4_17 rfl ?_
  refine lv_topi (fun y9 e10 => ?_)
  refine lv_ldcw (v := nI 858993459) hx hb hown (hts (.constant RJ6 266 (nI 858993459)) (List.mem_of_getElem? (i := 2) rfl)) dJ6_bitCount_0f7a4_18 ?_
  refine lv_iand hx hb dJ6_bitCount_0f7a4_21 ?_
  refine lv_topi (fun y11 e12 => ?_)
  refine lv_iadd hx hb dJ6_bitCount_0f7a4_22 ?_
  refine lv_topi (fun y13 e14 => ?_)
  refine lv_istore_n (lv' := [(0, .int y13)]) hx hb dJ6_bitCount_0f7a4_23 rfl hl (by decide) rfl (fun ls hl => ?_)
  refine lv_iload_n hx hb dJ6_bitCount_0f7a4_24 rfl (lv_at hl 0 rfl) ?_
  refine lv_iload_n hx hb dJ6_bitCount_0f7a4_25 rfl (lv_at hl 0 rfl) ?_
  refine lv_iconst (v := nI 4) hx hb dJ6_bitCount_0f7a4_26 (by decide) ?_
  refine lv_iushr hx hb dJ6_bitCount_0f7a4_27 rfl ?_
  refine lv_topi (fun y15 e16 => ?_)
  refine lv_iadd hx hb dJ6_bitCount_0f7a4_28 ?_
  refine lv_topi (fun y17 e18 => ?_)
  refine lv_ldcw (v := nI 252645135) hx hb hown (hts (.constant RJ6 267 (nI 252645135)) (List.mem_of_getElem? (i := 3) rfl)) dJ6_bitCount_0f7a4_29 ?_
  refine lv_iand hx hb dJ6_bitCount_0f7a4_32 ?_
  refine lv_topi (fun y19 e20 => ?_)
  refine lv_istore_n (lv' := [(0, .int y19)]) hx hb dJ6_bitCount_0f7a4_33 rfl hl (by decide) rfl (fun ls hl => ?_)
  refine lv_iload_n hx hb dJ6_bitCount_0f7a4_34 rfl (lv_at hl 0 rfl) ?_
  refine lv_iload_n hx hb dJ6_bitCount_0f7a4_35 rfl (lv_at hl 0 rfl) ?_
  refine lv_bipush (v := nI 8) hx hb dJ6_bitCount_0f7a4_36 (by decide) ?_
  refine lv_iushr hx hb dJ6_bitCount_0f7a4_38 rfl ?_
  refine lv_topi (fun y21 e22 => ?_)
  refine lv_iadd hx hb dJ6_bitCount_0f7a4_39 ?_
  refine lv_topi (fun y23 e24 => ?_)
  refine lv_istore_n (lv' := [(0, .int y23)]) hx hb dJ6_bitCount_0f7a4_40 rfl hl (by decide) rfl (fun ls hl => ?_)
  refine lv_iload_n hx hb dJ6_bitCount_0f7a4_41 rfl (lv_at hl 0 rfl) ?_
  refine lv_iload_n hx hb dJ6_bitCount_0f7a4_42 rfl (lv_at hl 0 rfl) ?_
  refine lv_bipush (v := nI 16) hx hb dJ6_bitCount_0f7a4_43 (by decide) ?_
  refine lv_iushr hx hb dJ6_bitCount_0f7a4_45 rfl ?_
  refine lv_topi (fun y25 e26 => ?_)
  refine lv_iadd hx hb dJ6_bitCount_0f7a4_46 ?_
  refine lv_topi (fun y27 e28 => ?_)
  refine lv_istore_n (lv' := [(0, .int y27)]) hx hb dJ6_bitCount_0f7a4_47 rfl hl (by decide) rfl (fun ls hl => ?_)
  refine lv_iload_n hx hb dJ6_bitCount_0f7a4_48 rfl (lv_at hl 0 rfl) ?_
  refine lv_bipush (v := nI 63) hx hb dJ6_bitCount_0f7a4_49 (by decide) ?_
  refine lv_iand hx hb dJ6_bitCount_0f7a4_51 ?_
  refine lv_topi (fun y29 e30 => ?_)
  rw [hQ]
  exact W.iret (v := y29) hx hb hr (fun t9 ht9 hW9 => ⟨y29, rfl, trivial, ht9⟩) (fun _ h => absurd h List.not_mem_nil) dJ6_bitCount_0f7a4_52
set_option maxHeartbeats 4000000 in
set_option maxRecDepth 100000 in
theorem c_j_bitL (l : Launch) (dC : Nat → ClassId) (dI : Nat → Nat → Nat) (ky : Nat → ClassId) (x : Int64)  : Met l yJ13_bitCount_95d88 wsJ13_bitCount_95d88 ({ frames := 0, cells := 0, slots := 0, locals := 0 }) (PcP dC dI ky [.long x] []) (vp_Si (fun r : Int32 => True)) 0 0 (fun _ => False) := by
  refine Met.ofW (cc := cJ13_bitCount_95d88) (maxL := 2) (ret := (some .int)) (by decide) rfl ?_
  intro p e s m args below meth c s₁ B hml hv
  obtain ⟨rfl, hP, hK⟩ := hv
  have hx := B.exec
  have hb := B.bytes
  have hr := B.returns
  have hts := atoms_spec (ws := wsJ13_bitCount_95d88) B.pre
  have hown : s.vm.findClass RJ13 = some m.cls := findClass_of_methodNamed B.named
  have hlocks := B.notSynchronized
  have hl := lv_entry ([.long x]) (n := 2) (Nat.le_of_ble_eq_true rfl)
  rw [lg_entry_eq]
  generalize (lg_sl ([.long x]) ++ List.replicate (2 - (lg_sl ([.long x])).length) Slot.unset).toArray = ls at hl ⊢
  have hl : lv_has ls 2 [(0, .long x)] := hl
  refine q_name (fun Q hQ => ?_)
  generalize ([.long x] : List Value).toArray = args at hts hQ ⊢
  refine lv_lload_n hx hb dJ13_bitCount_95d88_0 rfl (lv_at hl 0 rfl) ?_
  refine lv_lload_n hx hb dJ13_bitCount_95d88_1 rfl (lv_at hl 0 rfl) ?_
  refine lv_iconst (v := nI 1) hx hb dJ13_bitCount_95d88_2 (by decide) ?_
  obtain ⟨w1, e2⟩ : ∃ z9 : Int64, z9 = ((x).toUInt64 >>> ((nI 1).toInt64.toUInt64 &&& Int64.toUInt64 63)).toInt64 := ⟨_, rfl⟩
  refine lv_lushr (v := w1) hx hb dJ13_bitCount_95d88_3 e2.symm ?_
  refine lv_ldc2 (v := 6148914691236517205) hx hb hown (hts _ (List.mem_of_getElem? (i := 1) rfl)) dJ13_bitCount_95d88_4 ?_
  refine lv_land hx hb dJ13_bitCount_95d88_7 ?_
  refine lv_topl (fun w3 e4 => ?_)
  refine lv_lsub hx hb dJ13_bitCount_95d88_8 ?_
  refine lv_topl (fun w5 e6 => ?_)
  refine lv_lstore_n (lv' := [(0, .long w5)]) hx hb dJ13_bitCount_95d88_9 rfl hl (by decide) rfl (fun ls hl => ?_)
  refine lv_lload_n hx hb dJ13_bitCount_95d88_10 rfl (lv_at hl 0 rfl) ?_
  refine lv_ldc2 (v := 3689348814741910323) hx hb hown (hts _ (List.mem_of_getElem? (i := 2) rfl)) dJ13_bitCount_95d88_11 ?_
  refine lv_land hx hb dJ13_bitCount_95d88_14 ?_
  refine lv_topl (fun w7 e8 => ?_)
  refine lv_lload_n hx hb dJ13_bitCount_95d88_15 rfl (lv_at hl 0 rfl) ?_
  refine lv_iconst (v := nI 2) hx hb dJ13_bitCount_95d88_16 (by decide) ?_
  obtain ⟨w9, e10⟩ : ∃ z9 : Int64, z9 = ((w5).toUInt64 >>> ((nI 2).toInt64.toUInt64 &&& Int64.toUInt64 63)).toInt64 := ⟨_, rfl⟩
  refine lv_lushr (v := w9) hx hb dJ13_bitCount_95d88_17 e10.symm ?_
  refine lv_ldc2 (v := 3689348814741910323) hx hb hown (hts _ (List.mem_of_getElem? (i := 2) rfl)) dJ13_bitCount_95d88_18 ?_
  refine lv_land hx hb dJ13_bitCount_95d88_21 ?_
  refine lv_topl (fun w11 e12 => ?_)
  refine lv_ladd hx hb dJ13_bitCount_95d88_22 ?_
  refine lv_topl (fun w13 e14 => ?_)
  refine lv_lstore_n (lv' := [(0, .long w13)]) hx hb dJ13_bitCount_95d88_23 rfl hl (by decide) rfl (fun ls hl => ?_)
  refine lv_lload_n hx hb dJ13_bitCount_95d88_24 rfl (lv_at hl 0 rfl) ?_
  refine lv_lload_n hx hb dJ13_bitCount_95d88_25 rfl (lv_at hl 0 rfl) ?_
  refine lv_iconst (v := nI 4) hx hb dJ13_bitCount_95d88_26 (by decide) ?_
  obtain ⟨w15, e16⟩ : ∃ z9 : Int64, z9 = ((w13).toUInt64 >>> ((nI 4).toInt64.toUInt64 &&& Int64.toUInt64 63)).toInt64 := ⟨_, rfl⟩
  refine lv_lushr (v := w15) hx hb dJ13_bitCount_95d88_27 e16.symm ?_
  refine lv_ladd hx hb dJ13_bitCount_95d88_28 ?_
  refine lv_topl (fun w17 e18 => ?_)
  refine lv_ldc2 (v := 1085102592571150095) hx hb hown (hts _ (List.mem_of_getElem? (i := 3) rfl)) dJ13_bitCount_95d88_29 ?_
  refine lv_land hx hb dJ13_bitCount_95d88_32 ?_
  refine lv_topl (fun w19 e20 => ?_)
  refine lv_lstore_n (lv' := [(0, .long w19)]) hx hb dJ13_bitCount_95d88_33 rfl hl (by decide) rfl (fun ls hl => ?_)
  refine lv_lload_n hx hb dJ13_bitCount_95d88_34 rfl (lv_at hl 0 rfl) ?_
  refine lv_lload_n hx hb dJ13_bitCount_95d88_35 rfl (lv_at hl 0 rfl) ?_
  refine lv_bipush (v := nI 8) hx hb dJ13_bitCount_95d88_36 (by decide) ?_
  obtain ⟨w21, e22⟩ : ∃ z9 : Int64, z9 = ((w19).toUInt64 >>> ((nI 8).toInt64.toUInt64 &&& Int64.toUInt64 63)).toInt64 := ⟨_, rfl⟩
  refine lv_lushr (v := w21) hx hb dJ13_bitCount_95d88_38 e22.symm ?_
  refine lv_ladd hx hb dJ13_bitCount_95d88_39 ?_
  refine lv_topl (fun w23 e24 => ?_)
  refine lv_lstore_n (lv' := [(0, .long w23)]) hx hb dJ13_bitCount_95d88_40 rfl hl (by decide) rfl (fun ls hl => ?_)
  refine lv_lload_n hx hb dJ13_bitCount_95d88_41 rfl (lv_at hl 0 rfl) ?_
  refine lv_lload_n hx hb dJ13_bitCount_95d88_42 rfl (lv_at hl 0 rfl) ?_
  refine lv_bipush (v := nI 16) hx hb dJ13_bitCount_95d88_43 (by decide) ?_
  obtain ⟨w25, e26⟩ : ∃ z9 : Int64, z9 = ((w23).toUInt64 >>> ((nI 16).toInt64.toUInt64 &&& Int64.toUInt64 63)).toInt64 := ⟨_, rfl⟩
  refine lv_lushr (v := w25) hx hb dJ13_bitCount_95d88_45 e26.symm ?_
  refine lv_ladd hx hb dJ13_bitCount_95d88_46 ?_
  refine lv_topl (fun w27 e28 => ?_)
  refine lv_lstore_n (lv' := [(0, .long w27)]) hx hb dJ13_bitCount_95d88_47 rfl hl (by decide) rfl (fun ls hl => ?_)
  refine lv_lload_n hx hb dJ13_bitCount_95d88_48 rfl (lv_at hl 0 rfl) ?_
  refine lv_lload_n hx hb dJ13_bitCount_95d88_49 rfl (lv_at hl 0 rfl) ?_
  refine lv_bipush (v := nI 32) hx hb dJ13_bitCount_95d88_50 (by decide) ?_
  obtain ⟨w29, e30⟩ : ∃ z9 : Int64, z9 = ((w27).toUInt64 >>> ((nI 32).toInt64.toUInt64 &&& Int64.toUInt64 63)).toInt64 := ⟨_, rfl⟩
  refine lv_lushr (v := w29) hx hb dJ13_bitCount_95d88_52 e30.symm ?_
  refine lv_ladd hx hb dJ13_bitCount_95d88_53 ?_
  refine lv_topl (fun w31 e32 => ?_)
  refine lv_lstore_n (lv' := [(0, .long w31)]) hx hb dJ13_bitCount_95d88_54 rfl hl (by decide) rfl (fun ls hl => ?_)
  refine lv_lload_n hx hb dJ13_bitCount_95d88_55 rfl (lv_at hl 0 rfl) ?_
  obtain ⟨y33, e34⟩ : ∃ z9 : Int32, z9 = (w31).toInt32 := ⟨_, rfl⟩
  refine lv_l2i (v := y33) hx hb dJ13_bitCount_95d88_56 e34.symm ?_
  refine lv_bipush (v := nI 127) hx hb dJ13_bitCount_95d88_57 (by decide) ?_
  refine lv_iand hx hb dJ13_bitCount_95d88_59 ?_
  refine lv_topi (fun y35 e36 => ?_)
  rw [hQ]
  exact W.iret (v := y35) hx hb hr (fun t9 ht9 hW9 => ⟨y35, rfl, trivial, ht9⟩) (fun _ h => absurd h List.not_mem_nil) dJ13_bitCount_95d88_60
set_option maxRecDepth 20000 in
theorem lf_o_farnessOf_1 (x : Int32) (c1 : ¬ x < 0) (c2 : ¬ nI 36 ≤ x) : 0 ≤ x.toInt ∧ x.toInt < ((36 : Nat) : Int) := by
  have b_x := ia_b x
  try have k_0 := ia_n 36 (by first | decide | omega)
  try simp only [ia_lt, ia_le, ia_eq, ia_m1, ia_0, ia_1, ne_eq, true_and, and_true, false_and, and_false, or_false, false_or, or_true, true_or, not_true_eq_false, not_false_eq_true] at *
  all_goals omega
set_option maxHeartbeats 4000000 in
set_option maxRecDepth 100000 in
theorem c_o_farnessOf (l : Launch) (dC : Nat → ClassId) (dI : Nat → Nat → Nat) (ky : Nat → ClassId) (ro : Nat) (ofarness : Nat) (osides : Nat) (ostepCount : Nat) (odaysTaken : Int32) (ofarnessF : Nat → Int32) (osidesF : Nat → Int32) (x : Int32) (iv_oro_0 : ostepCount ≤ 36) : Met l yX6_farnessOf wsX6_farnessOf ({ frames := 0, cells := 0, slots := 0, locals := 0 }) (PcP dC dI ky [.ref ro, .int x] [(ro, .inr (6, [.ref ofarness, .ref osides, .int (nI ostepCount), .int odaysTaken])), (ofarness, .inl (ky 0, 36, .inl ofarnessF)), (osides, .inl (ky 0, 36, .inl osidesF))]) (vp_Si (fun r : Int32 => True)) 0 0 (fun _ => False) := by
  refine Met.ofW (cc := cX6_farnessOf) (maxL := 2) (ret := (some .int)) (by decide) rfl ?_
  intro p e s m args below meth c s₁ B hml hv
  obtain ⟨rfl, hP, hK⟩ := hv
  have hx := B.exec
  have hb := B.bytes
  have hr := B.returns
  have hts := atoms_spec (ws := wsX6_farnessOf) B.pre
  have hown : s.vm.findClass RX6 = some m.cls := findClass_of_methodNamed B.named
  have hlocks := B.notSynchronized
  have hin6 : ∀ w ∈ u_ws RX6 TX6 4, w ∈ wsX6_farnessOf := by decide +kernel
  have hl := lv_entry ([.ref ro, .int x]) (n := 2) (Nat.le_of_ble_eq_true rfl)
  rw [lg_entry_eq]
  generalize (lg_sl ([.ref ro, .int x]) ++ List.replicate (2 - (lg_sl ([.ref ro, .int x])).length) Slot.unset).toArray = ls at hl ⊢
  have hl : lv_has ls 2 [(0, .ref ro), (1, .int x)] := hl
  refine q_name (fun Q hQ => ?_)
  generalize ([.ref ro, .int x] : List Value).toArray = args at hts hQ ⊢
  refine lv_iload_n hx hb dX6_farnessOf_0 rfl (lv_at hl 1 rfl) ?_
  refine lv_if_lt (tgt := 19) hx hb dX6_farnessOf_1 (by decide) (fun c1 => ?_) (fun c1 => ?_)
  · refine lv_ldc (v := nI 1048576) hx hb hown (hts (.constant RX6 54 (nI 1048576)) (List.mem_of_getElem? (i := 2) rfl)) dX6_farnessOf_19 ?_
    rw [hQ]
    exact W.iret (v := nI 1048576) hx hb hr (fun t9 ht9 hW9 => ⟨nI 1048576, rfl, trivial, ht9⟩) (fun _ h => absurd h List.not_mem_nil) dX6_farnessOf_21
  · refine lv_iload_n hx hb dX6_farnessOf_4 rfl (lv_at hl 1 rfl) ?_
    refine lv_bipush (v := nI 36) hx hb dX6_farnessOf_5 (by decide) ?_
    refine lv_icmp_ge (tgt := 19) hx hb dX6_farnessOf_7 (by decide) (fun c2 => ?_) (fun c2 => ?_)
    · refine lv_ldc (v := nI 1048576) hx hb hown (hts (.constant RX6 54 (nI 1048576)) (List.mem_of_getElem? (i := 2) rfl)) dX6_farnessOf_19 ?_
      rw [hQ]
      exact W.iret (v := nI 1048576) hx hb hr (fun t9 ht9 hW9 => ⟨nI 1048576, rfl, trivial, ht9⟩) (fun _ h => absurd h List.not_mem_nil) dX6_farnessOf_21
    · refine lv_aload_n hx hb dX6_farnessOf_10 rfl (lv_at hl 0 rfl) ?_
      refine va_get (D := (dC, dI)) (ci := 6) (v := .ref ofarness) (C := RX6) (T := TX6) (N := 4) hx hb hts hin6 hown hK hP 0 rfl rfl 0 (by decide) (hts (.fieldLink RX6 9 "PorridgeSea$Route" "farness" "[I") (List.mem_of_getElem? (i := 1) rfl)) (fun _ h9 => h9) rfl dX6_farnessOf_11 ?_
      refine lv_iload_n hx hb dX6_farnessOf_14 rfl (lv_at hl 1 rfl) ?_
      obtain ⟨n3, h4, e5⟩ := nat_of x 36 (by decide) (lf_o_farnessOf_1 x c1 c2)
      rw [e5]
      obtain ⟨y6, e7⟩ : ∃ z9, z9 = ofarnessF n3 := ⟨_, rfl⟩
      refine r_iald hx hb hK hP 1 rfl n3 (by omega) (by decide) y6 e7.symm dX6_farnessOf_15 ?_
      refine lv_goto (tgt := 21) hx hb dX6_farnessOf_16 (by decide) ?_
      rw [hQ]
      exact W.iret (v := y6) hx hb hr (fun t9 ht9 hW9 => ⟨y6, rfl, trivial, ht9⟩) (fun _ h => absurd h List.not_mem_nil) dX6_farnessOf_21
set_option maxHeartbeats 4000000 in
set_option maxRecDepth 100000 in
theorem c_o_farnessBy (l : Launch) (dC : Nat → ClassId) (dI : Nat → Nat → Nat) (ky : Nat → ClassId) (ro : Nat) (ofarness : Nat) (osides : Nat) (ostepCount : Nat) (odaysTaken : Int32) (ofarnessF : Nat → Int32) (osidesF : Nat → Int32) (a : Nat) (wide : Nat) (high : Nat) (heat : Int32) (cools : Int32) (skinHeat : Int32) (today : Int32) (stirs : Int32) (steps : Int32) (lumps : Nat) (boats : Nat) (thickness : Nat) (lumpNames : Nat) (lumpCells : Nat) (boatNames : Nat) (boatCells : Nat) (loads : Nat) (spoons : Nat) (spoonsLeft : Nat) (depths : Nat) (thicknessF : Nat → Int32) (x : Int32) (y : Int32) (z : Int32) (iv_oro_0 : ostepCount ≤ 36) (iv_a_0 : 2 ≤ wide) (iv_a_1 : wide ≤ 6) (iv_a_2 : 2 ≤ high) (iv_a_3 : high ≤ 6) (iv_a_4 : lumps ≤ 6) (iv_a_5 : boats ≤ 6) : Met l yX6_farnessBy wsX6_farnessBy ({ frames := 2, cells := 0, slots := 0, locals := 46 }) (PcP dC dI ky [.ref ro, .ref a, .int x, .int y, .int z] [(ro, .inr (6, [.ref ofarness, .ref osides, .int (nI ostepCount), .int odaysTaken])), (ofarness, .inl (ky 0, 36, .inl ofarnessF)), (osides, .inl (ky 0, 36, .inl osidesF)), (a, .inr (7, [.int (nI wide), .int (nI high), .int heat, .int cools, .int skinHeat, .int today, .int stirs, .int steps, .int (nI lumps), .int (nI boats), .ref thickness, .ref lumpNames, .ref lumpCells, .ref boatNames, .ref boatCells, .ref loads, .ref spoons, .ref spoonsLeft, .ref depths])), (thickness, .inl (ky 0, 36, .inl thicknessF))]) (vp_Si (fun r : Int32 => True)) 0 0 (fun _ => False) := by
  refine Met.ofW (cc := cX6_farnessBy) (maxL := 6) (ret := (some .int)) (by decide) rfl ?_
  intro p e s m args below meth c s₁ B hml hv
  obtain ⟨rfl, hP, hK⟩ := hv
  have hx := B.exec
  have hb := B.bytes
  have hr := B.returns
  have hts := atoms_spec (ws := wsX6_farnessBy) B.pre
  have hown : s.vm.findClass RX6 = some m.cls := findClass_of_methodNamed B.named
  have hlocks := B.notSynchronized
  have hl := lv_entry ([.ref ro, .ref a, .int x, .int y, .int z]) (n := 6) (Nat.le_of_ble_eq_true rfl)
  rw [lg_entry_eq]
  generalize (lg_sl ([.ref ro, .ref a, .int x, .int y, .int z]) ++ List.replicate (6 - (lg_sl ([.ref ro, .ref a, .int x, .int y, .int z])).length) Slot.unset).toArray = ls at hl ⊢
  have hl : lv_has ls 6 [(0, .ref ro), (1, .ref a), (2, .int x), (3, .int y), (4, .int z)] := hl
  refine q_name (fun Q hQ => ?_)
  generalize ([.ref ro, .ref a, .int x, .int y, .int z] : List Value).toArray = args at hts hQ ⊢
  refine lv_aload_n hx hb dX6_farnessBy_0 rfl (lv_at hl 1 rfl) ?_
  refine lv_iload_n hx hb dX6_farnessBy_1 rfl (lv_at hl 2 rfl) ?_
  refine lv_iload_n hx hb dX6_farnessBy_2 rfl (lv_at hl 3 rfl) ?_
  refine vp_callSi (W.runV (As := [.int x, .int y]) (rest := []) ⟨hx, hb, hml, hown, hts⟩ (c_s_nextCell l dC dI ky a wide high heat cools skinHeat today stirs steps lumps boats thickness lumpNames lumpCells boatNames boatCells loads spoons spoonsLeft depths x y iv_a_0 iv_a_1 iv_a_2 iv_a_3 iv_a_4 iv_a_5) (cwV 2 hts gX6_farnessBy_X7_nextCell rfl rfl rfl (by decide +kernel) ⟨(Nat.le_of_ble_eq_true rfl), (Nat.le_of_ble_eq_true rfl)⟩) (pre_PV hK hP [3] rfl (ci := 7) (q0 := 3) rfl rfl) rfl rfl hl.1 rfl (lv_room (Nat.le_of_ble_eq_true rfl)) dX6_farnessBy_3 ⟨(Nat.le_of_ble_eq_true rfl), (Nat.le_of_ble_eq_true rfl)⟩) (fun r1 p2 => ?_)
  rcases p2 with rfl | ⟨k3, h5, rfl⟩
  · refine lv_istore (lv' := [(5, .int (-1 : Int32)), (0, .ref ro), (1, .ref a), (2, .int x), (3, .int y), (4, .int z)]) hx hb dX6_farnessBy_6 hl (by decide) rfl (fun ls hl => ?_)
    refine lv_iload hx hb dX6_farnessBy_8 (lv_at hl 0 rfl) ?_
    refine lv_iconst (v := (-1 : Int32)) hx hb dX6_farnessBy_10 (by decide) ?_
    refine lv_icmp_eq (tgt := 25) hx hb dX6_farnessBy_11 (by decide) (fun c6 => ?_) (fun c6 => absurd (by decide) c6)
    refine lv_ldc (v := nI 1048576) hx hb hown (hts (.constant RX6 54 (nI 1048576)) (List.mem_of_getElem? (i := 1) rfl)) dX6_farnessBy_25 ?_
    rw [hQ]
    exact W.iret (v := nI 1048576) hx hb hr (fun t9 ht9 hW9 => ⟨nI 1048576, rfl, trivial, ht9⟩) (fun _ h => absurd h List.not_mem_nil) dX6_farnessBy_27
  · refine lv_istore (lv' := [(5, .int (nI k3)), (0, .ref ro), (1, .ref a), (2, .int x), (3, .int y), (4, .int z)]) hx hb dX6_farnessBy_6 hl (by decide) rfl (fun ls hl => ?_)
    refine lv_iload hx hb dX6_farnessBy_8 (lv_at hl 0 rfl) ?_
    refine lv_iconst (v := (-1 : Int32)) hx hb dX6_farnessBy_10 (by decide) ?_
    refine lv_icmp_eq (tgt := 25) hx hb dX6_farnessBy_11 (by decide) (fun c7 => ?_) (fun c7 => ?_)
    · refine lv_ldc (v := nI 1048576) hx hb hown (hts (.constant RX6 54 (nI 1048576)) (List.mem_of_getElem? (i := 1) rfl)) dX6_farnessBy_25 ?_
      rw [hQ]
      exact W.iret (v := nI 1048576) hx hb hr (fun t9 ht9 hW9 => ⟨nI 1048576, rfl, trivial, ht9⟩) (fun _ h => absurd h List.not_mem_nil) dX6_farnessBy_27
    · refine lv_aload_n hx hb dX6_farnessBy_14 rfl (lv_at hl 2 rfl) ?_
      refine lv_iload hx hb dX6_farnessBy_15 (lv_at hl 0 rfl) ?_
      refine vp_callSi (W.runV (As := [.int (nI k3)]) (rest := []) ⟨hx, hb, hml, hown, hts⟩ (c_s_stepCost l dC dI ky a wide high heat cools skinHeat today stirs steps lumps boats thickness lumpNames lumpCells boatNames boatCells loads spoons spoonsLeft depths thicknessF (nI k3) iv_a_0 iv_a_1 iv_a_2 iv_a_3 iv_a_4 iv_a_5) (cwV 1 hts gX6_farnessBy_X7_stepCost rfl rfl rfl (by decide +kernel) ⟨(Nat.le_of_ble_eq_true rfl), (Nat.le_of_ble_eq_true rfl)⟩) (pre_PV hK hP [3, 4] rfl (ci := 7) (q0 := 3) rfl rfl) rfl rfl hl.1 rfl (lv_room (Nat.le_of_ble_eq_true rfl)) dX6_farnessBy_17 ⟨(Nat.le_of_ble_eq_true rfl), (Nat.le_of_ble_eq_true rfl)⟩) (fun r8 p9 => ?_)
      refine lv_iload hx hb dX6_farnessBy_20 (lv_at hl 5 rfl) ?_
      refine lv_icmp_le (tgt := 28) hx hb dX6_farnessBy_22 (by decide) (fun c10 => ?_) (fun c10 => ?_)
      · refine lv_aload_n hx hb dX6_farnessBy_28 rfl (lv_at hl 1 rfl) ?_
        refine lv_iload hx hb dX6_farnessBy_29 (lv_at hl 0 rfl) ?_
        refine vp_callSi (W.runV (As := [.int (nI k3)]) (rest := []) ⟨hx, hb, hml, hown, hts⟩ (c_o_farnessOf l dC dI ky ro ofarness osides ostepCount odaysTaken ofarnessF osidesF (nI k3) iv_oro_0) (cwV 1 hts gX6_farnessBy_X6_farnessOf rfl rfl rfl (by decide +kernel) ⟨(Nat.le_of_ble_eq_true rfl), (Nat.le_of_ble_eq_true rfl)⟩) (pre_PV hK hP [0, 1, 2] rfl (ci := 6) (q0 := 0) rfl rfl) rfl rfl hl.1 rfl (lv_room (Nat.le_of_ble_eq_true rfl)) dX6_farnessBy_31 ⟨(Nat.le_of_ble_eq_true rfl), (Nat.le_of_ble_eq_true rfl)⟩) (fun r11 p12 => ?_)
        refine lv_bipush (v := nI 64) hx hb dX6_farnessBy_34 (by decide) ?_
        refine lv_aload_n hx hb dX6_farnessBy_36 rfl (lv_at hl 2 rfl) ?_
        refine lv_iload hx hb dX6_farnessBy_37 (lv_at hl 0 rfl) ?_
        refine vp_callSi (W.runV (As := [.int (nI k3)]) (rest := [.int (nI 64), .int r11]) ⟨hx, hb, hml, hown, hts⟩ (c_s_stepCost l dC dI ky a wide high heat cools skinHeat today stirs steps lumps boats thickness lumpNames lumpCells boatNames boatCells loads spoons spoonsLeft depths thicknessF (nI k3) iv_a_0 iv_a_1 iv_a_2 iv_a_3 iv_a_4 iv_a_5) (cwV 1 hts gX6_farnessBy_X7_stepCost rfl rfl rfl (by decide +kernel) ⟨(Nat.le_of_ble_eq_true rfl), (Nat.le_of_ble_eq_true rfl)⟩) (pre_PV hK hP [3, 4] rfl (ci := 7) (q0 := 3) rfl rfl) rfl rfl hl.1 rfl (lv_room (Nat.le_of_ble_eq_true rfl)) dX6_farnessBy_39 ⟨(Nat.le_of_ble_eq_true rfl), (Nat.le_of_ble_eq_true rfl)⟩) (fun r13 p14 => ?_)
        refine lv_imul hx hb dX6_farnessBy_42 ?_
        refine lv_topi (fun y15 e16 => ?_)
        refine lv_iadd hx hb dX6_farnessBy_43 ?_
        refine lv_topi (fun y17 e18 => ?_)
        refine lv_iconst (v := nI 1) hx hb dX6_farnessBy_44 (by decide) ?_
        refine lv_iadd hx hb dX6_farnessBy_45 ?_
        refine lv_topi (fun y19 e20 => ?_)
        rw [hQ]
        exact W.iret (v := y19) hx hb hr (fun t9 ht9 hW9 => ⟨y19, rfl, trivial, ht9⟩) (fun _ h => absurd h List.not_mem_nil) dX6_farnessBy_46
      · refine lv_ldc (v := nI 1048576) hx hb hown (hts (.constant RX6 54 (nI 1048576)) (List.mem_of_getElem? (i := 1) rfl)) dX6_farnessBy_25 ?_
        rw [hQ]
        exact W.iret (v := nI 1048576) hx hb hr (fun t9 ht9 hW9 => ⟨nI 1048576, rfl, trivial, ht9⟩) (fun _ h => absurd h List.not_mem_nil) dX6_farnessBy_27
set_option maxRecDepth 20000 in
theorem lf_o_bringNearer_1 (x12 : Int32) (j15 : x12 = nI 0 ∨ x12 = nI 1) : narrow .boolean (.int x12) = .int x12 := by
  have h : x12 = 0 ∨ x12 = 1 := by
    have b_x12 := ia_b x12
    try have k_0 := ia_n 0 (by first | decide | omega)
    try have k_1 := ia_n 1 (by first | decide | omega)
    try simp only [ia_lt, ia_le, ia_eq, ia_m1, ia_0, ia_1, ne_eq, true_and, and_true, false_and, and_false, or_false, false_or, or_true, true_or, not_true_eq_false, not_false_eq_true] at *
    all_goals omega
  rcases h with h | h <;> rw [h] <;> rfl
set_option maxRecDepth 20000 in
theorem lf_o_bringNearer_2 (x12 : Int32) (j15 : x12 = nI 0 ∨ x12 = nI 1) : narrow .boolean (.int x12) = .int x12 := by
  have h : x12 = 0 ∨ x12 = 1 := by
    have b_x12 := ia_b x12
    try have k_0 := ia_n 0 (by first | decide | omega)
    try have k_1 := ia_n 1 (by first | decide | omega)
    try simp only [ia_lt, ia_le, ia_eq, ia_m1, ia_0, ia_1, ne_eq, true_and, and_true, false_and, and_false, or_false, false_or, or_true, true_or, not_true_eq_false, not_false_eq_true] at *
    all_goals omega
  rcases h with h | h <;> rw [h] <;> rfl
set_option maxRecDepth 20000 in
theorem lf_o_bringNearer_3 (k11 : Nat) (n17 : Nat) (j14 : k11 ≤ 4) (hm19 : 4 - k11 < n17 + 1) (c20 : k11 < 4) (p23 : True) : (k11 + 1) ≤ 4 := by
  try simp only [ia_lt, ia_le, ia_eq, ia_m1, ia_0, ia_1, ne_eq, true_and, and_true, false_and, and_false, or_false, false_or, or_true, true_or, not_true_eq_false, not_false_eq_true] at *
  all_goals omega
set_option maxRecDepth 20000 in
theorem lf_o_bringNearer_4 (k11 : Nat) (n17 : Nat) (j14 : k11 ≤ 4) (hm19 : 4 - k11 < n17 + 1) (c20 : k11 < 4) (p23 : True) : 4 - (k11 + 1) < n17 := by
  try simp only [ia_lt, ia_le, ia_eq, ia_m1, ia_0, ia_1, ne_eq, true_and, and_true, false_and, and_false, or_false, false_or, or_true, true_or, not_true_eq_false, not_false_eq_true] at *
  all_goals omega
set_option maxRecDepth 20000 in
theorem lf_o_bringNearer_5 (k11 : Nat) (n17 : Nat) (j14 : k11 ≤ 4) (hm19 : 4 - k11 < n17 + 1) (c20 : k11 < 4) (p23 : True) : (k11 + 1) ≤ 4 := by
  try simp only [ia_lt, ia_le, ia_eq, ia_m1, ia_0, ia_1, ne_eq, true_and, and_true, false_and, and_false, or_false, false_or, or_true, true_or, not_true_eq_false, not_false_eq_true] at *
  all_goals omega
set_option maxRecDepth 20000 in
theorem lf_o_bringNearer_6  (p23 : True) : (nI 1) = nI 0 ∨ (nI 1) = nI 1 := by
  try have k_0 := ia_n 1 (by first | decide | omega)
  try have k_1 := ia_n 0 (by first | decide | omega)
  try simp only [ia_lt, ia_le, ia_eq, ia_m1, ia_0, ia_1, ne_eq, true_and, and_true, false_and, and_false, or_false, false_or, or_true, true_or, not_true_eq_false, not_false_eq_true] at *
  all_goals omega
set_option maxRecDepth 20000 in
theorem lf_o_bringNearer_7 (k11 : Nat) (n17 : Nat) (j14 : k11 ≤ 4) (hm19 : 4 - k11 < n17 + 1) (c20 : k11 < 4) (p23 : True) : 4 - (k11 + 1) < n17 := by
  try simp only [ia_lt, ia_le, ia_eq, ia_m1, ia_0, ia_1, ne_eq, true_and, and_true, false_and, and_false, or_false, false_or, or_true, true_or, not_true_eq_false, not_false_eq_true] at *
  all_goals omega
set_option maxRecDepth 20000 in
theorem lf_o_bringNearer_8   : 0 ≤ 4 := by
  try simp only [ia_lt, ia_le, ia_eq, ia_m1, ia_0, ia_1, ne_eq, true_and, and_true, false_and, and_false, or_false, false_or, or_true, true_or, not_true_eq_false, not_false_eq_true] at *
  all_goals omega
set_option maxRecDepth 20000 in
theorem lf_o_bringNearer_9   : (nI 0) = nI 0 ∨ (nI 0) = nI 1 := by
  try have k_0 := ia_n 0 (by first | decide | omega)
  try have k_1 := ia_n 1 (by first | decide | omega)
  try simp only [ia_lt, ia_le, ia_eq, ia_m1, ia_0, ia_1, ne_eq, true_and, and_true, false_and, and_false, or_false, false_or, or_true, true_or, not_true_eq_false, not_false_eq_true] at *
  all_goals omega
set_option maxHeartbeats 4000000 in
set_option maxRecDepth 100000 in
theorem c_o_bringNearer (l : Launch) (dC : Nat → ClassId) (dI : Nat → Nat → Nat) (ky : Nat → ClassId) (sz : Nat) (ro : Nat) (ofarness : Nat) (osides : Nat) (ostepCount : Nat) (odaysTaken : Int32) (ofarnessF : Nat → Int32) (osidesF : Nat → Int32) (a : Nat) (wide : Nat) (high : Nat) (heat : Int32) (cools : Int32) (skinHeat : Int32) (today : Int32) (stirs : Int32) (steps : Int32) (lumps : Nat) (boats : Nat) (thickness : Nat) (lumpNames : Nat) (lumpCells : Nat) (boatNames : Nat) (boatCells : Nat) (loads : Nat) (spoons : Nat) (spoonsLeft : Nat) (depths : Nat) (thicknessF : Nat → Int32) (cell : Nat) (z : Int32) (iv_oro_0 : ostepCount ≤ 36) (iv_a_0 : 2 ≤ wide) (iv_a_1 : wide ≤ 6) (iv_a_2 : 2 ≤ high) (iv_a_3 : high ≤ 6) (iv_a_4 : lumps ≤ 6) (iv_a_5 : boats ≤ 6) (hc : cell < 1000) : Met l yX6_bringNearer wsX6_bringNearer ({ frames := 3, cells := 0, slots := 0, locals := 71 }) (PcU dC dI ky [.ref ro, .ref a, .int (nI cell), .int z] [(ro, .inr (6, [.ref ofarness, .ref osides, .int (nI ostepCount), .int odaysTaken])), (ofarness, .inl (ky 0, 36, .inl ofarnessF)), (osides, .inl (ky 0, 36, .inl osidesF)), (a, .inr (7, [.int (nI wide), .int (nI high), .int heat, .int cools, .int skinHeat, .int today, .int stirs, .int steps, .int (nI lumps), .int (nI boats), .ref thickness, .ref lumpNames, .ref lumpCells, .ref boatNames, .ref boatCells, .ref loads, .ref spoons, .ref spoonsLeft, .ref depths])), (thickness, .inl (ky 0, 36, .inl thicknessF))] sz) (va_Qi (fun (r : Int32) (ofarnessG : (Nat → Int32)) => r = nI 0 ∨ r = nI 1) (BU dC dI ky (fun (ofarnessG : (Nat → Int32)) => [(ro, .inr (6, [.ref ofarness, .ref osides, .int (nI ostepCount), .int odaysTaken])), (ofarness, .inl (ky 0, 36, .inl ofarnessG)), (osides, .inl (ky 0, 36, .inl osidesF)), (a, .inr (7, [.int (nI wide), .int (nI high), .int heat, .int cools, .int skinHeat, .int today, .int stirs, .int steps, .int (nI lumps), .int (nI boats), .ref thickness, .ref lumpNames, .ref lumpCells, .ref boatNames, .ref boatCells, .ref loads, .ref spoons, .ref spoonsLeft, .ref depths])), (thickness, .inl (ky 0, 36, .inl thicknessF))]) (va_A [(ro, .inr (6, [.ref ofarness, .ref osides, .int (nI ostepCount), .int odaysTaken])), (ofarness, .inl (ky 0, 36, .inl ofarnessF)), (osides, .inl (ky 0, 36, .inl osidesF)), (a, .inr (7, [.int (nI wide), .int (nI high), .int heat, .int cools, .int skinHeat, .int today, .int stirs, .int steps, .int (nI lumps), .int (nI boats), .ref thickness, .ref lumpNames, .ref lumpCells, .ref boatNames, .ref boatCells, .ref loads, .ref spoons, .ref spoonsLeft, .ref depths])), (thickness, .inl (ky 0, 36, .inl thicknessF))] sz)) (va_A [(ro, .inr (6, [.ref ofarness, .ref osides, .int (nI ostepCount), .int odaysTaken])), (ofarness, .inl (ky 0, 36, .inl ofarnessF)), (osides, .inl (ky 0, 36, .inl osidesF)), (a, .inr (7, [.int (nI wide), .int (nI high), .int heat, .int cools, .int skinHeat, .int today, .int stirs, .int steps, .int (nI lumps), .int (nI boats), .ref thickness, .ref lumpNames, .ref lumpCells, .ref boatNames, .ref boatCells, .ref loads, .ref spoons, .ref spoonsLeft, .ref depths])), (thickness, .inl (ky 0, 36, .inl thicknessF))] sz)) 0 0 (va_A [(ro, .inr (6, [.ref ofarness, .ref osides, .int (nI ostepCount), .int odaysTaken])), (ofarness, .inl (ky 0, 36, .inl ofarnessF)), (osides, .inl (ky 0, 36, .inl osidesF)), (a, .inr (7, [.int (nI wide), .int (nI high), .int heat, .int cools, .int skinHeat, .int today, .int stirs, .int steps, .int (nI lumps), .int (nI boats), .ref thickness, .ref lumpNames, .ref lumpCells, .ref boatNames, .ref boatCells, .ref loads, .ref spoons, .ref spoonsLeft, .ref depths])), (thickness, .inl (ky 0, 36, .inl thicknessF))] sz) := by
  refine Met.ofW (cc := cX6_bringNearer) (maxL := 7) (ret := (some .boolean)) (by decide) rfl ?_
  intro p e s m args below meth c s₁ B hml hv
  obtain ⟨rfl, hsz, hP, hK, hD0⟩ := hv
  have hx := B.exec
  have hb := B.bytes
  have hr := B.returns
  have hts := atoms_spec (ws := wsX6_bringNearer) B.pre
  have hown : s.vm.findClass RX6 = some m.cls := findClass_of_methodNamed B.named
  have hlocks := B.notSynchronized
  have hin6 : ∀ w ∈ u_ws RX6 TX6 4, w ∈ wsX6_bringNearer := by decide +kernel
  subst hsz
  have hD := hD0.self (sz := s.heap.size)
  generalize hAe : va_A [(ro, .inr (6, [.ref ofarness, .ref osides, .int (nI ostepCount), .int odaysTaken])), (ofarness, .inl (ky 0, 36, .inl ofarnessF)), (osides, .inl (ky 0, 36, .inl osidesF)), (a, .inr (7, [.int (nI wide), .int (nI high), .int heat, .int cools, .int skinHeat, .int today, .int stirs, .int steps, .int (nI lumps), .int (nI boats), .ref thickness, .ref lumpNames, .ref lumpCells, .ref boatNames, .ref boatCells, .ref loads, .ref spoons, .ref spoonsLeft, .ref depths])), (thickness, .inl (ky 0, 36, .inl thicknessF))] s.heap.size = A at hD ⊢
  have hA : ∀ q : Nat, s.heap.size ≤ q → A q := fun q h => by rw [← hAe]; exact Or.inr h
  have hS : va_S A s.heap s.heap [] := va_S.rf
  have hl := lv_entry ([.ref ro, .ref a, .int (nI cell), .int z]) (n := 7) (Nat.le_of_ble_eq_true rfl)
  rw [lg_entry_eq]
  generalize (lg_sl ([.ref ro, .ref a, .int (nI cell), .int z]) ++ List.replicate (7 - (lg_sl ([.ref ro, .ref a, .int (nI cell), .int z])).length) Slot.unset).toArray = ls at hl ⊢
  have hl : lv_has ls 7 [(0, .ref ro), (1, .ref a), (2, .int (nI cell)), (3, .int z)] := hl
  refine q_name (fun Q hQ => ?_)
  generalize ([.ref ro, .ref a, .int (nI cell), .int z] : List Value).toArray = args at hts hQ ⊢
  refine lv_iconst (v := nI 0) hx hb dX6_bringNearer_0 (by decide) ?_
  refine lv_istore (lv' := [(4, .int (nI 0)), (0, .ref ro), (1, .ref a), (2, .int (nI cell)), (3, .int z)]) hx hb dX6_bringNearer_1 hl (by decide) rfl (fun ls hl => ?_)
  refine lv_iconst (v := nI 0) hx hb dX6_bringNearer_3 (by decide) ?_
  refine lv_istore (lv' := [(5, .int (nI 0)), (4, .int (nI 0)), (0, .ref ro), (1, .ref a), (2, .int (nI cell)), (3, .int z)]) hx hb dX6_bringNearer_4 hl (by decide) rfl (fun ls hl => ?_)
  have hL16 : ∀ (n17 : Nat) (k11 : Nat) (x12 : Int32) (f13 : Nat → Int32), (k11 ≤ 4) → (x12 = nI 0 ∨ x12 = nI 1) → 4 - k11 < n17 → ∀ (H : Heap) (locs : List Loc) (ls : Array Slot), va_P (dC, dI) vwCl [(ro, .inr (6, [.ref ofarness, .ref osides, .int (nI ostepCount), .int odaysTaken])), (ofarness, .inl (ky 0, 36, .inl f13)), (osides, .inl (ky 0, 36, .inl osidesF)), (a, .inr (7, [.int (nI wide), .int (nI high), .int heat, .int cools, .int skinHeat, .int today, .int stirs, .int steps, .int (nI lumps), .int (nI boats), .ref thickness, .ref lumpNames, .ref lumpCells, .ref boatNames, .ref boatCells, .ref loads, .ref spoons, .ref spoonsLeft, .ref depths])), (thickness, .inl (ky 0, 36, .inl thicknessF))] H → va_D A [(ro, .inr (6, [.ref ofarness, .ref osides, .int (nI ostepCount), .int odaysTaken])), (ofarness, .inl (ky 0, 36, .inl f13)), (osides, .inl (ky 0, 36, .inl osidesF)), (a, .inr (7, [.int (nI wide), .int (nI high), .int heat, .int cools, .int skinHeat, .int today, .int stirs, .int steps, .int (nI lumps), .int (nI boats), .ref thickness, .ref lumpNames, .ref lumpCells, .ref boatNames, .ref boatCells, .ref loads, .ref spoons, .ref spoonsLeft, .ref depths])), (thickness, .inl (ky 0, 36, .inl thicknessF))] → va_S A s.heap H locs → lv_has ls 7 [(5, .int (nI k11)), (4, .int x12), (0, .ref ro), (1, .ref a), (2, .int (nI cell)), (3, .int z)] → W p l e (headSpec wsX6_bringNearer ({ frames := 3, cells := 0, slots := 0, locals := 71 })).room s m args below meth c H locs 0 0 Q (F0 m 6 ls []) := by
    intro n17
    induction n17 with
    | zero => intro k11 x12 f13 _ _ h9; exact absurd h9 (Nat.not_lt_zero _)
    | succ n17 ih18 =>
      intro k11 x12 f13 j14 j15 hm19 H locs ls hP hD hS hl
      refine lv_iload hx hb dX6_bringNearer_6 (lv_at hl 0 rfl) ?_
      refine lv_iconst (v := nI 4) hx hb dX6_bringNearer_8 (by decide) ?_
      refine n_icmp_ge (x := k11) (y := 4) (tgt := 57) hx hb (by omega) (by omega) dX6_bringNearer_9 (by decide) (fun c20 => ?_) (fun c20 => ?_)
      · refine lv_iload hx hb dX6_bringNearer_57 (lv_at hl 1 rfl) ?_
        rw [hQ]
        exact W.zret (v := x12) hx hb hr ((lf_o_bringNearer_1 x12 j15)) (fun t9 ht9 hW9 => ⟨⟨x12, f13, rfl, j15, by rw [ht9]; exact hP, va_K.moved hW9.alike hK, hD⟩, hS.F ht9⟩) hS.2.2 dX6_bringNearer_59
      · refine lv_iload_n hx hb dX6_bringNearer_12 rfl (lv_at hl 4 rfl) ?_
        refine lv_bipush (v := nI 36) hx hb dX6_bringNearer_13 (by decide) ?_
        refine n_icmp_ge (x := cell) (y := 36) (tgt := 57) hx hb (by omega) (by omega) dX6_bringNearer_15 (by decide) (fun c21 => ?_) (fun c21 => ?_)
        · refine lv_iload hx hb dX6_bringNearer_57 (lv_at hl 1 rfl) ?_
          rw [hQ]
          exact W.zret (v := x12) hx hb hr ((lf_o_bringNearer_2 x12 j15)) (fun t9 ht9 hW9 => ⟨⟨x12, f13, rfl, j15, by rw [ht9]; exact hP, va_K.moved hW9.alike hK, hD⟩, hS.F ht9⟩) hS.2.2 dX6_bringNearer_59
        · refine lv_aload_n hx hb dX6_bringNearer_18 rfl (lv_at hl 2 rfl) ?_
          refine lv_aload_n hx hb dX6_bringNearer_19 rfl (lv_at hl 3 rfl) ?_
          refine lv_iload_n hx hb dX6_bringNearer_20 rfl (lv_at hl 4 rfl) ?_
          refine lv_iload hx hb dX6_bringNearer_21 (lv_at hl 0 rfl) ?_
          refine lv_iload_n hx hb dX6_bringNearer_23 rfl (lv_at hl 5 rfl) ?_
          refine vp_callSi (W.runV (As := [.ref a, .int (nI cell), .int (nI k11), .int z]) (rest := []) ⟨hx, hb, hml, hown, hts⟩ (c_o_farnessBy l dC dI ky ro ofarness osides ostepCount odaysTaken f13 osidesF a wide high heat cools skinHeat today stirs steps lumps boats thickness lumpNames lumpCells boatNames boatCells loads spoons spoonsLeft depths thicknessF (nI cell) (nI k11) z iv_oro_0 iv_a_0 iv_a_1 iv_a_2 iv_a_3 iv_a_4 iv_a_5) (cwV 4 hts gX6_bringNearer_X6_farnessBy rfl rfl rfl (by decide +kernel) ⟨(Nat.le_of_ble_eq_true rfl), (Nat.le_of_ble_eq_true rfl)⟩) (pre_PV hK hP [0, 1, 2, 3, 4] rfl (ci := 6) (q0 := 0) rfl rfl) rfl rfl hl.1 rfl (lv_room (Nat.le_of_ble_eq_true rfl)) dX6_bringNearer_24 ⟨(Nat.le_of_ble_eq_true rfl), (Nat.le_of_ble_eq_true rfl)⟩) (fun r22 p23 => ?_)
          refine lv_istore (lv' := [(6, .int r22), (5, .int (nI k11)), (4, .int x12), (0, .ref ro), (1, .ref a), (2, .int (nI cell)), (3, .int z)]) hx hb dX6_bringNearer_27 hl (by decide) rfl (fun ls hl => ?_)
          refine lv_iload hx hb dX6_bringNearer_29 (lv_at hl 0 rfl) ?_
          refine lv_aload_n hx hb dX6_bringNearer_31 rfl (lv_at hl 3 rfl) ?_
          refine va_get (D := (dC, dI)) (ci := 6) (v := .ref ofarness) (C := RX6) (T := TX6) (N := 4) hx hb hts hin6 hown hK hP 0 rfl rfl 0 (by decide) (hts (.fieldLink RX6 9 "PorridgeSea$Route" "farness" "[I") (List.mem_of_getElem? (i := 1) rfl)) (fun _ h9 => h9) rfl dX6_bringNearer_32 ?_
          refine lv_iload_n hx hb dX6_bringNearer_35 rfl (lv_at hl 5 rfl) ?_
          obtain ⟨y24, e25⟩ : ∃ z9, z9 = f13 cell := ⟨_, rfl⟩
          refine r_iald hx hb hK hP 1 rfl cell (by omega) (by decide) y24 e25.symm dX6_bringNearer_36 ?_
          refine lv_icmp_ge (tgt := 51) hx hb dX6_bringNearer_37 (by decide) (fun c26 => ?_) (fun c26 => ?_)
          · refine lv_iinc (v := nI (k11 + 1)) (lv' := [(5, .int (nI (k11 + 1))), (6, .int r22), (4, .int x12), (0, .ref ro), (1, .ref a), (2, .int (nI cell)), (3, .int z)]) hx hb dX6_bringNearer_51 hl (k := 1) rfl (show nI k11 + nI 1 = nI (k11 + 1) from nI_add _ _) (by decide) rfl (fun ls hl => ?_)
            refine lv_goto (tgt := 6) hx hb dX6_bringNearer_54 (by decide) ?_
            exact ih18 (k11 + 1) x12 f13 (lf_o_bringNearer_3 k11 n17 j14 hm19 c20 p23) j15 (lf_o_bringNearer_4 k11 n17 j14 hm19 c20 p23) _ _ _ hP hD hS (lv_sub hl [0, 2, 3, 4, 5, 6] rfl)
          · refine lv_aload_n hx hb dX6_bringNearer_40 rfl (lv_at hl 3 rfl) ?_
            refine va_get (D := (dC, dI)) (ci := 6) (v := .ref ofarness) (C := RX6) (T := TX6) (N := 4) hx hb hts hin6 hown hK hP 0 rfl rfl 0 (by decide) (hts (.fieldLink RX6 9 "PorridgeSea$Route" "farness" "[I") (List.mem_of_getElem? (i := 1) rfl)) (fun _ h9 => h9) rfl dX6_bringNearer_41 ?_
            refine lv_iload_n hx hb dX6_bringNearer_44 rfl (lv_at hl 5 rfl) ?_
            refine lv_iload hx hb dX6_bringNearer_45 (lv_at hl 0 rfl) ?_
            refine r_iast (x := r22) hx hb hK hP hD hS 1 rfl cell (by omega) (by decide) dX6_bringNearer_47 (fun H locs hP hD hS => ?_)
            obtain ⟨g27, e28⟩ : ∃ z9, z9 = upd f13 cell r22 := ⟨_, rfl⟩
            rw [← e28] at hP hD
            have hP : va_P (dC, dI) vwCl [(ro, .inr (6, [.ref ofarness, .ref osides, .int (nI ostepCount), .int odaysTaken])), (ofarness, .inl (ky 0, 36, .inl g27)), (osides, .inl (ky 0, 36, .inl osidesF)), (a, .inr (7, [.int (nI wide), .int (nI high), .int heat, .int cools, .int skinHeat, .int today, .int stirs, .int steps, .int (nI lumps), .int (nI boats), .ref thickness, .ref lumpNames, .ref lumpCells, .ref boatNames, .ref boatCells, .ref loads, .ref spoons, .ref spoonsLeft, .ref depths])), (thickness, .inl (ky 0, 36, .inl thicknessF))] H := hP
            have hD : va_D A [(ro, .inr (6, [.ref ofarness, .ref osides, .int (nI ostepCount), .int odaysTaken])), (ofarness, .inl (ky 0, 36, .inl g27)), (osides, .inl (ky 0, 36, .inl osidesF)), (a, .inr (7, [.int (nI wide), .int (nI high), .int heat, .int cools, .int skinHeat, .int today, .int stirs, .int steps, .int (nI lumps), .int (nI boats), .ref thickness, .ref lumpNames, .ref lumpCells, .ref boatNames, .ref boatCells, .ref loads, .ref spoons, .ref spoonsLeft, .ref depths])), (thickness, .inl (ky 0, 36, .inl thicknessF))] := hD
            refine lv_iconst (v := nI 1) hx hb dX6_bringNearer_48 (by decide) ?_
            refine lv_istore (lv' := [(4, .int (nI 1)), (6, .int r22), (5, .int (nI k11)), (0, .ref ro), (1, .ref a), (2, .int (nI cell)), (3, .int z)]) hx hb dX6_bringNearer_49 hl (by decide) rfl (fun ls hl => ?_)
            refine lv_iinc (v := nI (k11 + 1)) (lv' := [(5, .int (nI (k11 + 1))), (4, .int (nI 1)), (6, .int r22), (0, .ref ro), (1, .ref a), (2, .int (nI cell)), (3, .int z)]) hx hb dX6_bringNearer_51 hl (k := 2) rfl (show nI k11 + nI 1 = nI (k11 + 1) from nI_add _ _) (by decide) rfl (fun ls hl => ?_)
            refine lv_goto (tgt := 6) hx hb dX6_bringNearer_54 (by decide) ?_
            exact ih18 (k11 + 1) (nI 1) g27 (lf_o_bringNearer_5 k11 n17 j14 hm19 c20 p23) (lf_o_bringNearer_6 p23) (lf_o_bringNearer_7 k11 n17 j14 hm19 c20 p23) _ _ _ hP hD hS (lv_sub hl [0, 1, 3, 4, 5, 6] rfl)
  exact hL16 ((4 - 0) + 1) 0 (nI 0) ofarnessF (lf_o_bringNearer_8) (lf_o_bringNearer_9) (Nat.lt_succ_self _) _ _ _ hP hD hS (lv_sub hl [0, 1, 2, 3, 4, 5] rfl)
set_option maxRecDepth 20000 in
theorem lf_o_measure_1 (k23 : Nat) (n28 : Nat) (j26 : k23 ≤ 36) (hm30 : 36 - k23 < n28 + 1) (c31 : k23 < 36) : (k23 + 1) ≤ 36 := by
  try simp only [ia_lt, ia_le, ia_eq, ia_m1, ia_0, ia_1, ne_eq, true_and, and_true, false_and, and_false, or_false, false_or, or_true, true_or, not_true_eq_false, not_false_eq_true] at *
  all_goals omega
set_option maxRecDepth 20000 in
theorem lf_o_measure_2 (k23 : Nat) (n28 : Nat) (j26 : k23 ≤ 36) (hm30 : 36 - k23 < n28 + 1) (c31 : k23 < 36) : 36 - (k23 + 1) < n28 := by
  try simp only [ia_lt, ia_le, ia_eq, ia_m1, ia_0, ia_1, ne_eq, true_and, and_true, false_and, and_false, or_false, false_or, or_true, true_or, not_true_eq_false, not_false_eq_true] at *
  all_goals omega
set_option maxRecDepth 20000 in
theorem lf_o_measure_3 (high : Nat) (k41 : Nat) (n46 : Nat) (iv_a_2 : 2 ≤ high) (iv_a_3 : high ≤ 6) (j44 : k41 ≤ 6) (hm48 : 6 - k41 < n46 + 1) (c49 : k41 < high) : (k41 + 1) ≤ 6 := by
  try simp only [ia_lt, ia_le, ia_eq, ia_m1, ia_0, ia_1, ne_eq, true_and, and_true, false_and, and_false, or_false, false_or, or_true, true_or, not_true_eq_false, not_false_eq_true] at *
  all_goals omega
set_option maxRecDepth 20000 in
theorem lf_o_measure_4 (high : Nat) (k41 : Nat) (n46 : Nat) (iv_a_2 : 2 ≤ high) (iv_a_3 : high ≤ 6) (j44 : k41 ≤ 6) (hm48 : 6 - k41 < n46 + 1) (c49 : k41 < high) : 6 - (k41 + 1) < n46 := by
  try simp only [ia_lt, ia_le, ia_eq, ia_m1, ia_0, ia_1, ne_eq, true_and, and_true, false_and, and_false, or_false, false_or, or_true, true_or, not_true_eq_false, not_false_eq_true] at *
  all_goals omega
set_option maxRecDepth 20000 in
theorem lf_o_measure_5 (wide : Nat) (high : Nat) (k41 : Nat) (n46 : Nat) (k58 : Nat) (n63 : Nat) (iv_a_0 : 2 ≤ wide) (iv_a_1 : wide ≤ 6) (iv_a_2 : 2 ≤ high) (iv_a_3 : high ≤ 6) (j44 : k41 ≤ 6) (hm48 : 6 - k41 < n46 + 1) (c49 : k41 < high) (j61 : k58 ≤ 6) (hm65 : 6 - k58 < n63 + 1) (c66 : k58 < wide) : ((6 * k41) + k58) < 1000 := by
  try simp only [ia_lt, ia_le, ia_eq, ia_m1, ia_0, ia_1, ne_eq, true_and, and_true, false_and, and_false, or_false, false_or, or_true, true_or, not_true_eq_false, not_false_eq_true] at *
  all_goals omega
set_option maxRecDepth 20000 in
theorem lf_o_measure_6 (wide : Nat) (k58 : Nat) (n63 : Nat) (iv_a_0 : 2 ≤ wide) (iv_a_1 : wide ≤ 6) (j61 : k58 ≤ 6) (hm65 : 6 - k58 < n63 + 1) (c66 : k58 < wide) : (k58 + 1) ≤ 6 := by
  try simp only [ia_lt, ia_le, ia_eq, ia_m1, ia_0, ia_1, ne_eq, true_and, and_true, false_and, and_false, or_false, false_or, or_true, true_or, not_true_eq_false, not_false_eq_true] at *
  all_goals omega
set_option maxRecDepth 20000 in
theorem lf_o_measure_7 (wide : Nat) (k58 : Nat) (n63 : Nat) (iv_a_0 : 2 ≤ wide) (iv_a_1 : wide ≤ 6) (j61 : k58 ≤ 6) (hm65 : 6 - k58 < n63 + 1) (c66 : k58 < wide) : 6 - (k58 + 1) < n63 := by
  try simp only [ia_lt, ia_le, ia_eq, ia_m1, ia_0, ia_1, ne_eq, true_and, and_true, false_and, and_false, or_false, false_or, or_true, true_or, not_true_eq_false, not_false_eq_true] at *
  all_goals omega
set_option maxRecDepth 20000 in
theorem lf_o_measure_8   : 0 ≤ 6 := by
  try simp only [ia_lt, ia_le, ia_eq, ia_m1, ia_0, ia_1, ne_eq, true_and, and_true, false_and, and_false, or_false, false_or, or_true, true_or, not_true_eq_false, not_false_eq_true] at *
  all_goals omega
set_option maxRecDepth 20000 in
theorem lf_o_measure_9   : 0 ≤ 6 := by
  try simp only [ia_lt, ia_le, ia_eq, ia_m1, ia_0, ia_1, ne_eq, true_and, and_true, false_and, and_false, or_false, false_or, or_true, true_or, not_true_eq_false, not_false_eq_true] at *
  all_goals omega
set_option maxRecDepth 20000 in
theorem lf_o_measure_10   : 0 ≤ 36 := by
  try simp only [ia_lt, ia_le, ia_eq, ia_m1, ia_0, ia_1, ne_eq, true_and, and_true, false_and, and_false, or_false, false_or, or_true, true_or, not_true_eq_false, not_false_eq_true] at *
  all_goals omega
set_option maxRecDepth 20000 in
theorem lf_o_measure_11 (x : Int32) (k7 : Nat) (n11 : Nat) (j9 : k7 ≤ 36) (hm13 : 36 - k7 < n11 + 1) (c14 : k7 < 36) (c74 : nI k7 ≠ x) : (k7 + 1) ≤ 36 := by
  have b_x := ia_b x
  try have k_0 := ia_n k7 (by first | decide | omega)
  try simp only [ia_lt, ia_le, ia_eq, ia_m1, ia_0, ia_1, ne_eq, true_and, and_true, false_and, and_false, or_false, false_or, or_true, true_or, not_true_eq_false, not_false_eq_true] at *
  all_goals omega
set_option maxRecDepth 20000 in
theorem lf_o_measure_12 (x : Int32) (k7 : Nat) (n11 : Nat) (j9 : k7 ≤ 36) (hm13 : 36 - k7 < n11 + 1) (c14 : k7 < 36) (c74 : nI k7 ≠ x) : 36 - (k7 + 1) < n11 := by
  have b_x := ia_b x
  try have k_0 := ia_n k7 (by first | decide | omega)
  try simp only [ia_lt, ia_le, ia_eq, ia_m1, ia_0, ia_1, ne_eq, true_and, and_true, false_and, and_false, or_false, false_or, or_true, true_or, not_true_eq_false, not_false_eq_true] at *
  all_goals omega
set_option maxRecDepth 20000 in
theorem lf_o_measure_13 (x : Int32) (k7 : Nat) (n11 : Nat) (j9 : k7 ≤ 36) (hm13 : 36 - k7 < n11 + 1) (c14 : k7 < 36) (c74 : nI k7 = x) : (k7 + 1) ≤ 36 := by
  have b_x := ia_b x
  try have k_0 := ia_n k7 (by first | decide | omega)
  try simp only [ia_lt, ia_le, ia_eq, ia_m1, ia_0, ia_1, ne_eq, true_and, and_true, false_and, and_false, or_false, false_or, or_true, true_or, not_true_eq_false, not_false_eq_true] at *
  all_goals omega
set_option maxRecDepth 20000 in
theorem lf_o_measure_14 (x : Int32) (k7 : Nat) (n11 : Nat) (j9 : k7 ≤ 36) (hm13 : 36 - k7 < n11 + 1) (c14 : k7 < 36) (c74 : nI k7 = x) : 36 - (k7 + 1) < n11 := by
  have b_x := ia_b x
  try have k_0 := ia_n k7 (by first | decide | omega)
  try simp only [ia_lt, ia_le, ia_eq, ia_m1, ia_0, ia_1, ne_eq, true_and, and_true, false_and, and_false, or_false, false_or, or_true, true_or, not_true_eq_false, not_false_eq_true] at *
  all_goals omega
set_option maxRecDepth 20000 in
theorem lf_o_measure_15   : 0 ≤ 36 := by
  try simp only [ia_lt, ia_le, ia_eq, ia_m1, ia_0, ia_1, ne_eq, true_and, and_true, false_and, and_false, or_false, false_or, or_true, true_or, not_true_eq_false, not_false_eq_true] at *
  all_goals omega
set_option maxHeartbeats 4000000 in
set_option maxRecDepth 100000 in
theorem c_o_measure (l : Launch) (dC : Nat → ClassId) (dI : Nat → Nat → Nat) (ky : Nat → ClassId) (sz : Nat) (ro : Nat) (ofarness : Nat) (osides : Nat) (ostepCount : Nat) (odaysTaken : Int32) (ofarnessF : Nat → Int32) (osidesF : Nat → Int32) (a : Nat) (wide : Nat) (high : Nat) (heat : Int32) (cools : Int32) (skinHeat : Int32) (today : Int32) (stirs : Int32) (steps : Int32) (lumps : Nat) (boats : Nat) (thickness : Nat) (lumpNames : Nat) (lumpCells : Nat) (boatNames : Nat) (boatCells : Nat) (loads : Nat) (spoons : Nat) (spoonsLeft : Nat) (depths : Nat) (thicknessF : Nat → Int32) (x : Int32) (z : Int32) (iv_oro_0 : ostepCount ≤ 36) (iv_a_0 : 2 ≤ wide) (iv_a_1 : wide ≤ 6) (iv_a_2 : 2 ≤ high) (iv_a_3 : high ≤ 6) (iv_a_4 : lumps ≤ 6) (iv_a_5 : boats ≤ 6) : Met l yX6_measure wsX6_measure ({ frames := 4, cells := 0, slots := 0, locals := 97 }) (PcU dC dI ky [.ref ro, .ref a, .int x, .int z] [(ro, .inr (6, [.ref ofarness, .ref osides, .int (nI ostepCount), .int odaysTaken])), (ofarness, .inl (ky 0, 36, .inl ofarnessF)), (osides, .inl (ky 0, 36, .inl osidesF)), (a, .inr (7, [.int (nI wide), .int (nI high), .int heat, .int cools, .int skinHeat, .int today, .int stirs, .int steps, .int (nI lumps), .int (nI boats), .ref thickness, .ref lumpNames, .ref lumpCells, .ref boatNames, .ref boatCells, .ref loads, .ref spoons, .ref spoonsLeft, .ref depths])), (thickness, .inl (ky 0, 36, .inl thicknessF))] sz) (va_Qv (fun (ofarnessG : (Nat → Int32)) => True) (BU dC dI ky (fun (ofarnessG : (Nat → Int32)) => [(ro, .inr (6, [.ref ofarness, .ref osides, .int (nI ostepCount), .int odaysTaken])), (ofarness, .inl (ky 0, 36, .inl ofarnessG)), (osides, .inl (ky 0, 36, .inl osidesF)), (a, .inr (7, [.int (nI wide), .int (nI high), .int heat, .int cools, .int skinHeat, .int today, .int stirs, .int steps, .int (nI lumps), .int (nI boats), .ref thickness, .ref lumpNames, .ref lumpCells, .ref boatNames, .ref boatCells, .ref loads, .ref spoons, .ref spoonsLeft, .ref depths])), (thickness, .inl (ky 0, 36, .inl thicknessF))]) (va_A [(ro, .inr (6, [.ref ofarness, .ref osides, .int (nI ostepCount), .int odaysTaken])), (ofarness, .inl (ky 0, 36, .inl ofarnessF)), (osides, .inl (ky 0, 36, .inl osidesF)), (a, .inr (7, [.int (nI wide), .int (nI high), .int heat, .int cools, .int skinHeat, .int today, .int stirs, .int steps, .int (nI lumps), .int (nI boats), .ref thickness, .ref lumpNames, .ref lumpCells, .ref boatNames, .ref boatCells, .ref loads, .ref spoons, .ref spoonsLeft, .ref depths])), (thickness, .inl (ky 0, 36, .inl thicknessF))] sz)) (va_A [(ro, .inr (6, [.ref ofarness, .ref osides, .int (nI ostepCount), .int odaysTaken])), (ofarness, .inl (ky 0, 36, .inl ofarnessF)), (osides, .inl (ky 0, 36, .inl osidesF)), (a, .inr (7, [.int (nI wide), .int (nI high), .int heat, .int cools, .int skinHeat, .int today, .int stirs, .int steps, .int (nI lumps), .int (nI boats), .ref thickness, .ref lumpNames, .ref lumpCells, .ref boatNames, .ref boatCells, .ref loads, .ref spoons, .ref spoonsLeft, .ref depths])), (thickness, .inl (ky 0, 36, .inl thicknessF))] sz)) 0 0 (va_A [(ro, .inr (6, [.ref ofarness, .ref osides, .int (nI ostepCount), .int odaysTaken])), (ofarness, .inl (ky 0, 36, .inl ofarnessF)), (osides, .inl (ky 0, 36, .inl osidesF)), (a, .inr (7, [.int (nI wide), .int (nI high), .int heat, .int cools, .int skinHeat, .int today, .int stirs, .int steps, .int (nI lumps), .int (nI boats), .ref thickness, .ref lumpNames, .ref lumpCells, .ref boatNames, .ref boatCells, .ref loads, .ref spoons, .ref spoonsLeft, .ref depths])), (thickness, .inl (ky 0, 36, .inl thicknessF))] sz) := by
  refine Met.ofW (cc := cX6_measure) (maxL := 8) (ret := none) (by decide) rfl ?_
  intro p e s m args below meth c s₁ B hml hv
  obtain ⟨rfl, hsz, hP, hK, hD0⟩ := hv
  have hx := B.exec
  have hb := B.bytes
  have hr := B.returns
  have hts := atoms_spec (ws := wsX6_measure) B.pre
  have hown : s.vm.findClass RX6 = some m.cls := findClass_of_methodNamed B.named
  have hlocks := B.notSynchronized
  have hin6 : ∀ w ∈ u_ws RX6 TX6 4, w ∈ wsX6_measure := by decide +kernel
  have hin7 : ∀ w ∈ u_ws RX7 TX7 19, w ∈ wsX6_measure := by decide +kernel
  subst hsz
  have hD := hD0.self (sz := s.heap.size)
  generalize hAe : va_A [(ro, .inr (6, [.ref ofarness, .ref osides, .int (nI ostepCount), .int odaysTaken])), (ofarness, .inl (ky 0, 36, .inl ofarnessF)), (osides, .inl (ky 0, 36, .inl osidesF)), (a, .inr (7, [.int (nI wide), .int (nI high), .int heat, .int cools, .int skinHeat, .int today, .int stirs, .int steps, .int (nI lumps), .int (nI boats), .ref thickness, .ref lumpNames, .ref lumpCells, .ref boatNames, .ref boatCells, .ref loads, .ref spoons, .ref spoonsLeft, .ref depths])), (thickness, .inl (ky 0, 36, .inl thicknessF))] s.heap.size = A at hD ⊢
  have hA : ∀ q : Nat, s.heap.size ≤ q → A q := fun q h => by rw [← hAe]; exact Or.inr h
  have hS : va_S A s.heap s.heap [] := va_S.rf
  have hl := lv_entry ([.ref ro, .ref a, .int x, .int z]) (n := 8) (Nat.le_of_ble_eq_true rfl)
  rw [lg_entry_eq]
  generalize (lg_sl ([.ref ro, .ref a, .int x, .int z]) ++ List.replicate (8 - (lg_sl ([.ref ro, .ref a, .int x, .int z])).length) Slot.unset).toArray = ls at hl ⊢
  have hl : lv_has ls 8 [(0, .ref ro), (1, .ref a), (2, .int x), (3, .int z)] := hl
  refine q_name (fun Q hQ => ?_)
  generalize ([.ref ro, .ref a, .int x, .int z] : List Value).toArray = args at hts hQ ⊢
  refine lv_iconst (v := nI 0) hx hb dX6_measure_0 (by decide) ?_
  refine lv_istore (lv' := [(4, .int (nI 0)), (0, .ref ro), (1, .ref a), (2, .int x), (3, .int z)]) hx hb dX6_measure_1 hl (by decide) rfl (fun ls hl => ?_)
  have hL10 : ∀ (n11 : Nat) (k7 : Nat) (f8 : Nat → Int32), (k7 ≤ 36) → 36 - k7 < n11 → ∀ (H : Heap) (locs : List Loc) (ls : Array Slot), va_P (dC, dI) vwCl [(ro, .inr (6, [.ref ofarness, .ref osides, .int (nI ostepCount), .int odaysTaken])), (ofarness, .inl (ky 0, 36, .inl f8)), (osides, .inl (ky 0, 36, .inl osidesF)), (a, .inr (7, [.int (nI wide), .int (nI high), .int heat, .int cools, .int skinHeat, .int today, .int stirs, .int steps, .int (nI lumps), .int (nI boats), .ref thickness, .ref lumpNames, .ref lumpCells, .ref boatNames, .ref boatCells, .ref loads, .ref spoons, .ref spoonsLeft, .ref depths])), (thickness, .inl (ky 0, 36, .inl thicknessF))] H → va_D A [(ro, .inr (6, [.ref ofarness, .ref osides, .int (nI ostepCount), .int odaysTaken])), (ofarness, .inl (ky 0, 36, .inl f8)), (osides, .inl (ky 0, 36, .inl osidesF)), (a, .inr (7, [.int (nI wide), .int (nI high), .int heat, .int cools, .int skinHeat, .int today, .int stirs, .int steps, .int (nI lumps), .int (nI boats), .ref thickness, .ref lumpNames, .ref lumpCells, .ref boatNames, .ref boatCells, .ref loads, .ref spoons, .ref spoonsLeft, .ref depths])), (thickness, .inl (ky 0, 36, .inl thicknessF))] → va_S A s.heap H locs → lv_has ls 8 [(4, .int (nI k7)), (0, .ref ro), (1, .ref a), (2, .int x), (3, .int z)] → W p l e (headSpec wsX6_measure ({ frames := 4, cells := 0, slots := 0, locals := 97 })).room s m args below meth c H locs 0 0 Q (F0 m 3 ls []) := by
    intro n11
    induction n11 with
    | zero => intro k7 f8 _ h9; exact absurd h9 (Nat.not_lt_zero _)
    | succ n11 ih12 =>
      intro k7 f8 j9 hm13 H locs ls hP hD hS hl
      refine lv_iload hx hb dX6_measure_3 (lv_at hl 0 rfl) ?_
      refine lv_bipush (v := nI 36) hx hb dX6_measure_5 (by decide) ?_
      refine n_icmp_ge (x := k7) (y := 36) (tgt := 35) hx hb (by omega) (by omega) dX6_measure_7 (by decide) (fun c14 => ?_) (fun c14 => ?_)
      · refine lv_iconst (v := nI 1) hx hb dX6_measure_35 (by decide) ?_
        refine lv_istore (lv' := [(4, .int (nI 1)), (0, .ref ro), (1, .ref a), (2, .int x), (3, .int z)]) hx hb dX6_measure_36 hl (by decide) rfl (fun ls hl => ?_)
        refine lv_iconst (v := nI 0) hx hb dX6_measure_38 (by decide) ?_
        refine lv_istore (lv' := [(5, .int (nI 0)), (4, .int (nI 1)), (0, .ref ro), (1, .ref a), (2, .int x), (3, .int z)]) hx hb dX6_measure_39 hl (by decide) rfl (fun ls hl => ?_)
        have hL27 : ∀ (n28 : Nat) (k23 : Nat) (x24 : Int32) (f25 : Nat → Int32), (k23 ≤ 36) → 36 - k23 < n28 → ∀ (H : Heap) (locs : List Loc) (ls : Array Slot), va_P (dC, dI) vwCl [(ro, .inr (6, [.ref ofarness, .ref osides, .int (nI ostepCount), .int odaysTaken])), (ofarness, .inl (ky 0, 36, .inl f25)), (osides, .inl (ky 0, 36, .inl osidesF)), (a, .inr (7, [.int (nI wide), .int (nI high), .int heat, .int cools, .int skinHeat, .int today, .int stirs, .int steps, .int (nI lumps), .int (nI boats), .ref thickness, .ref lumpNames, .ref lumpCells, .ref boatNames, .ref boatCells, .ref loads, .ref spoons, .ref spoonsLeft, .ref depths])), (thickness, .inl (ky 0, 36, .inl thicknessF))] H → va_D A [(ro, .inr (6, [.ref ofarness, .ref osides, .int (nI ostepCount), .int odaysTaken])), (ofarness, .inl (ky 0, 36, .inl f25)), (osides, .inl (ky 0, 36, .inl osidesF)), (a, .inr (7, [.int (nI wide), .int (nI high), .int heat, .int cools, .int skinHeat, .int today, .int stirs, .int steps, .int (nI lumps), .int (nI boats), .ref thickness, .ref lumpNames, .ref lumpCells, .ref boatNames, .ref boatCells, .ref loads, .ref spoons, .ref spoonsLeft, .ref depths])), (thickness, .inl (ky 0, 36, .inl thicknessF))] → va_S A s.heap H locs → lv_has ls 8 [(5, .int (nI k23)), (4, .int x24), (0, .ref ro), (1, .ref a), (3, .int z)] → W p l e (headSpec wsX6_measure ({ frames := 4, cells := 0, slots := 0, locals := 97 })).room s m args below meth c H locs 0 0 Q (F0 m 41 ls []) := by
          intro n28
          induction n28 with
          | zero => intro k23 x24 f25 _ h9; exact absurd h9 (Nat.not_lt_zero _)
          | succ n28 ih29 =>
            intro k23 x24 f25 j26 hm30 H locs ls hP hD hS hl
            refine lv_iload hx hb dX6_measure_41 (lv_at hl 0 rfl) ?_
            refine lv_bipush (v := nI 36) hx hb dX6_measure_43 (by decide) ?_
            refine n_icmp_ge (x := k23) (y := 36) (tgt := 117) hx hb (by omega) (by omega) dX6_measure_45 (by decide) (fun c31 => ?_) (fun c31 => ?_)
            · rw [hQ]
              exact W.vret hx hb hr (fun t9 ht9 hW9 => ⟨⟨f25, rfl, trivial, by rw [ht9]; exact hP, va_K.moved hW9.alike hK, hD⟩, hS.F ht9⟩) hS.2.2 dX6_measure_117
            · refine lv_iload hx hb dX6_measure_48 (lv_at hl 1 rfl) ?_
              refine lv_if_eq (tgt := 117) hx hb dX6_measure_50 (by decide) (fun c32 => ?_) (fun c32 => ?_)
              · rw [hQ]
                exact W.vret hx hb hr (fun t9 ht9 hW9 => ⟨⟨f25, rfl, trivial, by rw [ht9]; exact hP, va_K.moved hW9.alike hK, hD⟩, hS.F ht9⟩) hS.2.2 dX6_measure_117
              · refine lv_iconst (v := nI 0) hx hb dX6_measure_53 (by decide) ?_
                refine lv_istore (lv' := [(4, .int (nI 0)), (5, .int (nI k23)), (0, .ref ro), (1, .ref a), (3, .int z)]) hx hb dX6_measure_54 hl (by decide) rfl (fun ls hl => ?_)
                refine lv_iconst (v := nI 0) hx hb dX6_measure_56 (by decide) ?_
                refine lv_istore (lv' := [(6, .int (nI 0)), (4, .int (nI 0)), (5, .int (nI k23)), (0, .ref ro), (1, .ref a), (3, .int z)]) hx hb dX6_measure_57 hl (by decide) rfl (fun ls hl => ?_)
                have hL45 : ∀ (n46 : Nat) (k41 : Nat) (x42 : Int32) (f43 : Nat → Int32), (k41 ≤ 6) → 6 - k41 < n46 → ∀ (H : Heap) (locs : List Loc) (ls : Array Slot), va_P (dC, dI) vwCl [(ro, .inr (6, [.ref ofarness, .ref osides, .int (nI ostepCount), .int odaysTaken])), (ofarness, .inl (ky 0, 36, .inl f43)), (osides, .inl (ky 0, 36, .inl osidesF)), (a, .inr (7, [.int (nI wide), .int (nI high), .int heat, .int cools, .int skinHeat, .int today, .int stirs, .int steps, .int (nI lumps), .int (nI boats), .ref thickness, .ref lumpNames, .ref lumpCells, .ref boatNames, .ref boatCells, .ref loads, .ref spoons, .ref spoonsLeft, .ref depths])), (thickness, .inl (ky 0, 36, .inl thicknessF))] H → va_D A [(ro, .inr (6, [.ref ofarness, .ref osides, .int (nI ostepCount), .int odaysTaken])), (ofarness, .inl (ky 0, 36, .inl f43)), (osides, .inl (ky 0, 36, .inl osidesF)), (a, .inr (7, [.int (nI wide), .int (nI high), .int heat, .int cools, .int skinHeat, .int today, .int stirs, .int steps, .int (nI lumps), .int (nI boats), .ref thickness, .ref lumpNames, .ref lumpCells, .ref boatNames, .ref boatCells, .ref loads, .ref spoons, .ref spoonsLeft, .ref depths])), (thickness, .inl (ky 0, 36, .inl thicknessF))] → va_S A s.heap H locs → lv_has ls 8 [(6, .int (nI k41)), (4, .int x42), (5, .int (nI k23)), (0, .ref ro), (1, .ref a), (3, .int z)] → W p l e (headSpec wsX6_measure ({ frames := 4, cells := 0, slots := 0, locals := 97 })).room s m args below meth c H locs 0 0 Q (F0 m 59 ls []) := by
                  intro n46
                  induction n46 with
                  | zero => intro k41 x42 f43 _ h9; exact absurd h9 (Nat.not_lt_zero _)
                  | succ n46 ih47 =>
                    intro k41 x42 f43 j44 hm48 H locs ls hP hD hS hl
                    refine lv_iload hx hb dX6_measure_59 (lv_at hl 0 rfl) ?_
                    refine lv_aload_n hx hb dX6_measure_61 rfl (lv_at hl 4 rfl) ?_
                    refine va_get (D := (dC, dI)) (ci := 7) (v := .int (nI high)) (C := RX7) (T := TX7) (N := 19) hx hb hts hin7 hown hK hP 3 rfl rfl 1 (by decide) (hts (.fieldLink RX6 59 "PorridgeSea$Sea" "high" "I") (List.mem_of_getElem? (i := 3) rfl)) (fun _ h9 => h9) rfl dX6_measure_62 ?_
                    refine n_icmp_ge (x := k41) (y := high) (tgt := 111) hx hb (by omega) (by omega) dX6_measure_65 (by decide) (fun c49 => ?_) (fun c49 => ?_)
                    · refine lv_iinc (v := nI (k23 + 1)) (lv' := [(5, .int (nI (k23 + 1))), (6, .int (nI k41)), (4, .int x42), (0, .ref ro), (1, .ref a), (3, .int z)]) hx hb dX6_measure_111 hl (k := 2) rfl (show nI k23 + nI 1 = nI (k23 + 1) from nI_add _ _) (by decide) rfl (fun ls hl => ?_)
                      refine lv_goto (tgt := 41) hx hb dX6_measure_114 (by decide) ?_
                      exact ih29 (k23 + 1) x42 f43 (lf_o_measure_1 k23 n28 j26 hm30 c31) (lf_o_measure_2 k23 n28 j26 hm30 c31) _ _ _ hP hD hS (lv_sub hl [0, 2, 3, 4, 5] rfl)
                    · refine lv_iconst (v := nI 0) hx hb dX6_measure_68 (by decide) ?_
                      refine lv_istore (lv' := [(7, .int (nI 0)), (6, .int (nI k41)), (4, .int x42), (5, .int (nI k23)), (0, .ref ro), (1, .ref a), (3, .int z)]) hx hb dX6_measure_69 hl (by decide) rfl (fun ls hl => ?_)
                      have hL62 : ∀ (n63 : Nat) (k58 : Nat) (x59 : Int32) (f60 : Nat → Int32), (k58 ≤ 6) → 6 - k58 < n63 → ∀ (H : Heap) (locs : List Loc) (ls : Array Slot), va_P (dC, dI) vwCl [(ro, .inr (6, [.ref ofarness, .ref osides, .int (nI ostepCount), .int odaysTaken])), (ofarness, .inl (ky 0, 36, .inl f60)), (osides, .inl (ky 0, 36, .inl osidesF)), (a, .inr (7, [.int (nI wide), .int (nI high), .int heat, .int cools, .int skinHeat, .int today, .int stirs, .int steps, .int (nI lumps), .int (nI boats), .ref thickness, .ref lumpNames, .ref lumpCells, .ref boatNames, .ref boatCells, .ref loads, .ref spoons, .ref spoonsLeft, .ref depths])), (thickness, .inl (ky 0, 36, .inl thicknessF))] H → va_D A [(ro, .inr (6, [.ref ofarness, .ref osides, .int (nI ostepCount), .int odaysTaken])), (ofarness, .inl (ky 0, 36, .inl f60)), (osides, .inl (ky 0, 36, .inl osidesF)), (a, .inr (7, [.int (nI wide), .int (nI high), .int heat, .int cools, .int skinHeat, .int today, .int stirs, .int steps, .int (nI lumps), .int (nI boats), .ref thickness, .ref lumpNames, .ref lumpCells, .ref boatNames, .ref boatCells, .ref loads, .ref spoons, .ref spoonsLeft, .ref depths])), (thickness, .inl (ky 0, 36, .inl thicknessF))] → va_S A s.heap H locs → lv_has ls 8 [(7, .int (nI k58)), (6, .int (nI k41)), (4, .int x59), (5, .int (nI k23)), (0, .ref ro), (1, .ref a), (3, .int z)] → W p l e (headSpec wsX6_measure ({ frames := 4, cells := 0, slots := 0, locals := 97 })).room s m args below meth c H locs 0 0 Q (F0 m 71 ls []) := by
                        intro n63
                        induction n63 with
                        | zero => intro k58 x59 f60 _ h9; exact absurd h9 (Nat.not_lt_zero _)
                        | succ n63 ih64 =>
                          intro k58 x59 f60 j61 hm65 H locs ls hP hD hS hl
                          refine lv_iload hx hb dX6_measure_71 (lv_at hl 0 rfl) ?_
                          refine lv_aload_n hx hb dX6_measure_73 rfl (lv_at hl 5 rfl) ?_
                          refine va_get (D := (dC, dI)) (ci := 7) (v := .int (nI wide)) (C := RX7) (T := TX7) (N := 19) hx hb hts hin7 hown hK hP 3 rfl rfl 0 (by decide) (hts (.fieldLink RX6 62 "PorridgeSea$Sea" "wide" "I") (List.mem_of_getElem? (i := 4) rfl)) (fun _ h9 => h9) rfl dX6_measure_74 ?_
                          refine n_icmp_ge (x := k58) (y := wide) (tgt := 105) hx hb (by omega) (by omega) dX6_measure_77 (by decide) (fun c66 => ?_) (fun c66 => ?_)
                          · refine lv_iinc (v := nI (k41 + 1)) (lv' := [(6, .int (nI (k41 + 1))), (7, .int (nI k58)), (4, .int x59), (5, .int (nI k23)), (0, .ref ro), (1, .ref a), (3, .int z)]) hx hb dX6_measure_105 hl (k := 1) rfl (show nI k41 + nI 1 = nI (k41 + 1) from nI_add _ _) (by decide) rfl (fun ls hl => ?_)
                            refine lv_goto (tgt := 59) hx hb dX6_measure_108 (by decide) ?_
                            exact ih47 (k41 + 1) x59 f60 (lf_o_measure_3 high k41 n46 iv_a_2 iv_a_3 j44 hm48 c49) (lf_o_measure_4 high k41 n46 iv_a_2 iv_a_3 j44 hm48 c49) _ _ _ hP hD hS (lv_sub hl [0, 2, 3, 4, 5, 6] rfl)
                          · refine lv_iload hx hb dX6_measure_80 (lv_at hl 2 rfl) ?_
                            refine lv_aload_n hx hb dX6_measure_82 rfl (lv_at hl 4 rfl) ?_
                            refine lv_aload_n hx hb dX6_measure_83 rfl (lv_at hl 5 rfl) ?_
                            refine lv_bipush (v := nI 6) hx hb dX6_measure_84 (by decide) ?_
                            refine lv_iload hx hb dX6_measure_86 (lv_at hl 1 rfl) ?_
                            refine lv_imul hx hb dX6_measure_88 ?_
                            refine r_ti (nI (6 * k41)) (pk_mul _ _) ?_
                            refine lv_iload hx hb dX6_measure_89 (lv_at hl 0 rfl) ?_
                            refine lv_iadd hx hb dX6_measure_91 ?_
                            refine r_ti (nI ((6 * k41) + k58)) (nI_add _ _) ?_
                            refine lv_iload_n hx hb dX6_measure_92 rfl (lv_at hl 6 rfl) ?_
                            refine r_call_i (wr := []) (va_runV (As := [.ref a, .int (nI ((6 * k41) + k58)), .int z]) (rest := [.int x59]) ⟨hx, hb, hml, hown, hts⟩ (c_o_bringNearer l dC dI ky H.size ro ofarness osides ostepCount odaysTaken f60 osidesF a wide high heat cools skinHeat today stirs steps lumps boats thickness lumpNames lumpCells boatNames boatCells loads spoons spoonsLeft depths thicknessF ((6 * k41) + k58) z iv_oro_0 iv_a_0 iv_a_1 iv_a_2 iv_a_3 iv_a_4 iv_a_5 (lf_o_measure_5 wide high k41 n46 k58 n63 iv_a_0 iv_a_1 iv_a_2 iv_a_3 j44 hm48 c49 j61 hm65 c66)) (cwV 3 hts gX6_measure_X6_bringNearer rfl rfl rfl (by decide +kernel) ⟨(Nat.le_of_ble_eq_true rfl), (Nat.le_of_ble_eq_true rfl)⟩) (pre_UV hK hP hD [0, 1, 2, 3, 4] (by decide) rfl (ci := 6) (q0 := 0) rfl rfl) rfl rfl hl.1 rfl (lv_room (Nat.le_of_ble_eq_true rfl)) dX6_measure_93 ⟨(Nat.le_of_ble_eq_true rfl), (Nat.le_of_ble_eq_true rfl)⟩) hP hD hS hA [0, 1, 2, 3, 4] [] rfl rfl (by decide) (by decide) (fun r69 u67 H locs p68 hP hD hS => ?_)
                            obtain ⟨ofarnessG_70, rfl⟩ : ∃ z, z = u67 := ⟨_, rfl⟩
                            try dsimp only at p68
                            have p71 := p68
                            refine W.widen (k := 0) (n := 0) (Nat.le_of_ble_eq_true rfl) (Nat.le_of_ble_eq_true rfl) ?_
                            have hP : va_P (dC, dI) vwCl [(ro, .inr (6, [.ref ofarness, .ref osides, .int (nI ostepCount), .int odaysTaken])), (ofarness, .inl (ky 0, 36, .inl ofarnessG_70)), (osides, .inl (ky 0, 36, .inl osidesF)), (a, .inr (7, [.int (nI wide), .int (nI high), .int heat, .int cools, .int skinHeat, .int today, .int stirs, .int steps, .int (nI lumps), .int (nI boats), .ref thickness, .ref lumpNames, .ref lumpCells, .ref boatNames, .ref boatCells, .ref loads, .ref spoons, .ref spoonsLeft, .ref depths])), (thickness, .inl (ky 0, 36, .inl thicknessF))] H := hP
                            have hD : va_D A [(ro, .inr (6, [.ref ofarness, .ref osides, .int (nI ostepCount), .int odaysTaken])), (ofarness, .inl (ky 0, 36, .inl ofarnessG_70)), (osides, .inl (ky 0, 36, .inl osidesF)), (a, .inr (7, [.int (nI wide), .int (nI high), .int heat, .int cools, .int skinHeat, .int today, .int stirs, .int steps, .int (nI lumps), .int (nI boats), .ref thickness, .ref lumpNames, .ref lumpCells, .ref boatNames, .ref boatCells, .ref loads, .ref spoons, .ref spoonsLeft, .ref depths])), (thickness, .inl (ky 0, 36, .inl thicknessF))] := hD
                            refine lv_ior hx hb dX6_measure_96 ?_
                            refine lv_topi (fun y72 e73 => ?_)
                            refine lv_istore (lv' := [(4, .int y72), (7, .int (nI k58)), (6, .int (nI k41)), (5, .int (nI k23)), (0, .ref ro), (1, .ref a), (3, .int z)]) hx hb dX6_measure_97 hl (by decide) rfl (fun ls hl => ?_)
                            refine lv_iinc (v := nI (k58 + 1)) (lv' := [(7, .int (nI (k58 + 1))), (4, .int y72), (6, .int (nI k41)), (5, .int (nI k23)), (0, .ref ro), (1, .ref a), (3, .int z)]) hx hb dX6_measure_99 hl (k := 1) rfl (show nI k58 + nI 1 = nI (k58 + 1) from nI_add _ _) (by decide) rfl (fun ls hl => ?_)
                            refine lv_goto (tgt := 71) hx hb dX6_measure_102 (by decide) ?_
                            exact ih64 (k58 + 1) y72 ofarnessG_70 (lf_o_measure_6 wide k58 n63 iv_a_0 iv_a_1 j61 hm65 c66) (lf_o_measure_7 wide k58 n63 iv_a_0 iv_a_1 j61 hm65 c66) _ _ _ hP hD hS (lv_sub hl [0, 2, 1, 3, 4, 5, 6] rfl)
                      exact hL62 ((6 - 0) + 1) 0 x42 f43 (lf_o_measure_8) (Nat.lt_succ_self _) _ _ _ hP hD hS (lv_sub hl [0, 1, 2, 3, 4, 5, 6] rfl)
                exact hL45 ((6 - 0) + 1) 0 (nI 0) f25 (lf_o_measure_9) (Nat.lt_succ_self _) _ _ _ hP hD hS (lv_sub hl [0, 1, 2, 3, 4, 5] rfl)
        exact hL27 ((36 - 0) + 1) 0 (nI 1) f8 (lf_o_measure_10) (Nat.lt_succ_self _) _ _ _ hP hD hS (lv_sub hl [0, 1, 2, 3, 5] rfl)
      · refine lv_aload_n hx hb dX6_measure_10 rfl (lv_at hl 1 rfl) ?_
        refine va_get (D := (dC, dI)) (ci := 6) (v := .ref ofarness) (C := RX6) (T := TX6) (N := 4) hx hb hts hin6 hown hK hP 0 rfl rfl 0 (by decide) (hts (.fieldLink RX6 9 "PorridgeSea$Route" "farness" "[I") (List.mem_of_getElem? (i := 1) rfl)) (fun _ h9 => h9) rfl dX6_measure_11 ?_
        refine lv_iload hx hb dX6_measure_14 (lv_at hl 0 rfl) ?_
        refine lv_iload hx hb dX6_measure_16 (lv_at hl 0 rfl) ?_
        refine lv_iload_n hx hb dX6_measure_18 rfl (lv_at hl 3 rfl) ?_
        refine lv_icmp_ne (tgt := 26) hx hb dX6_measure_19 (by decide) (fun c74 => ?_) (fun c74 => ?_)
        · refine lv_ldc (v := nI 1048576) hx hb hown (hts (.constant RX6 54 (nI 1048576)) (List.mem_of_getElem? (i := 2) rfl)) dX6_measure_26 ?_
          refine r_iast (x := (nI 1048576)) hx hb hK hP hD hS 1 rfl k7 (by omega) (by decide) dX6_measure_28 (fun H locs hP hD hS => ?_)
          obtain ⟨g75, e76⟩ : ∃ z9, z9 = upd f8 k7 (nI 1048576) := ⟨_, rfl⟩
          rw [← e76] at hP hD
          have hP : va_P (dC, dI) vwCl [(ro, .inr (6, [.ref ofarness, .ref osides, .int (nI ostepCount), .int odaysTaken])), (ofarness, .inl (ky 0, 36, .inl g75)), (osides, .inl (ky 0, 36, .inl osidesF)), (a, .inr (7, [.int (nI wide), .int (nI high), .int heat, .int cools, .int skinHeat, .int today, .int stirs, .int steps, .int (nI lumps), .int (nI boats), .ref thickness, .ref lumpNames, .ref lumpCells, .ref boatNames, .ref boatCells, .ref loads, .ref spoons, .ref spoonsLeft, .ref depths])), (thickness, .inl (ky 0, 36, .inl thicknessF))] H := hP
          have hD : va_D A [(ro, .inr (6, [.ref ofarness, .ref osides, .int (nI ostepCount), .int odaysTaken])), (ofarness, .inl (ky 0, 36, .inl g75)), (osides, .inl (ky 0, 36, .inl osidesF)), (a, .inr (7, [.int (nI wide), .int (nI high), .int heat, .int cools, .int skinHeat, .int today, .int stirs, .int steps, .int (nI lumps), .int (nI boats), .ref thickness, .ref lumpNames, .ref lumpCells, .ref boatNames, .ref boatCells, .ref loads, .ref spoons, .ref spoonsLeft, .ref depths])), (thickness, .inl (ky 0, 36, .inl thicknessF))] := hD
          refine lv_iinc (v := nI (k7 + 1)) (lv' := [(4, .int (nI (k7 + 1))), (0, .ref ro), (1, .ref a), (2, .int x), (3, .int z)]) hx hb dX6_measure_29 hl (k := 0) rfl (show nI k7 + nI 1 = nI (k7 + 1) from nI_add _ _) (by decide) rfl (fun ls hl => ?_)
          refine lv_goto (tgt := 3) hx hb dX6_measure_32 (by decide) ?_
          exact ih12 (k7 + 1) g75 (lf_o_measure_11 x k7 n11 j9 hm13 c14 c74) (lf_o_measure_12 x k7 n11 j9 hm13 c14 c74) _ _ _ hP hD hS (lv_sub hl [0, 1, 2, 3, 4] rfl)
        · refine lv_iconst (v := nI 0) hx hb dX6_measure_22 (by decide) ?_
          refine lv_goto (tgt := 28) hx hb dX6_measure_23 (by decide) ?_
          refine r_iast (x := (nI 0)) hx hb hK hP hD hS 1 rfl k7 (by omega) (by decide) dX6_measure_28 (fun H locs hP hD hS => ?_)
          obtain ⟨g77, e78⟩ : ∃ z9, z9 = upd f8 k7 (nI 0) := ⟨_, rfl⟩
          rw [← e78] at hP hD
          have hP : va_P (dC, dI) vwCl [(ro, .inr (6, [.ref ofarness, .ref osides, .int (nI ostepCount), .int odaysTaken])), (ofarness, .inl (ky 0, 36, .inl g77)), (osides, .inl (ky 0, 36, .inl osidesF)), (a, .inr (7, [.int (nI wide), .int (nI high), .int heat, .int cools, .int skinHeat, .int today, .int stirs, .int steps, .int (nI lumps), .int (nI boats), .ref thickness, .ref lumpNames, .ref lumpCells, .ref boatNames, .ref boatCells, .ref loads, .ref spoons, .ref spoonsLeft, .ref depths])), (thickness, .inl (ky 0, 36, .inl thicknessF))] H := hP
          have hD : va_D A [(ro, .inr (6, [.ref ofarness, .ref osides, .int (nI ostepCount), .int odaysTaken])), (ofarness, .inl (ky 0, 36, .inl g77)), (osides, .inl (ky 0, 36, .inl osidesF)), (a, .inr (7, [.int (nI wide), .int (nI high), .int heat, .int cools, .int skinHeat, .int today, .int stirs, .int steps, .int (nI lumps), .int (nI boats), .ref thickness, .ref lumpNames, .ref lumpCells, .ref boatNames, .ref boatCells, .ref loads, .ref spoons, .ref spoonsLeft, .ref depths])), (thickness, .inl (ky 0, 36, .inl thicknessF))] := hD
          refine lv_iinc (v := nI (k7 + 1)) (lv' := [(4, .int (nI (k7 + 1))), (0, .ref ro), (1, .ref a), (2, .int x), (3, .int z)]) hx hb dX6_measure_29 hl (k := 0) rfl (show nI k7 + nI 1 = nI (k7 + 1) from nI_add _ _) (by decide) rfl (fun ls hl => ?_)
          refine lv_goto (tgt := 3) hx hb dX6_measure_32 (by decide) ?_
          exact ih12 (k7 + 1) g77 (lf_o_measure_13 x k7 n11 j9 hm13 c14 c74) (lf_o_measure_14 x k7 n11 j9 hm13 c14 c74) _ _ _ hP hD hS (lv_sub hl [0, 1, 2, 3, 4] rfl)
  exact hL10 ((36 - 0) + 1) 0 ofarnessF (lf_o_measure_15) (Nat.lt_succ_self _) _ _ _ hP hD hS (lv_sub hl [0, 1, 2, 3, 4] rfl)
set_option maxRecDepth 20000 in
theorem lf_o_firstSide_1 (k5 : Nat) (n8 : Nat) (j6 : k5 ≤ 4) (hm10 : 4 - k5 < n8 + 1) (c11 : k5 < 4) (p13 : True) (p15 : True) : (k5 + 1) ≤ 4 := by
  try simp only [ia_lt, ia_le, ia_eq, ia_m1, ia_0, ia_1, ne_eq, true_and, and_true, false_and, and_false, or_false, false_or, or_true, true_or, not_true_eq_false, not_false_eq_true] at *
  all_goals omega
set_option maxRecDepth 20000 in
theorem lf_o_firstSide_2 (k5 : Nat) (n8 : Nat) (j6 : k5 ≤ 4) (hm10 : 4 - k5 < n8 + 1) (c11 : k5 < 4) (p13 : True) (p15 : True) : 4 - (k5 + 1) < n8 := by
  try simp only [ia_lt, ia_le, ia_eq, ia_m1, ia_0, ia_1, ne_eq, true_and, and_true, false_and, and_false, or_false, false_or, or_true, true_or, not_true_eq_false, not_false_eq_true] at *
  all_goals omega
set_option maxRecDepth 20000 in
theorem lf_o_firstSide_3   : 0 ≤ 4 := by
  try simp only [ia_lt, ia_le, ia_eq, ia_m1, ia_0, ia_1, ne_eq, true_and, and_true, false_and, and_false, or_false, false_or, or_true, true_or, not_true_eq_false, not_false_eq_true] at *
  all_goals omega
set_option maxHeartbeats 4000000 in
set_option maxRecDepth 100000 in
theorem c_o_firstSide (l : Launch) (dC : Nat → ClassId) (dI : Nat → Nat → Nat) (ky : Nat → ClassId) (ro : Nat) (ofarness : Nat) (osides : Nat) (ostepCount : Nat) (odaysTaken : Int32) (ofarnessF : Nat → Int32) (osidesF : Nat → Int32) (a : Nat) (wide : Nat) (high : Nat) (heat : Int32) (cools : Int32) (skinHeat : Int32) (today : Int32) (stirs : Int32) (steps : Int32) (lumps : Nat) (boats : Nat) (thickness : Nat) (lumpNames : Nat) (lumpCells : Nat) (boatNames : Nat) (boatCells : Nat) (loads : Nat) (spoons : Nat) (spoonsLeft : Nat) (depths : Nat) (thicknessF : Nat → Int32) (x : Int32) (z : Int32) (iv_oro_0 : ostepCount ≤ 36) (iv_a_0 : 2 ≤ wide) (iv_a_1 : wide ≤ 6) (iv_a_2 : 2 ≤ high) (iv_a_3 : high ≤ 6) (iv_a_4 : lumps ≤ 6) (iv_a_5 : boats ≤ 6) : Met l yX6_firstSide wsX6_firstSide ({ frames := 3, cells := 0, slots := 0, locals := 71 }) (PcP dC dI ky [.ref ro, .ref a, .int x, .int z] [(ro, .inr (6, [.ref ofarness, .ref osides, .int (nI ostepCount), .int odaysTaken])), (ofarness, .inl (ky 0, 36, .inl ofarnessF)), (osides, .inl (ky 0, 36, .inl osidesF)), (a, .inr (7, [.int (nI wide), .int (nI high), .int heat, .int cools, .int skinHeat, .int today, .int stirs, .int steps, .int (nI lumps), .int (nI boats), .ref thickness, .ref lumpNames, .ref lumpCells, .ref boatNames, .ref boatCells, .ref loads, .ref spoons, .ref spoonsLeft, .ref depths])), (thickness, .inl (ky 0, 36, .inl thicknessF))]) (vp_Si (fun r : Int32 => True)) 0 0 (fun _ => False) := by
  refine Met.ofW (cc := cX6_firstSide) (maxL := 5) (ret := (some .int)) (by decide) rfl ?_
  intro p e s m args below meth c s₁ B hml hv
  obtain ⟨rfl, hP, hK⟩ := hv
  have hx := B.exec
  have hb := B.bytes
  have hr := B.returns
  have hts := atoms_spec (ws := wsX6_firstSide) B.pre
  have hown : s.vm.findClass RX6 = some m.cls := findClass_of_methodNamed B.named
  have hlocks := B.notSynchronized
  have hl := lv_entry ([.ref ro, .ref a, .int x, .int z]) (n := 5) (Nat.le_of_ble_eq_true rfl)
  rw [lg_entry_eq]
  generalize (lg_sl ([.ref ro, .ref a, .int x, .int z]) ++ List.replicate (5 - (lg_sl ([.ref ro, .ref a, .int x, .int z])).length) Slot.unset).toArray = ls at hl ⊢
  have hl : lv_has ls 5 [(0, .ref ro), (1, .ref a), (2, .int x), (3, .int z)] := hl
  refine q_name (fun Q hQ => ?_)
  generalize ([.ref ro, .ref a, .int x, .int z] : List Value).toArray = args at hts hQ ⊢
  refine lv_iconst (v := nI 0) hx hb dX6_firstSide_0 (by decide) ?_
  refine lv_istore (lv' := [(4, .int (nI 0)), (0, .ref ro), (1, .ref a), (2, .int x), (3, .int z)]) hx hb dX6_firstSide_1 hl (by decide) rfl (fun ls hl => ?_)
  have hL7 : ∀ (n8 : Nat) (k5 : Nat), (k5 ≤ 4) → 4 - k5 < n8 → ∀ (ls : Array Slot), lv_has ls 5 [(4, .int (nI k5)), (0, .ref ro), (1, .ref a), (2, .int x), (3, .int z)] → W p l e (headSpec wsX6_firstSide ({ frames := 3, cells := 0, slots := 0, locals := 71 })).room s m args below meth c s.heap [] 0 0 Q (F0 m 3 ls []) := by
    intro n8
    induction n8 with
    | zero => intro k5 _ h9; exact absurd h9 (Nat.not_lt_zero _)
    | succ n8 ih9 =>
      intro k5 j6 hm10 ls hl
      refine lv_iload hx hb dX6_firstSide_3 (lv_at hl 0 rfl) ?_
      refine lv_iconst (v := nI 4) hx hb dX6_firstSide_5 (by decide) ?_
      refine n_icmp_ge (x := k5) (y := 4) (tgt := 35) hx hb (by omega) (by omega) dX6_firstSide_6 (by decide) (fun c11 => ?_) (fun c11 => ?_)
      · refine lv_iconst (v := nI 0) hx hb dX6_firstSide_35 (by decide) ?_
        rw [hQ]
        exact W.iret (v := nI 0) hx hb hr (fun t9 ht9 hW9 => ⟨nI 0, rfl, trivial, ht9⟩) (fun _ h => absurd h List.not_mem_nil) dX6_firstSide_36
      · refine lv_aload_n hx hb dX6_firstSide_9 rfl (lv_at hl 1 rfl) ?_
        refine lv_aload_n hx hb dX6_firstSide_10 rfl (lv_at hl 2 rfl) ?_
        refine lv_iload_n hx hb dX6_firstSide_11 rfl (lv_at hl 3 rfl) ?_
        refine lv_iload hx hb dX6_firstSide_12 (lv_at hl 0 rfl) ?_
        refine lv_iload_n hx hb dX6_firstSide_14 rfl (lv_at hl 4 rfl) ?_
        refine vp_callSi (W.runV (As := [.ref a, .int x, .int (nI k5), .int z]) (rest := []) ⟨hx, hb, hml, hown, hts⟩ (c_o_farnessBy l dC dI ky ro ofarness osides ostepCount odaysTaken ofarnessF osidesF a wide high heat cools skinHeat today stirs steps lumps boats thickness lumpNames lumpCells boatNames boatCells loads spoons spoonsLeft depths thicknessF x (nI k5) z iv_oro_0 iv_a_0 iv_a_1 iv_a_2 iv_a_3 iv_a_4 iv_a_5) (cwV 4 hts gX6_firstSide_X6_farnessBy rfl rfl rfl (by decide +kernel) ⟨(Nat.le_of_ble_eq_true rfl), (Nat.le_of_ble_eq_true rfl)⟩) (pre_PV hK hP [0, 1, 2, 3, 4] rfl (ci := 6) (q0 := 0) rfl rfl) rfl rfl hl.1 rfl (lv_room (Nat.le_of_ble_eq_true rfl)) dX6_firstSide_15 ⟨(Nat.le_of_ble_eq_true rfl), (Nat.le_of_ble_eq_true rfl)⟩) (fun r12 p13 => ?_)
        refine lv_aload_n hx hb dX6_firstSide_18 rfl (lv_at hl 1 rfl) ?_
        refine lv_iload_n hx hb dX6_firstSide_19 rfl (lv_at hl 3 rfl) ?_
        refine vp_callSi (W.runV (As := [.int x]) (rest := [.int r12]) ⟨hx, hb, hml, hown, hts⟩ (c_o_farnessOf l dC dI ky ro ofarness osides ostepCount odaysTaken ofarnessF osidesF x iv_oro_0) (cwV 1 hts gX6_firstSide_X6_farnessOf rfl rfl rfl (by decide +kernel) ⟨(Nat.le_of_ble_eq_true rfl), (Nat.le_of_ble_eq_true rfl)⟩) (pre_PV hK hP [0, 1, 2] rfl (ci := 6) (q0 := 0) rfl rfl) rfl rfl hl.1 rfl (lv_room (Nat.le_of_ble_eq_true rfl)) dX6_firstSide_20 ⟨(Nat.le_of_ble_eq_true rfl), (Nat.le_of_ble_eq_true rfl)⟩) (fun r14 p15 => ?_)
        refine lv_icmp_ne (tgt := 29) hx hb dX6_firstSide_23 (by decide) (fun c16 => ?_) (fun c16 => ?_)
        · refine lv_iinc (v := nI (k5 + 1)) (lv' := [(4, .int (nI (k5 + 1))), (0, .ref ro), (1, .ref a), (2, .int x), (3, .int z)]) hx hb dX6_firstSide_29 hl (k := 0) rfl (show nI k5 + nI 1 = nI (k5 + 1) from nI_add _ _) (by decide) rfl (fun ls hl => ?_)
          refine lv_goto (tgt := 3) hx hb dX6_firstSide_32 (by decide) ?_
          exact ih9 (k5 + 1) (lf_o_firstSide_1 k5 n8 j6 hm10 c11 p13 p15) (lf_o_firstSide_2 k5 n8 j6 hm10 c11 p13 p15) _ (lv_sub hl [0, 1, 2, 3, 4] rfl)
        · refine lv_iload hx hb dX6_firstSide_26 (lv_at hl 0 rfl) ?_
          rw [hQ]
          exact W.iret (v := nI k5) hx hb hr (fun t9 ht9 hW9 => ⟨nI k5, rfl, trivial, ht9⟩) (fun _ h => absurd h List.not_mem_nil) dX6_firstSide_28
  exact hL7 ((4 - 0) + 1) 0 (lf_o_firstSide_3) (Nat.lt_succ_self _) _ (lv_sub hl [0, 1, 2, 3, 4] rfl)
set_option maxRecDepth 20000 in
theorem lf_o_follow_1 (k20 : Nat) (n25 : Nat) (j23 : k20 ≤ 36) (hm27 : 36 - k20 < n25 + 1) (c29 : k20 < 36) (p31 : True) : (k20 + 1) ≤ 36 := by
  try simp only [ia_lt, ia_le, ia_eq, ia_m1, ia_0, ia_1, ne_eq, true_and, and_true, false_and, and_false, or_false, false_or, or_true, true_or, not_true_eq_false, not_false_eq_true] at *
  all_goals omega
set_option maxRecDepth 20000 in
theorem lf_o_follow_2 (k20 : Nat) (n25 : Nat) (j23 : k20 ≤ 36) (hm27 : 36 - k20 < n25 + 1) (c29 : k20 < 36) (p31 : True) : 36 - (k20 + 1) < n25 := by
  try simp only [ia_lt, ia_le, ia_eq, ia_m1, ia_0, ia_1, ne_eq, true_and, and_true, false_and, and_false, or_false, false_or, or_true, true_or, not_true_eq_false, not_false_eq_true] at *
  all_goals omega
set_option maxRecDepth 20000 in
theorem lf_o_follow_3  (p31 : True) (p49 : True) : -1 ≤ (-1 : Int32).toInt := by
  try simp only [ia_lt, ia_le, ia_eq, ia_m1, ia_0, ia_1, ne_eq, true_and, and_true, false_and, and_false, or_false, false_or, or_true, true_or, not_true_eq_false, not_false_eq_true] at *
  all_goals omega
set_option maxRecDepth 20000 in
theorem lf_o_follow_4  (p31 : True) (p49 : True) : (-1 : Int32).toInt ≤ 35 := by
  try simp only [ia_lt, ia_le, ia_eq, ia_m1, ia_0, ia_1, ne_eq, true_and, and_true, false_and, and_false, or_false, false_or, or_true, true_or, not_true_eq_false, not_false_eq_true] at *
  all_goals omega
set_option maxRecDepth 20000 in
theorem lf_o_follow_5  (p31 : True) (p49 : True) : -1 ≤ (-1 : Int32).toInt := by
  try simp only [ia_lt, ia_le, ia_eq, ia_m1, ia_0, ia_1, ne_eq, true_and, and_true, false_and, and_false, or_false, false_or, or_true, true_or, not_true_eq_false, not_false_eq_true] at *
  all_goals omega
set_option maxRecDepth 20000 in
theorem lf_o_follow_6  (p31 : True) (p49 : True) : (-1 : Int32).toInt ≤ 35 := by
  try simp only [ia_lt, ia_le, ia_eq, ia_m1, ia_0, ia_1, ne_eq, true_and, and_true, false_and, and_false, or_false, false_or, or_true, true_or, not_true_eq_false, not_false_eq_true] at *
  all_goals omega
set_option maxRecDepth 20000 in
theorem lf_o_follow_7 (k34 : Nat) (p31 : True) (h36 : k34 < 36) (p54 : True) : -1 ≤ (nI k34).toInt := by
  try have k_0 := ia_n k34 (by first | decide | omega)
  try simp only [ia_lt, ia_le, ia_eq, ia_m1, ia_0, ia_1, ne_eq, true_and, and_true, false_and, and_false, or_false, false_or, or_true, true_or, not_true_eq_false, not_false_eq_true] at *
  all_goals omega
set_option maxRecDepth 20000 in
theorem lf_o_follow_8 (k34 : Nat) (p31 : True) (h36 : k34 < 36) (p54 : True) : (nI k34).toInt ≤ 35 := by
  try have k_0 := ia_n k34 (by first | decide | omega)
  try simp only [ia_lt, ia_le, ia_eq, ia_m1, ia_0, ia_1, ne_eq, true_and, and_true, false_and, and_false, or_false, false_or, or_true, true_or, not_true_eq_false, not_false_eq_true] at *
  all_goals omega
set_option maxRecDepth 20000 in
theorem lf_o_follow_9 (k34 : Nat) (p31 : True) (h36 : k34 < 36) (p54 : True) : -1 ≤ (nI k34).toInt := by
  try have k_0 := ia_n k34 (by first | decide | omega)
  try simp only [ia_lt, ia_le, ia_eq, ia_m1, ia_0, ia_1, ne_eq, true_and, and_true, false_and, and_false, or_false, false_or, or_true, true_or, not_true_eq_false, not_false_eq_true] at *
  all_goals omega
set_option maxRecDepth 20000 in
theorem lf_o_follow_10 (k34 : Nat) (p31 : True) (h36 : k34 < 36) (p54 : True) : (nI k34).toInt ≤ 35 := by
  try have k_0 := ia_n k34 (by first | decide | omega)
  try simp only [ia_lt, ia_le, ia_eq, ia_m1, ia_0, ia_1, ne_eq, true_and, and_true, false_and, and_false, or_false, false_or, or_true, true_or, not_true_eq_false, not_false_eq_true] at *
  all_goals omega
set_option maxRecDepth 20000 in
theorem lf_o_follow_11   : 0 ≤ 36 := by
  try simp only [ia_lt, ia_le, ia_eq, ia_m1, ia_0, ia_1, ne_eq, true_and, and_true, false_and, and_false, or_false, false_or, or_true, true_or, not_true_eq_false, not_false_eq_true] at *
  all_goals omega
set_option maxRecDepth 20000 in
theorem lf_o_follow_12   : (nI 1) = nI 0 ∨ (nI 1) = nI 1 := by
  try have k_0 := ia_n 1 (by first | decide | omega)
  try have k_1 := ia_n 0 (by first | decide | omega)
  try simp only [ia_lt, ia_le, ia_eq, ia_m1, ia_0, ia_1, ne_eq, true_and, and_true, false_and, and_false, or_false, false_or, or_true, true_or, not_true_eq_false, not_false_eq_true] at *
  all_goals omega
set_option maxRecDepth 20000 in
theorem lf_o_follow_13   : (nI 0) = nI 0 ∨ (nI 0) = nI 1 := by
  try have k_0 := ia_n 0 (by first | decide | omega)
  try have k_1 := ia_n 1 (by first | decide | omega)
  try simp only [ia_lt, ia_le, ia_eq, ia_m1, ia_0, ia_1, ne_eq, true_and, and_true, false_and, and_false, or_false, false_or, or_true, true_or, not_true_eq_false, not_false_eq_true] at *
  all_goals omega
set_option maxHeartbeats 4000000 in
set_option maxRecDepth 100000 in
theorem c_o_follow (l : Launch) (dC : Nat → ClassId) (dI : Nat → Nat → Nat) (ky : Nat → ClassId) (sz : Nat) (ro : Nat) (ofarness : Nat) (osides : Nat) (ostepCount : Nat) (odaysTaken : Int32) (ofarnessF : Nat → Int32) (osidesF : Nat → Int32) (a : Nat) (wide : Nat) (high : Nat) (heat : Int32) (cools : Int32) (skinHeat : Int32) (today : Int32) (stirs : Int32) (steps : Int32) (lumps : Nat) (boats : Nat) (thickness : Nat) (lumpNames : Nat) (lumpCells : Nat) (boatNames : Nat) (boatCells : Nat) (loads : Nat) (spoons : Nat) (spoonsLeft : Nat) (depths : Nat) (thicknessF : Nat → Int32) (x : Int32) (y : Int32) (z : Int32) (iv_oro_0 : ostepCount ≤ 36) (iv_a_0 : 2 ≤ wide) (iv_a_1 : wide ≤ 6) (iv_a_2 : 2 ≤ high) (iv_a_3 : high ≤ 6) (iv_a_4 : lumps ≤ 6) (iv_a_5 : boats ≤ 6) : Met l yX6_follow wsX6_follow ({ frames := 4, cells := 0, slots := 0, locals := 95 }) (PcU dC dI ky [.ref ro, .ref a, .int x, .int y, .int z] [(ro, .inr (6, [.ref ofarness, .ref osides, .int (nI ostepCount), .int odaysTaken])), (ofarness, .inl (ky 0, 36, .inl ofarnessF)), (osides, .inl (ky 0, 36, .inl osidesF)), (a, .inr (7, [.int (nI wide), .int (nI high), .int heat, .int cools, .int skinHeat, .int today, .int stirs, .int steps, .int (nI lumps), .int (nI boats), .ref thickness, .ref lumpNames, .ref lumpCells, .ref boatNames, .ref boatCells, .ref loads, .ref spoons, .ref spoonsLeft, .ref depths])), (thickness, .inl (ky 0, 36, .inl thicknessF))] sz) (va_Qv (fun (u : Nat × Int32 × (Nat → Int32)) => match u with | (ostepCountG, odaysTakenG, osidesG) => ostepCountG ≤ 36) (BU dC dI ky (fun (u : Nat × Int32 × (Nat → Int32)) => match u with | (ostepCountG, odaysTakenG, osidesG) => [(ro, .inr (6, [.ref ofarness, .ref osides, .int (nI ostepCountG), .int odaysTakenG])), (ofarness, .inl (ky 0, 36, .inl ofarnessF)), (osides, .inl (ky 0, 36, .inl osidesG)), (a, .inr (7, [.int (nI wide), .int (nI high), .int heat, .int cools, .int skinHeat, .int today, .int stirs, .int steps, .int (nI lumps), .int (nI boats), .ref thickness, .ref lumpNames, .ref lumpCells, .ref boatNames, .ref boatCells, .ref loads, .ref spoons, .ref spoonsLeft, .ref depths])), (thickness, .inl (ky 0, 36, .inl thicknessF))]) (va_A [(ro, .inr (6, [.ref ofarness, .ref osides, .int (nI ostepCount), .int odaysTaken])), (ofarness, .inl (ky 0, 36, .inl ofarnessF)), (osides, .inl (ky 0, 36, .inl osidesF)), (a, .inr (7, [.int (nI wide), .int (nI high), .int heat, .int cools, .int skinHeat, .int today, .int stirs, .int steps, .int (nI lumps), .int (nI boats), .ref thickness, .ref lumpNames, .ref lumpCells, .ref boatNames, .ref boatCells, .ref loads, .ref spoons, .ref spoonsLeft, .ref depths])), (thickness, .inl (ky 0, 36, .inl thicknessF))] sz)) (va_A [(ro, .inr (6, [.ref ofarness, .ref osides, .int (nI ostepCount), .int odaysTaken])), (ofarness, .inl (ky 0, 36, .inl ofarnessF)), (osides, .inl (ky 0, 36, .inl osidesF)), (a, .inr (7, [.int (nI wide), .int (nI high), .int heat, .int cools, .int skinHeat, .int today, .int stirs, .int steps, .int (nI lumps), .int (nI boats), .ref thickness, .ref lumpNames, .ref lumpCells, .ref boatNames, .ref boatCells, .ref loads, .ref spoons, .ref spoonsLeft, .ref depths])), (thickness, .inl (ky 0, 36, .inl thicknessF))] sz)) 0 0 (va_A [(ro, .inr (6, [.ref ofarness, .ref osides, .int (nI ostepCount), .int odaysTaken])), (ofarness, .inl (ky 0, 36, .inl ofarnessF)), (osides, .inl (ky 0, 36, .inl osidesF)), (a, .inr (7, [.int (nI wide), .int (nI high), .int heat, .int cools, .int skinHeat, .int today, .int stirs, .int steps, .int (nI lumps), .int (nI boats), .ref thickness, .ref lumpNames, .ref lumpCells, .ref boatNames, .ref boatCells, .ref loads, .ref spoons, .ref spoonsLeft, .ref depths])), (thickness, .inl (ky 0, 36, .inl thicknessF))] sz) := by
  refine Met.ofW (cc := cX6_follow) (maxL := 10) (ret := none) (by decide) rfl ?_
  intro p e s m args below meth c s₁ B hml hv
  obtain ⟨rfl, hsz, hP, hK, hD0⟩ := hv
  have hx := B.exec
  have hb := B.bytes
  have hr := B.returns
  have hts := atoms_spec (ws := wsX6_follow) B.pre
  have hown : s.vm.findClass RX6 = some m.cls := findClass_of_methodNamed B.named
  have hlocks := B.notSynchronized
  have hin6 : ∀ w ∈ u_ws RX6 TX6 4, w ∈ wsX6_follow := by decide +kernel
  subst hsz
  have hD := hD0.self (sz := s.heap.size)
  generalize hAe : va_A [(ro, .inr (6, [.ref ofarness, .ref osides, .int (nI ostepCount), .int odaysTaken])), (ofarness, .inl (ky 0, 36, .inl ofarnessF)), (osides, .inl (ky 0, 36, .inl osidesF)), (a, .inr (7, [.int (nI wide), .int (nI high), .int heat, .int cools, .int skinHeat, .int today, .int stirs, .int steps, .int (nI lumps), .int (nI boats), .ref thickness, .ref lumpNames, .ref lumpCells, .ref boatNames, .ref boatCells, .ref loads, .ref spoons, .ref spoonsLeft, .ref depths])), (thickness, .inl (ky 0, 36, .inl thicknessF))] s.heap.size = A at hD ⊢
  have hA : ∀ q : Nat, s.heap.size ≤ q → A q := fun q h => by rw [← hAe]; exact Or.inr h
  have hS : va_S A s.heap s.heap [] := va_S.rf
  have hl := lv_entry ([.ref ro, .ref a, .int x, .int y, .int z]) (n := 10) (Nat.le_of_ble_eq_true rfl)
  rw [lg_entry_eq]
  generalize (lg_sl ([.ref ro, .ref a, .int x, .int y, .int z]) ++ List.replicate (10 - (lg_sl ([.ref ro, .ref a, .int x, .int y, .int z])).length) Slot.unset).toArray = ls at hl ⊢
  have hl : lv_has ls 10 [(0, .ref ro), (1, .ref a), (2, .int x), (3, .int y), (4, .int z)] := hl
  refine q_name (fun Q hQ => ?_)
  generalize ([.ref ro, .ref a, .int x, .int y, .int z] : List Value).toArray = args at hts hQ ⊢
  refine lv_iload_n hx hb dX6_follow_0 rfl (lv_at hl 2 rfl) ?_
  refine lv_istore (lv' := [(5, .int x), (0, .ref ro), (1, .ref a), (2, .int x), (3, .int y), (4, .int z)]) hx hb dX6_follow_1 hl (by decide) rfl (fun ls hl => ?_)
  refine lv_iload hx hb dX6_follow_3 (lv_at hl 5 rfl) ?_
  refine lv_istore (lv' := [(6, .int z), (5, .int x), (0, .ref ro), (1, .ref a), (2, .int x), (3, .int y), (4, .int z)]) hx hb dX6_follow_5 hl (by decide) rfl (fun ls hl => ?_)
  refine lv_aload_n hx hb dX6_follow_7 rfl (lv_at hl 2 rfl) ?_
  refine lv_iconst (v := nI 0) hx hb dX6_follow_8 (by decide) ?_
  refine va_put (D := (dC, dI)) (ci := 6) (v := .int (nI 0)) (ty := .int) (C := RX6) (T := TX6) (N := 4) hx hb hts hin6 tyX6 tyX6_ok nmX6 hown hK hP hD hS 0 rfl rfl 2 (by decide) (hts (.fieldLink RX6 18 "PorridgeSea$Route" "stepCount" "I") (List.mem_of_getElem? (i := 1) rfl)) (fun _ h9 => h9) rfl (by decide +kernel) rfl rfl (Nat.le_of_ble_eq_true rfl) dX6_follow_9 (fun H locs hP hD hS => ?_)
  have hP : va_P (dC, dI) vwCl [(ro, .inr (6, [.ref ofarness, .ref osides, .int (nI 0), .int odaysTaken])), (ofarness, .inl (ky 0, 36, .inl ofarnessF)), (osides, .inl (ky 0, 36, .inl osidesF)), (a, .inr (7, [.int (nI wide), .int (nI high), .int heat, .int cools, .int skinHeat, .int today, .int stirs, .int steps, .int (nI lumps), .int (nI boats), .ref thickness, .ref lumpNames, .ref lumpCells, .ref boatNames, .ref boatCells, .ref loads, .ref spoons, .ref spoonsLeft, .ref depths])), (thickness, .inl (ky 0, 36, .inl thicknessF))] H := hP
  have hD : va_D A [(ro, .inr (6, [.ref ofarness, .ref osides, .int (nI 0), .int odaysTaken])), (ofarness, .inl (ky 0, 36, .inl ofarnessF)), (osides, .inl (ky 0, 36, .inl osidesF)), (a, .inr (7, [.int (nI wide), .int (nI high), .int heat, .int cools, .int skinHeat, .int today, .int stirs, .int steps, .int (nI lumps), .int (nI boats), .ref thickness, .ref lumpNames, .ref lumpCells, .ref boatNames, .ref boatCells, .ref loads, .ref spoons, .ref spoonsLeft, .ref depths])), (thickness, .inl (ky 0, 36, .inl thicknessF))] := hD
  refine lv_aload_n hx hb dX6_follow_12 rfl (lv_at hl 2 rfl) ?_
  refine lv_iload_n hx hb dX6_follow_13 rfl (lv_at hl 4 rfl) ?_
  refine lv_iload_n hx hb dX6_follow_14 rfl (lv_at hl 5 rfl) ?_
  have hJ4 : ∀ (x2 : Int32), (x2 = nI 0 ∨ x2 = nI 1) → ∀ (H : Heap) (locs : List Loc) (ls : Array Slot), va_P (dC, dI) vwCl [(ro, .inr (6, [.ref ofarness, .ref osides, .int (nI 0), .int odaysTaken])), (ofarness, .inl (ky 0, 36, .inl ofarnessF)), (osides, .inl (ky 0, 36, .inl osidesF)), (a, .inr (7, [.int (nI wide), .int (nI high), .int heat, .int cools, .int skinHeat, .int today, .int stirs, .int steps, .int (nI lumps), .int (nI boats), .ref thickness, .ref lumpNames, .ref lumpCells, .ref boatNames, .ref boatCells, .ref loads, .ref spoons, .ref spoonsLeft, .ref depths])), (thickness, .inl (ky 0, 36, .inl thicknessF))] H → va_D A [(ro, .inr (6, [.ref ofarness, .ref osides, .int (nI 0), .int odaysTaken])), (ofarness, .inl (ky 0, 36, .inl ofarnessF)), (osides, .inl (ky 0, 36, .inl osidesF)), (a, .inr (7, [.int (nI wide), .int (nI high), .int heat, .int cools, .int skinHeat, .int today, .int stirs, .int steps, .int (nI lumps), .int (nI boats), .ref thickness, .ref lumpNames, .ref lumpCells, .ref boatNames, .ref boatCells, .ref loads, .ref spoons, .ref spoonsLeft, .ref depths])), (thickness, .inl (ky 0, 36, .inl thicknessF))] → va_S A s.heap H locs → lv_has ls 10 [(6, .int z), (5, .int x), (0, .ref ro), (1, .ref a), (3, .int y), (4, .int z)] → W p l e (headSpec wsX6_follow ({ frames := 4, cells := 0, slots := 0, locals := 95 })).room s m args below meth c H locs 0 0 Q (F0 m 23 ls [.int x2, .ref ro]) := by
    intro x2 j3 H locs ls hP hD hS hl
    refine va_put (D := (dC, dI)) (ci := 6) (v := .int x2) (ty := .int) (C := RX6) (T := TX6) (N := 4) hx hb hts hin6 tyX6 tyX6_ok nmX6 hown hK hP hD hS 0 rfl rfl 3 (by decide) (hts (.fieldLink RX6 22 "PorridgeSea$Route" "daysTaken" "I") (List.mem_of_getElem? (i := 2) rfl)) (fun _ h9 => h9) rfl (by decide +kernel) rfl rfl (Nat.le_of_ble_eq_true rfl) dX6_follow_23 (fun H locs hP hD hS => ?_)
    have hP : va_P (dC, dI) vwCl [(ro, .inr (6, [.ref ofarness, .ref osides, .int (nI 0), .int x2])), (ofarness, .inl (ky 0, 36, .inl ofarnessF)), (osides, .inl (ky 0, 36, .inl osidesF)), (a, .inr (7, [.int (nI wide), .int (nI high), .int heat, .int cools, .int skinHeat, .int today, .int stirs, .int steps, .int (nI lumps), .int (nI boats), .ref thickness, .ref lumpNames, .ref lumpCells, .ref boatNames, .ref boatCells, .ref loads, .ref spoons, .ref spoonsLeft, .ref depths])), (thickness, .inl (ky 0, 36, .inl thicknessF))] H := hP
    have hD : va_D A [(ro, .inr (6, [.ref ofarness, .ref osides, .int (nI 0), .int x2])), (ofarness, .inl (ky 0, 36, .inl ofarnessF)), (osides, .inl (ky 0, 36, .inl osidesF)), (a, .inr (7, [.int (nI wide), .int (nI high), .int heat, .int cools, .int skinHeat, .int today, .int stirs, .int steps, .int (nI lumps), .int (nI boats), .ref thickness, .ref lumpNames, .ref lumpCells, .ref boatNames, .ref boatCells, .ref loads, .ref spoons, .ref spoonsLeft, .ref depths])), (thickness, .inl (ky 0, 36, .inl thicknessF))] := hD
    have hL24 : ∀ (n25 : Nat) (x18 : Int32) (x19 : Int32) (k20 : Nat) (x21 : Int32) (f22 : Nat → Int32), (k20 ≤ 36) → 36 - k20 < n25 → ∀ (H : Heap) (locs : List Loc) (ls : Array Slot), va_P (dC, dI) vwCl [(ro, .inr (6, [.ref ofarness, .ref osides, .int (nI k20), .int x21])), (ofarness, .inl (ky 0, 36, .inl ofarnessF)), (osides, .inl (ky 0, 36, .inl f22)), (a, .inr (7, [.int (nI wide), .int (nI high), .int heat, .int cools, .int skinHeat, .int today, .int stirs, .int steps, .int (nI lumps), .int (nI boats), .ref thickness, .ref lumpNames, .ref lumpCells, .ref boatNames, .ref boatCells, .ref loads, .ref spoons, .ref spoonsLeft, .ref depths])), (thickness, .inl (ky 0, 36, .inl thicknessF))] H → va_D A [(ro, .inr (6, [.ref ofarness, .ref osides, .int (nI k20), .int x21])), (ofarness, .inl (ky 0, 36, .inl ofarnessF)), (osides, .inl (ky 0, 36, .inl f22)), (a, .inr (7, [.int (nI wide), .int (nI high), .int heat, .int cools, .int skinHeat, .int today, .int stirs, .int steps, .int (nI lumps), .int (nI boats), .ref thickness, .ref lumpNames, .ref lumpCells, .ref boatNames, .ref boatCells, .ref loads, .ref spoons, .ref spoonsLeft, .ref depths])), (thickness, .inl (ky 0, 36, .inl thicknessF))] → va_S A s.heap H locs → lv_has ls 10 [(6, .int x18), (5, .int x19), (0, .ref ro), (1, .ref a), (3, .int y), (4, .int z)] → W p l e (headSpec wsX6_follow ({ frames := 4, cells := 0, slots := 0, locals := 95 })).room s m args below meth c H locs 0 0 Q (F0 m 26 ls []) := by
      intro n25
      induction n25 with
      | zero => intro x18 x19 k20 x21 f22 _ h9; exact absurd h9 (Nat.not_lt_zero _)
      | succ n25 ih26 =>
        intro x18 x19 k20 x21 f22 j23 hm27 H locs ls hP hD hS hl
        refine lv_iload hx hb dX6_follow_26 (lv_at hl 1 rfl) ?_
        refine lv_iload_n hx hb dX6_follow_28 rfl (lv_at hl 4 rfl) ?_
        refine lv_icmp_eq (tgt := 126) hx hb dX6_follow_29 (by decide) (fun c28 => ?_) (fun c28 => ?_)
        · rw [hQ]
          exact W.vret hx hb hr (fun t9 ht9 hW9 => ⟨⟨(k20, x21, f22), rfl, j23, by rw [ht9]; exact hP, va_K.moved hW9.alike hK, hD⟩, hS.F ht9⟩) hS.2.2 dX6_follow_126
        · refine lv_aload_n hx hb dX6_follow_32 rfl (lv_at hl 2 rfl) ?_
          refine va_get (D := (dC, dI)) (ci := 6) (v := .int (nI k20)) (C := RX6) (T := TX6) (N := 4) hx hb hts hin6 hown hK hP 0 rfl rfl 2 (by decide) (hts (.fieldLink RX6 18 "PorridgeSea$Route" "stepCount" "I") (List.mem_of_getElem? (i := 1) rfl)) (fun _ h9 => h9) rfl dX6_follow_33 ?_
          refine lv_bipush (v := nI 36) hx hb dX6_follow_36 (by decide) ?_
          refine n_icmp_ge (x := k20) (y := 36) (tgt := 126) hx hb (by omega) (by omega) dX6_follow_38 (by decide) (fun c29 => ?_) (fun c29 => ?_)
          · rw [hQ]
            exact W.vret hx hb hr (fun t9 ht9 hW9 => ⟨⟨(k20, x21, f22), rfl, j23, by rw [ht9]; exact hP, va_K.moved hW9.alike hK, hD⟩, hS.F ht9⟩) hS.2.2 dX6_follow_126
          · refine lv_aload_n hx hb dX6_follow_41 rfl (lv_at hl 2 rfl) ?_
            refine lv_aload_n hx hb dX6_follow_42 rfl (lv_at hl 3 rfl) ?_
            refine lv_iload hx hb dX6_follow_43 (lv_at hl 1 rfl) ?_
            refine lv_iload hx hb dX6_follow_45 (lv_at hl 5 rfl) ?_
            refine vp_callSi (W.runV (As := [.ref a, .int x19, .int z]) (rest := []) ⟨hx, hb, hml, hown, hts⟩ (c_o_firstSide l dC dI ky ro ofarness osides k20 x21 ofarnessF f22 a wide high heat cools skinHeat today stirs steps lumps boats thickness lumpNames lumpCells boatNames boatCells loads spoons spoonsLeft depths thicknessF x19 z j23 iv_a_0 iv_a_1 iv_a_2 iv_a_3 iv_a_4 iv_a_5) (cwV 3 hts gX6_follow_X6_firstSide rfl rfl rfl (by decide +kernel) ⟨(Nat.le_of_ble_eq_true rfl), (Nat.le_of_ble_eq_true rfl)⟩) (pre_PV hK hP [0, 1, 2, 3, 4] rfl (ci := 6) (q0 := 0) rfl rfl) rfl rfl hl.1 rfl (lv_room (Nat.le_of_ble_eq_true rfl)) dX6_follow_47 ⟨(Nat.le_of_ble_eq_true rfl), (Nat.le_of_ble_eq_true rfl)⟩) (fun r30 p31 => ?_)
            refine lv_istore (lv' := [(7, .int r30), (6, .int x18), (5, .int x19), (0, .ref ro), (1, .ref a), (3, .int y), (4, .int z)]) hx hb dX6_follow_50 hl (by decide) rfl (fun ls hl => ?_)
            refine lv_aload_n hx hb dX6_follow_52 rfl (lv_at hl 4 rfl) ?_
            refine lv_iload hx hb dX6_follow_53 (lv_at hl 2 rfl) ?_
            refine lv_iload hx hb dX6_follow_55 (lv_at hl 0 rfl) ?_
            refine vp_callSi (W.runV (As := [.int x19, .int r30]) (rest := []) ⟨hx, hb, hml, hown, hts⟩ (c_s_nextCell l dC dI ky a wide high heat cools skinHeat today stirs steps lumps boats thickness lumpNames lumpCells boatNames boatCells loads spoons spoonsLeft depths x19 r30 iv_a_0 iv_a_1 iv_a_2 iv_a_3 iv_a_4 iv_a_5) (cwV 2 hts gX6_follow_X7_nextCell rfl rfl rfl (by decide +kernel) ⟨(Nat.le_of_ble_eq_true rfl), (Nat.le_of_ble_eq_true rfl)⟩) (pre_PV hK hP [3] rfl (ci := 7) (q0 := 3) rfl rfl) rfl rfl hl.1 rfl (lv_room (Nat.le_of_ble_eq_true rfl)) dX6_follow_57 ⟨(Nat.le_of_ble_eq_true rfl), (Nat.le_of_ble_eq_true rfl)⟩) (fun r32 p33 => ?_)
            have hJ43 : ∀ (x37 : Int32) (x38 : Int32) (x39 : Int32) (x40 : Int32), (-1 ≤ x38.toInt) → (x38.toInt ≤ 35) → ∀ (H : Heap) (locs : List Loc) (ls : Array Slot), va_P (dC, dI) vwCl [(ro, .inr (6, [.ref ofarness, .ref osides, .int (nI k20), .int x40])), (ofarness, .inl (ky 0, 36, .inl ofarnessF)), (osides, .inl (ky 0, 36, .inl f22)), (a, .inr (7, [.int (nI wide), .int (nI high), .int heat, .int cools, .int skinHeat, .int today, .int stirs, .int steps, .int (nI lumps), .int (nI boats), .ref thickness, .ref lumpNames, .ref lumpCells, .ref boatNames, .ref boatCells, .ref loads, .ref spoons, .ref spoonsLeft, .ref depths])), (thickness, .inl (ky 0, 36, .inl thicknessF))] H → va_D A [(ro, .inr (6, [.ref ofarness, .ref osides, .int (nI k20), .int x40])), (ofarness, .inl (ky 0, 36, .inl ofarnessF)), (osides, .inl (ky 0, 36, .inl f22)), (a, .inr (7, [.int (nI wide), .int (nI high), .int heat, .int cools, .int skinHeat, .int today, .int stirs, .int steps, .int (nI lumps), .int (nI boats), .ref thickness, .ref lumpNames, .ref lumpCells, .ref boatNames, .ref boatCells, .ref loads, .ref spoons, .ref spoonsLeft, .ref depths])), (thickness, .inl (ky 0, 36, .inl thicknessF))] → va_S A s.heap H locs → lv_has ls 10 [(9, .int x37), (8, .int x38), (7, .int r30), (6, .int x39), (0, .ref ro), (1, .ref a), (3, .int y), (4, .int z)] → W p l e (headSpec wsX6_follow ({ frames := 4, cells := 0, slots := 0, locals := 95 })).room s m args below meth c H locs 0 0 Q (F0 m 91 ls []) := by
              intro x37 x38 x39 x40 j41 j42 H locs ls hP hD hS hl
              refine lv_iload hx hb dX6_follow_91 (lv_at hl 3 rfl) ?_
              refine lv_iload hx hb dX6_follow_93 (lv_at hl 0 rfl) ?_
              refine lv_isub hx hb dX6_follow_95 ?_
              refine lv_topi (fun y44 e45 => ?_)
              refine lv_istore (lv' := [(6, .int y44), (9, .int x37), (8, .int x38), (7, .int r30), (0, .ref ro), (1, .ref a), (3, .int y), (4, .int z)]) hx hb dX6_follow_96 hl (by decide) rfl (fun ls hl => ?_)
              refine lv_aload_n hx hb dX6_follow_98 rfl (lv_at hl 4 rfl) ?_
              refine va_get (D := (dC, dI)) (ci := 6) (v := .ref osides) (C := RX6) (T := TX6) (N := 4) hx hb hts hin6 hown hK hP 0 rfl rfl 1 (by decide) (hts (.fieldLink RX6 15 "PorridgeSea$Route" "sides" "[I") (List.mem_of_getElem? (i := 3) rfl)) (fun _ h9 => h9) rfl dX6_follow_99 ?_
              refine lv_aload_n hx hb dX6_follow_102 rfl (lv_at hl 4 rfl) ?_
              refine va_get (D := (dC, dI)) (ci := 6) (v := .int (nI k20)) (C := RX6) (T := TX6) (N := 4) hx hb hts hin6 hown hK hP 0 rfl rfl 2 (by decide) (hts (.fieldLink RX6 18 "PorridgeSea$Route" "stepCount" "I") (List.mem_of_getElem? (i := 1) rfl)) (fun _ h9 => h9) rfl dX6_follow_103 ?_
              refine lv_iload hx hb dX6_follow_106 (lv_at hl 3 rfl) ?_
              refine r_iast (x := r30) hx hb hK hP hD hS 2 rfl k20 (by omega) (by decide) dX6_follow_108 (fun H locs hP hD hS => ?_)
              obtain ⟨g46, e47⟩ : ∃ z9, z9 = upd f22 k20 r30 := ⟨_, rfl⟩
              rw [← e47] at hP hD
              have hP : va_P (dC, dI) vwCl [(ro, .inr (6, [.ref ofarness, .ref osides, .int (nI k20), .int x40])), (ofarness, .inl (ky 0, 36, .inl ofarnessF)), (osides, .inl (ky 0, 36, .inl g46)), (a, .inr (7, [.int (nI wide), .int (nI high), .int heat, .int cools, .int skinHeat, .int today, .int stirs, .int steps, .int (nI lumps), .int (nI boats), .ref thickness, .ref lumpNames, .ref lumpCells, .ref boatNames, .ref boatCells, .ref loads, .ref spoons, .ref spoonsLeft, .ref depths])), (thickness, .inl (ky 0, 36, .inl thicknessF))] H := hP
              have hD : va_D A [(ro, .inr (6, [.ref ofarness, .ref osides, .int (nI k20), .int x40])), (ofarness, .inl (ky 0, 36, .inl ofarnessF)), (osides, .inl (ky 0, 36, .inl g46)), (a, .inr (7, [.int (nI wide), .int (nI high), .int heat, .int cools, .int skinHeat, .int today, .int stirs, .int steps, .int (nI lumps), .int (nI boats), .ref thickness, .ref lumpNames, .ref lumpCells, .ref boatNames, .ref boatCells, .ref loads, .ref spoons, .ref spoonsLeft, .ref depths])), (thickness, .inl (ky 0, 36, .inl thicknessF))] := hD
              refine lv_aload_n hx hb dX6_follow_109 rfl (lv_at hl 4 rfl) ?_
              refine lv_dup hx hb dX6_follow_110 rfl ?_
              refine va_get (D := (dC, dI)) (ci := 6) (v := .int (nI k20)) (C := RX6) (T := TX6) (N := 4) hx hb hts hin6 hown hK hP 0 rfl rfl 2 (by decide) (hts (.fieldLink RX6 18 "PorridgeSea$Route" "stepCount" "I") (List.mem_of_getElem? (i := 1) rfl)) (fun _ h9 => h9) rfl dX6_follow_111 ?_
              refine lv_iconst (v := nI 1) hx hb dX6_follow_114 (by decide) ?_
              refine lv_iadd hx hb dX6_follow_115 ?_
              refine r_ti (nI (k20 + 1)) (nI_add _ _) ?_
              refine va_put (D := (dC, dI)) (ci := 6) (v := .int (nI (k20 + 1))) (ty := .int) (C := RX6) (T := TX6) (N := 4) hx hb hts hin6 tyX6 tyX6_ok nmX6 hown hK hP hD hS 0 rfl rfl 2 (by decide) (hts (.fieldLink RX6 18 "PorridgeSea$Route" "stepCount" "I") (List.mem_of_getElem? (i := 1) rfl)) (fun _ h9 => h9) rfl (by decide +kernel) rfl rfl (Nat.le_of_ble_eq_true rfl) dX6_follow_116 (fun H locs hP hD hS => ?_)
              have hP : va_P (dC, dI) vwCl [(ro, .inr (6, [.ref ofarness, .ref osides, .int (nI (k20 + 1)), .int x40])), (ofarness, .inl (ky 0, 36, .inl ofarnessF)), (osides, .inl (ky 0, 36, .inl g46)), (a, .inr (7, [.int (nI wide), .int (nI high), .int heat, .int cools, .int skinHeat, .int today, .int stirs, .int steps, .int (nI lumps), .int (nI boats), .ref thickness, .ref lumpNames, .ref lumpCells, .ref boatNames, .ref boatCells, .ref loads, .ref spoons, .ref spoonsLeft, .ref depths])), (thickness, .inl (ky 0, 36, .inl thicknessF))] H := hP
              have hD : va_D A [(ro, .inr (6, [.ref ofarness, .ref osides, .int (nI (k20 + 1)), .int x40])), (ofarness, .inl (ky 0, 36, .inl ofarnessF)), (osides, .inl (ky 0, 36, .inl g46)), (a, .inr (7, [.int (nI wide), .int (nI high), .int heat, .int cools, .int skinHeat, .int today, .int stirs, .int steps, .int (nI lumps), .int (nI boats), .ref thickness, .ref lumpNames, .ref lumpCells, .ref boatNames, .ref boatCells, .ref loads, .ref spoons, .ref spoonsLeft, .ref depths])), (thickness, .inl (ky 0, 36, .inl thicknessF))] := hD
              refine lv_iload hx hb dX6_follow_119 (lv_at hl 2 rfl) ?_
              refine lv_istore (lv' := [(5, .int x38), (6, .int y44), (9, .int x37), (8, .int x38), (7, .int r30), (0, .ref ro), (1, .ref a), (3, .int y), (4, .int z)]) hx hb dX6_follow_121 hl (by decide) rfl (fun ls hl => ?_)
              refine lv_goto (tgt := 26) hx hb dX6_follow_123 (by decide) ?_
              exact ih26 y44 x38 (k20 + 1) x40 g46 (lf_o_follow_1 k20 n25 j23 hm27 c29 p31) (lf_o_follow_2 k20 n25 j23 hm27 c29 p31) _ _ _ hP hD hS (lv_sub hl [1, 0, 5, 6, 7, 8] rfl)
            rcases p33 with rfl | ⟨k34, h36, rfl⟩
            · refine lv_istore (lv' := [(8, .int (-1 : Int32)), (7, .int r30), (6, .int x18), (5, .int x19), (0, .ref ro), (1, .ref a), (3, .int y), (4, .int z)]) hx hb dX6_follow_60 hl (by decide) rfl (fun ls hl => ?_)
              refine lv_aload_n hx hb dX6_follow_62 rfl (lv_at hl 5 rfl) ?_
              refine lv_iload hx hb dX6_follow_63 (lv_at hl 0 rfl) ?_
              refine vp_callSi (W.runV (As := [.int (-1 : Int32)]) (rest := []) ⟨hx, hb, hml, hown, hts⟩ (c_s_stepCost l dC dI ky a wide high heat cools skinHeat today stirs steps lumps boats thickness lumpNames lumpCells boatNames boatCells loads spoons spoonsLeft depths thicknessF (-1 : Int32) iv_a_0 iv_a_1 iv_a_2 iv_a_3 iv_a_4 iv_a_5) (cwV 1 hts gX6_follow_X7_stepCost rfl rfl rfl (by decide +kernel) ⟨(Nat.le_of_ble_eq_true rfl), (Nat.le_of_ble_eq_true rfl)⟩) (pre_PV hK hP [3, 4] rfl (ci := 7) (q0 := 3) rfl rfl) rfl rfl hl.1 rfl (lv_room (Nat.le_of_ble_eq_true rfl)) dX6_follow_65 ⟨(Nat.le_of_ble_eq_true rfl), (Nat.le_of_ble_eq_true rfl)⟩) (fun r48 p49 => ?_)
              refine lv_istore (lv' := [(9, .int r48), (8, .int (-1 : Int32)), (7, .int r30), (6, .int x18), (5, .int x19), (0, .ref ro), (1, .ref a), (3, .int y), (4, .int z)]) hx hb dX6_follow_68 hl (by decide) rfl (fun ls hl => ?_)
              refine lv_iload hx hb dX6_follow_70 (lv_at hl 0 rfl) ?_
              refine lv_iload hx hb dX6_follow_72 (lv_at hl 3 rfl) ?_
              refine lv_icmp_le (tgt := 91) hx hb dX6_follow_74 (by decide) (fun c50 => ?_) (fun c50 => ?_)
              · exact hJ43 r48 (-1 : Int32) x18 x21 (lf_o_follow_3 p31 p49) (lf_o_follow_4 p31 p49) _ _ _ hP hD hS (lv_sub hl [0, 1, 2, 3, 5, 6, 7, 8] rfl)
              · refine lv_aload_n hx hb dX6_follow_77 rfl (lv_at hl 5 rfl) ?_
                refine lv_dup hx hb dX6_follow_78 rfl ?_
                refine va_get (D := (dC, dI)) (ci := 6) (v := .int x21) (C := RX6) (T := TX6) (N := 4) hx hb hts hin6 hown hK hP 0 rfl rfl 3 (by decide) (hts (.fieldLink RX6 22 "PorridgeSea$Route" "daysTaken" "I") (List.mem_of_getElem? (i := 2) rfl)) (fun _ h9 => h9) rfl dX6_follow_79 ?_
                refine lv_iconst (v := nI 1) hx hb dX6_follow_82 (by decide) ?_
                refine lv_iadd hx hb dX6_follow_83 ?_
                refine lv_topi (fun y51 e52 => ?_)
                refine va_put (D := (dC, dI)) (ci := 6) (v := .int y51) (ty := .int) (C := RX6) (T := TX6) (N := 4) hx hb hts hin6 tyX6 tyX6_ok nmX6 hown hK hP hD hS 0 rfl rfl 3 (by decide) (hts (.fieldLink RX6 22 "PorridgeSea$Route" "daysTaken" "I") (List.mem_of_getElem? (i := 2) rfl)) (fun _ h9 => h9) rfl (by decide +kernel) rfl rfl (Nat.le_of_ble_eq_true rfl) dX6_follow_84 (fun H locs hP hD hS => ?_)
                have hP : va_P (dC, dI) vwCl [(ro, .inr (6, [.ref ofarness, .ref osides, .int (nI k20), .int y51])), (ofarness, .inl (ky 0, 36, .inl ofarnessF)), (osides, .inl (ky 0, 36, .inl f22)), (a, .inr (7, [.int (nI wide), .int (nI high), .int heat, .int cools, .int skinHeat, .int today, .int stirs, .int steps, .int (nI lumps), .int (nI boats), .ref thickness, .ref lumpNames, .ref lumpCells, .ref boatNames, .ref boatCells, .ref loads, .ref spoons, .ref spoonsLeft, .ref depths])), (thickness, .inl (ky 0, 36, .inl thicknessF))] H := hP
                have hD : va_D A [(ro, .inr (6, [.ref ofarness, .ref osides, .int (nI k20), .int y51])), (ofarness, .inl (ky 0, 36, .inl ofarnessF)), (osides, .inl (ky 0, 36, .inl f22)), (a, .inr (7, [.int (nI wide), .int (nI high), .int heat, .int cools, .int skinHeat, .int today, .int stirs, .int steps, .int (nI lumps), .int (nI boats), .ref thickness, .ref lumpNames, .ref lumpCells, .ref boatNames, .ref boatCells, .ref loads, .ref spoons, .ref spoonsLeft, .ref depths])), (thickness, .inl (ky 0, 36, .inl thicknessF))] := hD
                refine lv_iload hx hb dX6_follow_87 (lv_at hl 8 rfl) ?_
                refine lv_istore (lv' := [(6, .int z), (9, .int r48), (8, .int (-1 : Int32)), (7, .int r30), (5, .int x19), (0, .ref ro), (1, .ref a), (3, .int y), (4, .int z)]) hx hb dX6_follow_89 hl (by decide) rfl (fun ls hl => ?_)
                exact hJ43 r48 (-1 : Int32) z y51 (lf_o_follow_5 p31 p49) (lf_o_follow_6 p31 p49) _ _ _ hP hD hS (lv_sub hl [1, 2, 3, 0, 5, 6, 7, 8] rfl)
            · refine lv_istore (lv' := [(8, .int (nI k34)), (7, .int r30), (6, .int x18), (5, .int x19), (0, .ref ro), (1, .ref a), (3, .int y), (4, .int z)]) hx hb dX6_follow_60 hl (by decide) rfl (fun ls hl => ?_)
              refine lv_aload_n hx hb dX6_follow_62 rfl (lv_at hl 5 rfl) ?_
              refine lv_iload hx hb dX6_follow_63 (lv_at hl 0 rfl) ?_
              refine vp_callSi (W.runV (As := [.int (nI k34)]) (rest := []) ⟨hx, hb, hml, hown, hts⟩ (c_s_stepCost l dC dI ky a wide high heat cools skinHeat today stirs steps lumps boats thickness lumpNames lumpCells boatNames boatCells loads spoons spoonsLeft depths thicknessF (nI k34) iv_a_0 iv_a_1 iv_a_2 iv_a_3 iv_a_4 iv_a_5) (cwV 1 hts gX6_follow_X7_stepCost rfl rfl rfl (by decide +kernel) ⟨(Nat.le_of_ble_eq_true rfl), (Nat.le_of_ble_eq_true rfl)⟩) (pre_PV hK hP [3, 4] rfl (ci := 7) (q0 := 3) rfl rfl) rfl rfl hl.1 rfl (lv_room (Nat.le_of_ble_eq_true rfl)) dX6_follow_65 ⟨(Nat.le_of_ble_eq_true rfl), (Nat.le_of_ble_eq_true rfl)⟩) (fun r53 p54 => ?_)
              refine lv_istore (lv' := [(9, .int r53), (8, .int (nI k34)), (7, .int r30), (6, .int x18), (5, .int x19), (0, .ref ro), (1, .ref a), (3, .int y), (4, .int z)]) hx hb dX6_follow_68 hl (by decide) rfl (fun ls hl => ?_)
              refine lv_iload hx hb dX6_follow_70 (lv_at hl 0 rfl) ?_
              refine lv_iload hx hb dX6_follow_72 (lv_at hl 3 rfl) ?_
              refine lv_icmp_le (tgt := 91) hx hb dX6_follow_74 (by decide) (fun c55 => ?_) (fun c55 => ?_)
              · exact hJ43 r53 (nI k34) x18 x21 (lf_o_follow_7 k34 p31 h36 p54) (lf_o_follow_8 k34 p31 h36 p54) _ _ _ hP hD hS (lv_sub hl [0, 1, 2, 3, 5, 6, 7, 8] rfl)
              · refine lv_aload_n hx hb dX6_follow_77 rfl (lv_at hl 5 rfl) ?_
                refine lv_dup hx hb dX6_follow_78 rfl ?_
                refine va_get (D := (dC, dI)) (ci := 6) (v := .int x21) (C := RX6) (T := TX6) (N := 4) hx hb hts hin6 hown hK hP 0 rfl rfl 3 (by decide) (hts (.fieldLink RX6 22 "PorridgeSea$Route" "daysTaken" "I") (List.mem_of_getElem? (i := 2) rfl)) (fun _ h9 => h9) rfl dX6_follow_79 ?_
                refine lv_iconst (v := nI 1) hx hb dX6_follow_82 (by decide) ?_
                refine lv_iadd hx hb dX6_follow_83 ?_
                refine lv_topi (fun y56 e57 => ?_)
                refine va_put (D := (dC, dI)) (ci := 6) (v := .int y56) (ty := .int) (C := RX6) (T := TX6) (N := 4) hx hb hts hin6 tyX6 tyX6_ok nmX6 hown hK hP hD hS 0 rfl rfl 3 (by decide) (hts (.fieldLink RX6 22 "PorridgeSea$Route" "daysTaken" "I") (List.mem_of_getElem? (i := 2) rfl)) (fun _ h9 => h9) rfl (by decide +kernel) rfl rfl (Nat.le_of_ble_eq_true rfl) dX6_follow_84 (fun H locs hP hD hS => ?_)
                have hP : va_P (dC, dI) vwCl [(ro, .inr (6, [.ref ofarness, .ref osides, .int (nI k20), .int y56])), (ofarness, .inl (ky 0, 36, .inl ofarnessF)), (osides, .inl (ky 0, 36, .inl f22)), (a, .inr (7, [.int (nI wide), .int (nI high), .int heat, .int cools, .int skinHeat, .int today, .int stirs, .int steps, .int (nI lumps), .int (nI boats), .ref thickness, .ref lumpNames, .ref lumpCells, .ref boatNames, .ref boatCells, .ref loads, .ref spoons, .ref spoonsLeft, .ref depths])), (thickness, .inl (ky 0, 36, .inl thicknessF))] H := hP
                have hD : va_D A [(ro, .inr (6, [.ref ofarness, .ref osides, .int (nI k20), .int y56])), (ofarness, .inl (ky 0, 36, .inl ofarnessF)), (osides, .inl (ky 0, 36, .inl f22)), (a, .inr (7, [.int (nI wide), .int (nI high), .int heat, .int cools, .int skinHeat, .int today, .int stirs, .int steps, .int (nI lumps), .int (nI boats), .ref thickness, .ref lumpNames, .ref lumpCells, .ref boatNames, .ref boatCells, .ref loads, .ref spoons, .ref spoonsLeft, .ref depths])), (thickness, .inl (ky 0, 36, .inl thicknessF))] := hD
                refine lv_iload hx hb dX6_follow_87 (lv_at hl 8 rfl) ?_
                refine lv_istore (lv' := [(6, .int z), (9, .int r53), (8, .int (nI k34)), (7, .int r30), (5, .int x19), (0, .ref ro), (1, .ref a), (3, .int y), (4, .int z)]) hx hb dX6_follow_89 hl (by decide) rfl (fun ls hl => ?_)
                exact hJ43 r53 (nI k34) z y56 (lf_o_follow_9 k34 p31 h36 p54) (lf_o_follow_10 k34 p31 h36 p54) _ _ _ hP hD hS (lv_sub hl [1, 2, 3, 0, 5, 6, 7, 8] rfl)
    exact hL24 ((36 - 0) + 1) z x 0 x2 osidesF (lf_o_follow_11) (Nat.lt_succ_self _) _ _ _ hP hD hS (lv_sub hl [0, 1, 2, 3, 4, 5] rfl)
  refine lv_icmp_ne (tgt := 22) hx hb dX6_follow_15 (by decide) (fun c1 => ?_) (fun c1 => ?_)
  · refine lv_iconst (v := nI 1) hx hb dX6_follow_22 (by decide) ?_
    exact hJ4 (nI 1) (lf_o_follow_12) _ _ _ hP hD hS (lv_sub hl [0, 1, 2, 3, 5, 6] rfl)
  · refine lv_iconst (v := nI 0) hx hb dX6_follow_18 (by decide) ?_
    refine lv_goto (tgt := 23) hx hb dX6_follow_19 (by decide) ?_
    exact hJ4 (nI 0) (lf_o_follow_13) _ _ _ hP hD hS (lv_sub hl [0, 1, 2, 3, 5, 6] rfl)
set_option maxRecDepth 20000 in
theorem lf_o_find_1 (boats : Nat) (x : Int32) (iv_a_5 : boats ≤ 6) (t3 : 0 ≤ x.toInt) (t4 : x.toInt < boats) (t17 : True) : 0 ≤ x.toInt ∧ x.toInt < ((6 : Nat) : Int) := by
  have b_x := ia_b x
  try simp only [ia_lt, ia_le, ia_eq, ia_m1, ia_0, ia_1, ne_eq, true_and, and_true, false_and, and_false, or_false, false_or, or_true, true_or, not_true_eq_false, not_false_eq_true] at *
  all_goals omega
set_option maxRecDepth 20000 in
theorem lf_o_find_2 (lumps : Nat) (y : Int32) (iv_a_4 : lumps ≤ 6) (t9 : 0 ≤ y.toInt) (t10 : y.toInt < lumps) (t17 : True) : 0 ≤ y.toInt ∧ y.toInt < ((6 : Nat) : Int) := by
  have b_y := ia_b y
  try simp only [ia_lt, ia_le, ia_eq, ia_m1, ia_0, ia_1, ne_eq, true_and, and_true, false_and, and_false, or_false, false_or, or_true, true_or, not_true_eq_false, not_false_eq_true] at *
  all_goals omega
set_option maxHeartbeats 4000000 in
set_option maxRecDepth 100000 in
theorem c_o_find (l : Launch) (dC : Nat → ClassId) (dI : Nat → Nat → Nat) (ky : Nat → ClassId) (sz : Nat) (ro : Nat) (ofarness : Nat) (osides : Nat) (ostepCount : Nat) (odaysTaken : Int32) (ofarnessF : Nat → Int32) (osidesF : Nat → Int32) (a : Nat) (wide : Nat) (high : Nat) (heat : Int32) (cools : Int32) (skinHeat : Int32) (today : Int32) (stirs : Int32) (steps : Int32) (lumps : Nat) (boats : Nat) (thickness : Nat) (lumpNames : Nat) (lumpCells : Nat) (boatNames : Nat) (boatCells : Nat) (loads : Nat) (spoons : Nat) (spoonsLeft : Nat) (depths : Nat) (thicknessF : Nat → Int32) (lumpCellsF : Nat → Int32) (boatCellsF : Nat → Int32) (spoonsF : Nat → Int32) (depthsF : Nat → Int32) (x : Int32) (y : Int32) (iv_oro_0 : ostepCount ≤ 36) (iv_a_0 : 2 ≤ wide) (iv_a_1 : wide ≤ 6) (iv_a_2 : 2 ≤ high) (iv_a_3 : high ≤ 6) (iv_a_4 : lumps ≤ 6) (iv_a_5 : boats ≤ 6) : Met l yX6_find wsX6_find ({ frames := 5, cells := 0, slots := 0, locals := 124 }) (PcU dC dI ky [.ref ro, .ref a, .int x, .int y] [(ro, .inr (6, [.ref ofarness, .ref osides, .int (nI ostepCount), .int odaysTaken])), (ofarness, .inl (ky 0, 36, .inl ofarnessF)), (osides, .inl (ky 0, 36, .inl osidesF)), (a, .inr (7, [.int (nI wide), .int (nI high), .int heat, .int cools, .int skinHeat, .int today, .int stirs, .int steps, .int (nI lumps), .int (nI boats), .ref thickness, .ref lumpNames, .ref lumpCells, .ref boatNames, .ref boatCells, .ref loads, .ref spoons, .ref spoonsLeft, .ref depths])), (thickness, .inl (ky 0, 36, .inl thicknessF)), (lumpCells, .inl (ky 0, 6, .inl lumpCellsF)), (boatCells, .inl (ky 0, 6, .inl boatCellsF)), (spoons, .inl (ky 0, 6, .inl spoonsF)), (depths, .inl (ky 0, 6, .inl depthsF))] sz) (va_Qi (fun (r : Int32) (u : Nat × Int32 × (Nat → Int32) × (Nat → Int32)) => match u with | (ostepCountG, odaysTakenG, ofarnessG, osidesG) => ostepCountG ≤ 36) (BU dC dI ky (fun (u : Nat × Int32 × (Nat → Int32) × (Nat → Int32)) => match u with | (ostepCountG, odaysTakenG, ofarnessG, osidesG) => [(ro, .inr (6, [.ref ofarness, .ref osides, .int (nI ostepCountG), .int odaysTakenG])), (ofarness, .inl (ky 0, 36, .inl ofarnessG)), (osides, .inl (ky 0, 36, .inl osidesG)), (a, .inr (7, [.int (nI wide), .int (nI high), .int heat, .int cools, .int skinHeat, .int today, .int stirs, .int steps, .int (nI lumps), .int (nI boats), .ref thickness, .ref lumpNames, .ref lumpCells, .ref boatNames, .ref boatCells, .ref loads, .ref spoons, .ref spoonsLeft, .ref depths])), (thickness, .inl (ky 0, 36, .inl thicknessF)), (lumpCells, .inl (ky 0, 6, .inl lumpCellsF)), (boatCells, .inl (ky 0, 6, .inl boatCellsF)), (spoons, .inl (ky 0, 6, .inl spoonsF)), (depths, .inl (ky 0, 6, .inl depthsF))]) (va_A [(ro, .inr (6, [.ref ofarness, .ref osides, .int (nI ostepCount), .int odaysTaken])), (ofarness, .inl (ky 0, 36, .inl ofarnessF)), (osides, .inl (ky 0, 36, .inl osidesF)), (a, .inr (7, [.int (nI wide), .int (nI high), .int heat, .int cools, .int skinHeat, .int today, .int stirs, .int steps, .int (nI lumps), .int (nI boats), .ref thickness, .ref lumpNames, .ref lumpCells, .ref boatNames, .ref boatCells, .ref loads, .ref spoons, .ref spoonsLeft, .ref depths])), (thickness, .inl (ky 0, 36, .inl thicknessF)), (lumpCells, .inl (ky 0, 6, .inl lumpCellsF)), (boatCells, .inl (ky 0, 6, .inl boatCellsF)), (spoons, .inl (ky 0, 6, .inl spoonsF)), (depths, .inl (ky 0, 6, .inl depthsF))] sz)) (va_A [(ro, .inr (6, [.ref ofarness, .ref osides, .int (nI ostepCount), .int odaysTaken])), (ofarness, .inl (ky 0, 36, .inl ofarnessF)), (osides, .inl (ky 0, 36, .inl osidesF)), (a, .inr (7, [.int (nI wide), .int (nI high), .int heat, .int cools, .int skinHeat, .int today, .int stirs, .int steps, .int (nI lumps), .int (nI boats), .ref thickness, .ref lumpNames, .ref lumpCells, .ref boatNames, .ref boatCells, .ref loads, .ref spoons, .ref spoonsLeft, .ref depths])), (thickness, .inl (ky 0, 36, .inl thicknessF)), (lumpCells, .inl (ky 0, 6, .inl lumpCellsF)), (boatCells, .inl (ky 0, 6, .inl boatCellsF)), (spoons, .inl (ky 0, 6, .inl spoonsF)), (depths, .inl (ky 0, 6, .inl depthsF))] sz)) 0 0 (va_A [(ro, .inr (6, [.ref ofarness, .ref osides, .int (nI ostepCount), .int odaysTaken])), (ofarness, .inl (ky 0, 36, .inl ofarnessF)), (osides, .inl (ky 0, 36, .inl osidesF)), (a, .inr (7, [.int (nI wide), .int (nI high), .int heat, .int cools, .int skinHeat, .int today, .int stirs, .int steps, .int (nI lumps), .int (nI boats), .ref thickness, .ref lumpNames, .ref lumpCells, .ref boatNames, .ref boatCells, .ref loads, .ref spoons, .ref spoonsLeft, .ref depths])), (thickness, .inl (ky 0, 36, .inl thicknessF)), (lumpCells, .inl (ky 0, 6, .inl lumpCellsF)), (boatCells, .inl (ky 0, 6, .inl boatCellsF)), (spoons, .inl (ky 0, 6, .inl spoonsF)), (depths, .inl (ky 0, 6, .inl depthsF))] sz) := by
  refine Met.ofW (cc := cX6_find) (maxL := 7) (ret := (some .int)) (by decide) rfl ?_
  intro p e s m args below meth c s₁ B hml hv
  obtain ⟨rfl, hsz, hP, hK, hD0⟩ := hv
  have hx := B.exec
  have hb := B.bytes
  have hr := B.returns
  have hts := atoms_spec (ws := wsX6_find) B.pre
  have hown : s.vm.findClass RX6 = some m.cls := findClass_of_methodNamed B.named
  have hlocks := B.notSynchronized
  have hin7 : ∀ w ∈ u_ws RX7 TX7 19, w ∈ wsX6_find := by decide +kernel
  subst hsz
  have hD := hD0.self (sz := s.heap.size)
  generalize hAe : va_A [(ro, .inr (6, [.ref ofarness, .ref osides, .int (nI ostepCount), .int odaysTaken])), (ofarness, .inl (ky 0, 36, .inl ofarnessF)), (osides, .inl (ky 0, 36, .inl osidesF)), (a, .inr (7, [.int (nI wide), .int (nI high), .int heat, .int cools, .int skinHeat, .int today, .int stirs, .int steps, .int (nI lumps), .int (nI boats), .ref thickness, .ref lumpNames, .ref lumpCells, .ref boatNames, .ref boatCells, .ref loads, .ref spoons, .ref spoonsLeft, .ref depths])), (thickness, .inl (ky 0, 36, .inl thicknessF)), (lumpCells, .inl (ky 0, 6, .inl lumpCellsF)), (boatCells, .inl (ky 0, 6, .inl boatCellsF)), (spoons, .inl (ky 0, 6, .inl spoonsF)), (depths, .inl (ky 0, 6, .inl depthsF))] s.heap.size = A at hD ⊢
  have hA : ∀ q : Nat, s.heap.size ≤ q → A q := fun q h => by rw [← hAe]; exact Or.inr h
  have hS : va_S A s.heap s.heap [] := va_S.rf
  have hl := lv_entry ([.ref ro, .ref a, .int x, .int y]) (n := 7) (Nat.le_of_ble_eq_true rfl)
  rw [lg_entry_eq]
  generalize (lg_sl ([.ref ro, .ref a, .int x, .int y]) ++ List.replicate (7 - (lg_sl ([.ref ro, .ref a, .int x, .int y])).length) Slot.unset).toArray = ls at hl ⊢
  have hl : lv_has ls 7 [(0, .ref ro), (1, .ref a), (2, .int x), (3, .int y)] := hl
  refine q_name (fun Q hQ => ?_)
  generalize ([.ref ro, .ref a, .int x, .int y] : List Value).toArray = args at hts hQ ⊢
  refine lv_aload_n hx hb dX6_find_0 rfl (lv_at hl 1 rfl) ?_
  refine lv_iload_n hx hb dX6_find_1 rfl (lv_at hl 2 rfl) ?_
  refine vp_callSi (W.runV (As := [.int x]) (rest := []) ⟨hx, hb, hml, hown, hts⟩ (c_s_isBoat l dC dI ky a wide high heat cools skinHeat today stirs steps lumps boats thickness lumpNames lumpCells boatNames boatCells loads spoons spoonsLeft depths x iv_a_0 iv_a_1 iv_a_2 iv_a_3 iv_a_4 iv_a_5) (cwV 1 hts gX6_find_X7_isBoat rfl rfl rfl (by decide +kernel) ⟨(Nat.le_of_ble_eq_true rfl), (Nat.le_of_ble_eq_true rfl)⟩) (pre_PV hK hP [3] rfl (ci := 7) (q0 := 3) rfl rfl) rfl rfl hl.1 rfl (lv_room (Nat.le_of_ble_eq_true rfl)) dX6_find_2 ⟨(Nat.le_of_ble_eq_true rfl), (Nat.le_of_ble_eq_true rfl)⟩) (fun r1 p2 => ?_)
  rcases p2 with ⟨rfl, t3, t4⟩ | ⟨rfl, t5⟩
  · refine lv_if_eq (tgt := 24) hx hb dX6_find_5 (by decide) (fun c6 => absurd c6 (by decide)) (fun c6 => ?_)
    refine lv_aload_n hx hb dX6_find_8 rfl (lv_at hl 1 rfl) ?_
    refine lv_iload_n hx hb dX6_find_9 rfl (lv_at hl 3 rfl) ?_
    refine vp_callSi (W.runV (As := [.int y]) (rest := []) ⟨hx, hb, hml, hown, hts⟩ (c_s_isLump l dC dI ky a wide high heat cools skinHeat today stirs steps lumps boats thickness lumpNames lumpCells boatNames boatCells loads spoons spoonsLeft depths y iv_a_0 iv_a_1 iv_a_2 iv_a_3 iv_a_4 iv_a_5) (cwV 1 hts gX6_find_X7_isLump rfl rfl rfl (by decide +kernel) ⟨(Nat.le_of_ble_eq_true rfl), (Nat.le_of_ble_eq_true rfl)⟩) (pre_PV hK hP [3] rfl (ci := 7) (q0 := 3) rfl rfl) rfl rfl hl.1 rfl (lv_room (Nat.le_of_ble_eq_true rfl)) dX6_find_10 ⟨(Nat.le_of_ble_eq_true rfl), (Nat.le_of_ble_eq_true rfl)⟩) (fun r7 p8 => ?_)
    rcases p8 with ⟨rfl, t9, t10⟩ | ⟨rfl, t11⟩
    · refine lv_if_eq (tgt := 24) hx hb dX6_find_13 (by decide) (fun c12 => absurd c12 (by decide)) (fun c12 => ?_)
      refine lv_aload_n hx hb dX6_find_16 rfl (lv_at hl 1 rfl) ?_
      refine lv_iload_n hx hb dX6_find_17 rfl (lv_at hl 2 rfl) ?_
      refine vp_callSi (W.runV (As := [.int x]) (rest := []) ⟨hx, hb, hml, hown, hts⟩ (c_s_isEaten l dC dI ky a wide high heat cools skinHeat today stirs steps lumps boats thickness lumpNames lumpCells boatNames boatCells loads spoons spoonsLeft depths depthsF x iv_a_0 iv_a_1 iv_a_2 iv_a_3 iv_a_4 iv_a_5) (cwV 1 hts gX6_find_X7_isEaten rfl rfl rfl (by decide +kernel) ⟨(Nat.le_of_ble_eq_true rfl), (Nat.le_of_ble_eq_true rfl)⟩) (pre_PV hK hP [3, 8] rfl (ci := 7) (q0 := 3) rfl rfl) rfl rfl hl.1 rfl (lv_room (Nat.le_of_ble_eq_true rfl)) dX6_find_18 ⟨(Nat.le_of_ble_eq_true rfl), (Nat.le_of_ble_eq_true rfl)⟩) (fun r13 p14 => ?_)
      rcases p14 with ⟨rfl, t15, t16⟩ | ⟨rfl, t17⟩
      · refine lv_if_eq (tgt := 26) hx hb dX6_find_21 (by decide) (fun c18 => absurd c18 (by decide)) (fun c18 => ?_)
        refine lv_iconst (v := (-1 : Int32)) hx hb dX6_find_24 (by decide) ?_
        rw [hQ]
        exact W.iret (v := (-1 : Int32)) hx hb hr (fun t9 ht9 hW9 => ⟨⟨(-1 : Int32), (ostepCount, odaysTaken, ofarnessF, osidesF), rfl, iv_oro_0, by rw [ht9]; exact hP, va_K.moved hW9.alike hK, hD⟩, hS.F ht9⟩) hS.2.2 dX6_find_25
      · refine lv_if_eq (tgt := 26) hx hb dX6_find_21 (by decide) (fun c19 => ?_) (fun c19 => absurd (by decide) c19)
        refine lv_aload_n hx hb dX6_find_26 rfl (lv_at hl 1 rfl) ?_
        refine va_get (D := (dC, dI)) (ci := 7) (v := .ref boatCells) (C := RX7) (T := TX7) (N := 19) hx hb hts hin7 hown hK hP 3 rfl rfl 14 (by decide) (hts (.fieldLink RX6 37 "PorridgeSea$Sea" "boatCells" "[I") (List.mem_of_getElem? (i := 1) rfl)) (fun _ h9 => h9) rfl dX6_find_27 ?_
        refine lv_iload_n hx hb dX6_find_30 rfl (lv_at hl 2 rfl) ?_
        obtain ⟨n20, h21, e22⟩ := nat_of x 6 (by decide) (lf_o_find_1 boats x iv_a_5 t3 t4 t17)
        rw [e22]
        obtain ⟨y23, e24⟩ : ∃ z9, z9 = boatCellsF n20 := ⟨_, rfl⟩
        refine r_iald hx hb hK hP 6 rfl n20 (by omega) (by decide) y23 e24.symm dX6_find_31 ?_
        refine lv_istore (lv' := [(4, .int y23), (0, .ref ro), (1, .ref a), (2, .int x), (3, .int y)]) hx hb dX6_find_32 hl (by decide) rfl (fun ls hl => ?_)
        refine lv_aload_n hx hb dX6_find_34 rfl (lv_at hl 2 rfl) ?_
        refine va_get (D := (dC, dI)) (ci := 7) (v := .ref lumpCells) (C := RX7) (T := TX7) (N := 19) hx hb hts hin7 hown hK hP 3 rfl rfl 12 (by decide) (hts (.fieldLink RX6 40 "PorridgeSea$Sea" "lumpCells" "[I") (List.mem_of_getElem? (i := 2) rfl)) (fun _ h9 => h9) rfl dX6_find_35 ?_
        refine lv_iload_n hx hb dX6_find_38 rfl (lv_at hl 4 rfl) ?_
        obtain ⟨n25, h26, e27⟩ := nat_of y 6 (by decide) (lf_o_find_2 lumps y iv_a_4 t9 t10 t17)
        rw [e27]
        obtain ⟨y28, e29⟩ : ∃ z9, z9 = lumpCellsF n25 := ⟨_, rfl⟩
        refine r_iald hx hb hK hP 5 rfl n25 (by omega) (by decide) y28 e29.symm dX6_find_39 ?_
        refine lv_istore (lv' := [(5, .int y28), (4, .int y23), (0, .ref ro), (1, .ref a), (2, .int x), (3, .int y)]) hx hb dX6_find_40 hl (by decide) rfl (fun ls hl => ?_)
        refine lv_aload_n hx hb dX6_find_42 rfl (lv_at hl 2 rfl) ?_
        refine lv_aload_n hx hb dX6_find_43 rfl (lv_at hl 3 rfl) ?_
        refine lv_iload hx hb dX6_find_44 (lv_at hl 0 rfl) ?_
        refine lv_aload_n hx hb dX6_find_46 rfl (lv_at hl 3 rfl) ?_
        refine va_get (D := (dC, dI)) (ci := 7) (v := .ref spoons) (C := RX7) (T := TX7) (N := 19) hx hb hts hin7 hown hK hP 3 rfl rfl 16 (by decide) (hts (.fieldLink RX6 43 "PorridgeSea$Sea" "spoons" "[I") (List.mem_of_getElem? (i := 3) rfl)) (fun _ h9 => h9) rfl dX6_find_47 ?_
        refine lv_iload_n hx hb dX6_find_50 rfl (lv_at hl 4 rfl) ?_
        rw [e22]
        obtain ⟨y30, e31⟩ : ∃ z9, z9 = spoonsF n20 := ⟨_, rfl⟩
        refine r_iald hx hb hK hP 7 rfl n20 (by omega) (by decide) y30 e31.symm dX6_find_51 ?_
        refine r_call_v (wr := [(lumpCells, .inl (ky 0, 6, .inl lumpCellsF)), (boatCells, .inl (ky 0, 6, .inl boatCellsF)), (spoons, .inl (ky 0, 6, .inl spoonsF)), (depths, .inl (ky 0, 6, .inl depthsF))]) (va_runV (As := [.ref a, .int y28, .int y30]) (rest := []) ⟨hx, hb, hml, hown, hts⟩ (c_o_measure l dC dI ky s.heap.size ro ofarness osides ostepCount odaysTaken ofarnessF osidesF a wide high heat cools skinHeat today stirs steps lumps boats thickness lumpNames lumpCells boatNames boatCells loads spoons spoonsLeft depths thicknessF y28 y30 iv_oro_0 iv_a_0 iv_a_1 iv_a_2 iv_a_3 iv_a_4 iv_a_5) (cwV 3 hts gX6_find_X6_measure rfl rfl rfl (by decide +kernel) ⟨(Nat.le_of_ble_eq_true rfl), (Nat.le_of_ble_eq_true rfl)⟩) (pre_UV hK hP hD [0, 1, 2, 3, 4] (by decide) rfl (ci := 6) (q0 := 0) rfl rfl) rfl rfl hl.1 rfl (lv_room (Nat.le_of_ble_eq_true rfl)) dX6_find_52 ⟨(Nat.le_of_ble_eq_true rfl), (Nat.le_of_ble_eq_true rfl)⟩) hP hD hS hA [0, 1, 2, 3, 4] [5, 6, 7, 8] rfl rfl (by decide) (by decide) (fun  u32 H locs p33 hP hD hS => ?_)
        obtain ⟨ofarnessG_34, rfl⟩ : ∃ z, z = u32 := ⟨_, rfl⟩
        refine W.widen (k := 0) (n := 0) (Nat.le_of_ble_eq_true rfl) (Nat.le_of_ble_eq_true rfl) ?_
        have hP : va_P (dC, dI) vwCl [(lumpCells, .inl (ky 0, 6, .inl lumpCellsF)), (boatCells, .inl (ky 0, 6, .inl boatCellsF)), (spoons, .inl (ky 0, 6, .inl spoonsF)), (depths, .inl (ky 0, 6, .inl depthsF)), (ro, .inr (6, [.ref ofarness, .ref osides, .int (nI ostepCount), .int odaysTaken])), (ofarness, .inl (ky 0, 36, .inl ofarnessG_34)), (osides, .inl (ky 0, 36, .inl osidesF)), (a, .inr (7, [.int (nI wide), .int (nI high), .int heat, .int cools, .int skinHeat, .int today, .int stirs, .int steps, .int (nI lumps), .int (nI boats), .ref thickness, .ref lumpNames, .ref lumpCells, .ref boatNames, .ref boatCells, .ref loads, .ref spoons, .ref spoonsLeft, .ref depths])), (thickness, .inl (ky 0, 36, .inl thicknessF))] H := hP
        have hD : va_D A [(lumpCells, .inl (ky 0, 6, .inl lumpCellsF)), (boatCells, .inl (ky 0, 6, .inl boatCellsF)), (spoons, .inl (ky 0, 6, .inl spoonsF)), (depths, .inl (ky 0, 6, .inl depthsF)), (ro, .inr (6, [.ref ofarness, .ref osides, .int (nI ostepCount), .int odaysTaken])), (ofarness, .inl (ky 0, 36, .inl ofarnessG_34)), (osides, .inl (ky 0, 36, .inl osidesF)), (a, .inr (7, [.int (nI wide), .int (nI high), .int heat, .int cools, .int skinHeat, .int today, .int stirs, .int steps, .int (nI lumps), .int (nI boats), .ref thickness, .ref lumpNames, .ref lumpCells, .ref boatNames, .ref boatCells, .ref loads, .ref spoons, .ref spoonsLeft, .ref depths])), (thickness, .inl (ky 0, 36, .inl thicknessF))] := hD
        refine lv_aload_n hx hb dX6_find_55 rfl (lv_at hl 2 rfl) ?_
        refine lv_iload hx hb dX6_find_56 (lv_at hl 1 rfl) ?_
        refine vp_callSi (W.runV (As := [.int y23]) (rest := []) ⟨hx, hb, hml, hown, hts⟩ (c_o_farnessOf l dC dI ky ro ofarness osides ostepCount odaysTaken ofarnessG_34 osidesF y23 iv_oro_0) (cwV 1 hts gX6_find_X6_farnessOf rfl rfl rfl (by decide +kernel) ⟨(Nat.le_of_ble_eq_true rfl), (Nat.le_of_ble_eq_true rfl)⟩) (pre_PV hK hP [4, 5, 6] rfl (ci := 6) (q0 := 4) rfl rfl) rfl rfl hl.1 rfl (lv_room (Nat.le_of_ble_eq_true rfl)) dX6_find_58 ⟨(Nat.le_of_ble_eq_true rfl), (Nat.le_of_ble_eq_true rfl)⟩) (fun r35 p36 => ?_)
        refine lv_istore (lv' := [(6, .int r35), (5, .int y28), (4, .int y23), (0, .ref ro), (1, .ref a), (2, .int x), (3, .int y)]) hx hb dX6_find_61 hl (by decide) rfl (fun ls hl => ?_)
        refine lv_iload hx hb dX6_find_63 (lv_at hl 0 rfl) ?_
        refine lv_ldc (v := nI 1048576) hx hb hown (hts (.constant RX6 54 (nI 1048576)) (List.mem_of_getElem? (i := 4) rfl)) dX6_find_65 ?_
        refine lv_icmp_lt (tgt := 72) hx hb dX6_find_67 (by decide) (fun c37 => ?_) (fun c37 => ?_)
        · refine lv_aload_n hx hb dX6_find_72 rfl (lv_at hl 3 rfl) ?_
          refine lv_aload_n hx hb dX6_find_73 rfl (lv_at hl 4 rfl) ?_
          refine lv_iload hx hb dX6_find_74 (lv_at hl 2 rfl) ?_
          refine lv_iload hx hb dX6_find_76 (lv_at hl 1 rfl) ?_
          refine lv_aload_n hx hb dX6_find_78 rfl (lv_at hl 4 rfl) ?_
          refine va_get (D := (dC, dI)) (ci := 7) (v := .ref spoons) (C := RX7) (T := TX7) (N := 19) hx hb hts hin7 hown hK hP 7 rfl rfl 16 (by decide) (hts (.fieldLink RX6 43 "PorridgeSea$Sea" "spoons" "[I") (List.mem_of_getElem? (i := 3) rfl)) (fun _ h9 => h9) rfl dX6_find_79 ?_
          refine lv_iload_n hx hb dX6_find_82 rfl (lv_at hl 5 rfl) ?_
          rw [e22]
          obtain ⟨y38, e39⟩ : ∃ z9, z9 = spoonsF n20 := ⟨_, rfl⟩
          refine r_iald hx hb hK hP 2 rfl n20 (by omega) (by decide) y38 e39.symm dX6_find_83 ?_
          refine r_call_v (wr := [(lumpCells, .inl (ky 0, 6, .inl lumpCellsF)), (boatCells, .inl (ky 0, 6, .inl boatCellsF)), (spoons, .inl (ky 0, 6, .inl spoonsF)), (depths, .inl (ky 0, 6, .inl depthsF))]) (va_runV (As := [.ref a, .int y23, .int y28, .int y38]) (rest := []) ⟨hx, hb, hml, hown, hts⟩ (c_o_follow l dC dI ky H.size ro ofarness osides ostepCount odaysTaken ofarnessG_34 osidesF a wide high heat cools skinHeat today stirs steps lumps boats thickness lumpNames lumpCells boatNames boatCells loads spoons spoonsLeft depths thicknessF y23 y28 y38 iv_oro_0 iv_a_0 iv_a_1 iv_a_2 iv_a_3 iv_a_4 iv_a_5) (cwV 4 hts gX6_find_X6_follow rfl rfl rfl (by decide +kernel) ⟨(Nat.le_of_ble_eq_true rfl), (Nat.le_of_ble_eq_true rfl)⟩) (pre_UV hK hP hD [4, 5, 6, 7, 8] (by decide) rfl (ci := 6) (q0 := 4) rfl rfl) rfl rfl hl.1 rfl (lv_room (Nat.le_of_ble_eq_true rfl)) dX6_find_84 ⟨(Nat.le_of_ble_eq_true rfl), (Nat.le_of_ble_eq_true rfl)⟩) hP hD hS hA [4, 5, 6, 7, 8] [0, 1, 2, 3] rfl rfl (by decide) (by decide) (fun  u40 H locs p41 hP hD hS => ?_)
          obtain ⟨ostepCountG_42, odaysTakenG_43, osidesG_44⟩ := u40
          try dsimp only at p41
          have p45 := p41
          refine W.widen (k := 0) (n := 0) (Nat.le_of_ble_eq_true rfl) (Nat.le_of_ble_eq_true rfl) ?_
          have hP : va_P (dC, dI) vwCl [(lumpCells, .inl (ky 0, 6, .inl lumpCellsF)), (boatCells, .inl (ky 0, 6, .inl boatCellsF)), (spoons, .inl (ky 0, 6, .inl spoonsF)), (depths, .inl (ky 0, 6, .inl depthsF)), (ro, .inr (6, [.ref ofarness, .ref osides, .int (nI ostepCountG_42), .int odaysTakenG_43])), (ofarness, .inl (ky 0, 36, .inl ofarnessG_34)), (osides, .inl (ky 0, 36, .inl osidesG_44)), (a, .inr (7, [.int (nI wide), .int (nI high), .int heat, .int cools, .int skinHeat, .int today, .int stirs, .int steps, .int (nI lumps), .int (nI boats), .ref thickness, .ref lumpNames, .ref lumpCells, .ref boatNames, .ref boatCells, .ref loads, .ref spoons, .ref spoonsLeft, .ref depths])), (thickness, .inl (ky 0, 36, .inl thicknessF))] H := hP
          have hD : va_D A [(lumpCells, .inl (ky 0, 6, .inl lumpCellsF)), (boatCells, .inl (ky 0, 6, .inl boatCellsF)), (spoons, .inl (ky 0, 6, .inl spoonsF)), (depths, .inl (ky 0, 6, .inl depthsF)), (ro, .inr (6, [.ref ofarness, .ref osides, .int (nI ostepCountG_42), .int odaysTakenG_43])), (ofarness, .inl (ky 0, 36, .inl ofarnessG_34)), (osides, .inl (ky 0, 36, .inl osidesG_44)), (a, .inr (7, [.int (nI wide), .int (nI high), .int heat, .int cools, .int skinHeat, .int today, .int stirs, .int steps, .int (nI lumps), .int (nI boats), .ref thickness, .ref lumpNames, .ref lumpCells, .ref boatNames, .ref boatCells, .ref loads, .ref spoons, .ref spoonsLeft, .ref depths])), (thickness, .inl (ky 0, 36, .inl thicknessF))] := hD
          refine lv_iload hx hb dX6_find_87 (lv_at hl 0 rfl) ?_
          refine lv_bipush (v := nI 64) hx hb dX6_find_89 (by decide) ?_
          refine lv_idiv hx hb dX6_find_91 (by decide) ?_
          refine lv_topi (fun y46 e47 => ?_)
          rw [hQ]
          have hP9 := hP.sub (ws' := [(ro, .inr (6, [.ref ofarness, .ref osides, .int (nI ostepCountG_42), .int odaysTakenG_43])), (ofarness, .inl (ky 0, 36, .inl ofarnessG_34)), (osides, .inl (ky 0, 36, .inl osidesG_44)), (a, .inr (7, [.int (nI wide), .int (nI high), .int heat, .int cools, .int skinHeat, .int today, .int stirs, .int steps, .int (nI lumps), .int (nI boats), .ref thickness, .ref lumpNames, .ref lumpCells, .ref boatNames, .ref boatCells, .ref loads, .ref spoons, .ref spoonsLeft, .ref depths])), (thickness, .inl (ky 0, 36, .inl thicknessF)), (lumpCells, .inl (ky 0, 6, .inl lumpCellsF)), (boatCells, .inl (ky 0, 6, .inl boatCellsF)), (spoons, .inl (ky 0, 6, .inl spoonsF)), (depths, .inl (ky 0, 6, .inl depthsF))]) [4, 5, 6, 7, 8, 0, 1, 2, 3] rfl
          have hD9 := hD.sub (ws' := [(ro, .inr (6, [.ref ofarness, .ref osides, .int (nI ostepCountG_42), .int odaysTakenG_43])), (ofarness, .inl (ky 0, 36, .inl ofarnessG_34)), (osides, .inl (ky 0, 36, .inl osidesG_44)), (a, .inr (7, [.int (nI wide), .int (nI high), .int heat, .int cools, .int skinHeat, .int today, .int stirs, .int steps, .int (nI lumps), .int (nI boats), .ref thickness, .ref lumpNames, .ref lumpCells, .ref boatNames, .ref boatCells, .ref loads, .ref spoons, .ref spoonsLeft, .ref depths])), (thickness, .inl (ky 0, 36, .inl thicknessF)), (lumpCells, .inl (ky 0, 6, .inl lumpCellsF)), (boatCells, .inl (ky 0, 6, .inl boatCellsF)), (spoons, .inl (ky 0, 6, .inl spoonsF)), (depths, .inl (ky 0, 6, .inl depthsF))]) [4, 5, 6, 7, 8, 0, 1, 2, 3] (by decide) rfl
          exact W.iret (v := y46) hx hb hr (fun t9 ht9 hW9 => ⟨⟨y46, (ostepCountG_42, odaysTakenG_43, ofarnessG_34, osidesG_44), rfl, p45, by rw [ht9]; exact hP9, va_K.moved hW9.alike hK, hD9⟩, hS.F ht9⟩) hS.2.2 dX6_find_92
        · refine lv_iconst (v := (-1 : Int32)) hx hb dX6_find_70 (by decide) ?_
          rw [hQ]
          have hP9 := hP.sub (ws' := [(ro, .inr (6, [.ref ofarness, .ref osides, .int (nI ostepCount), .int odaysTaken])), (ofarness, .inl (ky 0, 36, .inl ofarnessG_34)), (osides, .inl (ky 0, 36, .inl osidesF)), (a, .inr (7, [.int (nI wide), .int (nI high), .int heat, .int cools, .int skinHeat, .int today, .int stirs, .int steps, .int (nI lumps), .int (nI boats), .ref thickness, .ref lumpNames, .ref lumpCells, .ref boatNames, .ref boatCells, .ref loads, .ref spoons, .ref spoonsLeft, .ref depths])), (thickness, .inl (ky 0, 36, .inl thicknessF)), (lumpCells, .inl (ky 0, 6, .inl lumpCellsF)), (boatCells, .inl (ky 0, 6, .inl boatCellsF)), (spoons, .inl (ky 0, 6, .inl spoonsF)), (depths, .inl (ky 0, 6, .inl depthsF))]) [4, 5, 6, 7, 8, 0, 1, 2, 3] rfl
          have hD9 := hD.sub (ws' := [(ro, .inr (6, [.ref ofarness, .ref osides, .int (nI ostepCount), .int odaysTaken])), (ofarness, .inl (ky 0, 36, .inl ofarnessG_34)), (osides, .inl (ky 0, 36, .inl osidesF)), (a, .inr (7, [.int (nI wide), .int (nI high), .int heat, .int cools, .int skinHeat, .int today, .int stirs, .int steps, .int (nI lumps), .int (nI boats), .ref thickness, .ref lumpNames, .ref lumpCells, .ref boatNames, .ref boatCells, .ref loads, .ref spoons, .ref spoonsLeft, .ref depths])), (thickness, .inl (ky 0, 36, .inl thicknessF)), (lumpCells, .inl (ky 0, 6, .inl lumpCellsF)), (boatCells, .inl (ky 0, 6, .inl boatCellsF)), (spoons, .inl (ky 0, 6, .inl spoonsF)), (depths, .inl (ky 0, 6, .inl depthsF))]) [4, 5, 6, 7, 8, 0, 1, 2, 3] (by decide) rfl
          exact W.iret (v := (-1 : Int32)) hx hb hr (fun t9 ht9 hW9 => ⟨⟨(-1 : Int32), (ostepCount, odaysTaken, ofarnessG_34, osidesF), rfl, iv_oro_0, by rw [ht9]; exact hP9, va_K.moved hW9.alike hK, hD9⟩, hS.F ht9⟩) hS.2.2 dX6_find_71
    · refine lv_if_eq (tgt := 24) hx hb dX6_find_13 (by decide) (fun c48 => ?_) (fun c48 => absurd (by decide) c48)
      refine lv_iconst (v := (-1 : Int32)) hx hb dX6_find_24 (by decide) ?_
      rw [hQ]
      exact W.iret (v := (-1 : Int32)) hx hb hr (fun t9 ht9 hW9 => ⟨⟨(-1 : Int32), (ostepCount, odaysTaken, ofarnessF, osidesF), rfl, iv_oro_0, by rw [ht9]; exact hP, va_K.moved hW9.alike hK, hD⟩, hS.F ht9⟩) hS.2.2 dX6_find_25
  · refine lv_if_eq (tgt := 24) hx hb dX6_find_5 (by decide) (fun c49 => ?_) (fun c49 => absurd (by decide) c49)
    refine lv_iconst (v := (-1 : Int32)) hx hb dX6_find_24 (by decide) ?_
    rw [hQ]
    exact W.iret (v := (-1 : Int32)) hx hb hr (fun t9 ht9 hW9 => ⟨⟨(-1 : Int32), (ostepCount, odaysTaken, ofarnessF, osidesF), rfl, iv_oro_0, by rw [ht9]; exact hP, va_K.moved hW9.alike hK, hD⟩, hS.F ht9⟩) hS.2.2 dX6_find_25
set_option maxRecDepth 20000 in
theorem lf_o_sideAt_1 (ostepCount : Nat) (x : Int32) (iv_oro_0 : ostepCount ≤ 36) (c1 : ¬ x < 0) (c2 : ¬ nI ostepCount ≤ x) : 0 ≤ x.toInt ∧ x.toInt < ((36 : Nat) : Int) := by
  have b_x := ia_b x
  try have k_0 := ia_n ostepCount (by first | decide | omega)
  try simp only [ia_lt, ia_le, ia_eq, ia_m1, ia_0, ia_1, ne_eq, true_and, and_true, false_and, and_false, or_false, false_or, or_true, true_or, not_true_eq_false, not_false_eq_true] at *
  all_goals omega
set_option maxHeartbeats 4000000 in
set_option maxRecDepth 100000 in
theorem c_o_sideAt (l : Launch) (dC : Nat → ClassId) (dI : Nat → Nat → Nat) (ky : Nat → ClassId) (ro : Nat) (ofarness : Nat) (osides : Nat) (ostepCount : Nat) (odaysTaken : Int32) (ofarnessF : Nat → Int32) (osidesF : Nat → Int32) (x : Int32) (iv_oro_0 : ostepCount ≤ 36) : Met l yX6_sideAt wsX6_sideAt ({ frames := 0, cells := 0, slots := 0, locals := 0 }) (PcP dC dI ky [.ref ro, .int x] [(ro, .inr (6, [.ref ofarness, .ref osides, .int (nI ostepCount), .int odaysTaken])), (ofarness, .inl (ky 0, 36, .inl ofarnessF)), (osides, .inl (ky 0, 36, .inl osidesF))]) (vp_Si (fun r : Int32 => True)) 0 0 (fun _ => False) := by
  refine Met.ofW (cc := cX6_sideAt) (maxL := 2) (ret := (some .int)) (by decide) rfl ?_
  intro p e s m args below meth c s₁ B hml hv
  obtain ⟨rfl, hP, hK⟩ := hv
  have hx := B.exec
  have hb := B.bytes
  have hr := B.returns
  have hts := atoms_spec (ws := wsX6_sideAt) B.pre
  have hown : s.vm.findClass RX6 = some m.cls := findClass_of_methodNamed B.named
  have hlocks := B.notSynchronized
  have hin6 : ∀ w ∈ u_ws RX6 TX6 4, w ∈ wsX6_sideAt := by decide +kernel
  have hl := lv_entry ([.ref ro, .int x]) (n := 2) (Nat.le_of_ble_eq_true rfl)
  rw [lg_entry_eq]
  generalize (lg_sl ([.ref ro, .int x]) ++ List.replicate (2 - (lg_sl ([.ref ro, .int x])).length) Slot.unset).toArray = ls at hl ⊢
  have hl : lv_has ls 2 [(0, .ref ro), (1, .int x)] := hl
  refine q_name (fun Q hQ => ?_)
  generalize ([.ref ro, .int x] : List Value).toArray = args at hts hQ ⊢
  refine lv_iload_n hx hb dX6_sideAt_0 rfl (lv_at hl 1 rfl) ?_
  refine lv_if_lt (tgt := 21) hx hb dX6_sideAt_1 (by decide) (fun c1 => ?_) (fun c1 => ?_)
  · refine lv_iconst (v := (-1 : Int32)) hx hb dX6_sideAt_21 (by decide) ?_
    rw [hQ]
    exact W.iret (v := (-1 : Int32)) hx hb hr (fun t9 ht9 hW9 => ⟨(-1 : Int32), rfl, trivial, ht9⟩) (fun _ h => absurd h List.not_mem_nil) dX6_sideAt_22
  · refine lv_iload_n hx hb dX6_sideAt_4 rfl (lv_at hl 1 rfl) ?_
    refine lv_aload_n hx hb dX6_sideAt_5 rfl (lv_at hl 0 rfl) ?_
    refine va_get (D := (dC, dI)) (ci := 6) (v := .int (nI ostepCount)) (C := RX6) (T := TX6) (N := 4) hx hb hts hin6 hown hK hP 0 rfl rfl 2 (by decide) (hts (.fieldLink RX6 18 "PorridgeSea$Route" "stepCount" "I") (List.mem_of_getElem? (i := 1) rfl)) (fun _ h9 => h9) rfl dX6_sideAt_6 ?_
    refine lv_icmp_ge (tgt := 21) hx hb dX6_sideAt_9 (by decide) (fun c2 => ?_) (fun c2 => ?_)
    · refine lv_iconst (v := (-1 : Int32)) hx hb dX6_sideAt_21 (by decide) ?_
      rw [hQ]
      exact W.iret (v := (-1 : Int32)) hx hb hr (fun t9 ht9 hW9 => ⟨(-1 : Int32), rfl, trivial, ht9⟩) (fun _ h => absurd h List.not_mem_nil) dX6_sideAt_22
    · refine lv_aload_n hx hb dX6_sideAt_12 rfl (lv_at hl 0 rfl) ?_
      refine va_get (D := (dC, dI)) (ci := 6) (v := .ref osides) (C := RX6) (T := TX6) (N := 4) hx hb hts hin6 hown hK hP 0 rfl rfl 1 (by decide) (hts (.fieldLink RX6 15 "PorridgeSea$Route" "sides" "[I") (List.mem_of_getElem? (i := 2) rfl)) (fun _ h9 => h9) rfl dX6_sideAt_13 ?_
      refine lv_iload_n hx hb dX6_sideAt_16 rfl (lv_at hl 1 rfl) ?_
      obtain ⟨n3, h4, e5⟩ := nat_of x 36 (by decide) (lf_o_sideAt_1 ostepCount x iv_oro_0 c1 c2)
      rw [e5]
      obtain ⟨y6, e7⟩ : ∃ z9, z9 = osidesF n3 := ⟨_, rfl⟩
      refine r_iald hx hb hK hP 2 rfl n3 (by omega) (by decide) y6 e7.symm dX6_sideAt_17 ?_
      refine lv_goto (tgt := 22) hx hb dX6_sideAt_18 (by decide) ?_
      rw [hQ]
      exact W.iret (v := y6) hx hb hr (fun t9 ht9 hW9 => ⟨y6, rfl, trivial, ht9⟩) (fun _ h => absurd h List.not_mem_nil) dX6_sideAt_22
