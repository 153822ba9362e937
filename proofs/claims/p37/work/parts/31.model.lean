theorem dX12_isCell_0 : decode cX12_isCell 0 = .ok (.iload_n 1, 1) := by decide +kernel
theorem dX12_isCell_1 : decode cX12_isCell 1 = .ok (.iconst 0, 1) := by decide +kernel
theorem dX12_isCell_2 : decode cX12_isCell 2 = .ok (.aload_n 0, 1) := by decide +kernel
theorem dX12_isCell_3 : decode cX12_isCell 3 = .ok (.getfield 98, 3) := by decide +kernel
theorem dX12_isCell_6 : decode cX12_isCell 6 = .ok (.iconst 0, 1) := by decide +kernel
theorem dX12_isCell_7 : decode cX12_isCell 7 = .ok (.iaload, 1) := by decide +kernel
theorem dX12_isCell_8 : decode cX12_isCell 8 = .ok (.iconst 1, 1) := by decide +kernel
theorem dX12_isCell_9 : decode cX12_isCell 9 = .ok (.isub, 1) := by decide +kernel
theorem dX12_isCell_10 : decode cX12_isCell 10 = .ok (.invokestatic 75, 3) := by decide +kernel
theorem dX12_isCell_13 : decode cX12_isCell 13 = .ok (.ifCond .eq 23, 3) := by decide +kernel
theorem dX12_isCell_16 : decode cX12_isCell 16 = .ok (.iload_n 2, 1) := by decide +kernel
theorem dX12_isCell_17 : decode cX12_isCell 17 = .ok (.iconst 0, 1) := by decide +kernel
theorem dX12_isCell_18 : decode cX12_isCell 18 = .ok (.aload_n 0, 1) := by decide +kernel
theorem dX12_isCell_19 : decode cX12_isCell 19 = .ok (.getfield 98, 3) := by decide +kernel
theorem dX12_isCell_22 : decode cX12_isCell 22 = .ok (.iconst 1, 1) := by decide +kernel
theorem dX12_isCell_23 : decode cX12_isCell 23 = .ok (.iaload, 1) := by decide +kernel
theorem dX12_isCell_24 : decode cX12_isCell 24 = .ok (.iconst 1, 1) := by decide +kernel
theorem dX12_isCell_25 : decode cX12_isCell 25 = .ok (.isub, 1) := by decide +kernel
theorem dX12_isCell_26 : decode cX12_isCell 26 = .ok (.invokestatic 75, 3) := by decide +kernel
theorem dX12_isCell_29 : decode cX12_isCell 29 = .ok (.ifCond .eq 7, 3) := by decide +kernel
theorem dX12_isCell_32 : decode cX12_isCell 32 = .ok (.iconst 1, 1) := by decide +kernel
theorem dX12_isCell_33 : decode cX12_isCell 33 = .ok (.goto 4, 3) := by decide +kernel
theorem dX12_isCell_37 : decode cX12_isCell 37 = .ok (.ireturn, 1) := by decide +kernel
theorem dX12_isCell_36 : decode cX12_isCell 36 = .ok (.iconst 0, 1) := by decide +kernel
theorem dX12_isInSea_0 : decode cX12_isInSea 0 = .ok (.iload_n 1, 1) := by decide +kernel
theorem dX12_isInSea_1 : decode cX12_isInSea 1 = .ok (.bipush 6, 2) := by decide +kernel
theorem dX12_isInSea_3 : decode cX12_isInSea 3 = .ok (.irem, 1) := by decide +kernel
theorem dX12_isInSea_4 : decode cX12_isInSea 4 = .ok (.aload_n 0, 1) := by decide +kernel
theorem dX12_isInSea_5 : decode cX12_isInSea 5 = .ok (.getfield 98, 3) := by decide +kernel
theorem dX12_isInSea_8 : decode cX12_isInSea 8 = .ok (.iconst 0, 1) := by decide +kernel
theorem dX12_isInSea_9 : decode cX12_isInSea 9 = .ok (.iaload, 1) := by decide +kernel
theorem dX12_isInSea_10 : decode cX12_isInSea 10 = .ok (.if_icmp .ge 20, 3) := by decide +kernel
theorem dX12_isInSea_30 : decode cX12_isInSea 30 = .ok (.iconst 0, 1) := by decide +kernel
theorem dX12_isInSea_31 : decode cX12_isInSea 31 = .ok (.ireturn, 1) := by decide +kernel
theorem dX12_isInSea_13 : decode cX12_isInSea 13 = .ok (.iload_n 1, 1) := by decide +kernel
theorem dX12_isInSea_14 : decode cX12_isInSea 14 = .ok (.bipush 6, 2) := by decide +kernel
theorem dX12_isInSea_16 : decode cX12_isInSea 16 = .ok (.idiv, 1) := by decide +kernel
theorem dX12_isInSea_17 : decode cX12_isInSea 17 = .ok (.aload_n 0, 1) := by decide +kernel
theorem dX12_isInSea_18 : decode cX12_isInSea 18 = .ok (.getfield 98, 3) := by decide +kernel
theorem dX12_isInSea_21 : decode cX12_isInSea 21 = .ok (.iconst 1, 1) := by decide +kernel
theorem dX12_isInSea_22 : decode cX12_isInSea 22 = .ok (.iaload, 1) := by decide +kernel
theorem dX12_isInSea_23 : decode cX12_isInSea 23 = .ok (.if_icmp .ge 7, 3) := by decide +kernel
theorem dX12_isInSea_26 : decode cX12_isInSea 26 = .ok (.iconst 1, 1) := by decide +kernel
theorem dX12_isInSea_27 : decode cX12_isInSea 27 = .ok (.goto 4, 3) := by decide +kernel
theorem dX12_isLump_0 : decode cX12_isLump 0 = .ok (.iload_n 1, 1) := by decide +kernel
theorem dX12_isLump_1 : decode cX12_isLump 1 = .ok (.iconst 0, 1) := by decide +kernel
theorem dX12_isLump_2 : decode cX12_isLump 2 = .ok (.aload_n 0, 1) := by decide +kernel
theorem dX12_isLump_3 : decode cX12_isLump 3 = .ok (.getfield 98, 3) := by decide +kernel
theorem dX12_isLump_6 : decode cX12_isLump 6 = .ok (.iconst 2, 1) := by decide +kernel
theorem dX12_isLump_7 : decode cX12_isLump 7 = .ok (.iaload, 1) := by decide +kernel
theorem dX12_isLump_8 : decode cX12_isLump 8 = .ok (.iconst 1, 1) := by decide +kernel
theorem dX12_isLump_9 : decode cX12_isLump 9 = .ok (.isub, 1) := by decide +kernel
theorem dX12_isLump_10 : decode cX12_isLump 10 = .ok (.invokestatic 75, 3) := by decide +kernel
theorem dX12_isLump_13 : decode cX12_isLump 13 = .ok (.ireturn, 1) := by decide +kernel
theorem dX12_isBoat_0 : decode cX12_isBoat 0 = .ok (.iload_n 1, 1) := by decide +kernel
theorem dX12_isBoat_1 : decode cX12_isBoat 1 = .ok (.iconst 0, 1) := by decide +kernel
theorem dX12_isBoat_2 : decode cX12_isBoat 2 = .ok (.aload_n 0, 1) := by decide +kernel
theorem dX12_isBoat_3 : decode cX12_isBoat 3 = .ok (.getfield 98, 3) := by decide +kernel
theorem dX12_isBoat_6 : decode cX12_isBoat 6 = .ok (.iconst 3, 1) := by decide +kernel
theorem dX12_isBoat_7 : decode cX12_isBoat 7 = .ok (.iaload, 1) := by decide +kernel
theorem dX12_isBoat_8 : decode cX12_isBoat 8 = .ok (.iconst 1, 1) := by decide +kernel
theorem dX12_isBoat_9 : decode cX12_isBoat 9 = .ok (.isub, 1) := by decide +kernel
theorem dX12_isBoat_10 : decode cX12_isBoat 10 = .ok (.invokestatic 75, 3) := by decide +kernel
theorem dX12_isBoat_13 : decode cX12_isBoat 13 = .ok (.ireturn, 1) := by decide +kernel
theorem dX12_isEaten_0 : decode cX12_isEaten 0 = .ok (.aload_n 0, 1) := by decide +kernel
theorem dX12_isEaten_1 : decode cX12_isEaten 1 = .ok (.getfield 98, 3) := by decide +kernel
theorem dX12_isEaten_4 : decode cX12_isEaten 4 = .ok (.bipush 125, 2) := by decide +kernel
theorem dX12_isEaten_6 : decode cX12_isEaten 6 = .ok (.iload_n 1, 1) := by decide +kernel
theorem dX12_isEaten_7 : decode cX12_isEaten 7 = .ok (.iadd, 1) := by decide +kernel
theorem dX12_isEaten_8 : decode cX12_isEaten 8 = .ok (.iaload, 1) := by decide +kernel
theorem dX12_isEaten_9 : decode cX12_isEaten 9 = .ok (.iconst 3, 1) := by decide +kernel
theorem dX12_isEaten_10 : decode cX12_isEaten 10 = .ok (.if_icmp .ne 7, 3) := by decide +kernel
theorem dX12_isEaten_17 : decode cX12_isEaten 17 = .ok (.iconst 0, 1) := by decide +kernel
theorem dX12_isEaten_18 : decode cX12_isEaten 18 = .ok (.ireturn, 1) := by decide +kernel
theorem dX12_isEaten_13 : decode cX12_isEaten 13 = .ok (.iconst 1, 1) := by decide +kernel
theorem dX12_isEaten_14 : decode cX12_isEaten 14 = .ok (.goto 4, 3) := by decide +kernel
theorem dX12_hasSkin_0 : decode cX12_hasSkin 0 = .ok (.aload_n 0, 1) := by decide +kernel
theorem dX12_hasSkin_1 : decode cX12_hasSkin 1 = .ok (.getfield 98, 3) := by decide +kernel
theorem dX12_hasSkin_4 : decode cX12_hasSkin 4 = .ok (.bipush 68, 2) := by decide +kernel
theorem dX12_hasSkin_6 : decode cX12_hasSkin 6 = .ok (.iaload, 1) := by decide +kernel
theorem dX12_hasSkin_7 : decode cX12_hasSkin 7 = .ok (.aload_n 0, 1) := by decide +kernel
theorem dX12_hasSkin_8 : decode cX12_hasSkin 8 = .ok (.getfield 98, 3) := by decide +kernel
theorem dX12_hasSkin_11 : decode cX12_hasSkin 11 = .ok (.bipush 6, 2) := by decide +kernel
theorem dX12_hasSkin_13 : decode cX12_hasSkin 13 = .ok (.iaload, 1) := by decide +kernel
theorem dX12_hasSkin_14 : decode cX12_hasSkin 14 = .ok (.if_icmp .gt 7, 3) := by decide +kernel
theorem dX12_hasSkin_21 : decode cX12_hasSkin 21 = .ok (.iconst 0, 1) := by decide +kernel
theorem dX12_hasSkin_22 : decode cX12_hasSkin 22 = .ok (.ireturn, 1) := by decide +kernel
theorem dX12_hasSkin_17 : decode cX12_hasSkin 17 = .ok (.iconst 1, 1) := by decide +kernel
theorem dX12_hasSkin_18 : decode cX12_hasSkin 18 = .ok (.goto 4, 3) := by decide +kernel
theorem dX12_lumpIn_0 : decode cX12_lumpIn 0 = .ok (.iconst 0, 1) := by decide +kernel
theorem dX12_lumpIn_1 : decode cX12_lumpIn 1 = .ok (.istore_n 2, 1) := by decide +kernel
theorem dX12_lumpIn_2 : decode cX12_lumpIn 2 = .ok (.iload_n 2, 1) := by decide +kernel
theorem dX12_lumpIn_3 : decode cX12_lumpIn 3 = .ok (.aload_n 0, 1) := by decide +kernel
theorem dX12_lumpIn_4 : decode cX12_lumpIn 4 = .ok (.getfield 98, 3) := by decide +kernel
theorem dX12_lumpIn_7 : decode cX12_lumpIn 7 = .ok (.iconst 2, 1) := by decide +kernel
theorem dX12_lumpIn_8 : decode cX12_lumpIn 8 = .ok (.iaload, 1) := by decide +kernel
theorem dX12_lumpIn_9 : decode cX12_lumpIn 9 = .ok (.if_icmp .ge 24, 3) := by decide +kernel
theorem dX12_lumpIn_33 : decode cX12_lumpIn 33 = .ok (.iconst (-1), 1) := by decide +kernel
theorem dX12_lumpIn_34 : decode cX12_lumpIn 34 = .ok (.ireturn, 1) := by decide +kernel
theorem dX12_lumpIn_12 : decode cX12_lumpIn 12 = .ok (.aload_n 0, 1) := by decide +kernel
theorem dX12_lumpIn_13 : decode cX12_lumpIn 13 = .ok (.getfield 98, 3) := by decide +kernel
theorem dX12_lumpIn_16 : decode cX12_lumpIn 16 = .ok (.bipush 107, 2) := by decide +kernel
theorem dX12_lumpIn_18 : decode cX12_lumpIn 18 = .ok (.iload_n 2, 1) := by decide +kernel
theorem dX12_lumpIn_19 : decode cX12_lumpIn 19 = .ok (.iadd, 1) := by decide +kernel
theorem dX12_lumpIn_20 : decode cX12_lumpIn 20 = .ok (.iaload, 1) := by decide +kernel
theorem dX12_lumpIn_21 : decode cX12_lumpIn 21 = .ok (.iload_n 1, 1) := by decide +kernel
theorem dX12_lumpIn_22 : decode cX12_lumpIn 22 = .ok (.if_icmp .ne 5, 3) := by decide +kernel
theorem dX12_lumpIn_27 : decode cX12_lumpIn 27 = .ok (.iinc 2 1, 3) := by decide +kernel
theorem dX12_lumpIn_30 : decode cX12_lumpIn 30 = .ok (.goto (-28), 3) := by decide +kernel
theorem dX12_lumpIn_25 : decode cX12_lumpIn 25 = .ok (.iload_n 2, 1) := by decide +kernel
theorem dX12_lumpIn_26 : decode cX12_lumpIn 26 = .ok (.ireturn, 1) := by decide +kernel
theorem dX12_wouldFloat_0 : decode cX12_wouldFloat 0 = .ok (.aload_n 0, 1) := by decide +kernel
theorem dX12_wouldFloat_1 : decode cX12_wouldFloat 1 = .ok (.invokevirtual 240, 3) := by decide +kernel
theorem dX12_wouldFloat_4 : decode cX12_wouldFloat 4 = .ok (.ifCond .ne 33, 3) := by decide +kernel
theorem dX12_wouldFloat_37 : decode cX12_wouldFloat 37 = .ok (.iconst 1, 1) := by decide +kernel
theorem dX12_wouldFloat_38 : decode cX12_wouldFloat 38 = .ok (.goto 4, 3) := by decide +kernel
theorem dX12_wouldFloat_42 : decode cX12_wouldFloat 42 = .ok (.ireturn, 1) := by decide +kernel
theorem dX12_wouldFloat_7 : decode cX12_wouldFloat 7 = .ok (.aload_n 0, 1) := by decide +kernel
theorem dX12_wouldFloat_8 : decode cX12_wouldFloat 8 = .ok (.iload_n 2, 1) := by decide +kernel
theorem dX12_wouldFloat_9 : decode cX12_wouldFloat 9 = .ok (.invokevirtual 243, 3) := by decide +kernel
theorem dX12_wouldFloat_12 : decode cX12_wouldFloat 12 = .ok (.iconst (-1), 1) := by decide +kernel
theorem dX12_wouldFloat_13 : decode cX12_wouldFloat 13 = .ok (.if_icmp .ne 24, 3) := by decide +kernel
theorem dX12_wouldFloat_16 : decode cX12_wouldFloat 16 = .ok (.aload_n 0, 1) := by decide +kernel
theorem dX12_wouldFloat_17 : decode cX12_wouldFloat 17 = .ok (.getfield 98, 3) := by decide +kernel
theorem dX12_wouldFloat_20 : decode cX12_wouldFloat 20 = .ok (.bipush 71, 2) := by decide +kernel
theorem dX12_wouldFloat_22 : decode cX12_wouldFloat 22 = .ok (.iload_n 2, 1) := by decide +kernel
theorem dX12_wouldFloat_23 : decode cX12_wouldFloat 23 = .ok (.iadd, 1) := by decide +kernel
theorem dX12_wouldFloat_24 : decode cX12_wouldFloat 24 = .ok (.iaload, 1) := by decide +kernel
theorem dX12_wouldFloat_25 : decode cX12_wouldFloat 25 = .ok (.aload_n 0, 1) := by decide +kernel
theorem dX12_wouldFloat_26 : decode cX12_wouldFloat 26 = .ok (.getfield 98, 3) := by decide +kernel
theorem dX12_wouldFloat_29 : decode cX12_wouldFloat 29 = .ok (.bipush 55, 2) := by decide +kernel
theorem dX12_wouldFloat_31 : decode cX12_wouldFloat 31 = .ok (.iload_n 1, 1) := by decide +kernel
theorem dX12_wouldFloat_32 : decode cX12_wouldFloat 32 = .ok (.iadd, 1) := by decide +kernel
theorem dX12_wouldFloat_33 : decode cX12_wouldFloat 33 = .ok (.iaload, 1) := by decide +kernel
theorem dX12_wouldFloat_34 : decode cX12_wouldFloat 34 = .ok (.if_icmp .lt 7, 3) := by decide +kernel
theorem dX12_wouldFloat_41 : decode cX12_wouldFloat 41 = .ok (.iconst 0, 1) := by decide +kernel
theorem dX12_isAfloat_0 : decode cX12_isAfloat 0 = .ok (.aload_n 0, 1) := by decide +kernel
theorem dX12_isAfloat_1 : decode cX12_isAfloat 1 = .ok (.iload_n 1, 1) := by decide +kernel
theorem dX12_isAfloat_2 : decode cX12_isAfloat 2 = .ok (.invokevirtual 246, 3) := by decide +kernel
theorem dX12_isAfloat_5 : decode cX12_isAfloat 5 = .ok (.ifCond .ne 24, 3) := by decide +kernel
theorem dX12_isAfloat_29 : decode cX12_isAfloat 29 = .ok (.iconst 0, 1) := by decide +kernel
theorem dX12_isAfloat_30 : decode cX12_isAfloat 30 = .ok (.ireturn, 1) := by decide +kernel
theorem dX12_isAfloat_8 : decode cX12_isAfloat 8 = .ok (.aload_n 0, 1) := by decide +kernel
theorem dX12_isAfloat_9 : decode cX12_isAfloat 9 = .ok (.iload_n 1, 1) := by decide +kernel
theorem dX12_isAfloat_10 : decode cX12_isAfloat 10 = .ok (.aload_n 0, 1) := by decide +kernel
theorem dX12_isAfloat_11 : decode cX12_isAfloat 11 = .ok (.getfield 98, 3) := by decide +kernel
theorem dX12_isAfloat_14 : decode cX12_isAfloat 14 = .ok (.bipush 113, 2) := by decide +kernel
theorem dX12_isAfloat_16 : decode cX12_isAfloat 16 = .ok (.iload_n 1, 1) := by decide +kernel
theorem dX12_isAfloat_17 : decode cX12_isAfloat 17 = .ok (.iadd, 1) := by decide +kernel
theorem dX12_isAfloat_18 : decode cX12_isAfloat 18 = .ok (.iaload, 1) := by decide +kernel
theorem dX12_isAfloat_19 : decode cX12_isAfloat 19 = .ok (.invokevirtual 249, 3) := by decide +kernel
theorem dX12_isAfloat_22 : decode cX12_isAfloat 22 = .ok (.ifCond .eq 7, 3) := by decide +kernel
theorem dX12_isAfloat_25 : decode cX12_isAfloat 25 = .ok (.iconst 1, 1) := by decide +kernel
theorem dX12_isAfloat_26 : decode cX12_isAfloat 26 = .ok (.goto 4, 3) := by decide +kernel
theorem dX12_costOf_0 : decode cX12_costOf 0 = .ok (.aload_n 0, 1) := by decide +kernel
theorem dX12_costOf_1 : decode cX12_costOf 1 = .ok (.invokevirtual 240, 3) := by decide +kernel
theorem dX12_costOf_4 : decode cX12_costOf 4 = .ok (.ifCond .eq 7, 3) := by decide +kernel
theorem dX12_costOf_11 : decode cX12_costOf 11 = .ok (.iconst 1, 1) := by decide +kernel
theorem dX12_costOf_12 : decode cX12_costOf 12 = .ok (.aload_n 0, 1) := by decide +kernel
theorem dX12_costOf_13 : decode cX12_costOf 13 = .ok (.getfield 98, 3) := by decide +kernel
theorem dX12_costOf_16 : decode cX12_costOf 16 = .ok (.bipush 71, 2) := by decide +kernel
theorem dX12_costOf_18 : decode cX12_costOf 18 = .ok (.iload_n 1, 1) := by decide +kernel
theorem dX12_costOf_19 : decode cX12_costOf 19 = .ok (.iadd, 1) := by decide +kernel
theorem dX12_costOf_20 : decode cX12_costOf 20 = .ok (.iaload, 1) := by decide +kernel
theorem dX12_costOf_21 : decode cX12_costOf 21 = .ok (.iconst 3, 1) := by decide +kernel
theorem dX12_costOf_22 : decode cX12_costOf 22 = .ok (.idiv, 1) := by decide +kernel
theorem dX12_costOf_23 : decode cX12_costOf 23 = .ok (.iadd, 1) := by decide +kernel
theorem dX12_costOf_24 : decode cX12_costOf 24 = .ok (.ireturn, 1) := by decide +kernel
theorem dX12_costOf_7 : decode cX12_costOf 7 = .ok (.iconst 1, 1) := by decide +kernel
theorem dX12_costOf_8 : decode cX12_costOf 8 = .ok (.goto 16, 3) := by decide +kernel
theorem dX12_beside_0 : decode cX12_beside 0 = .ok (.iload_n 1, 1) := by decide +kernel
theorem dX12_beside_1 : decode cX12_beside 1 = .ok (.bipush 6, 2) := by decide +kernel
theorem dX12_beside_3 : decode cX12_beside 3 = .ok (.irem, 1) := by decide +kernel
theorem dX12_beside_4 : decode cX12_beside 4 = .ok (.iload_n 2, 1) := by decide +kernel
theorem dX12_beside_5 : decode cX12_beside 5 = .ok (.ifCond .ne 7, 3) := by decide +kernel
theorem dX12_beside_12 : decode cX12_beside 12 = .ok (.iload_n 2, 1) := by decide +kernel
theorem dX12_beside_13 : decode cX12_beside 13 = .ok (.iconst 2, 1) := by decide +kernel
theorem dX12_beside_14 : decode cX12_beside 14 = .ok (.if_icmp .ne 7, 3) := by decide +kernel
theorem dX12_beside_21 : decode cX12_beside 21 = .ok (.iconst 0, 1) := by decide +kernel
theorem dX12_beside_22 : decode cX12_beside 22 = .ok (.iadd, 1) := by decide +kernel
theorem dX12_beside_23 : decode cX12_beside 23 = .ok (.istore_n 3, 1) := by decide +kernel
theorem dX12_beside_24 : decode cX12_beside 24 = .ok (.iload_n 1, 1) := by decide +kernel
theorem dX12_beside_25 : decode cX12_beside 25 = .ok (.bipush 6, 2) := by decide +kernel
theorem dX12_beside_27 : decode cX12_beside 27 = .ok (.idiv, 1) := by decide +kernel
theorem dX12_beside_28 : decode cX12_beside 28 = .ok (.iload_n 2, 1) := by decide +kernel
theorem dX12_beside_29 : decode cX12_beside 29 = .ok (.iconst 1, 1) := by decide +kernel
theorem dX12_beside_30 : decode cX12_beside 30 = .ok (.if_icmp .ne 7, 3) := by decide +kernel
theorem dX12_beside_37 : decode cX12_beside 37 = .ok (.iload_n 2, 1) := by decide +kernel
theorem dX12_beside_38 : decode cX12_beside 38 = .ok (.iconst 2, 1) := by decide +kernel
theorem dX12_beside_39 : decode cX12_beside 39 = .ok (.if_icmp .le 7, 3) := by decide +kernel
theorem dX12_beside_46 : decode cX12_beside 46 = .ok (.iconst 0, 1) := by decide +kernel
theorem dX12_beside_47 : decode cX12_beside 47 = .ok (.iadd, 1) := by decide +kernel
theorem dX12_beside_48 : decode cX12_beside 48 = .ok (.istore 4, 2) := by decide +kernel
theorem dX12_beside_50 : decode cX12_beside 50 = .ok (.aload_n 0, 1) := by decide +kernel
theorem dX12_beside_51 : decode cX12_beside 51 = .ok (.iload_n 3, 1) := by decide +kernel
theorem dX12_beside_52 : decode cX12_beside 52 = .ok (.iload 4, 2) := by decide +kernel
theorem dX12_beside_54 : decode cX12_beside 54 = .ok (.invokevirtual 252, 3) := by decide +kernel
theorem dX12_beside_57 : decode cX12_beside 57 = .ok (.ifCond .eq 13, 3) := by decide +kernel
theorem dX12_beside_60 : decode cX12_beside 60 = .ok (.bipush 6, 2) := by decide +kernel
theorem dX12_beside_62 : decode cX12_beside 62 = .ok (.iload 4, 2) := by decide +kernel
theorem dX12_beside_64 : decode cX12_beside 64 = .ok (.imul, 1) := by decide +kernel
theorem dX12_beside_65 : decode cX12_beside 65 = .ok (.iload_n 3, 1) := by decide +kernel
theorem dX12_beside_66 : decode cX12_beside 66 = .ok (.iadd, 1) := by decide +kernel
theorem dX12_beside_67 : decode cX12_beside 67 = .ok (.goto 4, 3) := by decide +kernel
theorem dX12_beside_71 : decode cX12_beside 71 = .ok (.ireturn, 1) := by decide +kernel
theorem dX12_beside_70 : decode cX12_beside 70 = .ok (.iconst (-1), 1) := by decide +kernel
theorem dX12_beside_42 : decode cX12_beside 42 = .ok (.iconst (-1), 1) := by decide +kernel
theorem dX12_beside_43 : decode cX12_beside 43 = .ok (.goto 4, 3) := by decide +kernel
theorem dX12_beside_33 : decode cX12_beside 33 = .ok (.iconst 1, 1) := by decide +kernel
theorem dX12_beside_34 : decode cX12_beside 34 = .ok (.goto 13, 3) := by decide +kernel
theorem dX12_beside_17 : decode cX12_beside 17 = .ok (.iconst (-1), 1) := by decide +kernel
theorem dX12_beside_18 : decode cX12_beside 18 = .ok (.goto 4, 3) := by decide +kernel
theorem dX12_beside_8 : decode cX12_beside 8 = .ok (.iconst 1, 1) := by decide +kernel
theorem dX12_beside_9 : decode cX12_beside 9 = .ok (.goto 13, 3) := by decide +kernel
theorem dX12_areNear_0 : decode cX12_areNear 0 = .ok (.iload_n 0, 1) := by decide +kernel
theorem dX12_areNear_1 : decode cX12_areNear 1 = .ok (.bipush 6, 2) := by decide +kernel
theorem dX12_areNear_3 : decode cX12_areNear 3 = .ok (.irem, 1) := by decide +kernel
theorem dX12_areNear_4 : decode cX12_areNear 4 = .ok (.iload_n 1, 1) := by decide +kernel
theorem dX12_areNear_5 : decode cX12_areNear 5 = .ok (.bipush 6, 2) := by decide +kernel
theorem dX12_areNear_7 : decode cX12_areNear 7 = .ok (.irem, 1) := by decide +kernel
theorem dX12_areNear_8 : decode cX12_areNear 8 = .ok (.isub, 1) := by decide +kernel
theorem dX12_areNear_9 : decode cX12_areNear 9 = .ok (.invokestatic 255, 3) := by decide +kernel
theorem dX12_areNear_12 : decode cX12_areNear 12 = .ok (.iload_n 0, 1) := by decide +kernel
theorem dX12_areNear_13 : decode cX12_areNear 13 = .ok (.bipush 6, 2) := by decide +kernel
theorem dX12_areNear_15 : decode cX12_areNear 15 = .ok (.idiv, 1) := by decide +kernel
theorem dX12_areNear_16 : decode cX12_areNear 16 = .ok (.iload_n 1, 1) := by decide +kernel
theorem dX12_areNear_17 : decode cX12_areNear 17 = .ok (.bipush 6, 2) := by decide +kernel
theorem dX12_areNear_19 : decode cX12_areNear 19 = .ok (.idiv, 1) := by decide +kernel
theorem dX12_areNear_20 : decode cX12_areNear 20 = .ok (.isub, 1) := by decide +kernel
theorem dX12_areNear_21 : decode cX12_areNear 21 = .ok (.invokestatic 255, 3) := by decide +kernel
theorem dX12_areNear_24 : decode cX12_areNear 24 = .ok (.iadd, 1) := by decide +kernel
theorem dX12_areNear_25 : decode cX12_areNear 25 = .ok (.iconst 2, 1) := by decide +kernel
theorem dX12_areNear_26 : decode cX12_areNear 26 = .ok (.if_icmp .ge 7, 3) := by decide +kernel
theorem dX12_areNear_33 : decode cX12_areNear 33 = .ok (.iconst 0, 1) := by decide +kernel
theorem dX12_areNear_34 : decode cX12_areNear 34 = .ok (.ireturn, 1) := by decide +kernel
theorem dX12_areNear_29 : decode cX12_areNear 29 = .ok (.iconst 1, 1) := by decide +kernel
theorem dX12_areNear_30 : decode cX12_areNear 30 = .ok (.goto 4, 3) := by decide +kernel
set_option maxRecDepth 100000 in
theorem ggX12_isCell_X12_isIn : GoodIn wsX12_isCell wsX12_isIn := goodIn_r _ [5] rfl (by decide +kernel)
set_option maxRecDepth 100000 in
theorem ggX12_isLump_X12_isIn : GoodIn wsX12_isLump wsX12_isIn := goodIn_r _ [5] rfl (by decide +kernel)
set_option maxRecDepth 100000 in
theorem ggX12_isBoat_X12_isIn : GoodIn wsX12_isBoat wsX12_isIn := goodIn_r _ [5] rfl (by decide +kernel)
set_option maxRecDepth 100000 in
theorem ggX12_wouldFloat_X12_hasSkin : GoodIn wsX12_wouldFloat wsX12_hasSkin := goodIn_r _ [6, 1, 11, 12, 13, 14, 15, 16, 17, 18, 19, 20, 21, 22, 23, 24, 25, 26, 27, 28, 29, 30, 31, 32, 33, 34, 35, 36, 37, 38, 39, 40, 41, 42, 43, 44, 45, 46, 47, 48, 49, 50, 51, 52, 53, 54, 55, 56, 57, 58, 59, 60, 61, 62] rfl (by decide +kernel)
set_option maxRecDepth 100000 in
theorem ggX12_wouldFloat_X12_lumpIn : GoodIn wsX12_wouldFloat wsX12_lumpIn := goodIn_r _ [10, 1, 11, 12, 13, 14, 15, 16, 17, 18, 19, 20, 21, 22, 23, 24, 25, 26, 27, 28, 29, 30, 31, 32, 33, 34, 35, 36, 37, 38, 39, 40, 41, 42, 43, 44, 45, 46, 47, 48, 49, 50, 51, 52, 53, 54, 55, 56, 57, 58, 59, 60, 61, 62] rfl (by decide +kernel)
set_option maxRecDepth 100000 in
theorem ggX12_isAfloat_X12_isEaten : GoodIn wsX12_isAfloat wsX12_isEaten := goodIn_r _ [6, 1, 19, 20, 21, 22, 23, 24, 25, 26, 27, 28, 29, 30, 31, 32, 33, 34, 35, 36, 37, 38, 39, 40, 41, 42, 43, 44, 45, 46, 47, 48, 49, 50, 51, 52, 53, 54, 55, 56, 57, 58, 59, 60, 61, 62, 63, 64, 65, 66, 67, 68, 69, 70] rfl (by decide +kernel)
set_option maxRecDepth 100000 in
theorem ggX12_isAfloat_X12_wouldFloat : GoodIn wsX12_isAfloat wsX12_wouldFloat := goodIn_r _ [10, 1, 11, 12, 13, 5, 14, 15, 16, 17, 18, 19, 20, 21, 22, 23, 24, 25, 26, 27, 28, 29, 30, 31, 32, 33, 34, 35, 36, 37, 38, 39, 40, 41, 42, 43, 44, 45, 46, 47, 48, 49, 50, 51, 52, 53, 54, 55, 56, 57, 58, 59, 60, 61, 62, 63, 64, 65, 66, 67, 68, 69, 70] rfl (by decide +kernel)
set_option maxRecDepth 100000 in
theorem ggX12_costOf_X12_hasSkin : GoodIn wsX12_costOf wsX12_hasSkin := goodIn_r _ [6, 1, 7, 8, 9, 10, 11, 12, 13, 14, 15, 16, 17, 18, 19, 20, 21, 22, 23, 24, 25, 26, 27, 28, 29, 30, 31, 32, 33, 34, 35, 36, 37, 38, 39, 40, 41, 42, 43, 44, 45, 46, 47, 48, 49, 50, 51, 52, 53, 54, 55, 56, 57, 58] rfl (by decide +kernel)
set_option maxRecDepth 100000 in
theorem ggX12_beside_X12_isCell : GoodIn wsX12_beside wsX12_isCell := goodIn_r _ [5, 6, 7, 8, 4, 9, 10, 11, 12, 13, 14, 15, 16, 17, 18, 19, 20, 21, 22, 23, 24, 25, 26, 27, 28, 29, 30, 31, 32, 33, 34, 35, 36, 37, 38, 39, 40, 41, 42, 43, 44, 45, 46, 47, 48, 49, 50, 51, 52, 53, 54, 55, 56, 57, 58, 59, 60, 61] rfl (by decide +kernel)
set_option maxRecDepth 100000 in
theorem ggX12_areNear_X12_size : GoodIn wsX12_areNear wsX12_size := goodIn_r _ [4] rfl (by decide +kernel)
set_option maxRecDepth 100000 in
theorem gX12_isCell_X12_isIn : GoodIn wsX12_isCell (va_wsS RX12 75 yX12_isIn wsX12_isIn) := goodIn_app (goodIn_of _ (by decide +kernel)) ggX12_isCell_X12_isIn
set_option maxRecDepth 100000 in
theorem gX12_isLump_X12_isIn : GoodIn wsX12_isLump (va_wsS RX12 75 yX12_isIn wsX12_isIn) := goodIn_app (goodIn_of _ (by decide +kernel)) ggX12_isLump_X12_isIn
set_option maxRecDepth 100000 in
theorem gX12_isBoat_X12_isIn : GoodIn wsX12_isBoat (va_wsS RX12 75 yX12_isIn wsX12_isIn) := goodIn_app (goodIn_of _ (by decide +kernel)) ggX12_isBoat_X12_isIn
set_option maxRecDepth 100000 in
theorem gX12_wouldFloat_X12_hasSkin : GoodIn wsX12_wouldFloat (wsV RX12 240 RX12 yX12_hasSkin wsX12_hasSkin) := goodIn_app (goodIn_of _ (by decide +kernel)) ggX12_wouldFloat_X12_hasSkin
set_option maxRecDepth 100000 in
theorem gX12_wouldFloat_X12_lumpIn : GoodIn wsX12_wouldFloat (wsV RX12 243 RX12 yX12_lumpIn wsX12_lumpIn) := goodIn_app (goodIn_of _ (by decide +kernel)) ggX12_wouldFloat_X12_lumpIn
set_option maxRecDepth 100000 in
theorem gX12_isAfloat_X12_isEaten : GoodIn wsX12_isAfloat (wsV RX12 246 RX12 yX12_isEaten wsX12_isEaten) := goodIn_app (goodIn_of _ (by decide +kernel)) ggX12_isAfloat_X12_isEaten
set_option maxRecDepth 100000 in
theorem gX12_isAfloat_X12_wouldFloat : GoodIn wsX12_isAfloat (wsV RX12 249 RX12 yX12_wouldFloat wsX12_wouldFloat) := goodIn_app (goodIn_of _ (by decide +kernel)) ggX12_isAfloat_X12_wouldFloat
set_option maxRecDepth 100000 in
theorem gX12_costOf_X12_hasSkin : GoodIn wsX12_costOf (wsV RX12 240 RX12 yX12_hasSkin wsX12_hasSkin) := goodIn_app (goodIn_of _ (by decide +kernel)) ggX12_costOf_X12_hasSkin
set_option maxRecDepth 100000 in
theorem gX12_beside_X12_isCell : GoodIn wsX12_beside (wsV RX12 252 RX12 yX12_isCell wsX12_isCell) := goodIn_app (goodIn_of _ (by decide +kernel)) ggX12_beside_X12_isCell
set_option maxRecDepth 100000 in
theorem gX12_areNear_X12_size : GoodIn wsX12_areNear (va_wsS RX12 255 yX12_size wsX12_size) := goodIn_app (goodIn_of _ (by decide +kernel)) ggX12_areNear_X12_size
/-- a step to a side stays in the sea -/
def BSok (c s w h : Int) : Prop := (s = 0 ∧ c % 6 + 1 < w ∧ c / 6 < h) ∨ (s = 1 ∧ c % 6 < w ∧ c / 6 + 1 < h) ∨ (s = 2 ∧ 1 ≤ c % 6 ∧ c % 6 - 1 < w ∧ c / 6 < h) ∨ (s = 3 ∧ c % 6 < w ∧ 1 ≤ c / 6 ∧ c / 6 - 1 < h)
set_option maxRecDepth 20000 in
theorem lf_x_isCell_1 (knowF : Nat → Int32) (y1 : Int32) (ab_now : NB knowF) (e2 : y1 = knowF 0) (b3 : 2 ≤ y1.toInt) (b4 : y1.toInt ≤ 6) : 0 ≤ y1.toInt ∧ y1.toInt < ((7 : Nat) : Int) := by
  have b_y1 := ia_b y1
  try simp only [ia_lt, ia_le, ia_eq, ia_m1, ia_0, ia_1, ne_eq, true_and, and_true, false_and, and_false, or_false, false_or, or_true, true_or, not_true_eq_false, not_false_eq_true] at *
  all_goals omega
set_option maxRecDepth 20000 in
theorem lf_x_isCell_2 (knowF : Nat → Int32) (y1 : Int32) (n5 : Nat) (ab_now : NB knowF) (e2 : y1 = knowF 0) (b3 : 2 ≤ y1.toInt) (b4 : y1.toInt ≤ 6) (h6 : n5 < 7) (e7 : y1 = nI n5) : 2 ≤ n5 := by
  have b_y1 := ia_b y1
  try have k_0 := ia_n n5 (by first | decide | omega)
  try simp only [ia_lt, ia_le, ia_eq, ia_m1, ia_0, ia_1, ne_eq, true_and, and_true, false_and, and_false, or_false, false_or, or_true, true_or, not_true_eq_false, not_false_eq_true] at *
  all_goals omega
set_option maxRecDepth 20000 in
theorem lf_x_isCell_3 (knowF : Nat → Int32) (y1 : Int32) (n5 : Nat) (ab_now : NB knowF) (e2 : y1 = knowF 0) (b3 : 2 ≤ y1.toInt) (b4 : y1.toInt ≤ 6) (h6 : n5 < 7) (e7 : y1 = nI n5) (f8 : 2 ≤ n5) : 1 ≤ n5 := by
  have b_y1 := ia_b y1
  try have k_0 := ia_n n5 (by first | decide | omega)
  try simp only [ia_lt, ia_le, ia_eq, ia_m1, ia_0, ia_1, ne_eq, true_and, and_true, false_and, and_false, or_false, false_or, or_true, true_or, not_true_eq_false, not_false_eq_true] at *
  all_goals omega
set_option maxRecDepth 20000 in
theorem lf_x_isCell_4 (knowF : Nat → Int32) (x : Int32) (y1 : Int32) (n5 : Nat) (y15 : Int32) (ab_now : NB knowF) (e2 : y1 = knowF 0) (b3 : 2 ≤ y1.toInt) (b4 : y1.toInt ≤ 6) (h6 : n5 < 7) (e7 : y1 = nI n5) (f8 : 2 ≤ n5) (t11 : (nI 0).toInt ≤ x.toInt) (t12 : x.toInt ≤ (nI (n5 - 1)).toInt) (e16 : y15 = knowF 1) (b17 : 2 ≤ y15.toInt) (b18 : y15.toInt ≤ 6) : 0 ≤ y15.toInt ∧ y15.toInt < ((7 : Nat) : Int) := by
  have b_x := ia_b x
  have b_y1 := ia_b y1
  have b_y15 := ia_b y15
  try have k_0 := ia_n n5 (by first | decide | omega)
  try have k_1 := ia_n 0 (by first | decide | omega)
  try have k_2 := ia_n (n5 - 1) (by first | decide | omega)
  try simp only [ia_lt, ia_le, ia_eq, ia_m1, ia_0, ia_1, ne_eq, true_and, and_true, false_and, and_false, or_false, false_or, or_true, true_or, not_true_eq_false, not_false_eq_true] at *
  all_goals omega
set_option maxRecDepth 20000 in
theorem lf_x_isCell_5 (knowF : Nat → Int32) (x : Int32) (y1 : Int32) (n5 : Nat) (y15 : Int32) (n19 : Nat) (ab_now : NB knowF) (e2 : y1 = knowF 0) (b3 : 2 ≤ y1.toInt) (b4 : y1.toInt ≤ 6) (h6 : n5 < 7) (e7 : y1 = nI n5) (f8 : 2 ≤ n5) (t11 : (nI 0).toInt ≤ x.toInt) (t12 : x.toInt ≤ (nI (n5 - 1)).toInt) (e16 : y15 = knowF 1) (b17 : 2 ≤ y15.toInt) (b18 : y15.toInt ≤ 6) (h20 : n19 < 7) (e21 : y15 = nI n19) : 2 ≤ n19 := by
  have b_x := ia_b x
  have b_y1 := ia_b y1
  have b_y15 := ia_b y15
  try have k_0 := ia_n n5 (by first | decide | omega)
  try have k_1 := ia_n 0 (by first | decide | omega)
  try have k_2 := ia_n (n5 - 1) (by first | decide | omega)
  try have k_3 := ia_n n19 (by first | decide | omega)
  try simp only [ia_lt, ia_le, ia_eq, ia_m1, ia_0, ia_1, ne_eq, true_and, and_true, false_and, and_false, or_false, false_or, or_true, true_or, not_true_eq_false, not_false_eq_true] at *
  all_goals omega
set_option maxRecDepth 20000 in
theorem lf_x_isCell_6 (knowF : Nat → Int32) (x : Int32) (y1 : Int32) (n5 : Nat) (y15 : Int32) (n19 : Nat) (ab_now : NB knowF) (e2 : y1 = knowF 0) (b3 : 2 ≤ y1.toInt) (b4 : y1.toInt ≤ 6) (h6 : n5 < 7) (e7 : y1 = nI n5) (f8 : 2 ≤ n5) (t11 : (nI 0).toInt ≤ x.toInt) (t12 : x.toInt ≤ (nI (n5 - 1)).toInt) (e16 : y15 = knowF 1) (b17 : 2 ≤ y15.toInt) (b18 : y15.toInt ≤ 6) (h20 : n19 < 7) (e21 : y15 = nI n19) (f22 : 2 ≤ n19) : 1 ≤ n19 := by
  have b_x := ia_b x
  have b_y1 := ia_b y1
  have b_y15 := ia_b y15
  try have k_0 := ia_n n5 (by first | decide | omega)
  try have k_1 := ia_n 0 (by first | decide | omega)
  try have k_2 := ia_n (n5 - 1) (by first | decide | omega)
  try have k_3 := ia_n n19 (by first | decide | omega)
  try simp only [ia_lt, ia_le, ia_eq, ia_m1, ia_0, ia_1, ne_eq, true_and, and_true, false_and, and_false, or_false, false_or, or_true, true_or, not_true_eq_false, not_false_eq_true] at *
  all_goals omega
set_option maxRecDepth 20000 in
theorem lf_x_isCell_7 (knowF : Nat → Int32) (x : Int32) (y : Int32) (y1 : Int32) (n5 : Nat) (y15 : Int32) (n19 : Nat) (ab_now : NB knowF) (e2 : y1 = knowF 0) (b3 : 2 ≤ y1.toInt) (b4 : y1.toInt ≤ 6) (h6 : n5 < 7) (e7 : y1 = nI n5) (f8 : 2 ≤ n5) (t11 : (nI 0).toInt ≤ x.toInt) (t12 : x.toInt ≤ (nI (n5 - 1)).toInt) (e16 : y15 = knowF 1) (b17 : 2 ≤ y15.toInt) (b18 : y15.toInt ≤ 6) (h20 : n19 < 7) (e21 : y15 = nI n19) (f22 : 2 ≤ n19) (t25 : (nI 0).toInt ≤ y.toInt) (t26 : y.toInt ≤ (nI (n19 - 1)).toInt) : ((nI 1) = nI 1 ∧ (0 ≤ x.toInt ∧ x.toInt < (knowF 0).toInt ∧ 0 ≤ y.toInt ∧ y.toInt < (knowF 1).toInt ∧ x.toInt ≤ 5 ∧ y.toInt ≤ 5)) ∨ ((nI 1) = nI 0 ∧ (¬ (0 ≤ x.toInt ∧ x.toInt < (knowF 0).toInt ∧ 0 ≤ y.toInt ∧ y.toInt < (knowF 1).toInt))) := by
  have b_x := ia_b x
  have b_y := ia_b y
  have b_y1 := ia_b y1
  have b_y15 := ia_b y15
  try have k_0 := ia_n n5 (by first | decide | omega)
  try have k_1 := ia_n 0 (by first | decide | omega)
  try have k_2 := ia_n (n5 - 1) (by first | decide | omega)
  try have k_3 := ia_n n19 (by first | decide | omega)
  try have k_4 := ia_n (n19 - 1) (by first | decide | omega)
  try have k_5 := ia_n 1 (by first | decide | omega)
  try simp only [ia_lt, ia_le, ia_eq, ia_m1, ia_0, ia_1, ne_eq, true_and, and_true, false_and, and_false, or_false, false_or, or_true, true_or, not_true_eq_false, not_false_eq_true] at *
  all_goals omega
set_option maxRecDepth 20000 in
theorem lf_x_isCell_8 (knowF : Nat → Int32) (x : Int32) (y : Int32) (y1 : Int32) (n5 : Nat) (y15 : Int32) (n19 : Nat) (ab_now : NB knowF) (e2 : y1 = knowF 0) (b3 : 2 ≤ y1.toInt) (b4 : y1.toInt ≤ 6) (h6 : n5 < 7) (e7 : y1 = nI n5) (f8 : 2 ≤ n5) (t11 : (nI 0).toInt ≤ x.toInt) (t12 : x.toInt ≤ (nI (n5 - 1)).toInt) (e16 : y15 = knowF 1) (b17 : 2 ≤ y15.toInt) (b18 : y15.toInt ≤ 6) (h20 : n19 < 7) (e21 : y15 = nI n19) (f22 : 2 ≤ n19) (t27 : ¬ ((nI 0).toInt ≤ y.toInt ∧ y.toInt ≤ (nI (n19 - 1)).toInt)) : ((nI 0) = nI 1 ∧ (0 ≤ x.toInt ∧ x.toInt < (knowF 0).toInt ∧ 0 ≤ y.toInt ∧ y.toInt < (knowF 1).toInt ∧ x.toInt ≤ 5 ∧ y.toInt ≤ 5)) ∨ ((nI 0) = nI 0 ∧ (¬ (0 ≤ x.toInt ∧ x.toInt < (knowF 0).toInt ∧ 0 ≤ y.toInt ∧ y.toInt < (knowF 1).toInt))) := by
  have b_x := ia_b x
  have b_y := ia_b y
  have b_y1 := ia_b y1
  have b_y15 := ia_b y15
  try have k_0 := ia_n n5 (by first | decide | omega)
  try have k_1 := ia_n 0 (by first | decide | omega)
  try have k_2 := ia_n (n5 - 1) (by first | decide | omega)
  try have k_3 := ia_n n19 (by first | decide | omega)
  try have k_4 := ia_n (n19 - 1) (by first | decide | omega)
  try have k_5 := ia_n 1 (by first | decide | omega)
  try simp only [ia_lt, ia_le, ia_eq, ia_m1, ia_0, ia_1, ne_eq, true_and, and_true, false_and, and_false, or_false, false_or, or_true, true_or, not_true_eq_false, not_false_eq_true] at *
  all_goals omega
set_option maxRecDepth 20000 in
theorem lf_x_isCell_9 (knowF : Nat → Int32) (x : Int32) (y : Int32) (y1 : Int32) (n5 : Nat) (ab_now : NB knowF) (e2 : y1 = knowF 0) (b3 : 2 ≤ y1.toInt) (b4 : y1.toInt ≤ 6) (h6 : n5 < 7) (e7 : y1 = nI n5) (f8 : 2 ≤ n5) (t13 : ¬ ((nI 0).toInt ≤ x.toInt ∧ x.toInt ≤ (nI (n5 - 1)).toInt)) : ((nI 0) = nI 1 ∧ (0 ≤ x.toInt ∧ x.toInt < (knowF 0).toInt ∧ 0 ≤ y.toInt ∧ y.toInt < (knowF 1).toInt ∧ x.toInt ≤ 5 ∧ y.toInt ≤ 5)) ∨ ((nI 0) = nI 0 ∧ (¬ (0 ≤ x.toInt ∧ x.toInt < (knowF 0).toInt ∧ 0 ≤ y.toInt ∧ y.toInt < (knowF 1).toInt))) := by
  have b_x := ia_b x
  have b_y := ia_b y
  have b_y1 := ia_b y1
  try have k_0 := ia_n n5 (by first | decide | omega)
  try have k_1 := ia_n 0 (by first | decide | omega)
  try have k_2 := ia_n (n5 - 1) (by first | decide | omega)
  try have k_3 := ia_n 1 (by first | decide | omega)
  try simp only [ia_lt, ia_le, ia_eq, ia_m1, ia_0, ia_1, ne_eq, true_and, and_true, false_and, and_false, or_false, false_or, or_true, true_or, not_true_eq_false, not_false_eq_true] at *
  all_goals omega
set_option maxHeartbeats 4000000 in
set_option maxRecDepth 100000 in
theorem c_x_isCell (l : Launch) (dC : Nat → ClassId) (dI : Nat → Nat → Nat) (ky : Nat → ClassId) (o : Nat) (kthrown : Int32) (ktape : Nat) (ktaped : Nat) (ksize : Nat) (klimit : Nat) (kto : Nat) (kfrom : Nat) (kkind : Int32) (knumber : Int32) (ksign : Int32) (kfault : Int32) (kplace : Int32) (kword : Int64) (ktold : Int32) (know : Nat) (kread : Nat) (kkept : Nat) (ksnaps : Nat) (kaside : Nat) (kname : Nat) (kreadName : Nat) (kkeptName : Nat) (kisKept : Nat) (konces : Nat) (ksnapMany : Nat) (khasCells : Int32) (kpoured : Nat) (kfar : Nat) (ksides : Nat) (ksideMany : Nat) (kwayDays : Int32) (khasWay : Int32) (klines : Nat) (kmet : Nat) (kmetMany : Nat) (ksunk : Nat) (ktrying : Nat) (ksunkMany : Nat) (ksending : Int32) (kfleets : Int32) (ktext : Nat) (ktexts : Nat) (kseed : Int32) (kline : Nat) (kwritten : Nat) (klineMany : Nat) (khasWritten : Int32) (knode : Nat) (knodes : Nat) (konesMany : Nat) (kwithin : Nat) (ktop : Nat) (knowF : Nat → Int32) (x : Int32) (y : Int32) (iv_ko_0 : ktaped ≤ 940) (iv_ko_1 : ksize ≤ 940) (iv_ko_2 : klimit ≤ 900) (iv_ko_3 : kto ≤ ksize) (iv_ko_4 : kfrom ≤ 940) (iv_ko_5 : ksnapMany ≤ 8) (iv_ko_6 : ksideMany ≤ 36) (iv_ko_7 : kmetMany ≤ 3) (iv_ko_8 : ksunkMany ≤ 36) (iv_ko_9 : ktexts ≤ 64) (iv_ko_10 : klineMany ≤ 40) (iv_ko_11 : knodes ≤ 60) (iv_ko_12 : konesMany ≤ 20) (iv_ko_13 : kwithin ≤ 8) (iv_ko_14 : ktop ≤ 59) (ab_now : NB knowF) : Met l yX12_isCell wsX12_isCell ({ frames := 1, cells := 0, slots := 0, locals := 22 }) (PcP dC dI ky [.ref o, .int x, .int y] [(o, .inr (12, [.int kthrown, .ref ktape, .int (nI ktaped), .int (nI ksize), .int (nI klimit), .int (nI kto), .int (nI kfrom), .int kkind, .int knumber, .int ksign, .int kfault, .int kplace, .long kword, .int ktold, .ref know, .ref kread, .ref kkept, .ref ksnaps, .ref kaside, .ref kname, .ref kreadName, .ref kkeptName, .ref kisKept, .ref konces, .int (nI ksnapMany), .int khasCells, .ref kpoured, .ref kfar, .ref ksides, .int (nI ksideMany), .int kwayDays, .int khasWay, .ref klines, .ref kmet, .int (nI kmetMany), .ref ksunk, .ref ktrying, .int (nI ksunkMany), .int ksending, .int kfleets, .ref ktext, .int (nI ktexts), .int kseed, .ref kline, .ref kwritten, .int (nI klineMany), .int khasWritten, .ref knode, .int (nI knodes), .int (nI konesMany), .int (nI kwithin), .int (nI ktop)])), (know, .inl (ky 0, 373, .inl knowF))]) (vp_Si (fun r : Int32 => (r = nI 1 ∧ (0 ≤ x.toInt ∧ x.toInt < (knowF 0).toInt ∧ 0 ≤ y.toInt ∧ y.toInt < (knowF 1).toInt ∧ x.toInt ≤ 5 ∧ y.toInt ≤ 5)) ∨ (r = nI 0 ∧ (¬ (0 ≤ x.toInt ∧ x.toInt < (knowF 0).toInt ∧ 0 ≤ y.toInt ∧ y.toInt < (knowF 1).toInt))))) 0 0 (fun _ => False) := by
  refine Met.ofW (cc := cX12_isCell) (maxL := 3) (ret := (some .boolean)) (by decide) rfl ?_
  intro p e s m args below meth c s₁ B hml hv
  obtain ⟨rfl, hP, hK⟩ := hv
  have hx := B.exec
  have hb := B.bytes
  have hr := B.returns
  have hts := atoms_spec (ws := wsX12_isCell) B.pre
  have hown : s.vm.findClass RX12 = some m.cls := findClass_of_methodNamed B.named
  have hlocks := B.notSynchronized
  have hin12 : ∀ w ∈ u_ws RX12 TX12 52, w ∈ wsX12_isCell := by decide +kernel
  have hl := lv_entry ([.ref o, .int x, .int y]) (n := 3) (Nat.le_of_ble_eq_true rfl)
  rw [lg_entry_eq]
  generalize (lg_sl ([.ref o, .int x, .int y]) ++ List.replicate (3 - (lg_sl ([.ref o, .int x, .int y])).length) Slot.unset).toArray = ls at hl ⊢
  have hl : lv_has ls 3 [(0, .ref o), (1, .int x), (2, .int y)] := hl
  refine q_name (fun Q hQ => ?_)
  generalize ([.ref o, .int x, .int y] : List Value).toArray = args at hts hQ ⊢
  refine lv_iload_n hx hb dX12_isCell_0 rfl (lv_at hl 1 rfl) ?_
  refine lv_iconst (v := nI 0) hx hb dX12_isCell_1 (by decide) ?_
  refine lv_aload_n hx hb dX12_isCell_2 rfl (lv_at hl 0 rfl) ?_
  refine va_get (D := (dC, dI)) (ci := 12) (v := .ref know) (C := RX12) (T := TX12) (N := 52) hx hb hts hin12 hown hK hP 0 rfl rfl 14 (by decide) (hts (.fieldLink RX12 98 "PorridgeSeaModel" "now" "[I") (List.mem_of_getElem? (i := 1) rfl)) (fun _ h9 => h9) rfl dX12_isCell_3 ?_
  refine lv_iconst (v := nI 0) hx hb dX12_isCell_6 (by decide) ?_
  obtain ⟨y1, e2⟩ : ∃ z9, z9 = knowF 0 := ⟨_, rfl⟩
  refine r_iald hx hb hK hP 1 rfl 0 (by decide) (by decide) y1 e2.symm dX12_isCell_7 ?_
  obtain ⟨b3, b4⟩ : (2 : Int) ≤ y1.toInt ∧ y1.toInt ≤ 6 := by rw [e2]; exact ld_NB_0 ab_now 0 (by decide) (by decide)
  refine lv_iconst (v := nI 1) hx hb dX12_isCell_8 (by decide) ?_
  obtain ⟨n5, h6, e7⟩ := nat_of y1 7 (by decide) (lf_x_isCell_1 knowF y1 ab_now e2 b3 b4)
  have f8 : 2 ≤ n5 := (lf_x_isCell_2 knowF y1 n5 ab_now e2 b3 b4 h6 e7)
  rw [e7]
  refine lv_isub hx hb dX12_isCell_9 ?_
  refine r_ti (nI (n5 - 1)) (pk_sub (lf_x_isCell_3 knowF y1 n5 ab_now e2 b3 b4 h6 e7 f8)) ?_
  refine vp_callSi (W.runS (As := [.int x, .int (nI 0), .int (nI (n5 - 1))]) (rest := []) ⟨hx, hb, hml, hown, hts⟩ (c_x_isIn l dC dI ky x (nI 0) (nI (n5 - 1))) (va_cwS 3 hts gX12_isCell_X12_isIn rfl rfl rfl (by decide +kernel) ⟨(Nat.le_of_ble_eq_true rfl), (Nat.le_of_ble_eq_true rfl)⟩) (pre_PS hK hP [] rfl) rfl rfl hl.1 rfl (lv_room (Nat.le_of_ble_eq_true rfl)) dX12_isCell_10 ⟨(Nat.le_of_ble_eq_true rfl), (Nat.le_of_ble_eq_true rfl)⟩) (fun r9 p10 => ?_)
  rcases p10 with ⟨rfl, t11, t12⟩ | ⟨rfl, t13⟩
  · refine lv_if_eq (tgt := 36) hx hb dX12_isCell_13 (by decide) (fun c14 => absurd c14 (by decide)) (fun c14 => ?_)
    refine lv_iload_n hx hb dX12_isCell_16 rfl (lv_at hl 2 rfl) ?_
    refine lv_iconst (v := nI 0) hx hb dX12_isCell_17 (by decide) ?_
    refine lv_aload_n hx hb dX12_isCell_18 rfl (lv_at hl 0 rfl) ?_
    refine va_get (D := (dC, dI)) (ci := 12) (v := .ref know) (C := RX12) (T := TX12) (N := 52) hx hb hts hin12 hown hK hP 0 rfl rfl 14 (by decide) (hts (.fieldLink RX12 98 "PorridgeSeaModel" "now" "[I") (List.mem_of_getElem? (i := 1) rfl)) (fun _ h9 => h9) rfl dX12_isCell_19 ?_
    refine lv_iconst (v := nI 1) hx hb dX12_isCell_22 (by decide) ?_
    obtain ⟨y15, e16⟩ : ∃ z9, z9 = knowF 1 := ⟨_, rfl⟩
    refine r_iald hx hb hK hP 1 rfl 1 (by decide) (by decide) y15 e16.symm dX12_isCell_23 ?_
    obtain ⟨b17, b18⟩ : (2 : Int) ≤ y15.toInt ∧ y15.toInt ≤ 6 := by rw [e16]; exact ld_NB_1 ab_now 1 (by decide) (by decide)
    refine lv_iconst (v := nI 1) hx hb dX12_isCell_24 (by decide) ?_
    obtain ⟨n19, h20, e21⟩ := nat_of y15 7 (by decide) (lf_x_isCell_4 knowF x y1 n5 y15 ab_now e2 b3 b4 h6 e7 f8 t11 t12 e16 b17 b18)
    have f22 : 2 ≤ n19 := (lf_x_isCell_5 knowF x y1 n5 y15 n19 ab_now e2 b3 b4 h6 e7 f8 t11 t12 e16 b17 b18 h20 e21)
    rw [e21]
    refine lv_isub hx hb dX12_isCell_25 ?_
    refine r_ti (nI (n19 - 1)) (pk_sub (lf_x_isCell_6 knowF x y1 n5 y15 n19 ab_now e2 b3 b4 h6 e7 f8 t11 t12 e16 b17 b18 h20 e21 f22)) ?_
    refine vp_callSi (W.runS (As := [.int y, .int (nI 0), .int (nI (n19 - 1))]) (rest := []) ⟨hx, hb, hml, hown, hts⟩ (c_x_isIn l dC dI ky y (nI 0) (nI (n19 - 1))) (va_cwS 3 hts gX12_isCell_X12_isIn rfl rfl rfl (by decide +kernel) ⟨(Nat.le_of_ble_eq_true rfl), (Nat.le_of_ble_eq_true rfl)⟩) (pre_PS hK hP [] rfl) rfl rfl hl.1 rfl (lv_room (Nat.le_of_ble_eq_true rfl)) dX12_isCell_26 ⟨(Nat.le_of_ble_eq_true rfl), (Nat.le_of_ble_eq_true rfl)⟩) (fun r23 p24 => ?_)
    rcases p24 with ⟨rfl, t25, t26⟩ | ⟨rfl, t27⟩
    · refine lv_if_eq (tgt := 36) hx hb dX12_isCell_29 (by decide) (fun c28 => absurd c28 (by decide)) (fun c28 => ?_)
      refine lv_iconst (v := nI 1) hx hb dX12_isCell_32 (by decide) ?_
      refine lv_goto (tgt := 37) hx hb dX12_isCell_33 (by decide) ?_
      rw [hQ]
      exact W.zret (v := nI 1) hx hb hr (by decide) (fun t9 ht9 hW9 => ⟨nI 1, rfl, (lf_x_isCell_7 knowF x y y1 n5 y15 n19 ab_now e2 b3 b4 h6 e7 f8 t11 t12 e16 b17 b18 h20 e21 f22 t25 t26), ht9⟩) (fun _ h => absurd h List.not_mem_nil) dX12_isCell_37
    · refine lv_if_eq (tgt := 36) hx hb dX12_isCell_29 (by decide) (fun c29 => ?_) (fun c29 => absurd (by decide) c29)
      refine lv_iconst (v := nI 0) hx hb dX12_isCell_36 (by decide) ?_
      rw [hQ]
      exact W.zret (v := nI 0) hx hb hr (by decide) (fun t9 ht9 hW9 => ⟨nI 0, rfl, (lf_x_isCell_8 knowF x y y1 n5 y15 n19 ab_now e2 b3 b4 h6 e7 f8 t11 t12 e16 b17 b18 h20 e21 f22 t27), ht9⟩) (fun _ h => absurd h List.not_mem_nil) dX12_isCell_37
  · refine lv_if_eq (tgt := 36) hx hb dX12_isCell_13 (by decide) (fun c30 => ?_) (fun c30 => absurd (by decide) c30)
    refine lv_iconst (v := nI 0) hx hb dX12_isCell_36 (by decide) ?_
    rw [hQ]
    exact W.zret (v := nI 0) hx hb hr (by decide) (fun t9 ht9 hW9 => ⟨nI 0, rfl, (lf_x_isCell_9 knowF x y y1 n5 ab_now e2 b3 b4 h6 e7 f8 t13), ht9⟩) (fun _ h => absurd h List.not_mem_nil) dX12_isCell_37
set_option maxRecDepth 20000 in
theorem lf_x_isInSea_1   : (nI 0) = nI 0 ∨ (nI 0) = nI 1 := by
  try have k_0 := ia_n 0 (by first | decide | omega)
  try have k_1 := ia_n 1 (by first | decide | omega)
  try simp only [ia_lt, ia_le, ia_eq, ia_m1, ia_0, ia_1, ne_eq, true_and, and_true, false_and, and_false, or_false, false_or, or_true, true_or, not_true_eq_false, not_false_eq_true] at *
  all_goals omega
set_option maxRecDepth 20000 in
theorem lf_x_isInSea_2   : (nI 0) = nI 0 ∨ (nI 0) = nI 1 := by
  try have k_0 := ia_n 0 (by first | decide | omega)
  try have k_1 := ia_n 1 (by first | decide | omega)
  try simp only [ia_lt, ia_le, ia_eq, ia_m1, ia_0, ia_1, ne_eq, true_and, and_true, false_and, and_false, or_false, false_or, or_true, true_or, not_true_eq_false, not_false_eq_true] at *
  all_goals omega
set_option maxRecDepth 20000 in
theorem lf_x_isInSea_3   : (nI 1) = nI 0 ∨ (nI 1) = nI 1 := by
  try have k_0 := ia_n 1 (by first | decide | omega)
  try have k_1 := ia_n 0 (by first | decide | omega)
  try simp only [ia_lt, ia_le, ia_eq, ia_m1, ia_0, ia_1, ne_eq, true_and, and_true, false_and, and_false, or_false, false_or, or_true, true_or, not_true_eq_false, not_false_eq_true] at *
  all_goals omega
set_option maxHeartbeats 4000000 in
set_option maxRecDepth 100000 in
theorem c_x_isInSea (l : Launch) (dC : Nat → ClassId) (dI : Nat → Nat → Nat) (ky : Nat → ClassId) (o : Nat) (kthrown : Int32) (ktape : Nat) (ktaped : Nat) (ksize : Nat) (klimit : Nat) (kto : Nat) (kfrom : Nat) (kkind : Int32) (knumber : Int32) (ksign : Int32) (kfault : Int32) (kplace : Int32) (kword : Int64) (ktold : Int32) (know : Nat) (kread : Nat) (kkept : Nat) (ksnaps : Nat) (kaside : Nat) (kname : Nat) (kreadName : Nat) (kkeptName : Nat) (kisKept : Nat) (konces : Nat) (ksnapMany : Nat) (khasCells : Int32) (kpoured : Nat) (kfar : Nat) (ksides : Nat) (ksideMany : Nat) (kwayDays : Int32) (khasWay : Int32) (klines : Nat) (kmet : Nat) (kmetMany : Nat) (ksunk : Nat) (ktrying : Nat) (ksunkMany : Nat) (ksending : Int32) (kfleets : Int32) (ktext : Nat) (ktexts : Nat) (kseed : Int32) (kline : Nat) (kwritten : Nat) (klineMany : Nat) (khasWritten : Int32) (knode : Nat) (knodes : Nat) (konesMany : Nat) (kwithin : Nat) (ktop : Nat) (knowF : Nat → Int32) (x : Int32) (iv_ko_0 : ktaped ≤ 940) (iv_ko_1 : ksize ≤ 940) (iv_ko_2 : klimit ≤ 900) (iv_ko_3 : kto ≤ ksize) (iv_ko_4 : kfrom ≤ 940) (iv_ko_5 : ksnapMany ≤ 8) (iv_ko_6 : ksideMany ≤ 36) (iv_ko_7 : kmetMany ≤ 3) (iv_ko_8 : ksunkMany ≤ 36) (iv_ko_9 : ktexts ≤ 64) (iv_ko_10 : klineMany ≤ 40) (iv_ko_11 : knodes ≤ 60) (iv_ko_12 : konesMany ≤ 20) (iv_ko_13 : kwithin ≤ 8) (iv_ko_14 : ktop ≤ 59) (ab_now : NB knowF) : Met l yX12_isInSea wsX12_isInSea ({ frames := 0, cells := 0, slots := 0, locals := 0 }) (PcP dC dI ky [.ref o, .int x] [(o, .inr (12, [.int kthrown, .ref ktape, .int (nI ktaped), .int (nI ksize), .int (nI klimit), .int (nI kto), .int (nI kfrom), .int kkind, .int knumber, .int ksign, .int kfault, .int kplace, .long kword, .int ktold, .ref know, .ref kread, .ref kkept, .ref ksnaps, .ref kaside, .ref kname, .ref kreadName, .ref kkeptName, .ref kisKept, .ref konces, .int (nI ksnapMany), .int khasCells, .ref kpoured, .ref kfar, .ref ksides, .int (nI ksideMany), .int kwayDays, .int khasWay, .ref klines, .ref kmet, .int (nI kmetMany), .ref ksunk, .ref ktrying, .int (nI ksunkMany), .int ksending, .int kfleets, .ref ktext, .int (nI ktexts), .int kseed, .ref kline, .ref kwritten, .int (nI klineMany), .int khasWritten, .ref knode, .int (nI knodes), .int (nI konesMany), .int (nI kwithin), .int (nI ktop)])), (know, .inl (ky 0, 373, .inl knowF))]) (vp_Si (fun r : Int32 => r = nI 0 ∨ r = nI 1)) 0 0 (fun _ => False) := by
  refine Met.ofW (cc := cX12_isInSea) (maxL := 2) (ret := (some .boolean)) (by decide) rfl ?_
  intro p e s m args below meth c s₁ B hml hv
  obtain ⟨rfl, hP, hK⟩ := hv
  have hx := B.exec
  have hb := B.bytes
  have hr := B.returns
  have hts := atoms_spec (ws := wsX12_isInSea) B.pre
  have hown : s.vm.findClass RX12 = some m.cls := findClass_of_methodNamed B.named
  have hlocks := B.notSynchronized
  have hin12 : ∀ w ∈ u_ws RX12 TX12 52, w ∈ wsX12_isInSea := by decide +kernel
  have hl := lv_entry ([.ref o, .int x]) (n := 2) (Nat.le_of_ble_eq_true rfl)
  rw [lg_entry_eq]
  generalize (lg_sl ([.ref o, .int x]) ++ List.replicate (2 - (lg_sl ([.ref o, .int x])).length) Slot.unset).toArray = ls at hl ⊢
  have hl : lv_has ls 2 [(0, .ref o), (1, .int x)] := hl
  refine q_name (fun Q hQ => ?_)
  generalize ([.ref o, .int x] : List Value).toArray = args at hts hQ ⊢
  refine lv_iload_n hx hb dX12_isInSea_0 rfl (lv_at hl 1 rfl) ?_
  refine lv_bipush (v := nI 6) hx hb dX12_isInSea_1 (by decide) ?_
  refine lv_irem hx hb dX12_isInSea_3 (by decide) ?_
  refine lv_topi (fun y1 e2 => ?_)
  refine lv_aload_n hx hb dX12_isInSea_4 rfl (lv_at hl 0 rfl) ?_
  refine va_get (D := (dC, dI)) (ci := 12) (v := .ref know) (C := RX12) (T := TX12) (N := 52) hx hb hts hin12 hown hK hP 0 rfl rfl 14 (by decide) (hts (.fieldLink RX12 98 "PorridgeSeaModel" "now" "[I") (List.mem_of_getElem? (i := 1) rfl)) (fun _ h9 => h9) rfl dX12_isInSea_5 ?_
  refine lv_iconst (v := nI 0) hx hb dX12_isInSea_8 (by decide) ?_
  obtain ⟨y3, e4⟩ : ∃ z9, z9 = knowF 0 := ⟨_, rfl⟩
  refine r_iald hx hb hK hP 1 rfl 0 (by decide) (by decide) y3 e4.symm dX12_isInSea_9 ?_
  obtain ⟨b5, b6⟩ : (2 : Int) ≤ y3.toInt ∧ y3.toInt ≤ 6 := by rw [e4]; exact ld_NB_0 ab_now 0 (by decide) (by decide)
  refine lv_icmp_ge (tgt := 30) hx hb dX12_isInSea_10 (by decide) (fun c7 => ?_) (fun c7 => ?_)
  · refine lv_iconst (v := nI 0) hx hb dX12_isInSea_30 (by decide) ?_
    rw [hQ]
    exact W.zret (v := nI 0) hx hb hr (by decide) (fun t9 ht9 hW9 => ⟨nI 0, rfl, (lf_x_isInSea_1), ht9⟩) (fun _ h => absurd h List.not_mem_nil) dX12_isInSea_31
  · refine lv_iload_n hx hb dX12_isInSea_13 rfl (lv_at hl 1 rfl) ?_
    refine lv_bipush (v := nI 6) hx hb dX12_isInSea_14 (by decide) ?_
    refine lv_idiv hx hb dX12_isInSea_16 (by decide) ?_
    refine lv_topi (fun y8 e9 => ?_)
    refine lv_aload_n hx hb dX12_isInSea_17 rfl (lv_at hl 0 rfl) ?_
    refine va_get (D := (dC, dI)) (ci := 12) (v := .ref know) (C := RX12) (T := TX12) (N := 52) hx hb hts hin12 hown hK hP 0 rfl rfl 14 (by decide) (hts (.fieldLink RX12 98 "PorridgeSeaModel" "now" "[I") (List.mem_of_getElem? (i := 1) rfl)) (fun _ h9 => h9) rfl dX12_isInSea_18 ?_
    refine lv_iconst (v := nI 1) hx hb dX12_isInSea_21 (by decide) ?_
    obtain ⟨y10, e11⟩ : ∃ z9, z9 = knowF 1 := ⟨_, rfl⟩
    refine r_iald hx hb hK hP 1 rfl 1 (by decide) (by decide) y10 e11.symm dX12_isInSea_22 ?_
    obtain ⟨b12, b13⟩ : (2 : Int) ≤ y10.toInt ∧ y10.toInt ≤ 6 := by rw [e11]; exact ld_NB_1 ab_now 1 (by decide) (by decide)
    refine lv_icmp_ge (tgt := 30) hx hb dX12_isInSea_23 (by decide) (fun c14 => ?_) (fun c14 => ?_)
    · refine lv_iconst (v := nI 0) hx hb dX12_isInSea_30 (by decide) ?_
      rw [hQ]
      exact W.zret (v := nI 0) hx hb hr (by decide) (fun t9 ht9 hW9 => ⟨nI 0, rfl, (lf_x_isInSea_2), ht9⟩) (fun _ h => absurd h List.not_mem_nil) dX12_isInSea_31
    · refine lv_iconst (v := nI 1) hx hb dX12_isInSea_26 (by decide) ?_
      refine lv_goto (tgt := 31) hx hb dX12_isInSea_27 (by decide) ?_
      rw [hQ]
      exact W.zret (v := nI 1) hx hb hr (by decide) (fun t9 ht9 hW9 => ⟨nI 1, rfl, (lf_x_isInSea_3), ht9⟩) (fun _ h => absurd h List.not_mem_nil) dX12_isInSea_31
set_option maxRecDepth 20000 in
theorem lf_x_isLump_1 (knowF : Nat → Int32) (y1 : Int32) (ab_now : NB knowF) (e2 : y1 = knowF 2) (b3 : 0 ≤ y1.toInt) (b4 : y1.toInt ≤ 6) : 0 ≤ y1.toInt ∧ y1.toInt < ((7 : Nat) : Int) := by
  have b_y1 := ia_b y1
  try simp only [ia_lt, ia_le, ia_eq, ia_m1, ia_0, ia_1, ne_eq, true_and, and_true, false_and, and_false, or_false, false_or, or_true, true_or, not_true_eq_false, not_false_eq_true] at *
  all_goals omega
set_option maxRecDepth 20000 in
theorem lf_x_isLump_2 (knowF : Nat → Int32) (x : Int32) (y1 : Int32) (n5 : Nat) (y8 : Int32) (ab_now : NB knowF) (e2 : y1 = knowF 2) (b3 : 0 ≤ y1.toInt) (b4 : y1.toInt ≤ 6) (h6 : n5 < 7) (e7 : y1 = nI n5) (f10 : y8.toInt = ((n5 : Nat) : Int) - ((1 : Nat) : Int)) (t13 : (nI 0).toInt ≤ x.toInt) (t14 : x.toInt ≤ y8.toInt) : ((nI 1) = nI 1 ∧ (0 ≤ x.toInt ∧ x.toInt < (knowF 2).toInt ∧ x.toInt ≤ 5)) ∨ ((nI 1) = nI 0 ∧ (¬ (0 ≤ x.toInt ∧ x.toInt < (knowF 2).toInt))) := by
  have b_x := ia_b x
  have b_y1 := ia_b y1
  have b_y8 := ia_b y8
  try have k_0 := ia_n n5 (by first | decide | omega)
  try have k_1 := ia_n 0 (by first | decide | omega)
  try have k_2 := ia_n 1 (by first | decide | omega)
  try simp only [ia_lt, ia_le, ia_eq, ia_m1, ia_0, ia_1, ne_eq, true_and, and_true, false_and, and_false, or_false, false_or, or_true, true_or, not_true_eq_false, not_false_eq_true] at *
  all_goals omega
set_option maxRecDepth 20000 in
theorem lf_x_isLump_3 (knowF : Nat → Int32) (x : Int32) (y1 : Int32) (n5 : Nat) (y8 : Int32) (ab_now : NB knowF) (e2 : y1 = knowF 2) (b3 : 0 ≤ y1.toInt) (b4 : y1.toInt ≤ 6) (h6 : n5 < 7) (e7 : y1 = nI n5) (f10 : y8.toInt = ((n5 : Nat) : Int) - ((1 : Nat) : Int)) (t15 : ¬ ((nI 0).toInt ≤ x.toInt ∧ x.toInt ≤ y8.toInt)) : ((nI 0) = nI 1 ∧ (0 ≤ x.toInt ∧ x.toInt < (knowF 2).toInt ∧ x.toInt ≤ 5)) ∨ ((nI 0) = nI 0 ∧ (¬ (0 ≤ x.toInt ∧ x.toInt < (knowF 2).toInt))) := by
  have b_x := ia_b x
  have b_y1 := ia_b y1
  have b_y8 := ia_b y8
  try have k_0 := ia_n n5 (by first | decide | omega)
  try have k_1 := ia_n 0 (by first | decide | omega)
  try have k_2 := ia_n 1 (by first | decide | omega)
  try simp only [ia_lt, ia_le, ia_eq, ia_m1, ia_0, ia_1, ne_eq, true_and, and_true, false_and, and_false, or_false, false_or, or_true, true_or, not_true_eq_false, not_false_eq_true] at *
  all_goals omega
set_option maxHeartbeats 4000000 in
set_option maxRecDepth 100000 in
theorem c_x_isLump (l : Launch) (dC : Nat → ClassId) (dI : Nat → Nat → Nat) (ky : Nat → ClassId) (o : Nat) (kthrown : Int32) (ktape : Nat) (ktaped : Nat) (ksize : Nat) (klimit : Nat) (kto : Nat) (kfrom : Nat) (kkind : Int32) (knumber : Int32) (ksign : Int32) (kfault : Int32) (kplace : Int32) (kword : Int64) (ktold : Int32) (know : Nat) (kread : Nat) (kkept : Nat) (ksnaps : Nat) (kaside : Nat) (kname : Nat) (kreadName : Nat) (kkeptName : Nat) (kisKept : Nat) (konces : Nat) (ksnapMany : Nat) (khasCells : Int32) (kpoured : Nat) (kfar : Nat) (ksides : Nat) (ksideMany : Nat) (kwayDays : Int32) (khasWay : Int32) (klines : Nat) (kmet : Nat) (kmetMany : Nat) (ksunk : Nat) (ktrying : Nat) (ksunkMany : Nat) (ksending : Int32) (kfleets : Int32) (ktext : Nat) (ktexts : Nat) (kseed : Int32) (kline : Nat) (kwritten : Nat) (klineMany : Nat) (khasWritten : Int32) (knode : Nat) (knodes : Nat) (konesMany : Nat) (kwithin : Nat) (ktop : Nat) (knowF : Nat → Int32) (x : Int32) (iv_ko_0 : ktaped ≤ 940) (iv_ko_1 : ksize ≤ 940) (iv_ko_2 : klimit ≤ 900) (iv_ko_3 : kto ≤ ksize) (iv_ko_4 : kfrom ≤ 940) (iv_ko_5 : ksnapMany ≤ 8) (iv_ko_6 : ksideMany ≤ 36) (iv_ko_7 : kmetMany ≤ 3) (iv_ko_8 : ksunkMany ≤ 36) (iv_ko_9 : ktexts ≤ 64) (iv_ko_10 : klineMany ≤ 40) (iv_ko_11 : knodes ≤ 60) (iv_ko_12 : konesMany ≤ 20) (iv_ko_13 : kwithin ≤ 8) (iv_ko_14 : ktop ≤ 59) (ab_now : NB knowF) : Met l yX12_isLump wsX12_isLump ({ frames := 1, cells := 0, slots := 0, locals := 22 }) (PcP dC dI ky [.ref o, .int x] [(o, .inr (12, [.int kthrown, .ref ktape, .int (nI ktaped), .int (nI ksize), .int (nI klimit), .int (nI kto), .int (nI kfrom), .int kkind, .int knumber, .int ksign, .int kfault, .int kplace, .long kword, .int ktold, .ref know, .ref kread, .ref kkept, .ref ksnaps, .ref kaside, .ref kname, .ref kreadName, .ref kkeptName, .ref kisKept, .ref konces, .int (nI ksnapMany), .int khasCells, .ref kpoured, .ref kfar, .ref ksides, .int (nI ksideMany), .int kwayDays, .int khasWay, .ref klines, .ref kmet, .int (nI kmetMany), .ref ksunk, .ref ktrying, .int (nI ksunkMany), .int ksending, .int kfleets, .ref ktext, .int (nI ktexts), .int kseed, .ref kline, .ref kwritten, .int (nI klineMany), .int khasWritten, .ref knode, .int (nI knodes), .int (nI konesMany), .int (nI kwithin), .int (nI ktop)])), (know, .inl (ky 0, 373, .inl knowF))]) (vp_Si (fun r : Int32 => (r = nI 1 ∧ (0 ≤ x.toInt ∧ x.toInt < (knowF 2).toInt ∧ x.toInt ≤ 5)) ∨ (r = nI 0 ∧ (¬ (0 ≤ x.toInt ∧ x.toInt < (knowF 2).toInt))))) 0 0 (fun _ => False) := by
  refine Met.ofW (cc := cX12_isLump) (maxL := 2) (ret := (some .boolean)) (by decide) rfl ?_
  intro p e s m args below meth c s₁ B hml hv
  obtain ⟨rfl, hP, hK⟩ := hv
  have hx := B.exec
  have hb := B.bytes
  have hr := B.returns
  have hts := atoms_spec (ws := wsX12_isLump) B.pre
  have hown : s.vm.findClass RX12 = some m.cls := findClass_of_methodNamed B.named
  have hlocks := B.notSynchronized
  have hin12 : ∀ w ∈ u_ws RX12 TX12 52, w ∈ wsX12_isLump := by decide +kernel
  have hl := lv_entry ([.ref o, .int x]) (n := 2) (Nat.le_of_ble_eq_true rfl)
  rw [lg_entry_eq]
  generalize (lg_sl ([.ref o, .int x]) ++ List.replicate (2 - (lg_sl ([.ref o, .int x])).length) Slot.unset).toArray = ls at hl ⊢
  have hl : lv_has ls 2 [(0, .ref o), (1, .int x)] := hl
  refine q_name (fun Q hQ => ?_)
  generalize ([.ref o, .int x] : List Value).toArray = args at hts hQ ⊢
  refine lv_iload_n hx hb dX12_isLump_0 rfl (lv_at hl 1 rfl) ?_
  refine lv_iconst (v := nI 0) hx hb dX12_isLump_1 (by decide) ?_
  refine lv_aload_n hx hb dX12_isLump_2 rfl (lv_at hl 0 rfl) ?_
  refine va_get (D := (dC, dI)) (ci := 12) (v := .ref know) (C := RX12) (T := TX12) (N := 52) hx hb hts hin12 hown hK hP 0 rfl rfl 14 (by decide) (hts (.fieldLink RX12 98 "PorridgeSeaModel" "now" "[I") (List.mem_of_getElem? (i := 1) rfl)) (fun _ h9 => h9) rfl dX12_isLump_3 ?_
  refine lv_iconst (v := nI 2) hx hb dX12_isLump_6 (by decide) ?_
  obtain ⟨y1, e2⟩ : ∃ z9, z9 = knowF 2 := ⟨_, rfl⟩
  refine r_iald hx hb hK hP 1 rfl 2 (by decide) (by decide) y1 e2.symm dX12_isLump_7 ?_
  obtain ⟨b3, b4⟩ : (0 : Int) ≤ y1.toInt ∧ y1.toInt ≤ 6 := by rw [e2]; exact ld_NB_2 ab_now 2 (by decide) (by decide)
  refine lv_iconst (v := nI 1) hx hb dX12_isLump_8 (by decide) ?_
  obtain ⟨n5, h6, e7⟩ := nat_of y1 7 (by decide) (lf_x_isLump_1 knowF y1 ab_now e2 b3 b4)
  rw [e7]
  refine lv_isub hx hb dX12_isLump_9 ?_
  refine lv_topi (fun y8 e9 => ?_)
  have f10 : y8.toInt = ((n5 : Nat) : Int) - ((1 : Nat) : Int) := by rw [e9]; exact ia_sub _ _ (by omega) (by omega)
  refine vp_callSi (W.runS (As := [.int x, .int (nI 0), .int y8]) (rest := []) ⟨hx, hb, hml, hown, hts⟩ (c_x_isIn l dC dI ky x (nI 0) y8) (va_cwS 3 hts gX12_isLump_X12_isIn rfl rfl rfl (by decide +kernel) ⟨(Nat.le_of_ble_eq_true rfl), (Nat.le_of_ble_eq_true rfl)⟩) (pre_PS hK hP [] rfl) rfl rfl hl.1 rfl (lv_room (Nat.le_of_ble_eq_true rfl)) dX12_isLump_10 ⟨(Nat.le_of_ble_eq_true rfl), (Nat.le_of_ble_eq_true rfl)⟩) (fun r11 p12 => ?_)
  rcases p12 with ⟨rfl, t13, t14⟩ | ⟨rfl, t15⟩
  · rw [hQ]
    exact W.zret (v := nI 1) hx hb hr (by decide) (fun t9 ht9 hW9 => ⟨nI 1, rfl, (lf_x_isLump_2 knowF x y1 n5 y8 ab_now e2 b3 b4 h6 e7 f10 t13 t14), ht9⟩) (fun _ h => absurd h List.not_mem_nil) dX12_isLump_13
  · rw [hQ]
    exact W.zret (v := nI 0) hx hb hr (by decide) (fun t9 ht9 hW9 => ⟨nI 0, rfl, (lf_x_isLump_3 knowF x y1 n5 y8 ab_now e2 b3 b4 h6 e7 f10 t15), ht9⟩) (fun _ h => absurd h List.not_mem_nil) dX12_isLump_13
set_option maxRecDepth 20000 in
theorem lf_x_isBoat_1 (knowF : Nat → Int32) (y1 : Int32) (ab_now : NB knowF) (e2 : y1 = knowF 3) (b3 : 0 ≤ y1.toInt) (b4 : y1.toInt ≤ 6) : 0 ≤ y1.toInt ∧ y1.toInt < ((7 : Nat) : Int) := by
  have b_y1 := ia_b y1
  try simp only [ia_lt, ia_le, ia_eq, ia_m1, ia_0, ia_1, ne_eq, true_and, and_true, false_and, and_false, or_false, false_or, or_true, true_or, not_true_eq_false, not_false_eq_true] at *
  all_goals omega
set_option maxRecDepth 20000 in
theorem lf_x_isBoat_2 (knowF : Nat → Int32) (x : Int32) (y1 : Int32) (n5 : Nat) (y8 : Int32) (ab_now : NB knowF) (e2 : y1 = knowF 3) (b3 : 0 ≤ y1.toInt) (b4 : y1.toInt ≤ 6) (h6 : n5 < 7) (e7 : y1 = nI n5) (f10 : y8.toInt = ((n5 : Nat) : Int) - ((1 : Nat) : Int)) (t13 : (nI 0).toInt ≤ x.toInt) (t14 : x.toInt ≤ y8.toInt) : ((nI 1) = nI 1 ∧ (0 ≤ x.toInt ∧ x.toInt < (knowF 3).toInt ∧ x.toInt ≤ 5)) ∨ ((nI 1) = nI 0 ∧ (¬ (0 ≤ x.toInt ∧ x.toInt < (knowF 3).toInt))) := by
  have b_x := ia_b x
  have b_y1 := ia_b y1
  have b_y8 := ia_b y8
  try have k_0 := ia_n n5 (by first | decide | omega)
  try have k_1 := ia_n 0 (by first | decide | omega)
  try have k_2 := ia_n 1 (by first | decide | omega)
  try simp only [ia_lt, ia_le, ia_eq, ia_m1, ia_0, ia_1, ne_eq, true_and, and_true, false_and, and_false, or_false, false_or, or_true, true_or, not_true_eq_false, not_false_eq_true] at *
  all_goals omega
set_option maxRecDepth 20000 in
theorem lf_x_isBoat_3 (knowF : Nat → Int32) (x : Int32) (y1 : Int32) (n5 : Nat) (y8 : Int32) (ab_now : NB knowF) (e2 : y1 = knowF 3) (b3 : 0 ≤ y1.toInt) (b4 : y1.toInt ≤ 6) (h6 : n5 < 7) (e7 : y1 = nI n5) (f10 : y8.toInt = ((n5 : Nat) : Int) - ((1 : Nat) : Int)) (t15 : ¬ ((nI 0).toInt ≤ x.toInt ∧ x.toInt ≤ y8.toInt)) : ((nI 0) = nI 1 ∧ (0 ≤ x.toInt ∧ x.toInt < (knowF 3).toInt ∧ x.toInt ≤ 5)) ∨ ((nI 0) = nI 0 ∧ (¬ (0 ≤ x.toInt ∧ x.toInt < (knowF 3).toInt))) := by
  have b_x := ia_b x
  have b_y1 := ia_b y1
  have b_y8 := ia_b y8
  try have k_0 := ia_n n5 (by first | decide | omega)
  try have k_1 := ia_n 0 (by first | decide | omega)
  try have k_2 := ia_n 1 (by first | decide | omega)
  try simp only [ia_lt, ia_le, ia_eq, ia_m1, ia_0, ia_1, ne_eq, true_and, and_true, false_and, and_false, or_false, false_or, or_true, true_or, not_true_eq_false, not_false_eq_true] at *
  all_goals omega
set_option maxHeartbeats 4000000 in
set_option maxRecDepth 100000 in
theorem c_x_isBoat (l : Launch) (dC : Nat → ClassId) (dI : Nat → Nat → Nat) (ky : Nat → ClassId) (o : Nat) (kthrown : Int32) (ktape : Nat) (ktaped : Nat) (ksize : Nat) (klimit : Nat) (kto : Nat) (kfrom : Nat) (kkind : Int32) (knumber : Int32) (ksign : Int32) (kfault : Int32) (kplace : Int32) (kword : Int64) (ktold : Int32) (know : Nat) (kread : Nat) (kkept : Nat) (ksnaps : Nat) (kaside : Nat) (kname : Nat) (kreadName : Nat) (kkeptName : Nat) (kisKept : Nat) (konces : Nat) (ksnapMany : Nat) (khasCells : Int32) (kpoured : Nat) (kfar : Nat) (ksides : Nat) (ksideMany : Nat) (kwayDays : Int32) (khasWay : Int32) (klines : Nat) (kmet : Nat) (kmetMany : Nat) (ksunk : Nat) (ktrying : Nat) (ksunkMany : Nat) (ksending : Int32) (kfleets : Int32) (ktext : Nat) (ktexts : Nat) (kseed : Int32) (kline : Nat) (kwritten : Nat) (klineMany : Nat) (khasWritten : Int32) (knode : Nat) (knodes : Nat) (konesMany : Nat) (kwithin : Nat) (ktop : Nat) (knowF : Nat → Int32) (x : Int32) (iv_ko_0 : ktaped ≤ 940) (iv_ko_1 : ksize ≤ 940) (iv_ko_2 : klimit ≤ 900) (iv_ko_3 : kto ≤ ksize) (iv_ko_4 : kfrom ≤ 940) (iv_ko_5 : ksnapMany ≤ 8) (iv_ko_6 : ksideMany ≤ 36) (iv_ko_7 : kmetMany ≤ 3) (iv_ko_8 : ksunkMany ≤ 36) (iv_ko_9 : ktexts ≤ 64) (iv_ko_10 : klineMany ≤ 40) (iv_ko_11 : knodes ≤ 60) (iv_ko_12 : konesMany ≤ 20) (iv_ko_13 : kwithin ≤ 8) (iv_ko_14 : ktop ≤ 59) (ab_now : NB knowF) : Met l yX12_isBoat wsX12_isBoat ({ frames := 1, cells := 0, slots := 0, locals := 22 }) (PcP dC dI ky [.ref o, .int x] [(o, .inr (12, [.int kthrown, .ref ktape, .int (nI ktaped), .int (nI ksize), .int (nI klimit), .int (nI kto), .int (nI kfrom), .int kkind, .int knumber, .int ksign, .int kfault, .int kplace, .long kword, .int ktold, .ref know, .ref kread, .ref kkept, .ref ksnaps, .ref kaside, .ref kname, .ref kreadName, .ref kkeptName, .ref kisKept, .ref konces, .int (nI ksnapMany), .int khasCells, .ref kpoured, .ref kfar, .ref ksides, .int (nI ksideMany), .int kwayDays, .int khasWay, .ref klines, .ref kmet, .int (nI kmetMany), .ref ksunk, .ref ktrying, .int (nI ksunkMany), .int ksending, .int kfleets, .ref ktext, .int (nI ktexts), .int kseed, .ref kline, .ref kwritten, .int (nI klineMany), .int khasWritten, .ref knode, .int (nI knodes), .int (nI konesMany), .int (nI kwithin), .int (nI ktop)])), (know, .inl (ky 0, 373, .inl knowF))]) (vp_Si (fun r : Int32 => (r = nI 1 ∧ (0 ≤ x.toInt ∧ x.toInt < (knowF 3).toInt ∧ x.toInt ≤ 5)) ∨ (r = nI 0 ∧ (¬ (0 ≤ x.toInt ∧ x.toInt < (knowF 3).toInt))))) 0 0 (fun _ => False) := by
  refine Met.ofW (cc := cX12_isBoat) (maxL := 2) (ret := (some .boolean)) (by decide) rfl ?_
  intro p e s m args below meth c s₁ B hml hv
  obtain ⟨rfl, hP, hK⟩ := hv
  have hx := B.exec
  have hb := B.bytes
  have hr := B.returns
  have hts := atoms_spec (ws := wsX12_isBoat) B.pre
  have hown : s.vm.findClass RX12 = some m.cls := findClass_of_methodNamed B.named
  have hlocks := B.notSynchronized
  have hin12 : ∀ w ∈ u_ws RX12 TX12 52, w ∈ wsX12_isBoat := by decide +kernel
  have hl := lv_entry ([.ref o, .int x]) (n := 2) (Nat.le_of_ble_eq_true rfl)
  rw [lg_entry_eq]
  generalize (lg_sl ([.ref o, .int x]) ++ List.replicate (2 - (lg_sl ([.ref o, .int x])).length) Slot.unset).toArray = ls at hl ⊢
  have hl : lv_has ls 2 [(0, .ref o), (1, .int x)] := hl
  refine q_name (fun Q hQ => ?_)
  generalize ([.ref o, .int x] : List Value).toArray = args at hts hQ ⊢
  refine lv_iload_n hx hb dX12_isBoat_0 rfl (lv_at hl 1 rfl) ?_
  refine lv_iconst (v := nI 0) hx hb dX12_isBoat_1 (by decide) ?_
  refine lv_aload_n hx hb dX12_isBoat_2 rfl (lv_at hl 0 rfl) ?_
  refine va_get (D := (dC, dI)) (ci := 12) (v := .ref know) (C := RX12) (T := TX12) (N := 52) hx hb hts hin12 hown hK hP 0 rfl rfl 14 (by decide) (hts (.fieldLink RX12 98 "PorridgeSeaModel" "now" "[I") (List.mem_of_getElem? (i := 1) rfl)) (fun _ h9 => h9) rfl dX12_isBoat_3 ?_
  refine lv_iconst (v := nI 3) hx hb dX12_isBoat_6 (by decide) ?_
  obtain ⟨y1, e2⟩ : ∃ z9, z9 = knowF 3 := ⟨_, rfl⟩
  refine r_iald hx hb hK hP 1 rfl 3 (by decide) (by decide) y1 e2.symm dX12_isBoat_7 ?_
  obtain ⟨b3, b4⟩ : (0 : Int) ≤ y1.toInt ∧ y1.toInt ≤ 6 := by rw [e2]; exact ld_NB_3 ab_now 3 (by decide) (by decide)
  refine lv_iconst (v := nI 1) hx hb dX12_isBoat_8 (by decide) ?_
  obtain ⟨n5, h6, e7⟩ := nat_of y1 7 (by decide) (lf_x_isBoat_1 knowF y1 ab_now e2 b3 b4)
  rw [e7]
  refine lv_isub hx hb dX12_isBoat_9 ?_
  refine lv_topi (fun y8 e9 => ?_)
  have f10 : y8.toInt = ((n5 : Nat) : Int) - ((1 : Nat) : Int) := by rw [e9]; exact ia_sub _ _ (by omega) (by omega)
  refine vp_callSi (W.runS (As := [.int x, .int (nI 0), .int y8]) (rest := []) ⟨hx, hb, hml, hown, hts⟩ (c_x_isIn l dC dI ky x (nI 0) y8) (va_cwS 3 hts gX12_isBoat_X12_isIn rfl rfl rfl (by decide +kernel) ⟨(Nat.le_of_ble_eq_true rfl), (Nat.le_of_ble_eq_true rfl)⟩) (pre_PS hK hP [] rfl) rfl rfl hl.1 rfl (lv_room (Nat.le_of_ble_eq_true rfl)) dX12_isBoat_10 ⟨(Nat.le_of_ble_eq_true rfl), (Nat.le_of_ble_eq_true rfl)⟩) (fun r11 p12 => ?_)
  rcases p12 with ⟨rfl, t13, t14⟩ | ⟨rfl, t15⟩
  · rw [hQ]
    exact W.zret (v := nI 1) hx hb hr (by decide) (fun t9 ht9 hW9 => ⟨nI 1, rfl, (lf_x_isBoat_2 knowF x y1 n5 y8 ab_now e2 b3 b4 h6 e7 f10 t13 t14), ht9⟩) (fun _ h => absurd h List.not_mem_nil) dX12_isBoat_13
  · rw [hQ]
    exact W.zret (v := nI 0) hx hb hr (by decide) (fun t9 ht9 hW9 => ⟨nI 0, rfl, (lf_x_isBoat_3 knowF x y1 n5 y8 ab_now e2 b3 b4 h6 e7 f10 t15), ht9⟩) (fun _ h => absurd h List.not_mem_nil) dX12_isBoat_13
set_option maxRecDepth 20000 in
theorem lf_x_isEaten_1 (x : Int32) (hb_x : 0 ≤ x.toInt ∧ x.toInt ≤ 5) : 0 ≤ x.toInt ∧ x.toInt < ((6 : Nat) : Int) := by
  have b_x := ia_b x
  try simp only [ia_lt, ia_le, ia_eq, ia_m1, ia_0, ia_1, ne_eq, true_and, and_true, false_and, and_false, or_false, false_or, or_true, true_or, not_true_eq_false, not_false_eq_true] at *
  all_goals omega
set_option maxRecDepth 20000 in
theorem lf_x_isEaten_2 (knowF : Nat → Int32) (x : Int32) (n1 : Nat) (y4 : Int32) (ab_now : NB knowF) (hb_x : 0 ≤ x.toInt ∧ x.toInt ≤ 5) (h2 : n1 < 6) (e3 : x = nI n1) (e5 : y4 = knowF (125 + n1)) : (125 + n1) < 373 := by
  have b_x := ia_b x
  have b_y4 := ia_b y4
  try have k_0 := ia_n n1 (by first | decide | omega)
  try simp only [ia_lt, ia_le, ia_eq, ia_m1, ia_0, ia_1, ne_eq, true_and, and_true, false_and, and_false, or_false, false_or, or_true, true_or, not_true_eq_false, not_false_eq_true] at *
  all_goals omega
set_option maxRecDepth 20000 in
theorem lf_x_isEaten_3   : (nI 0) = nI 0 ∨ (nI 0) = nI 1 := by
  try have k_0 := ia_n 0 (by first | decide | omega)
  try have k_1 := ia_n 1 (by first | decide | omega)
  try simp only [ia_lt, ia_le, ia_eq, ia_m1, ia_0, ia_1, ne_eq, true_and, and_true, false_and, and_false, or_false, false_or, or_true, true_or, not_true_eq_false, not_false_eq_true] at *
  all_goals omega
set_option maxRecDepth 20000 in
theorem lf_x_isEaten_4   : (nI 1) = nI 0 ∨ (nI 1) = nI 1 := by
  try have k_0 := ia_n 1 (by first | decide | omega)
  try have k_1 := ia_n 0 (by first | decide | omega)
  try simp only [ia_lt, ia_le, ia_eq, ia_m1, ia_0, ia_1, ne_eq, true_and, and_true, false_and, and_false, or_false, false_or, or_true, true_or, not_true_eq_false, not_false_eq_true] at *
  all_goals omega
set_option maxHeartbeats 4000000 in
set_option maxRecDepth 100000 in
theorem c_x_isEaten (l : Launch) (dC : Nat → ClassId) (dI : Nat → Nat → Nat) (ky : Nat → ClassId) (o : Nat) (kthrown : Int32) (ktape : Nat) (ktaped : Nat) (ksize : Nat) (klimit : Nat) (kto : Nat) (kfrom : Nat) (kkind : Int32) (knumber : Int32) (ksign : Int32) (kfault : Int32) (kplace : Int32) (kword : Int64) (ktold : Int32) (know : Nat) (kread : Nat) (kkept : Nat) (ksnaps : Nat) (kaside : Nat) (kname : Nat) (kreadName : Nat) (kkeptName : Nat) (kisKept : Nat) (konces : Nat) (ksnapMany : Nat) (khasCells : Int32) (kpoured : Nat) (kfar : Nat) (ksides : Nat) (ksideMany : Nat) (kwayDays : Int32) (khasWay : Int32) (klines : Nat) (kmet : Nat) (kmetMany : Nat) (ksunk : Nat) (ktrying : Nat) (ksunkMany : Nat) (ksending : Int32) (kfleets : Int32) (ktext : Nat) (ktexts : Nat) (kseed : Int32) (kline : Nat) (kwritten : Nat) (klineMany : Nat) (khasWritten : Int32) (knode : Nat) (knodes : Nat) (konesMany : Nat) (kwithin : Nat) (ktop : Nat) (knowF : Nat → Int32) (x : Int32) (iv_ko_0 : ktaped ≤ 940) (iv_ko_1 : ksize ≤ 940) (iv_ko_2 : klimit ≤ 900) (iv_ko_3 : kto ≤ ksize) (iv_ko_4 : kfrom ≤ 940) (iv_ko_5 : ksnapMany ≤ 8) (iv_ko_6 : ksideMany ≤ 36) (iv_ko_7 : kmetMany ≤ 3) (iv_ko_8 : ksunkMany ≤ 36) (iv_ko_9 : ktexts ≤ 64) (iv_ko_10 : klineMany ≤ 40) (iv_ko_11 : knodes ≤ 60) (iv_ko_12 : konesMany ≤ 20) (iv_ko_13 : kwithin ≤ 8) (iv_ko_14 : ktop ≤ 59) (ab_now : NB knowF) (hb_x : 0 ≤ x.toInt ∧ x.toInt ≤ 5) : Met l yX12_isEaten wsX12_isEaten ({ frames := 0, cells := 0, slots := 0, locals := 0 }) (PcP dC dI ky [.ref o, .int x] [(o, .inr (12, [.int kthrown, .ref ktape, .int (nI ktaped), .int (nI ksize), .int (nI klimit), .int (nI kto), .int (nI kfrom), .int kkind, .int knumber, .int ksign, .int kfault, .int kplace, .long kword, .int ktold, .ref know, .ref kread, .ref kkept, .ref ksnaps, .ref kaside, .ref kname, .ref kreadName, .ref kkeptName, .ref kisKept, .ref konces, .int (nI ksnapMany), .int khasCells, .ref kpoured, .ref kfar, .ref ksides, .int (nI ksideMany), .int kwayDays, .int khasWay, .ref klines, .ref kmet, .int (nI kmetMany), .ref ksunk, .ref ktrying, .int (nI ksunkMany), .int ksending, .int kfleets, .ref ktext, .int (nI ktexts), .int kseed, .ref kline, .ref kwritten, .int (nI klineMany), .int khasWritten, .ref knode, .int (nI knodes), .int (nI konesMany), .int (nI kwithin), .int (nI ktop)])), (know, .inl (ky 0, 373, .inl knowF))]) (vp_Si (fun r : Int32 => r = nI 0 ∨ r = nI 1)) 0 0 (fun _ => False) := by
  refine Met.ofW (cc := cX12_isEaten) (maxL := 2) (ret := (some .boolean)) (by decide) rfl ?_
  intro p e s m args below meth c s₁ B hml hv
  obtain ⟨rfl, hP, hK⟩ := hv
  have hx := B.exec
  have hb := B.bytes
  have hr := B.returns
  have hts := atoms_spec (ws := wsX12_isEaten) B.pre
  have hown : s.vm.findClass RX12 = some m.cls := findClass_of_methodNamed B.named
  have hlocks := B.notSynchronized
  have hin12 : ∀ w ∈ u_ws RX12 TX12 52, w ∈ wsX12_isEaten := by decide +kernel
  have hl := lv_entry ([.ref o, .int x]) (n := 2) (Nat.le_of_ble_eq_true rfl)
  rw [lg_entry_eq]
  generalize (lg_sl ([.ref o, .int x]) ++ List.replicate (2 - (lg_sl ([.ref o, .int x])).length) Slot.unset).toArray = ls at hl ⊢
  have hl : lv_has ls 2 [(0, .ref o), (1, .int x)] := hl
  refine q_name (fun Q hQ => ?_)
  generalize ([.ref o, .int x] : List Value).toArray = args at hts hQ ⊢
  refine lv_aload_n hx hb dX12_isEaten_0 rfl (lv_at hl 0 rfl) ?_
  refine va_get (D := (dC, dI)) (ci := 12) (v := .ref know) (C := RX12) (T := TX12) (N := 52) hx hb hts hin12 hown hK hP 0 rfl rfl 14 (by decide) (hts (.fieldLink RX12 98 "PorridgeSeaModel" "now" "[I") (List.mem_of_getElem? (i := 1) rfl)) (fun _ h9 => h9) rfl dX12_isEaten_1 ?_
  refine lv_bipush (v := nI 125) hx hb dX12_isEaten_4 (by decide) ?_
  refine lv_iload_n hx hb dX12_isEaten_6 rfl (lv_at hl 1 rfl) ?_
  obtain ⟨n1, h2, e3⟩ := nat_of x 6 (by decide) (lf_x_isEaten_1 x hb_x)
  rw [e3]
  refine lv_iadd hx hb dX12_isEaten_7 ?_
  refine r_ti (nI (125 + n1)) (nI_add _ _) ?_
  obtain ⟨y4, e5⟩ : ∃ z9, z9 = knowF (125 + n1) := ⟨_, rfl⟩
  refine r_iald hx hb hK hP 1 rfl (125 + n1) (lf_x_isEaten_2 knowF x n1 y4 ab_now hb_x h2 e3 e5) (by decide) y4 e5.symm dX12_isEaten_8 ?_
  refine lv_iconst (v := nI 3) hx hb dX12_isEaten_9 (by decide) ?_
  refine lv_icmp_ne (tgt := 17) hx hb dX12_isEaten_10 (by decide) (fun c6 => ?_) (fun c6 => ?_)
  · refine lv_iconst (v := nI 0) hx hb dX12_isEaten_17 (by decide) ?_
    rw [hQ]
    exact W.zret (v := nI 0) hx hb hr (by decide) (fun t9 ht9 hW9 => ⟨nI 0, rfl, (lf_x_isEaten_3), ht9⟩) (fun _ h => absurd h List.not_mem_nil) dX12_isEaten_18
  · refine lv_iconst (v := nI 1) hx hb dX12_isEaten_13 (by decide) ?_
    refine lv_goto (tgt := 18) hx hb dX12_isEaten_14 (by decide) ?_
    rw [hQ]
    exact W.zret (v := nI 1) hx hb hr (by decide) (fun t9 ht9 hW9 => ⟨nI 1, rfl, (lf_x_isEaten_4), ht9⟩) (fun _ h => absurd h List.not_mem_nil) dX12_isEaten_18
set_option maxRecDepth 20000 in
theorem lf_x_hasSkin_1   : (nI 0) = nI 0 ∨ (nI 0) = nI 1 := by
  try have k_0 := ia_n 0 (by first | decide | omega)
  try have k_1 := ia_n 1 (by first | decide | omega)
  try simp only [ia_lt, ia_le, ia_eq, ia_m1, ia_0, ia_1, ne_eq, true_and, and_true, false_and, and_false, or_false, false_or, or_true, true_or, not_true_eq_false, not_false_eq_true] at *
  all_goals omega
set_option maxRecDepth 20000 in
theorem lf_x_hasSkin_2   : (nI 1) = nI 0 ∨ (nI 1) = nI 1 := by
  try have k_0 := ia_n 1 (by first | decide | omega)
  try have k_1 := ia_n 0 (by first | decide | omega)
  try simp only [ia_lt, ia_le, ia_eq, ia_m1, ia_0, ia_1, ne_eq, true_and, and_true, false_and, and_false, or_false, false_or, or_true, true_or, not_true_eq_false, not_false_eq_true] at *
  all_goals omega
set_option maxHeartbeats 4000000 in
set_option maxRecDepth 100000 in
theorem c_x_hasSkin (l : Launch) (dC : Nat → ClassId) (dI : Nat → Nat → Nat) (ky : Nat → ClassId) (o : Nat) (kthrown : Int32) (ktape : Nat) (ktaped : Nat) (ksize : Nat) (klimit : Nat) (kto : Nat) (kfrom : Nat) (kkind : Int32) (knumber : Int32) (ksign : Int32) (kfault : Int32) (kplace : Int32) (kword : Int64) (ktold : Int32) (know : Nat) (kread : Nat) (kkept : Nat) (ksnaps : Nat) (kaside : Nat) (kname : Nat) (kreadName : Nat) (kkeptName : Nat) (kisKept : Nat) (konces : Nat) (ksnapMany : Nat) (khasCells : Int32) (kpoured : Nat) (kfar : Nat) (ksides : Nat) (ksideMany : Nat) (kwayDays : Int32) (khasWay : Int32) (klines : Nat) (kmet : Nat) (kmetMany : Nat) (ksunk : Nat) (ktrying : Nat) (ksunkMany : Nat) (ksending : Int32) (kfleets : Int32) (ktext : Nat) (ktexts : Nat) (kseed : Int32) (kline : Nat) (kwritten : Nat) (klineMany : Nat) (khasWritten : Int32) (knode : Nat) (knodes : Nat) (konesMany : Nat) (kwithin : Nat) (ktop : Nat) (knowF : Nat → Int32) (iv_ko_0 : ktaped ≤ 940) (iv_ko_1 : ksize ≤ 940) (iv_ko_2 : klimit ≤ 900) (iv_ko_3 : kto ≤ ksize) (iv_ko_4 : kfrom ≤ 940) (iv_ko_5 : ksnapMany ≤ 8) (iv_ko_6 : ksideMany ≤ 36) (iv_ko_7 : kmetMany ≤ 3) (iv_ko_8 : ksunkMany ≤ 36) (iv_ko_9 : ktexts ≤ 64) (iv_ko_10 : klineMany ≤ 40) (iv_ko_11 : knodes ≤ 60) (iv_ko_12 : konesMany ≤ 20) (iv_ko_13 : kwithin ≤ 8) (iv_ko_14 : ktop ≤ 59) (ab_now : NB knowF) : Met l yX12_hasSkin wsX12_hasSkin ({ frames := 0, cells := 0, slots := 0, locals := 0 }) (PcP dC dI ky [.ref o] [(o, .inr (12, [.int kthrown, .ref ktape, .int (nI ktaped), .int (nI ksize), .int (nI klimit), .int (nI kto), .int (nI kfrom), .int kkind, .int knumber, .int ksign, .int kfault, .int kplace, .long kword, .int ktold, .ref know, .ref kread, .ref kkept, .ref ksnaps, .ref kaside, .ref kname, .ref kreadName, .ref kkeptName, .ref kisKept, .ref konces, .int (nI ksnapMany), .int khasCells, .ref kpoured, .ref kfar, .ref ksides, .int (nI ksideMany), .int kwayDays, .int khasWay, .ref klines, .ref kmet, .int (nI kmetMany), .ref ksunk, .ref ktrying, .int (nI ksunkMany), .int ksending, .int kfleets, .ref ktext, .int (nI ktexts), .int kseed, .ref kline, .ref kwritten, .int (nI klineMany), .int khasWritten, .ref knode, .int (nI knodes), .int (nI konesMany), .int (nI kwithin), .int (nI ktop)])), (know, .inl (ky 0, 373, .inl knowF))]) (vp_Si (fun r : Int32 => r = nI 0 ∨ r = nI 1)) 0 0 (fun _ => False) := by
  refine Met.ofW (cc := cX12_hasSkin) (maxL := 1) (ret := (some .boolean)) (by decide) rfl ?_
  intro p e s m args below meth c s₁ B hml hv
  obtain ⟨rfl, hP, hK⟩ := hv
  have hx := B.exec
  have hb := B.bytes
  have hr := B.returns
  have hts := atoms_spec (ws := wsX12_hasSkin) B.pre
  have hown : s.vm.findClass RX12 = some m.cls := findClass_of_methodNamed B.named
  have hlocks := B.notSynchronized
  have hin12 : ∀ w ∈ u_ws RX12 TX12 52, w ∈ wsX12_hasSkin := by decide +kernel
  have hl := lv_entry ([.ref o]) (n := 1) (Nat.le_of_ble_eq_true rfl)
  rw [lg_entry_eq]
  generalize (lg_sl ([.ref o]) ++ List.replicate (1 - (lg_sl ([.ref o])).length) Slot.unset).toArray = ls at hl ⊢
  have hl : lv_has ls 1 [(0, .ref o)] := hl
  refine q_name (fun Q hQ => ?_)
  generalize ([.ref o] : List Value).toArray = args at hts hQ ⊢
  refine lv_aload_n hx hb dX12_hasSkin_0 rfl (lv_at hl 0 rfl) ?_
  refine va_get (D := (dC, dI)) (ci := 12) (v := .ref know) (C := RX12) (T := TX12) (N := 52) hx hb hts hin12 hown hK hP 0 rfl rfl 14 (by decide) (hts (.fieldLink RX12 98 "PorridgeSeaModel" "now" "[I") (List.mem_of_getElem? (i := 1) rfl)) (fun _ h9 => h9) rfl dX12_hasSkin_1 ?_
  refine lv_bipush (v := nI 68) hx hb dX12_hasSkin_4 (by decide) ?_
  obtain ⟨y1, e2⟩ : ∃ z9, z9 = knowF 68 := ⟨_, rfl⟩
  refine r_iald hx hb hK hP 1 rfl 68 (by decide) (by decide) y1 e2.symm dX12_hasSkin_6 ?_
  refine lv_aload_n hx hb dX12_hasSkin_7 rfl (lv_at hl 0 rfl) ?_
  refine va_get (D := (dC, dI)) (ci := 12) (v := .ref know) (C := RX12) (T := TX12) (N := 52) hx hb hts hin12 hown hK hP 0 rfl rfl 14 (by decide) (hts (.fieldLink RX12 98 "PorridgeSeaModel" "now" "[I") (List.mem_of_getElem? (i := 1) rfl)) (fun _ h9 => h9) rfl dX12_hasSkin_8 ?_
  refine lv_bipush (v := nI 6) hx hb dX12_hasSkin_11 (by decide) ?_
  obtain ⟨y3, e4⟩ : ∃ z9, z9 = knowF 6 := ⟨_, rfl⟩
  refine r_iald hx hb hK hP 1 rfl 6 (by decide) (by decide) y3 e4.symm dX12_hasSkin_13 ?_
  refine lv_icmp_gt (tgt := 21) hx hb dX12_hasSkin_14 (by decide) (fun c5 => ?_) (fun c5 => ?_)
  · refine lv_iconst (v := nI 0) hx hb dX12_hasSkin_21 (by decide) ?_
    rw [hQ]
    exact W.zret (v := nI 0) hx hb hr (by decide) (fun t9 ht9 hW9 => ⟨nI 0, rfl, (lf_x_hasSkin_1), ht9⟩) (fun _ h => absurd h List.not_mem_nil) dX12_hasSkin_22
  · refine lv_iconst (v := nI 1) hx hb dX12_hasSkin_17 (by decide) ?_
    refine lv_goto (tgt := 22) hx hb dX12_hasSkin_18 (by decide) ?_
    rw [hQ]
    exact W.zret (v := nI 1) hx hb hr (by decide) (fun t9 ht9 hW9 => ⟨nI 1, rfl, (lf_x_hasSkin_2), ht9⟩) (fun _ h => absurd h List.not_mem_nil) dX12_hasSkin_22
set_option maxRecDepth 20000 in
theorem lf_x_lumpIn_1 (knowF : Nat → Int32) (k5 : Nat) (n8 : Nat) (y11 : Int32) (y16 : Int32) (ab_now : NB knowF) (j6 : k5 ≤ 6) (hm10 : 6 - k5 < n8 + 1) (e12 : y11 = knowF 2) (b13 : 0 ≤ y11.toInt) (b14 : y11.toInt ≤ 6) (c15 : ¬ y11 ≤ nI k5) (e17 : y16 = knowF (107 + k5)) : (107 + k5) < 373 := by
  have b_y11 := ia_b y11
  have b_y16 := ia_b y16
  try have k_0 := ia_n k5 (by first | decide | omega)
  try simp only [ia_lt, ia_le, ia_eq, ia_m1, ia_0, ia_1, ne_eq, true_and, and_true, false_and, and_false, or_false, false_or, or_true, true_or, not_true_eq_false, not_false_eq_true] at *
  all_goals omega
set_option maxRecDepth 20000 in
theorem lf_x_lumpIn_2 (knowF : Nat → Int32) (k5 : Nat) (n8 : Nat) (y11 : Int32) (y16 : Int32) (ab_now : NB knowF) (j6 : k5 ≤ 6) (hm10 : 6 - k5 < n8 + 1) (e12 : y11 = knowF 2) (b13 : 0 ≤ y11.toInt) (b14 : y11.toInt ≤ 6) (c15 : ¬ y11 ≤ nI k5) (e17 : y16 = knowF (107 + k5)) : 107 ≤ (107 + k5) := by
  have b_y11 := ia_b y11
  have b_y16 := ia_b y16
  try have k_0 := ia_n k5 (by first | decide | omega)
  try simp only [ia_lt, ia_le, ia_eq, ia_m1, ia_0, ia_1, ne_eq, true_and, and_true, false_and, and_false, or_false, false_or, or_true, true_or, not_true_eq_false, not_false_eq_true] at *
  all_goals omega
set_option maxRecDepth 20000 in
theorem lf_x_lumpIn_3 (knowF : Nat → Int32) (k5 : Nat) (n8 : Nat) (y11 : Int32) (y16 : Int32) (ab_now : NB knowF) (j6 : k5 ≤ 6) (hm10 : 6 - k5 < n8 + 1) (e12 : y11 = knowF 2) (b13 : 0 ≤ y11.toInt) (b14 : y11.toInt ≤ 6) (c15 : ¬ y11 ≤ nI k5) (e17 : y16 = knowF (107 + k5)) : (107 + k5) < 119 := by
  have b_y11 := ia_b y11
  have b_y16 := ia_b y16
  try have k_0 := ia_n k5 (by first | decide | omega)
  try simp only [ia_lt, ia_le, ia_eq, ia_m1, ia_0, ia_1, ne_eq, true_and, and_true, false_and, and_false, or_false, false_or, or_true, true_or, not_true_eq_false, not_false_eq_true] at *
  all_goals omega
set_option maxRecDepth 20000 in
theorem lf_x_lumpIn_4 (knowF : Nat → Int32) (x : Int32) (k5 : Nat) (n8 : Nat) (y11 : Int32) (y16 : Int32) (ab_now : NB knowF) (j6 : k5 ≤ 6) (hm10 : 6 - k5 < n8 + 1) (e12 : y11 = knowF 2) (b13 : 0 ≤ y11.toInt) (b14 : y11.toInt ≤ 6) (c15 : ¬ y11 ≤ nI k5) (e17 : y16 = knowF (107 + k5)) (b18 : 0 ≤ y16.toInt) (b19 : y16.toInt ≤ 35) (c20 : y16 ≠ x) : (k5 + 1) ≤ 6 := by
  have b_x := ia_b x
  have b_y11 := ia_b y11
  have b_y16 := ia_b y16
  try have k_0 := ia_n k5 (by first | decide | omega)
  try simp only [ia_lt, ia_le, ia_eq, ia_m1, ia_0, ia_1, ne_eq, true_and, and_true, false_and, and_false, or_false, false_or, or_true, true_or, not_true_eq_false, not_false_eq_true] at *
  all_goals omega
set_option maxRecDepth 20000 in
theorem lf_x_lumpIn_5 (knowF : Nat → Int32) (x : Int32) (k5 : Nat) (n8 : Nat) (y11 : Int32) (y16 : Int32) (ab_now : NB knowF) (j6 : k5 ≤ 6) (hm10 : 6 - k5 < n8 + 1) (e12 : y11 = knowF 2) (b13 : 0 ≤ y11.toInt) (b14 : y11.toInt ≤ 6) (c15 : ¬ y11 ≤ nI k5) (e17 : y16 = knowF (107 + k5)) (b18 : 0 ≤ y16.toInt) (b19 : y16.toInt ≤ 35) (c20 : y16 ≠ x) : 6 - (k5 + 1) < n8 := by
  have b_x := ia_b x
  have b_y11 := ia_b y11
  have b_y16 := ia_b y16
  try have k_0 := ia_n k5 (by first | decide | omega)
  try simp only [ia_lt, ia_le, ia_eq, ia_m1, ia_0, ia_1, ne_eq, true_and, and_true, false_and, and_false, or_false, false_or, or_true, true_or, not_true_eq_false, not_false_eq_true] at *
  all_goals omega
set_option maxRecDepth 20000 in
theorem lf_x_lumpIn_6   : 0 ≤ 6 := by
  try simp only [ia_lt, ia_le, ia_eq, ia_m1, ia_0, ia_1, ne_eq, true_and, and_true, false_and, and_false, or_false, false_or, or_true, true_or, not_true_eq_false, not_false_eq_true] at *
  all_goals omega
set_option maxHeartbeats 4000000 in
set_option maxRecDepth 100000 in
theorem c_x_lumpIn (l : Launch) (dC : Nat → ClassId) (dI : Nat → Nat → Nat) (ky : Nat → ClassId) (o : Nat) (kthrown : Int32) (ktape : Nat) (ktaped : Nat) (ksize : Nat) (klimit : Nat) (kto : Nat) (kfrom : Nat) (kkind : Int32) (knumber : Int32) (ksign : Int32) (kfault : Int32) (kplace : Int32) (kword : Int64) (ktold : Int32) (know : Nat) (kread : Nat) (kkept : Nat) (ksnaps : Nat) (kaside : Nat) (kname : Nat) (kreadName : Nat) (kkeptName : Nat) (kisKept : Nat) (konces : Nat) (ksnapMany : Nat) (khasCells : Int32) (kpoured : Nat) (kfar : Nat) (ksides : Nat) (ksideMany : Nat) (kwayDays : Int32) (khasWay : Int32) (klines : Nat) (kmet : Nat) (kmetMany : Nat) (ksunk : Nat) (ktrying : Nat) (ksunkMany : Nat) (ksending : Int32) (kfleets : Int32) (ktext : Nat) (ktexts : Nat) (kseed : Int32) (kline : Nat) (kwritten : Nat) (klineMany : Nat) (khasWritten : Int32) (knode : Nat) (knodes : Nat) (konesMany : Nat) (kwithin : Nat) (ktop : Nat) (knowF : Nat → Int32) (x : Int32) (iv_ko_0 : ktaped ≤ 940) (iv_ko_1 : ksize ≤ 940) (iv_ko_2 : klimit ≤ 900) (iv_ko_3 : kto ≤ ksize) (iv_ko_4 : kfrom ≤ 940) (iv_ko_5 : ksnapMany ≤ 8) (iv_ko_6 : ksideMany ≤ 36) (iv_ko_7 : kmetMany ≤ 3) (iv_ko_8 : ksunkMany ≤ 36) (iv_ko_9 : ktexts ≤ 64) (iv_ko_10 : klineMany ≤ 40) (iv_ko_11 : knodes ≤ 60) (iv_ko_12 : konesMany ≤ 20) (iv_ko_13 : kwithin ≤ 8) (iv_ko_14 : ktop ≤ 59) (ab_now : NB knowF) : Met l yX12_lumpIn wsX12_lumpIn ({ frames := 0, cells := 0, slots := 0, locals := 0 }) (PcP dC dI ky [.ref o, .int x] [(o, .inr (12, [.int kthrown, .ref ktape, .int (nI ktaped), .int (nI ksize), .int (nI klimit), .int (nI kto), .int (nI kfrom), .int kkind, .int knumber, .int ksign, .int kfault, .int kplace, .long kword, .int ktold, .ref know, .ref kread, .ref kkept, .ref ksnaps, .ref kaside, .ref kname, .ref kreadName, .ref kkeptName, .ref kisKept, .ref konces, .int (nI ksnapMany), .int khasCells, .ref kpoured, .ref kfar, .ref ksides, .int (nI ksideMany), .int kwayDays, .int khasWay, .ref klines, .ref kmet, .int (nI kmetMany), .ref ksunk, .ref ktrying, .int (nI ksunkMany), .int ksending, .int kfleets, .ref ktext, .int (nI ktexts), .int kseed, .ref kline, .ref kwritten, .int (nI klineMany), .int khasWritten, .ref knode, .int (nI knodes), .int (nI konesMany), .int (nI kwithin), .int (nI ktop)])), (know, .inl (ky 0, 373, .inl knowF))]) (vp_Si (fun r : Int32 => True)) 0 0 (fun _ => False) := by
  refine Met.ofW (cc := cX12_lumpIn) (maxL := 3) (ret := (some .int)) (by decide) rfl ?_
  intro p e s m args below meth c s₁ B hml hv
  obtain ⟨rfl, hP, hK⟩ := hv
  have hx := B.exec
  have hb := B.bytes
  have hr := B.returns
  have hts := atoms_spec (ws := wsX12_lumpIn) B.pre
  have hown : s.vm.findClass RX12 = some m.cls := findClass_of_methodNamed B.named
  have hlocks := B.notSynchronized
  have hin12 : ∀ w ∈ u_ws RX12 TX12 52, w ∈ wsX12_lumpIn := by decide +kernel
  have hl := lv_entry ([.ref o, .int x]) (n := 3) (Nat.le_of_ble_eq_true rfl)
  rw [lg_entry_eq]
  generalize (lg_sl ([.ref o, .int x]) ++ List.replicate (3 - (lg_sl ([.ref o, .int x])).length) Slot.unset).toArray = ls at hl ⊢
  have hl : lv_has ls 3 [(0, .ref o), (1, .int x)] := hl
  refine q_name (fun Q hQ => ?_)
  generalize ([.ref o, .int x] : List Value).toArray = args at hts hQ ⊢
  refine lv_iconst (v := nI 0) hx hb dX12_lumpIn_0 (by decide) ?_
  refine lv_istore_n (lv' := [(2, .int (nI 0)), (0, .ref o), (1, .int x)]) hx hb dX12_lumpIn_1 rfl hl (by decide) rfl (fun ls hl => ?_)
  have hL7 : ∀ (n8 : Nat) (k5 : Nat), (k5 ≤ 6) → 6 - k5 < n8 → ∀ (ls : Array Slot), lv_has ls 3 [(2, .int (nI k5)), (0, .ref o), (1, .int x)] → W p l e (headSpec wsX12_lumpIn ({ frames := 0, cells := 0, slots := 0, locals := 0 })).room s m args below meth c s.heap [] 0 0 Q (F0 m 2 ls []) := by
    intro n8
    induction n8 with
    | zero => intro k5 _ h9; exact absurd h9 (Nat.not_lt_zero _)
    | succ n8 ih9 =>
      intro k5 j6 hm10 ls hl
      refine lv_iload_n hx hb dX12_lumpIn_2 rfl (lv_at hl 0 rfl) ?_
      refine lv_aload_n hx hb dX12_lumpIn_3 rfl (lv_at hl 1 rfl) ?_
      refine va_get (D := (dC, dI)) (ci := 12) (v := .ref know) (C := RX12) (T := TX12) (N := 52) hx hb hts hin12 hown hK hP 0 rfl rfl 14 (by decide) (hts (.fieldLink RX12 98 "PorridgeSeaModel" "now" "[I") (List.mem_of_getElem? (i := 1) rfl)) (fun _ h9 => h9) rfl dX12_lumpIn_4 ?_
      refine lv_iconst (v := nI 2) hx hb dX12_lumpIn_7 (by decide) ?_
      obtain ⟨y11, e12⟩ : ∃ z9, z9 = knowF 2 := ⟨_, rfl⟩
      refine r_iald hx hb hK hP 1 rfl 2 (by decide) (by decide) y11 e12.symm dX12_lumpIn_8 ?_
      obtain ⟨b13, b14⟩ : (0 : Int) ≤ y11.toInt ∧ y11.toInt ≤ 6 := by rw [e12]; exact ld_NB_2 ab_now 2 (by decide) (by decide)
      refine lv_icmp_ge (tgt := 33) hx hb dX12_lumpIn_9 (by decide) (fun c15 => ?_) (fun c15 => ?_)
      · refine lv_iconst (v := (-1 : Int32)) hx hb dX12_lumpIn_33 (by decide) ?_
        rw [hQ]
        exact W.iret (v := (-1 : Int32)) hx hb hr (fun t9 ht9 hW9 => ⟨(-1 : Int32), rfl, trivial, ht9⟩) (fun _ h => absurd h List.not_mem_nil) dX12_lumpIn_34
      · refine lv_aload_n hx hb dX12_lumpIn_12 rfl (lv_at hl 1 rfl) ?_
        refine va_get (D := (dC, dI)) (ci := 12) (v := .ref know) (C := RX12) (T := TX12) (N := 52) hx hb hts hin12 hown hK hP 0 rfl rfl 14 (by decide) (hts (.fieldLink RX12 98 "PorridgeSeaModel" "now" "[I") (List.mem_of_getElem? (i := 1) rfl)) (fun _ h9 => h9) rfl dX12_lumpIn_13 ?_
        refine lv_bipush (v := nI 107) hx hb dX12_lumpIn_16 (by decide) ?_
        refine lv_iload_n hx hb dX12_lumpIn_18 rfl (lv_at hl 0 rfl) ?_
        refine lv_iadd hx hb dX12_lumpIn_19 ?_
        refine r_ti (nI (107 + k5)) (nI_add _ _) ?_
        obtain ⟨y16, e17⟩ : ∃ z9, z9 = knowF (107 + k5) := ⟨_, rfl⟩
        refine r_iald hx hb hK hP 1 rfl (107 + k5) (lf_x_lumpIn_1 knowF k5 n8 y11 y16 ab_now j6 hm10 e12 b13 b14 c15 e17) (by decide) y16 e17.symm dX12_lumpIn_20 ?_
        obtain ⟨b18, b19⟩ : (0 : Int) ≤ y16.toInt ∧ y16.toInt ≤ 35 := by rw [e17]; exact ld_NB_107 ab_now (107 + k5) (lf_x_lumpIn_2 knowF k5 n8 y11 y16 ab_now j6 hm10 e12 b13 b14 c15 e17) (lf_x_lumpIn_3 knowF k5 n8 y11 y16 ab_now j6 hm10 e12 b13 b14 c15 e17)
        refine lv_iload_n hx hb dX12_lumpIn_21 rfl (lv_at hl 2 rfl) ?_
        refine lv_icmp_ne (tgt := 27) hx hb dX12_lumpIn_22 (by decide) (fun c20 => ?_) (fun c20 => ?_)
        · refine lv_iinc (v := nI (k5 + 1)) (lv' := [(2, .int (nI (k5 + 1))), (0, .ref o), (1, .int x)]) hx hb dX12_lumpIn_27 hl (k := 0) rfl (show nI k5 + nI 1 = nI (k5 + 1) from nI_add _ _) (by decide) rfl (fun ls hl => ?_)
          refine lv_goto (tgt := 2) hx hb dX12_lumpIn_30 (by decide) ?_
          exact ih9 (k5 + 1) (lf_x_lumpIn_4 knowF x k5 n8 y11 y16 ab_now j6 hm10 e12 b13 b14 c15 e17 b18 b19 c20) (lf_x_lumpIn_5 knowF x k5 n8 y11 y16 ab_now j6 hm10 e12 b13 b14 c15 e17 b18 b19 c20) _ (lv_sub hl [0, 1, 2] rfl)
        · refine lv_iload_n hx hb dX12_lumpIn_25 rfl (lv_at hl 0 rfl) ?_
          rw [hQ]
          exact W.iret (v := nI k5) hx hb hr (fun t9 ht9 hW9 => ⟨nI k5, rfl, trivial, ht9⟩) (fun _ h => absurd h List.not_mem_nil) dX12_lumpIn_26
  exact hL7 ((6 - 0) + 1) 0 (lf_x_lumpIn_6) (Nat.lt_succ_self _) _ (lv_sub hl [0, 1, 2] rfl)
set_option maxRecDepth 20000 in
theorem lf_x_wouldFloat_1   : (nI 1) = nI 0 ∨ (nI 1) = nI 1 := by
  try have k_0 := ia_n 1 (by first | decide | omega)
  try have k_1 := ia_n 0 (by first | decide | omega)
  try simp only [ia_lt, ia_le, ia_eq, ia_m1, ia_0, ia_1, ne_eq, true_and, and_true, false_and, and_false, or_false, false_or, or_true, true_or, not_true_eq_false, not_false_eq_true] at *
  all_goals omega
set_option maxRecDepth 20000 in
theorem lf_x_wouldFloat_2  (p5 : True) : (nI 1) = nI 0 ∨ (nI 1) = nI 1 := by
  try have k_0 := ia_n 1 (by first | decide | omega)
  try have k_1 := ia_n 0 (by first | decide | omega)
  try simp only [ia_lt, ia_le, ia_eq, ia_m1, ia_0, ia_1, ne_eq, true_and, and_true, false_and, and_false, or_false, false_or, or_true, true_or, not_true_eq_false, not_false_eq_true] at *
  all_goals omega
set_option maxRecDepth 20000 in
theorem lf_x_wouldFloat_3 (y : Int32) (hc_y : 0 ≤ y.toInt ∧ y.toInt ≤ 35) (p5 : True) : 0 ≤ y.toInt ∧ y.toInt < ((36 : Nat) : Int) := by
  have b_y := ia_b y
  try simp only [ia_lt, ia_le, ia_eq, ia_m1, ia_0, ia_1, ne_eq, true_and, and_true, false_and, and_false, or_false, false_or, or_true, true_or, not_true_eq_false, not_false_eq_true] at *
  all_goals omega
set_option maxRecDepth 20000 in
theorem lf_x_wouldFloat_4 (knowF : Nat → Int32) (y : Int32) (n7 : Nat) (y10 : Int32) (ab_now : NB knowF) (hc_y : 0 ≤ y.toInt ∧ y.toInt ≤ 35) (p5 : True) (h8 : n7 < 36) (e9 : y = nI n7) (e11 : y10 = knowF (71 + n7)) : (71 + n7) < 373 := by
  have b_y := ia_b y
  have b_y10 := ia_b y10
  try have k_0 := ia_n n7 (by first | decide | omega)
  try simp only [ia_lt, ia_le, ia_eq, ia_m1, ia_0, ia_1, ne_eq, true_and, and_true, false_and, and_false, or_false, false_or, or_true, true_or, not_true_eq_false, not_false_eq_true] at *
  all_goals omega
set_option maxRecDepth 20000 in
theorem lf_x_wouldFloat_5 (knowF : Nat → Int32) (y : Int32) (n7 : Nat) (y10 : Int32) (ab_now : NB knowF) (hc_y : 0 ≤ y.toInt ∧ y.toInt ≤ 35) (p5 : True) (h8 : n7 < 36) (e9 : y = nI n7) (e11 : y10 = knowF (71 + n7)) : 71 ≤ (71 + n7) := by
  have b_y := ia_b y
  have b_y10 := ia_b y10
  try have k_0 := ia_n n7 (by first | decide | omega)
  try simp only [ia_lt, ia_le, ia_eq, ia_m1, ia_0, ia_1, ne_eq, true_and, and_true, false_and, and_false, or_false, false_or, or_true, true_or, not_true_eq_false, not_false_eq_true] at *
  all_goals omega
set_option maxRecDepth 20000 in
theorem lf_x_wouldFloat_6 (knowF : Nat → Int32) (y : Int32) (n7 : Nat) (y10 : Int32) (ab_now : NB knowF) (hc_y : 0 ≤ y.toInt ∧ y.toInt ≤ 35) (p5 : True) (h8 : n7 < 36) (e9 : y = nI n7) (e11 : y10 = knowF (71 + n7)) : (71 + n7) < 107 := by
  have b_y := ia_b y
  have b_y10 := ia_b y10
  try have k_0 := ia_n n7 (by first | decide | omega)
  try simp only [ia_lt, ia_le, ia_eq, ia_m1, ia_0, ia_1, ne_eq, true_and, and_true, false_and, and_false, or_false, false_or, or_true, true_or, not_true_eq_false, not_false_eq_true] at *
  all_goals omega
set_option maxRecDepth 20000 in
theorem lf_x_wouldFloat_7 (x : Int32) (hb_x : 0 ≤ x.toInt ∧ x.toInt ≤ 5) (p5 : True) : 0 ≤ x.toInt ∧ x.toInt < ((6 : Nat) : Int) := by
  have b_x := ia_b x
  try simp only [ia_lt, ia_le, ia_eq, ia_m1, ia_0, ia_1, ne_eq, true_and, and_true, false_and, and_false, or_false, false_or, or_true, true_or, not_true_eq_false, not_false_eq_true] at *
  all_goals omega
set_option maxRecDepth 20000 in
theorem lf_x_wouldFloat_8 (knowF : Nat → Int32) (x : Int32) (y : Int32) (n7 : Nat) (y10 : Int32) (n14 : Nat) (y17 : Int32) (ab_now : NB knowF) (hb_x : 0 ≤ x.toInt ∧ x.toInt ≤ 5) (hc_y : 0 ≤ y.toInt ∧ y.toInt ≤ 35) (p5 : True) (h8 : n7 < 36) (e9 : y = nI n7) (e11 : y10 = knowF (71 + n7)) (b12 : 0 ≤ y10.toInt) (b13 : y10.toInt ≤ 9) (h15 : n14 < 6) (e16 : x = nI n14) (e18 : y17 = knowF (55 + n14)) : (55 + n14) < 373 := by
  have b_x := ia_b x
  have b_y := ia_b y
  have b_y10 := ia_b y10
  have b_y17 := ia_b y17
  try have k_0 := ia_n n7 (by first | decide | omega)
  try have k_1 := ia_n n14 (by first | decide | omega)
  try simp only [ia_lt, ia_le, ia_eq, ia_m1, ia_0, ia_1, ne_eq, true_and, and_true, false_and, and_false, or_false, false_or, or_true, true_or, not_true_eq_false, not_false_eq_true] at *
  all_goals omega
set_option maxRecDepth 20000 in
theorem lf_x_wouldFloat_9  (p5 : True) : (nI 0) = nI 0 ∨ (nI 0) = nI 1 := by
  try have k_0 := ia_n 0 (by first | decide | omega)
  try have k_1 := ia_n 1 (by first | decide | omega)
  try simp only [ia_lt, ia_le, ia_eq, ia_m1, ia_0, ia_1, ne_eq, true_and, and_true, false_and, and_false, or_false, false_or, or_true, true_or, not_true_eq_false, not_false_eq_true] at *
  all_goals omega
set_option maxRecDepth 20000 in
theorem lf_x_wouldFloat_10  (p5 : True) : (nI 1) = nI 0 ∨ (nI 1) = nI 1 := by
  try have k_0 := ia_n 1 (by first | decide | omega)
  try have k_1 := ia_n 0 (by first | decide | omega)
  try simp only [ia_lt, ia_le, ia_eq, ia_m1, ia_0, ia_1, ne_eq, true_and, and_true, false_and, and_false, or_false, false_or, or_true, true_or, not_true_eq_false, not_false_eq_true] at *
  all_goals omega
set_option maxHeartbeats 4000000 in
set_option maxRecDepth 100000 in
theorem c_x_wouldFloat (l : Launch) (dC : Nat → ClassId) (dI : Nat → Nat → Nat) (ky : Nat → ClassId) (o : Nat) (kthrown : Int32) (ktape : Nat) (ktaped : Nat) (ksize : Nat) (klimit : Nat) (kto : Nat) (kfrom : Nat) (kkind : Int32) (knumber : Int32) (ksign : Int32) (kfault : Int32) (kplace : Int32) (kword : Int64) (ktold : Int32) (know : Nat) (kread : Nat) (kkept : Nat) (ksnaps : Nat) (kaside : Nat) (kname : Nat) (kreadName : Nat) (kkeptName : Nat) (kisKept : Nat) (konces : Nat) (ksnapMany : Nat) (khasCells : Int32) (kpoured : Nat) (kfar : Nat) (ksides : Nat) (ksideMany : Nat) (kwayDays : Int32) (khasWay : Int32) (klines : Nat) (kmet : Nat) (kmetMany : Nat) (ksunk : Nat) (ktrying : Nat) (ksunkMany : Nat) (ksending : Int32) (kfleets : Int32) (ktext : Nat) (ktexts : Nat) (kseed : Int32) (kline : Nat) (kwritten : Nat) (klineMany : Nat) (khasWritten : Int32) (knode : Nat) (knodes : Nat) (konesMany : Nat) (kwithin : Nat) (ktop : Nat) (knowF : Nat → Int32) (x : Int32) (y : Int32) (iv_ko_0 : ktaped ≤ 940) (iv_ko_1 : ksize ≤ 940) (iv_ko_2 : klimit ≤ 900) (iv_ko_3 : kto ≤ ksize) (iv_ko_4 : kfrom ≤ 940) (iv_ko_5 : ksnapMany ≤ 8) (iv_ko_6 : ksideMany ≤ 36) (iv_ko_7 : kmetMany ≤ 3) (iv_ko_8 : ksunkMany ≤ 36) (iv_ko_9 : ktexts ≤ 64) (iv_ko_10 : klineMany ≤ 40) (iv_ko_11 : knodes ≤ 60) (iv_ko_12 : konesMany ≤ 20) (iv_ko_13 : kwithin ≤ 8) (iv_ko_14 : ktop ≤ 59) (ab_now : NB knowF) (hb_x : 0 ≤ x.toInt ∧ x.toInt ≤ 5) (hc_y : 0 ≤ y.toInt ∧ y.toInt ≤ 35) : Met l yX12_wouldFloat wsX12_wouldFloat ({ frames := 1, cells := 0, slots := 0, locals := 22 }) (PcP dC dI ky [.ref o, .int x, .int y] [(o, .inr (12, [.int kthrown, .ref ktape, .int (nI ktaped), .int (nI ksize), .int (nI klimit), .int (nI kto), .int (nI kfrom), .int kkind, .int knumber, .int ksign, .int kfault, .int kplace, .long kword, .int ktold, .ref know, .ref kread, .ref kkept, .ref ksnaps, .ref kaside, .ref kname, .ref kreadName, .ref kkeptName, .ref kisKept, .ref konces, .int (nI ksnapMany), .int khasCells, .ref kpoured, .ref kfar, .ref ksides, .int (nI ksideMany), .int kwayDays, .int khasWay, .ref klines, .ref kmet, .int (nI kmetMany), .ref ksunk, .ref ktrying, .int (nI ksunkMany), .int ksending, .int kfleets, .ref ktext, .int (nI ktexts), .int kseed, .ref kline, .ref kwritten, .int (nI klineMany), .int khasWritten, .ref knode, .int (nI knodes), .int (nI konesMany), .int (nI kwithin), .int (nI ktop)])), (know, .inl (ky 0, 373, .inl knowF))]) (vp_Si (fun r : Int32 => r = nI 0 ∨ r = nI 1)) 0 0 (fun _ => False) := by
  refine Met.ofW (cc := cX12_wouldFloat) (maxL := 3) (ret := (some .boolean)) (by decide) rfl ?_
  intro p e s m args below meth c s₁ B hml hv
  obtain ⟨rfl, hP, hK⟩ := hv
  have hx := B.exec
  have hb := B.bytes
  have hr := B.returns
  have hts := atoms_spec (ws := wsX12_wouldFloat) B.pre
  have hown : s.vm.findClass RX12 = some m.cls := findClass_of_methodNamed B.named
  have hlocks := B.notSynchronized
  have hin12 : ∀ w ∈ u_ws RX12 TX12 52, w ∈ wsX12_wouldFloat := by decide +kernel
  have hl := lv_entry ([.ref o, .int x, .int y]) (n := 3) (Nat.le_of_ble_eq_true rfl)
  rw [lg_entry_eq]
  generalize (lg_sl ([.ref o, .int x, .int y]) ++ List.replicate (3 - (lg_sl ([.ref o, .int x, .int y])).length) Slot.unset).toArray = ls at hl ⊢
  have hl : lv_has ls 3 [(0, .ref o), (1, .int x), (2, .int y)] := hl
  refine q_name (fun Q hQ => ?_)
  generalize ([.ref o, .int x, .int y] : List Value).toArray = args at hts hQ ⊢
  refine lv_aload_n hx hb dX12_wouldFloat_0 rfl (lv_at hl 0 rfl) ?_
  refine vp_callSi (W.runV (As := []) (rest := []) ⟨hx, hb, hml, hown, hts⟩ (c_x_hasSkin l dC dI ky o kthrown ktape ktaped ksize klimit kto kfrom kkind knumber ksign kfault kplace kword ktold know kread kkept ksnaps kaside kname kreadName kkeptName kisKept konces ksnapMany khasCells kpoured kfar ksides ksideMany kwayDays khasWay klines kmet kmetMany ksunk ktrying ksunkMany ksending kfleets ktext ktexts kseed kline kwritten klineMany khasWritten knode knodes konesMany kwithin ktop knowF iv_ko_0 iv_ko_1 iv_ko_2 iv_ko_3 iv_ko_4 iv_ko_5 iv_ko_6 iv_ko_7 iv_ko_8 iv_ko_9 iv_ko_10 iv_ko_11 iv_ko_12 iv_ko_13 iv_ko_14 ab_now) (cwV 0 hts gX12_wouldFloat_X12_hasSkin rfl rfl rfl (by decide +kernel) ⟨(Nat.le_of_ble_eq_true rfl), (Nat.le_of_ble_eq_true rfl)⟩) (pre_PV hK hP [0, 1] rfl (ci := 12) (q0 := 0) rfl rfl) rfl rfl hl.1 rfl (lv_room (Nat.le_of_ble_eq_true rfl)) dX12_wouldFloat_1 ⟨(Nat.le_of_ble_eq_true rfl), (Nat.le_of_ble_eq_true rfl)⟩) (fun r1 p2 => ?_)
  refine lv_if_ne (tgt := 37) hx hb dX12_wouldFloat_4 (by decide) (fun c3 => ?_) (fun c3 => ?_)
  · refine lv_iconst (v := nI 1) hx hb dX12_wouldFloat_37 (by decide) ?_
    refine lv_goto (tgt := 42) hx hb dX12_wouldFloat_38 (by decide) ?_
    rw [hQ]
    exact W.zret (v := nI 1) hx hb hr (by decide) (fun t9 ht9 hW9 => ⟨nI 1, rfl, (lf_x_wouldFloat_1), ht9⟩) (fun _ h => absurd h List.not_mem_nil) dX12_wouldFloat_42
  · refine lv_aload_n hx hb dX12_wouldFloat_7 rfl (lv_at hl 0 rfl) ?_
    refine lv_iload_n hx hb dX12_wouldFloat_8 rfl (lv_at hl 2 rfl) ?_
    refine vp_callSi (W.runV (As := [.int y]) (rest := []) ⟨hx, hb, hml, hown, hts⟩ (c_x_lumpIn l dC dI ky o kthrown ktape ktaped ksize klimit kto kfrom kkind knumber ksign kfault kplace kword ktold know kread kkept ksnaps kaside kname kreadName kkeptName kisKept konces ksnapMany khasCells kpoured kfar ksides ksideMany kwayDays khasWay klines kmet kmetMany ksunk ktrying ksunkMany ksending kfleets ktext ktexts kseed kline kwritten klineMany khasWritten knode knodes konesMany kwithin ktop knowF y iv_ko_0 iv_ko_1 iv_ko_2 iv_ko_3 iv_ko_4 iv_ko_5 iv_ko_6 iv_ko_7 iv_ko_8 iv_ko_9 iv_ko_10 iv_ko_11 iv_ko_12 iv_ko_13 iv_ko_14 ab_now) (cwV 1 hts gX12_wouldFloat_X12_lumpIn rfl rfl rfl (by decide +kernel) ⟨(Nat.le_of_ble_eq_true rfl), (Nat.le_of_ble_eq_true rfl)⟩) (pre_PV hK hP [0, 1] rfl (ci := 12) (q0 := 0) rfl rfl) rfl rfl hl.1 rfl (lv_room (Nat.le_of_ble_eq_true rfl)) dX12_wouldFloat_9 ⟨(Nat.le_of_ble_eq_true rfl), (Nat.le_of_ble_eq_true rfl)⟩) (fun r4 p5 => ?_)
    refine lv_iconst (v := (-1 : Int32)) hx hb dX12_wouldFloat_12 (by decide) ?_
    refine lv_icmp_ne (tgt := 37) hx hb dX12_wouldFloat_13 (by decide) (fun c6 => ?_) (fun c6 => ?_)
    · refine lv_iconst (v := nI 1) hx hb dX12_wouldFloat_37 (by decide) ?_
      refine lv_goto (tgt := 42) hx hb dX12_wouldFloat_38 (by decide) ?_
      rw [hQ]
      exact W.zret (v := nI 1) hx hb hr (by decide) (fun t9 ht9 hW9 => ⟨nI 1, rfl, (lf_x_wouldFloat_2 p5), ht9⟩) (fun _ h => absurd h List.not_mem_nil) dX12_wouldFloat_42
    · refine lv_aload_n hx hb dX12_wouldFloat_16 rfl (lv_at hl 0 rfl) ?_
      refine va_get (D := (dC, dI)) (ci := 12) (v := .ref know) (C := RX12) (T := TX12) (N := 52) hx hb hts hin12 hown hK hP 0 rfl rfl 14 (by decide) (hts (.fieldLink RX12 98 "PorridgeSeaModel" "now" "[I") (List.mem_of_getElem? (i := 1) rfl)) (fun _ h9 => h9) rfl dX12_wouldFloat_17 ?_
      refine lv_bipush (v := nI 71) hx hb dX12_wouldFloat_20 (by decide) ?_
      refine lv_iload_n hx hb dX12_wouldFloat_22 rfl (lv_at hl 2 rfl) ?_
      obtain ⟨n7, h8, e9⟩ := nat_of y 36 (by decide) (lf_x_wouldFloat_3 y hc_y p5)
      rw [e9]
      refine lv_iadd hx hb dX12_wouldFloat_23 ?_
      refine r_ti (nI (71 + n7)) (nI_add _ _) ?_
      obtain ⟨y10, e11⟩ : ∃ z9, z9 = knowF (71 + n7) := ⟨_, rfl⟩
      refine r_iald hx hb hK hP 1 rfl (71 + n7) (lf_x_wouldFloat_4 knowF y n7 y10 ab_now hc_y p5 h8 e9 e11) (by decide) y10 e11.symm dX12_wouldFloat_24 ?_
      obtain ⟨b12, b13⟩ : (0 : Int) ≤ y10.toInt ∧ y10.toInt ≤ 9 := by rw [e11]; exact ld_NB_71 ab_now (71 + n7) (lf_x_wouldFloat_5 knowF y n7 y10 ab_now hc_y p5 h8 e9 e11) (lf_x_wouldFloat_6 knowF y n7 y10 ab_now hc_y p5 h8 e9 e11)
      refine lv_aload_n hx hb dX12_wouldFloat_25 rfl (lv_at hl 0 rfl) ?_
      refine va_get (D := (dC, dI)) (ci := 12) (v := .ref know) (C := RX12) (T := TX12) (N := 52) hx hb hts hin12 hown hK hP 0 rfl rfl 14 (by decide) (hts (.fieldLink RX12 98 "PorridgeSeaModel" "now" "[I") (List.mem_of_getElem? (i := 1) rfl)) (fun _ h9 => h9) rfl dX12_wouldFloat_26 ?_
      refine lv_bipush (v := nI 55) hx hb dX12_wouldFloat_29 (by decide) ?_
      refine lv_iload_n hx hb dX12_wouldFloat_31 rfl (lv_at hl 1 rfl) ?_
      obtain ⟨n14, h15, e16⟩ := nat_of x 6 (by decide) (lf_x_wouldFloat_7 x hb_x p5)
      rw [e16]
      refine lv_iadd hx hb dX12_wouldFloat_32 ?_
      refine r_ti (nI (55 + n14)) (nI_add _ _) ?_
      obtain ⟨y17, e18⟩ : ∃ z9, z9 = knowF (55 + n14) := ⟨_, rfl⟩
      refine r_iald hx hb hK hP 1 rfl (55 + n14) (lf_x_wouldFloat_8 knowF x y n7 y10 n14 y17 ab_now hb_x hc_y p5 h8 e9 e11 b12 b13 h15 e16 e18) (by decide) y17 e18.symm dX12_wouldFloat_33 ?_
      refine lv_icmp_lt (tgt := 41) hx hb dX12_wouldFloat_34 (by decide) (fun c19 => ?_) (fun c19 => ?_)
      · refine lv_iconst (v := nI 0) hx hb dX12_wouldFloat_41 (by decide) ?_
        rw [hQ]
        exact W.zret (v := nI 0) hx hb hr (by decide) (fun t9 ht9 hW9 => ⟨nI 0, rfl, (lf_x_wouldFloat_9 p5), ht9⟩) (fun _ h => absurd h List.not_mem_nil) dX12_wouldFloat_42
      · refine lv_iconst (v := nI 1) hx hb dX12_wouldFloat_37 (by decide) ?_
        refine lv_goto (tgt := 42) hx hb dX12_wouldFloat_38 (by decide) ?_
        rw [hQ]
        exact W.zret (v := nI 1) hx hb hr (by decide) (fun t9 ht9 hW9 => ⟨nI 1, rfl, (lf_x_wouldFloat_10 p5), ht9⟩) (fun _ h => absurd h List.not_mem_nil) dX12_wouldFloat_42
set_option maxRecDepth 20000 in
theorem lf_x_isAfloat_1   : (nI 0) = nI 0 ∨ (nI 0) = nI 1 := by
  try have k_0 := ia_n 0 (by first | decide | omega)
  try have k_1 := ia_n 1 (by first | decide | omega)
  try simp only [ia_lt, ia_le, ia_eq, ia_m1, ia_0, ia_1, ne_eq, true_and, and_true, false_and, and_false, or_false, false_or, or_true, true_or, not_true_eq_false, not_false_eq_true] at *
  all_goals omega
set_option maxRecDepth 20000 in
theorem lf_x_isAfloat_2 (x : Int32) (hb_x : 0 ≤ x.toInt ∧ x.toInt ≤ 5) : 0 ≤ x.toInt ∧ x.toInt < ((6 : Nat) : Int) := by
  have b_x := ia_b x
  try simp only [ia_lt, ia_le, ia_eq, ia_m1, ia_0, ia_1, ne_eq, true_and, and_true, false_and, and_false, or_false, false_or, or_true, true_or, not_true_eq_false, not_false_eq_true] at *
  all_goals omega
set_option maxRecDepth 20000 in
theorem lf_x_isAfloat_3 (knowF : Nat → Int32) (x : Int32) (n4 : Nat) (y7 : Int32) (ab_now : NB knowF) (hb_x : 0 ≤ x.toInt ∧ x.toInt ≤ 5) (h5 : n4 < 6) (e6 : x = nI n4) (e8 : y7 = knowF (113 + n4)) : (113 + n4) < 373 := by
  have b_x := ia_b x
  have b_y7 := ia_b y7
  try have k_0 := ia_n n4 (by first | decide | omega)
  try simp only [ia_lt, ia_le, ia_eq, ia_m1, ia_0, ia_1, ne_eq, true_and, and_true, false_and, and_false, or_false, false_or, or_true, true_or, not_true_eq_false, not_false_eq_true] at *
  all_goals omega
set_option maxRecDepth 20000 in
theorem lf_x_isAfloat_4 (knowF : Nat → Int32) (x : Int32) (n4 : Nat) (y7 : Int32) (ab_now : NB knowF) (hb_x : 0 ≤ x.toInt ∧ x.toInt ≤ 5) (h5 : n4 < 6) (e6 : x = nI n4) (e8 : y7 = knowF (113 + n4)) : 107 ≤ (113 + n4) := by
  have b_x := ia_b x
  have b_y7 := ia_b y7
  try have k_0 := ia_n n4 (by first | decide | omega)
  try simp only [ia_lt, ia_le, ia_eq, ia_m1, ia_0, ia_1, ne_eq, true_and, and_true, false_and, and_false, or_false, false_or, or_true, true_or, not_true_eq_false, not_false_eq_true] at *
  all_goals omega
set_option maxRecDepth 20000 in
theorem lf_x_isAfloat_5 (knowF : Nat → Int32) (x : Int32) (n4 : Nat) (y7 : Int32) (ab_now : NB knowF) (hb_x : 0 ≤ x.toInt ∧ x.toInt ≤ 5) (h5 : n4 < 6) (e6 : x = nI n4) (e8 : y7 = knowF (113 + n4)) : (113 + n4) < 119 := by
  have b_x := ia_b x
  have b_y7 := ia_b y7
  try have k_0 := ia_n n4 (by first | decide | omega)
  try simp only [ia_lt, ia_le, ia_eq, ia_m1, ia_0, ia_1, ne_eq, true_and, and_true, false_and, and_false, or_false, false_or, or_true, true_or, not_true_eq_false, not_false_eq_true] at *
  all_goals omega
set_option maxRecDepth 20000 in
theorem lf_x_isAfloat_6 (knowF : Nat → Int32) (x : Int32) (n4 : Nat) (y7 : Int32) (ab_now : NB knowF) (hb_x : 0 ≤ x.toInt ∧ x.toInt ≤ 5) (h5 : n4 < 6) (e6 : x = nI n4) (e8 : y7 = knowF (113 + n4)) (b9 : 0 ≤ y7.toInt) (b10 : y7.toInt ≤ 35) : 0 ≤ (nI n4).toInt ∧ (nI n4).toInt ≤ 5 := by
  have b_x := ia_b x
  have b_y7 := ia_b y7
  try have k_0 := ia_n n4 (by first | decide | omega)
  try simp only [ia_lt, ia_le, ia_eq, ia_m1, ia_0, ia_1, ne_eq, true_and, and_true, false_and, and_false, or_false, false_or, or_true, true_or, not_true_eq_false, not_false_eq_true] at *
  all_goals omega
set_option maxRecDepth 20000 in
theorem lf_x_isAfloat_7 (knowF : Nat → Int32) (x : Int32) (n4 : Nat) (y7 : Int32) (ab_now : NB knowF) (hb_x : 0 ≤ x.toInt ∧ x.toInt ≤ 5) (h5 : n4 < 6) (e6 : x = nI n4) (e8 : y7 = knowF (113 + n4)) (b9 : 0 ≤ y7.toInt) (b10 : y7.toInt ≤ 35) : 0 ≤ y7.toInt ∧ y7.toInt ≤ 35 := by
  have b_x := ia_b x
  have b_y7 := ia_b y7
  try have k_0 := ia_n n4 (by first | decide | omega)
  try simp only [ia_lt, ia_le, ia_eq, ia_m1, ia_0, ia_1, ne_eq, true_and, and_true, false_and, and_false, or_false, false_or, or_true, true_or, not_true_eq_false, not_false_eq_true] at *
  all_goals omega
set_option maxRecDepth 20000 in
theorem lf_x_isAfloat_8   : (nI 0) = nI 0 ∨ (nI 0) = nI 1 := by
  try have k_0 := ia_n 0 (by first | decide | omega)
  try have k_1 := ia_n 1 (by first | decide | omega)
  try simp only [ia_lt, ia_le, ia_eq, ia_m1, ia_0, ia_1, ne_eq, true_and, and_true, false_and, and_false, or_false, false_or, or_true, true_or, not_true_eq_false, not_false_eq_true] at *
  all_goals omega
set_option maxRecDepth 20000 in
theorem lf_x_isAfloat_9   : (nI 1) = nI 0 ∨ (nI 1) = nI 1 := by
  try have k_0 := ia_n 1 (by first | decide | omega)
  try have k_1 := ia_n 0 (by first | decide | omega)
  try simp only [ia_lt, ia_le, ia_eq, ia_m1, ia_0, ia_1, ne_eq, true_and, and_true, false_and, and_false, or_false, false_or, or_true, true_or, not_true_eq_false, not_false_eq_true] at *
  all_goals omega
set_option maxHeartbeats 4000000 in
set_option maxRecDepth 100000 in
theorem c_x_isAfloat (l : Launch) (dC : Nat → ClassId) (dI : Nat → Nat → Nat) (ky : Nat → ClassId) (o : Nat) (kthrown : Int32) (ktape : Nat) (ktaped : Nat) (ksize : Nat) (klimit : Nat) (kto : Nat) (kfrom : Nat) (kkind : Int32) (knumber : Int32) (ksign : Int32) (kfault : Int32) (kplace : Int32) (kword : Int64) (ktold : Int32) (know : Nat) (kread : Nat) (kkept : Nat) (ksnaps : Nat) (kaside : Nat) (kname : Nat) (kreadName : Nat) (kkeptName : Nat) (kisKept : Nat) (konces : Nat) (ksnapMany : Nat) (khasCells : Int32) (kpoured : Nat) (kfar : Nat) (ksides : Nat) (ksideMany : Nat) (kwayDays : Int32) (khasWay : Int32) (klines : Nat) (kmet : Nat) (kmetMany : Nat) (ksunk : Nat) (ktrying : Nat) (ksunkMany : Nat) (ksending : Int32) (kfleets : Int32) (ktext : Nat) (ktexts : Nat) (kseed : Int32) (kline : Nat) (kwritten : Nat) (klineMany : Nat) (khasWritten : Int32) (knode : Nat) (knodes : Nat) (konesMany : Nat) (kwithin : Nat) (ktop : Nat) (knowF : Nat → Int32) (x : Int32) (iv_ko_0 : ktaped ≤ 940) (iv_ko_1 : ksize ≤ 940) (iv_ko_2 : klimit ≤ 900) (iv_ko_3 : kto ≤ ksize) (iv_ko_4 : kfrom ≤ 940) (iv_ko_5 : ksnapMany ≤ 8) (iv_ko_6 : ksideMany ≤ 36) (iv_ko_7 : kmetMany ≤ 3) (iv_ko_8 : ksunkMany ≤ 36) (iv_ko_9 : ktexts ≤ 64) (iv_ko_10 : klineMany ≤ 40) (iv_ko_11 : knodes ≤ 60) (iv_ko_12 : konesMany ≤ 20) (iv_ko_13 : kwithin ≤ 8) (iv_ko_14 : ktop ≤ 59) (ab_now : NB knowF) (hb_x : 0 ≤ x.toInt ∧ x.toInt ≤ 5) : Met l yX12_isAfloat wsX12_isAfloat ({ frames := 2, cells := 0, slots := 0, locals := 44 }) (PcP dC dI ky [.ref o, .int x] [(o, .inr (12, [.int kthrown, .ref ktape, .int (nI ktaped), .int (nI ksize), .int (nI klimit), .int (nI kto), .int (nI kfrom), .int kkind, .int knumber, .int ksign, .int kfault, .int kplace, .long kword, .int ktold, .ref know, .ref kread, .ref kkept, .ref ksnaps, .ref kaside, .ref kname, .ref kreadName, .ref kkeptName, .ref kisKept, .ref konces, .int (nI ksnapMany), .int khasCells, .ref kpoured, .ref kfar, .ref ksides, .int (nI ksideMany), .int kwayDays, .int khasWay, .ref klines, .ref kmet, .int (nI kmetMany), .ref ksunk, .ref ktrying, .int (nI ksunkMany), .int ksending, .int kfleets, .ref ktext, .int (nI ktexts), .int kseed, .ref kline, .ref kwritten, .int (nI klineMany), .int khasWritten, .ref knode, .int (nI knodes), .int (nI konesMany), .int (nI kwithin), .int (nI ktop)])), (know, .inl (ky 0, 373, .inl knowF))]) (vp_Si (fun r : Int32 => r = nI 0 ∨ r = nI 1)) 0 0 (fun _ => False) := by
  refine Met.ofW (cc := cX12_isAfloat) (maxL := 2) (ret := (some .boolean)) (by decide) rfl ?_
  intro p e s m args below meth c s₁ B hml hv
  obtain ⟨rfl, hP, hK⟩ := hv
  have hx := B.exec
  have hb := B.bytes
  have hr := B.returns
  have hts := atoms_spec (ws := wsX12_isAfloat) B.pre
  have hown : s.vm.findClass RX12 = some m.cls := findClass_of_methodNamed B.named
  have hlocks := B.notSynchronized
  have hin12 : ∀ w ∈ u_ws RX12 TX12 52, w ∈ wsX12_isAfloat := by decide +kernel
  have hl := lv_entry ([.ref o, .int x]) (n := 2) (Nat.le_of_ble_eq_true rfl)
  rw [lg_entry_eq]
  generalize (lg_sl ([.ref o, .int x]) ++ List.replicate (2 - (lg_sl ([.ref o, .int x])).length) Slot.unset).toArray = ls at hl ⊢
  have hl : lv_has ls 2 [(0, .ref o), (1, .int x)] := hl
  refine q_name (fun Q hQ => ?_)
  generalize ([.ref o, .int x] : List Value).toArray = args at hts hQ ⊢
  refine lv_aload_n hx hb dX12_isAfloat_0 rfl (lv_at hl 0 rfl) ?_
  refine lv_iload_n hx hb dX12_isAfloat_1 rfl (lv_at hl 1 rfl) ?_
  refine vp_callSi (W.runV (As := [.int x]) (rest := []) ⟨hx, hb, hml, hown, hts⟩ (c_x_isEaten l dC dI ky o kthrown ktape ktaped ksize klimit kto kfrom kkind knumber ksign kfault kplace kword ktold know kread kkept ksnaps kaside kname kreadName kkeptName kisKept konces ksnapMany khasCells kpoured kfar ksides ksideMany kwayDays khasWay klines kmet kmetMany ksunk ktrying ksunkMany ksending kfleets ktext ktexts kseed kline kwritten klineMany khasWritten knode knodes konesMany kwithin ktop knowF x iv_ko_0 iv_ko_1 iv_ko_2 iv_ko_3 iv_ko_4 iv_ko_5 iv_ko_6 iv_ko_7 iv_ko_8 iv_ko_9 iv_ko_10 iv_ko_11 iv_ko_12 iv_ko_13 iv_ko_14 ab_now hb_x) (cwV 1 hts gX12_isAfloat_X12_isEaten rfl rfl rfl (by decide +kernel) ⟨(Nat.le_of_ble_eq_true rfl), (Nat.le_of_ble_eq_true rfl)⟩) (pre_PV hK hP [0, 1] rfl (ci := 12) (q0 := 0) rfl rfl) rfl rfl hl.1 rfl (lv_room (Nat.le_of_ble_eq_true rfl)) dX12_isAfloat_2 ⟨(Nat.le_of_ble_eq_true rfl), (Nat.le_of_ble_eq_true rfl)⟩) (fun r1 p2 => ?_)
  refine lv_if_ne (tgt := 29) hx hb dX12_isAfloat_5 (by decide) (fun c3 => ?_) (fun c3 => ?_)
  · refine lv_iconst (v := nI 0) hx hb dX12_isAfloat_29 (by decide) ?_
    rw [hQ]
    exact W.zret (v := nI 0) hx hb hr (by decide) (fun t9 ht9 hW9 => ⟨nI 0, rfl, (lf_x_isAfloat_1), ht9⟩) (fun _ h => absurd h List.not_mem_nil) dX12_isAfloat_30
  · refine lv_aload_n hx hb dX12_isAfloat_8 rfl (lv_at hl 0 rfl) ?_
    refine lv_iload_n hx hb dX12_isAfloat_9 rfl (lv_at hl 1 rfl) ?_
    refine lv_aload_n hx hb dX12_isAfloat_10 rfl (lv_at hl 0 rfl) ?_
    refine va_get (D := (dC, dI)) (ci := 12) (v := .ref know) (C := RX12) (T := TX12) (N := 52) hx hb hts hin12 hown hK hP 0 rfl rfl 14 (by decide) (hts (.fieldLink RX12 98 "PorridgeSeaModel" "now" "[I") (List.mem_of_getElem? (i := 1) rfl)) (fun _ h9 => h9) rfl dX12_isAfloat_11 ?_
    refine lv_bipush (v := nI 113) hx hb dX12_isAfloat_14 (by decide) ?_
    refine lv_iload_n hx hb dX12_isAfloat_16 rfl (lv_at hl 1 rfl) ?_
    obtain ⟨n4, h5, e6⟩ := nat_of x 6 (by decide) (lf_x_isAfloat_2 x hb_x)
    rw [e6]
    refine lv_iadd hx hb dX12_isAfloat_17 ?_
    refine r_ti (nI (113 + n4)) (nI_add _ _) ?_
    obtain ⟨y7, e8⟩ : ∃ z9, z9 = knowF (113 + n4) := ⟨_, rfl⟩
    refine r_iald hx hb hK hP 1 rfl (113 + n4) (lf_x_isAfloat_3 knowF x n4 y7 ab_now hb_x h5 e6 e8) (by decide) y7 e8.symm dX12_isAfloat_18 ?_
    obtain ⟨b9, b10⟩ : (0 : Int) ≤ y7.toInt ∧ y7.toInt ≤ 35 := by rw [e8]; exact ld_NB_107 ab_now (113 + n4) (lf_x_isAfloat_4 knowF x n4 y7 ab_now hb_x h5 e6 e8) (lf_x_isAfloat_5 knowF x n4 y7 ab_now hb_x h5 e6 e8)
    refine vp_callSi (W.runV (As := [.int (nI n4), .int y7]) (rest := []) ⟨hx, hb, hml, hown, hts⟩ (c_x_wouldFloat l dC dI ky o kthrown ktape ktaped ksize klimit kto kfrom kkind knumber ksign kfault kplace kword ktold know kread kkept ksnaps kaside kname kreadName kkeptName kisKept konces ksnapMany khasCells kpoured kfar ksides ksideMany kwayDays khasWay klines kmet kmetMany ksunk ktrying ksunkMany ksending kfleets ktext ktexts kseed kline kwritten klineMany khasWritten knode knodes konesMany kwithin ktop knowF (nI n4) y7 iv_ko_0 iv_ko_1 iv_ko_2 iv_ko_3 iv_ko_4 iv_ko_5 iv_ko_6 iv_ko_7 iv_ko_8 iv_ko_9 iv_ko_10 iv_ko_11 iv_ko_12 iv_ko_13 iv_ko_14 ab_now (lf_x_isAfloat_6 knowF x n4 y7 ab_now hb_x h5 e6 e8 b9 b10) (lf_x_isAfloat_7 knowF x n4 y7 ab_now hb_x h5 e6 e8 b9 b10)) (cwV 2 hts gX12_isAfloat_X12_wouldFloat rfl rfl rfl (by decide +kernel) ⟨(Nat.le_of_ble_eq_true rfl), (Nat.le_of_ble_eq_true rfl)⟩) (pre_PV hK hP [0, 1] rfl (ci := 12) (q0 := 0) rfl rfl) rfl rfl hl.1 rfl (lv_room (Nat.le_of_ble_eq_true rfl)) dX12_isAfloat_19 ⟨(Nat.le_of_ble_eq_true rfl), (Nat.le_of_ble_eq_true rfl)⟩) (fun r11 p12 => ?_)
    refine lv_if_eq (tgt := 29) hx hb dX12_isAfloat_22 (by decide) (fun c13 => ?_) (fun c13 => ?_)
    · refine lv_iconst (v := nI 0) hx hb dX12_isAfloat_29 (by decide) ?_
      rw [hQ]
      exact W.zret (v := nI 0) hx hb hr (by decide) (fun t9 ht9 hW9 => ⟨nI 0, rfl, (lf_x_isAfloat_8), ht9⟩) (fun _ h => absurd h List.not_mem_nil) dX12_isAfloat_30
    · refine lv_iconst (v := nI 1) hx hb dX12_isAfloat_25 (by decide) ?_
      refine lv_goto (tgt := 30) hx hb dX12_isAfloat_26 (by decide) ?_
      rw [hQ]
      exact W.zret (v := nI 1) hx hb hr (by decide) (fun t9 ht9 hW9 => ⟨nI 1, rfl, (lf_x_isAfloat_9), ht9⟩) (fun _ h => absurd h List.not_mem_nil) dX12_isAfloat_30
set_option maxRecDepth 20000 in
theorem lf_x_costOf_1 (x : Int32) (hc_x : 0 ≤ x.toInt ∧ x.toInt ≤ 35) : 0 ≤ x.toInt ∧ x.toInt < ((36 : Nat) : Int) := by
  have b_x := ia_b x
  try simp only [ia_lt, ia_le, ia_eq, ia_m1, ia_0, ia_1, ne_eq, true_and, and_true, false_and, and_false, or_false, false_or, or_true, true_or, not_true_eq_false, not_false_eq_true] at *
  all_goals omega
set_option maxRecDepth 20000 in
theorem lf_x_costOf_2 (knowF : Nat → Int32) (x : Int32) (n4 : Nat) (y7 : Int32) (ab_now : NB knowF) (hc_x : 0 ≤ x.toInt ∧ x.toInt ≤ 35) (h5 : n4 < 36) (e6 : x = nI n4) (e8 : y7 = knowF (71 + n4)) : (71 + n4) < 373 := by
  have b_x := ia_b x
  have b_y7 := ia_b y7
  try have k_0 := ia_n n4 (by first | decide | omega)
  try simp only [ia_lt, ia_le, ia_eq, ia_m1, ia_0, ia_1, ne_eq, true_and, and_true, false_and, and_false, or_false, false_or, or_true, true_or, not_true_eq_false, not_false_eq_true] at *
  all_goals omega
set_option maxRecDepth 20000 in
theorem lf_x_costOf_3 (knowF : Nat → Int32) (x : Int32) (n4 : Nat) (y7 : Int32) (ab_now : NB knowF) (hc_x : 0 ≤ x.toInt ∧ x.toInt ≤ 35) (h5 : n4 < 36) (e6 : x = nI n4) (e8 : y7 = knowF (71 + n4)) : 71 ≤ (71 + n4) := by
  have b_x := ia_b x
  have b_y7 := ia_b y7
  try have k_0 := ia_n n4 (by first | decide | omega)
  try simp only [ia_lt, ia_le, ia_eq, ia_m1, ia_0, ia_1, ne_eq, true_and, and_true, false_and, and_false, or_false, false_or, or_true, true_or, not_true_eq_false, not_false_eq_true] at *
  all_goals omega
set_option maxRecDepth 20000 in
theorem lf_x_costOf_4 (knowF : Nat → Int32) (x : Int32) (n4 : Nat) (y7 : Int32) (ab_now : NB knowF) (hc_x : 0 ≤ x.toInt ∧ x.toInt ≤ 35) (h5 : n4 < 36) (e6 : x = nI n4) (e8 : y7 = knowF (71 + n4)) : (71 + n4) < 107 := by
  have b_x := ia_b x
  have b_y7 := ia_b y7
  try have k_0 := ia_n n4 (by first | decide | omega)
  try simp only [ia_lt, ia_le, ia_eq, ia_m1, ia_0, ia_1, ne_eq, true_and, and_true, false_and, and_false, or_false, false_or, or_true, true_or, not_true_eq_false, not_false_eq_true] at *
  all_goals omega
set_option maxRecDepth 20000 in
theorem lf_x_costOf_5 (knowF : Nat → Int32) (x : Int32) (n4 : Nat) (y7 : Int32) (ab_now : NB knowF) (hc_x : 0 ≤ x.toInt ∧ x.toInt ≤ 35) (h5 : n4 < 36) (e6 : x = nI n4) (e8 : y7 = knowF (71 + n4)) (b9 : 0 ≤ y7.toInt) (b10 : y7.toInt ≤ 9) : 0 ≤ y7.toInt ∧ y7.toInt < ((10 : Nat) : Int) := by
  have b_x := ia_b x
  have b_y7 := ia_b y7
  try have k_0 := ia_n n4 (by first | decide | omega)
  try simp only [ia_lt, ia_le, ia_eq, ia_m1, ia_0, ia_1, ne_eq, true_and, and_true, false_and, and_false, or_false, false_or, or_true, true_or, not_true_eq_false, not_false_eq_true] at *
  all_goals omega
set_option maxRecDepth 20000 in
theorem lf_x_costOf_6 (knowF : Nat → Int32) (x : Int32) (n4 : Nat) (y7 : Int32) (n11 : Nat) (ab_now : NB knowF) (hc_x : 0 ≤ x.toInt ∧ x.toInt ≤ 35) (h5 : n4 < 36) (e6 : x = nI n4) (e8 : y7 = knowF (71 + n4)) (b9 : 0 ≤ y7.toInt) (b10 : y7.toInt ≤ 9) (h12 : n11 < 10) (e13 : y7 = nI n11) : 1 ≤ (1 + (n11 / 3)) ∧ (1 + (n11 / 3)) ≤ 4 := by
  have b_x := ia_b x
  have b_y7 := ia_b y7
  try have k_0 := ia_n n4 (by first | decide | omega)
  try have k_1 := ia_n n11 (by first | decide | omega)
  try simp only [ia_lt, ia_le, ia_eq, ia_m1, ia_0, ia_1, ne_eq, true_and, and_true, false_and, and_false, or_false, false_or, or_true, true_or, not_true_eq_false, not_false_eq_true] at *
  all_goals omega
set_option maxRecDepth 20000 in
theorem lf_x_costOf_7   : 1 ≤ 1 ∧ 1 ≤ 4 := by
  try simp only [ia_lt, ia_le, ia_eq, ia_m1, ia_0, ia_1, ne_eq, true_and, and_true, false_and, and_false, or_false, false_or, or_true, true_or, not_true_eq_false, not_false_eq_true] at *
  all_goals omega
set_option maxHeartbeats 4000000 in
set_option maxRecDepth 100000 in
theorem c_x_costOf (l : Launch) (dC : Nat → ClassId) (dI : Nat → Nat → Nat) (ky : Nat → ClassId) (o : Nat) (kthrown : Int32) (ktape : Nat) (ktaped : Nat) (ksize : Nat) (klimit : Nat) (kto : Nat) (kfrom : Nat) (kkind : Int32) (knumber : Int32) (ksign : Int32) (kfault : Int32) (kplace : Int32) (kword : Int64) (ktold : Int32) (know : Nat) (kread : Nat) (kkept : Nat) (ksnaps : Nat) (kaside : Nat) (kname : Nat) (kreadName : Nat) (kkeptName : Nat) (kisKept : Nat) (konces : Nat) (ksnapMany : Nat) (khasCells : Int32) (kpoured : Nat) (kfar : Nat) (ksides : Nat) (ksideMany : Nat) (kwayDays : Int32) (khasWay : Int32) (klines : Nat) (kmet : Nat) (kmetMany : Nat) (ksunk : Nat) (ktrying : Nat) (ksunkMany : Nat) (ksending : Int32) (kfleets : Int32) (ktext : Nat) (ktexts : Nat) (kseed : Int32) (kline : Nat) (kwritten : Nat) (klineMany : Nat) (khasWritten : Int32) (knode : Nat) (knodes : Nat) (konesMany : Nat) (kwithin : Nat) (ktop : Nat) (knowF : Nat → Int32) (x : Int32) (iv_ko_0 : ktaped ≤ 940) (iv_ko_1 : ksize ≤ 940) (iv_ko_2 : klimit ≤ 900) (iv_ko_3 : kto ≤ ksize) (iv_ko_4 : kfrom ≤ 940) (iv_ko_5 : ksnapMany ≤ 8) (iv_ko_6 : ksideMany ≤ 36) (iv_ko_7 : kmetMany ≤ 3) (iv_ko_8 : ksunkMany ≤ 36) (iv_ko_9 : ktexts ≤ 64) (iv_ko_10 : klineMany ≤ 40) (iv_ko_11 : knodes ≤ 60) (iv_ko_12 : konesMany ≤ 20) (iv_ko_13 : kwithin ≤ 8) (iv_ko_14 : ktop ≤ 59) (ab_now : NB knowF) (hc_x : 0 ≤ x.toInt ∧ x.toInt ≤ 35) : Met l yX12_costOf wsX12_costOf ({ frames := 1, cells := 0, slots := 0, locals := 20 }) (PcP dC dI ky [.ref o, .int x] [(o, .inr (12, [.int kthrown, .ref ktape, .int (nI ktaped), .int (nI ksize), .int (nI klimit), .int (nI kto), .int (nI kfrom), .int kkind, .int knumber, .int ksign, .int kfault, .int kplace, .long kword, .int ktold, .ref know, .ref kread, .ref kkept, .ref ksnaps, .ref kaside, .ref kname, .ref kreadName, .ref kkeptName, .ref kisKept, .ref konces, .int (nI ksnapMany), .int khasCells, .ref kpoured, .ref kfar, .ref ksides, .int (nI ksideMany), .int kwayDays, .int khasWay, .ref klines, .ref kmet, .int (nI kmetMany), .ref ksunk, .ref ktrying, .int (nI ksunkMany), .int ksending, .int kfleets, .ref ktext, .int (nI ktexts), .int kseed, .ref kline, .ref kwritten, .int (nI klineMany), .int khasWritten, .ref knode, .int (nI knodes), .int (nI konesMany), .int (nI kwithin), .int (nI ktop)])), (know, .inl (ky 0, 373, .inl knowF))]) (vp_Si (fun r : Int32 => ∃ k9 : Nat, (1 ≤ k9 ∧ k9 ≤ 4) ∧ r = nI k9)) 0 0 (fun _ => False) := by
  refine Met.ofW (cc := cX12_costOf) (maxL := 2) (ret := (some .int)) (by decide) rfl ?_
  intro p e s m args below meth c s₁ B hml hv
  obtain ⟨rfl, hP, hK⟩ := hv
  have hx := B.exec
  have hb := B.bytes
  have hr := B.returns
  have hts := atoms_spec (ws := wsX12_costOf) B.pre
  have hown : s.vm.findClass RX12 = some m.cls := findClass_of_methodNamed B.named
  have hlocks := B.notSynchronized
  have hin12 : ∀ w ∈ u_ws RX12 TX12 52, w ∈ wsX12_costOf := by decide +kernel
  have hl := lv_entry ([.ref o, .int x]) (n := 2) (Nat.le_of_ble_eq_true rfl)
  rw [lg_entry_eq]
  generalize (lg_sl ([.ref o, .int x]) ++ List.replicate (2 - (lg_sl ([.ref o, .int x])).length) Slot.unset).toArray = ls at hl ⊢
  have hl : lv_has ls 2 [(0, .ref o), (1, .int x)] := hl
  refine q_name (fun Q hQ => ?_)
  generalize ([.ref o, .int x] : List Value).toArray = args at hts hQ ⊢
  refine lv_aload_n hx hb dX12_costOf_0 rfl (lv_at hl 0 rfl) ?_
  refine vp_callSi (W.runV (As := []) (rest := []) ⟨hx, hb, hml, hown, hts⟩ (c_x_hasSkin l dC dI ky o kthrown ktape ktaped ksize klimit kto kfrom kkind knumber ksign kfault kplace kword ktold know kread kkept ksnaps kaside kname kreadName kkeptName kisKept konces ksnapMany khasCells kpoured kfar ksides ksideMany kwayDays khasWay klines kmet kmetMany ksunk ktrying ksunkMany ksending kfleets ktext ktexts kseed kline kwritten klineMany khasWritten knode knodes konesMany kwithin ktop knowF iv_ko_0 iv_ko_1 iv_ko_2 iv_ko_3 iv_ko_4 iv_ko_5 iv_ko_6 iv_ko_7 iv_ko_8 iv_ko_9 iv_ko_10 iv_ko_11 iv_ko_12 iv_ko_13 iv_ko_14 ab_now) (cwV 0 hts gX12_costOf_X12_hasSkin rfl rfl rfl (by decide +kernel) ⟨(Nat.le_of_ble_eq_true rfl), (Nat.le_of_ble_eq_true rfl)⟩) (pre_PV hK hP [0, 1] rfl (ci := 12) (q0 := 0) rfl rfl) rfl rfl hl.1 rfl (lv_room (Nat.le_of_ble_eq_true rfl)) dX12_costOf_1 ⟨(Nat.le_of_ble_eq_true rfl), (Nat.le_of_ble_eq_true rfl)⟩) (fun r1 p2 => ?_)
  refine lv_if_eq (tgt := 11) hx hb dX12_costOf_4 (by decide) (fun c3 => ?_) (fun c3 => ?_)
  · refine lv_iconst (v := nI 1) hx hb dX12_costOf_11 (by decide) ?_
    refine lv_aload_n hx hb dX12_costOf_12 rfl (lv_at hl 0 rfl) ?_
    refine va_get (D := (dC, dI)) (ci := 12) (v := .ref know) (C := RX12) (T := TX12) (N := 52) hx hb hts hin12 hown hK hP 0 rfl rfl 14 (by decide) (hts (.fieldLink RX12 98 "PorridgeSeaModel" "now" "[I") (List.mem_of_getElem? (i := 1) rfl)) (fun _ h9 => h9) rfl dX12_costOf_13 ?_
    refine lv_bipush (v := nI 71) hx hb dX12_costOf_16 (by decide) ?_
    refine lv_iload_n hx hb dX12_costOf_18 rfl (lv_at hl 1 rfl) ?_
    obtain ⟨n4, h5, e6⟩ := nat_of x 36 (by decide) (lf_x_costOf_1 x hc_x)
    rw [e6]
    refine lv_iadd hx hb dX12_costOf_19 ?_
    refine r_ti (nI (71 + n4)) (nI_add _ _) ?_
    obtain ⟨y7, e8⟩ : ∃ z9, z9 = knowF (71 + n4) := ⟨_, rfl⟩
    refine r_iald hx hb hK hP 1 rfl (71 + n4) (lf_x_costOf_2 knowF x n4 y7 ab_now hc_x h5 e6 e8) (by decide) y7 e8.symm dX12_costOf_20 ?_
    obtain ⟨b9, b10⟩ : (0 : Int) ≤ y7.toInt ∧ y7.toInt ≤ 9 := by rw [e8]; exact ld_NB_71 ab_now (71 + n4) (lf_x_costOf_3 knowF x n4 y7 ab_now hc_x h5 e6 e8) (lf_x_costOf_4 knowF x n4 y7 ab_now hc_x h5 e6 e8)
    refine lv_iconst (v := nI 3) hx hb dX12_costOf_21 (by decide) ?_
    obtain ⟨n11, h12, e13⟩ := nat_of y7 10 (by decide) (lf_x_costOf_5 knowF x n4 y7 ab_now hc_x h5 e6 e8 b9 b10)
    rw [e13]
    refine lv_idiv hx hb dX12_costOf_22 (by decide) ?_
    refine r_ti (nI (n11 / 3)) (pk_div (by omega) (by omega) (by omega)) ?_
    refine lv_iadd hx hb dX12_costOf_23 ?_
    refine r_ti (nI (1 + (n11 / 3))) (nI_add _ _) ?_
    rw [hQ]
    exact W.iret (v := nI (1 + (n11 / 3))) hx hb hr (fun t9 ht9 hW9 => ⟨nI (1 + (n11 / 3)), rfl, ⟨(1 + (n11 / 3)), (lf_x_costOf_6 knowF x n4 y7 n11 ab_now hc_x h5 e6 e8 b9 b10 h12 e13), rfl⟩, ht9⟩) (fun _ h => absurd h List.not_mem_nil) dX12_costOf_24
  · refine lv_iconst (v := nI 1) hx hb dX12_costOf_7 (by decide) ?_
    refine lv_goto (tgt := 24) hx hb dX12_costOf_8 (by decide) ?_
    rw [hQ]
    exact W.iret (v := nI 1) hx hb hr (fun t9 ht9 hW9 => ⟨nI 1, rfl, ⟨1, (lf_x_costOf_7), rfl⟩, ht9⟩) (fun _ h => absurd h List.not_mem_nil) dX12_costOf_24
set_option maxRecDepth 20000 in
theorem lf_x_beside_1 (x : Int32) (hc_x : 0 ≤ x.toInt ∧ x.toInt ≤ 35) : 0 ≤ x.toInt ∧ x.toInt < ((36 : Nat) : Int) := by
  have b_x := ia_b x
  try simp only [ia_lt, ia_le, ia_eq, ia_m1, ia_0, ia_1, ne_eq, true_and, and_true, false_and, and_false, or_false, false_or, or_true, true_or, not_true_eq_false, not_false_eq_true] at *
  all_goals omega
set_option maxRecDepth 20000 in
theorem lf_x_beside_2 (knowF : Nat → Int32) (x : Int32) (y : Int32) (n1 : Nat) (ab_now : NB knowF) (hc_x : 0 ≤ x.toInt ∧ x.toInt ≤ 35) (hs : 0 ≤ y.toInt ∧ y.toInt ≤ 3) (h2 : n1 < 36) (e3 : x = nI n1) (c4 : y ≠ 0) (c5 : y ≠ nI 2) (c6 : y ≠ nI 1) (c7 : y ≤ nI 2) (t10 : 0 ≤ (nI ((n1 % 6) + 0)).toInt) (t11 : (nI ((n1 % 6) + 0)).toInt < (knowF 0).toInt) (t12 : 0 ≤ (nI ((n1 / 6) + 0)).toInt) (t13 : (nI ((n1 / 6) + 0)).toInt < (knowF 1).toInt) (t14 : (nI ((n1 % 6) + 0)).toInt ≤ 5) (t15 : (nI ((n1 / 6) + 0)).toInt ≤ 5) : ((6 * ((n1 / 6) + 0)) + ((n1 % 6) + 0)) < 36 ∧ BSok x.toInt y.toInt (knowF 0).toInt (knowF 1).toInt := by
  have b_x := ia_b x
  have b_y := ia_b y
  try have k_0 := ia_n n1 (by first | decide | omega)
  try have k_1 := ia_n 2 (by first | decide | omega)
  try have k_2 := ia_n 1 (by first | decide | omega)
  try have k_3 := ia_n ((n1 % 6) + 0) (by first | decide | omega)
  try have k_4 := ia_n ((n1 / 6) + 0) (by first | decide | omega)
  try unfold BSok at *
  try simp only [ia_lt, ia_le, ia_eq, ia_m1, ia_0, ia_1, ne_eq, true_and, and_true, false_and, and_false, or_false, false_or, or_true, true_or, not_true_eq_false, not_false_eq_true] at *
  all_goals omega
set_option maxRecDepth 20000 in
theorem lf_x_beside_3 (knowF : Nat → Int32) (x : Int32) (y : Int32) (n1 : Nat) (ab_now : NB knowF) (hc_x : 0 ≤ x.toInt ∧ x.toInt ≤ 35) (hs : 0 ≤ y.toInt ∧ y.toInt ≤ 3) (h2 : n1 < 36) (e3 : x = nI n1) (c4 : y ≠ 0) (c5 : y ≠ nI 2) (c6 : y ≠ nI 1) (c7 : y ≤ nI 2) (t16 : ¬ (0 ≤ (nI ((n1 % 6) + 0)).toInt ∧ (nI ((n1 % 6) + 0)).toInt < (knowF 0).toInt ∧ 0 ≤ (nI ((n1 / 6) + 0)).toInt ∧ (nI ((n1 / 6) + 0)).toInt < (knowF 1).toInt)) : ¬ BSok x.toInt y.toInt (knowF 0).toInt (knowF 1).toInt := by
  have b_x := ia_b x
  have b_y := ia_b y
  try have k_0 := ia_n n1 (by first | decide | omega)
  try have k_1 := ia_n 2 (by first | decide | omega)
  try have k_2 := ia_n 1 (by first | decide | omega)
  try have k_3 := ia_n ((n1 % 6) + 0) (by first | decide | omega)
  try have k_4 := ia_n ((n1 / 6) + 0) (by first | decide | omega)
  try unfold BSok at *
  try simp only [ia_lt, ia_le, ia_eq, ia_m1, ia_0, ia_1, ne_eq, true_and, and_true, false_and, and_false, or_false, false_or, or_true, true_or, not_true_eq_false, not_false_eq_true] at *
  all_goals omega
set_option maxRecDepth 20000 in
theorem lf_x_beside_4 (x : Int32) (n1 : Nat) (hc_x : 0 ≤ x.toInt ∧ x.toInt ≤ 35) (h2 : n1 < 36) (e3 : x = nI n1) : -1073741824 ≤ (nI (n1 / 6)).toInt := by
  have b_x := ia_b x
  try have k_0 := ia_n n1 (by first | decide | omega)
  try have k_1 := ia_n (n1 / 6) (by first | decide | omega)
  try simp only [ia_lt, ia_le, ia_eq, ia_m1, ia_0, ia_1, ne_eq, true_and, and_true, false_and, and_false, or_false, false_or, or_true, true_or, not_true_eq_false, not_false_eq_true] at *
  all_goals omega
set_option maxRecDepth 20000 in
theorem lf_x_beside_5 (x : Int32) (n1 : Nat) (hc_x : 0 ≤ x.toInt ∧ x.toInt ≤ 35) (h2 : n1 < 36) (e3 : x = nI n1) : (nI (n1 / 6)).toInt ≤ 1073741823 := by
  have b_x := ia_b x
  try have k_0 := ia_n n1 (by first | decide | omega)
  try have k_1 := ia_n (n1 / 6) (by first | decide | omega)
  try simp only [ia_lt, ia_le, ia_eq, ia_m1, ia_0, ia_1, ne_eq, true_and, and_true, false_and, and_false, or_false, false_or, or_true, true_or, not_true_eq_false, not_false_eq_true] at *
  all_goals omega
set_option maxRecDepth 20000 in
theorem lf_x_beside_6   : -1073741824 ≤ (-1 : Int32).toInt := by
  try simp only [ia_lt, ia_le, ia_eq, ia_m1, ia_0, ia_1, ne_eq, true_and, and_true, false_and, and_false, or_false, false_or, or_true, true_or, not_true_eq_false, not_false_eq_true] at *
  all_goals omega
set_option maxRecDepth 20000 in
theorem lf_x_beside_7   : (-1 : Int32).toInt ≤ 1073741823 := by
  try simp only [ia_lt, ia_le, ia_eq, ia_m1, ia_0, ia_1, ne_eq, true_and, and_true, false_and, and_false, or_false, false_or, or_true, true_or, not_true_eq_false, not_false_eq_true] at *
  all_goals omega
set_option maxRecDepth 20000 in
theorem lf_x_beside_8 (x : Int32) (n1 : Nat) (y19 : Int32) (hc_x : 0 ≤ x.toInt ∧ x.toInt ≤ 35) (h2 : n1 < 36) (e3 : x = nI n1) (f21 : y19.toInt = (nI (n1 / 6)).toInt + (-1 : Int32).toInt) : -1 ≤ y19.toInt := by
  have b_x := ia_b x
  have b_y19 := ia_b y19
  try have k_0 := ia_n n1 (by first | decide | omega)
  try have k_1 := ia_n (n1 / 6) (by first | decide | omega)
  try simp only [ia_lt, ia_le, ia_eq, ia_m1, ia_0, ia_1, ne_eq, true_and, and_true, false_and, and_false, or_false, false_or, or_true, true_or, not_true_eq_false, not_false_eq_true] at *
  all_goals omega
set_option maxRecDepth 20000 in
theorem lf_x_beside_9 (x : Int32) (n1 : Nat) (y19 : Int32) (hc_x : 0 ≤ x.toInt ∧ x.toInt ≤ 35) (h2 : n1 < 36) (e3 : x = nI n1) (f21 : y19.toInt = (nI (n1 / 6)).toInt + (-1 : Int32).toInt) : y19.toInt ≤ 4 := by
  have b_x := ia_b x
  have b_y19 := ia_b y19
  try have k_0 := ia_n n1 (by first | decide | omega)
  try have k_1 := ia_n (n1 / 6) (by first | decide | omega)
  try simp only [ia_lt, ia_le, ia_eq, ia_m1, ia_0, ia_1, ne_eq, true_and, and_true, false_and, and_false, or_false, false_or, or_true, true_or, not_true_eq_false, not_false_eq_true] at *
  all_goals omega
set_option maxRecDepth 20000 in
theorem lf_x_beside_10 (knowF : Nat → Int32) (x : Int32) (n1 : Nat) (y19 : Int32) (ab_now : NB knowF) (hc_x : 0 ≤ x.toInt ∧ x.toInt ≤ 35) (h2 : n1 < 36) (e3 : x = nI n1) (f21 : y19.toInt = (nI (n1 / 6)).toInt + (-1 : Int32).toInt) (b22 : -1 ≤ y19.toInt) (b23 : y19.toInt ≤ 4) (t26 : 0 ≤ (nI ((n1 % 6) + 0)).toInt) (t27 : (nI ((n1 % 6) + 0)).toInt < (knowF 0).toInt) (t28 : 0 ≤ y19.toInt) (t29 : y19.toInt < (knowF 1).toInt) (t30 : (nI ((n1 % 6) + 0)).toInt ≤ 5) (t31 : y19.toInt ≤ 5) : 0 ≤ y19.toInt ∧ y19.toInt < ((5 : Nat) : Int) := by
  have b_x := ia_b x
  have b_y19 := ia_b y19
  try have k_0 := ia_n n1 (by first | decide | omega)
  try have k_1 := ia_n (n1 / 6) (by first | decide | omega)
  try have k_2 := ia_n ((n1 % 6) + 0) (by first | decide | omega)
  try simp only [ia_lt, ia_le, ia_eq, ia_m1, ia_0, ia_1, ne_eq, true_and, and_true, false_and, and_false, or_false, false_or, or_true, true_or, not_true_eq_false, not_false_eq_true] at *
  all_goals omega
set_option maxRecDepth 20000 in
theorem lf_x_beside_11 (knowF : Nat → Int32) (x : Int32) (y : Int32) (n1 : Nat) (y19 : Int32) (n34 : Nat) (ab_now : NB knowF) (hc_x : 0 ≤ x.toInt ∧ x.toInt ≤ 35) (hs : 0 ≤ y.toInt ∧ y.toInt ≤ 3) (h2 : n1 < 36) (e3 : x = nI n1) (c4 : y ≠ 0) (c5 : y ≠ nI 2) (c6 : y ≠ nI 1) (c7 : ¬ y ≤ nI 2) (f21 : y19.toInt = (nI (n1 / 6)).toInt + (-1 : Int32).toInt) (b22 : -1 ≤ y19.toInt) (b23 : y19.toInt ≤ 4) (t26 : 0 ≤ (nI ((n1 % 6) + 0)).toInt) (t27 : (nI ((n1 % 6) + 0)).toInt < (knowF 0).toInt) (t28 : 0 ≤ y19.toInt) (t29 : y19.toInt < (knowF 1).toInt) (t30 : (nI ((n1 % 6) + 0)).toInt ≤ 5) (t31 : y19.toInt ≤ 5) (h35 : n34 < 5) (e36 : y19 = nI n34) : ((6 * n34) + ((n1 % 6) + 0)) < 36 ∧ BSok x.toInt y.toInt (knowF 0).toInt (knowF 1).toInt := by
  have b_x := ia_b x
  have b_y := ia_b y
  have b_y19 := ia_b y19
  try have k_0 := ia_n n1 (by first | decide | omega)
  try have k_1 := ia_n 2 (by first | decide | omega)
  try have k_2 := ia_n 1 (by first | decide | omega)
  try have k_3 := ia_n (n1 / 6) (by first | decide | omega)
  try have k_4 := ia_n ((n1 % 6) + 0) (by first | decide | omega)
  try have k_5 := ia_n n34 (by first | decide | omega)
  try unfold BSok at *
  try simp only [ia_lt, ia_le, ia_eq, ia_m1, ia_0, ia_1, ne_eq, true_and, and_true, false_and, and_false, or_false, false_or, or_true, true_or, not_true_eq_false, not_false_eq_true] at *
  all_goals omega
set_option maxRecDepth 20000 in
theorem lf_x_beside_12 (knowF : Nat → Int32) (x : Int32) (y : Int32) (n1 : Nat) (y19 : Int32) (ab_now : NB knowF) (hc_x : 0 ≤ x.toInt ∧ x.toInt ≤ 35) (hs : 0 ≤ y.toInt ∧ y.toInt ≤ 3) (h2 : n1 < 36) (e3 : x = nI n1) (c4 : y ≠ 0) (c5 : y ≠ nI 2) (c6 : y ≠ nI 1) (c7 : ¬ y ≤ nI 2) (f21 : y19.toInt = (nI (n1 / 6)).toInt + (-1 : Int32).toInt) (b22 : -1 ≤ y19.toInt) (b23 : y19.toInt ≤ 4) (t32 : ¬ (0 ≤ (nI ((n1 % 6) + 0)).toInt ∧ (nI ((n1 % 6) + 0)).toInt < (knowF 0).toInt ∧ 0 ≤ y19.toInt ∧ y19.toInt < (knowF 1).toInt)) : ¬ BSok x.toInt y.toInt (knowF 0).toInt (knowF 1).toInt := by
  have b_x := ia_b x
  have b_y := ia_b y
  have b_y19 := ia_b y19
  try have k_0 := ia_n n1 (by first | decide | omega)
  try have k_1 := ia_n 2 (by first | decide | omega)
  try have k_2 := ia_n 1 (by first | decide | omega)
  try have k_3 := ia_n (n1 / 6) (by first | decide | omega)
  try have k_4 := ia_n ((n1 % 6) + 0) (by first | decide | omega)
  try unfold BSok at *
  try simp only [ia_lt, ia_le, ia_eq, ia_m1, ia_0, ia_1, ne_eq, true_and, and_true, false_and, and_false, or_false, false_or, or_true, true_or, not_true_eq_false, not_false_eq_true] at *
  all_goals omega
set_option maxRecDepth 20000 in
theorem lf_x_beside_13 (knowF : Nat → Int32) (x : Int32) (y : Int32) (n1 : Nat) (ab_now : NB knowF) (hc_x : 0 ≤ x.toInt ∧ x.toInt ≤ 35) (hs : 0 ≤ y.toInt ∧ y.toInt ≤ 3) (h2 : n1 < 36) (e3 : x = nI n1) (c4 : y ≠ 0) (c5 : y ≠ nI 2) (c6 : y = nI 1) (t40 : 0 ≤ (nI ((n1 % 6) + 0)).toInt) (t41 : (nI ((n1 % 6) + 0)).toInt < (knowF 0).toInt) (t42 : 0 ≤ (nI ((n1 / 6) + 1)).toInt) (t43 : (nI ((n1 / 6) + 1)).toInt < (knowF 1).toInt) (t44 : (nI ((n1 % 6) + 0)).toInt ≤ 5) (t45 : (nI ((n1 / 6) + 1)).toInt ≤ 5) : ((6 * ((n1 / 6) + 1)) + ((n1 % 6) + 0)) < 36 ∧ BSok x.toInt y.toInt (knowF 0).toInt (knowF 1).toInt := by
  have b_x := ia_b x
  have b_y := ia_b y
  try have k_0 := ia_n n1 (by first | decide | omega)
  try have k_1 := ia_n 2 (by first | decide | omega)
  try have k_2 := ia_n 1 (by first | decide | omega)
  try have k_3 := ia_n ((n1 % 6) + 0) (by first | decide | omega)
  try have k_4 := ia_n ((n1 / 6) + 1) (by first | decide | omega)
  try unfold BSok at *
  try simp only [ia_lt, ia_le, ia_eq, ia_m1, ia_0, ia_1, ne_eq, true_and, and_true, false_and, and_false, or_false, false_or, or_true, true_or, not_true_eq_false, not_false_eq_true] at *
  all_goals omega
set_option maxRecDepth 20000 in
theorem lf_x_beside_14 (knowF : Nat → Int32) (x : Int32) (y : Int32) (n1 : Nat) (ab_now : NB knowF) (hc_x : 0 ≤ x.toInt ∧ x.toInt ≤ 35) (hs : 0 ≤ y.toInt ∧ y.toInt ≤ 3) (h2 : n1 < 36) (e3 : x = nI n1) (c4 : y ≠ 0) (c5 : y ≠ nI 2) (c6 : y = nI 1) (t46 : ¬ (0 ≤ (nI ((n1 % 6) + 0)).toInt ∧ (nI ((n1 % 6) + 0)).toInt < (knowF 0).toInt ∧ 0 ≤ (nI ((n1 / 6) + 1)).toInt ∧ (nI ((n1 / 6) + 1)).toInt < (knowF 1).toInt)) : ¬ BSok x.toInt y.toInt (knowF 0).toInt (knowF 1).toInt := by
  have b_x := ia_b x
  have b_y := ia_b y
  try have k_0 := ia_n n1 (by first | decide | omega)
  try have k_1 := ia_n 2 (by first | decide | omega)
  try have k_2 := ia_n 1 (by first | decide | omega)
  try have k_3 := ia_n ((n1 % 6) + 0) (by first | decide | omega)
  try have k_4 := ia_n ((n1 / 6) + 1) (by first | decide | omega)
  try unfold BSok at *
  try simp only [ia_lt, ia_le, ia_eq, ia_m1, ia_0, ia_1, ne_eq, true_and, and_true, false_and, and_false, or_false, false_or, or_true, true_or, not_true_eq_false, not_false_eq_true] at *
  all_goals omega
set_option maxRecDepth 20000 in
theorem lf_x_beside_15 (x : Int32) (n1 : Nat) (hc_x : 0 ≤ x.toInt ∧ x.toInt ≤ 35) (h2 : n1 < 36) (e3 : x = nI n1) : -1073741824 ≤ (nI (n1 % 6)).toInt := by
  have b_x := ia_b x
  try have k_0 := ia_n n1 (by first | decide | omega)
  try have k_1 := ia_n (n1 % 6) (by first | decide | omega)
  try simp only [ia_lt, ia_le, ia_eq, ia_m1, ia_0, ia_1, ne_eq, true_and, and_true, false_and, and_false, or_false, false_or, or_true, true_or, not_true_eq_false, not_false_eq_true] at *
  all_goals omega
set_option maxRecDepth 20000 in
theorem lf_x_beside_16 (x : Int32) (n1 : Nat) (hc_x : 0 ≤ x.toInt ∧ x.toInt ≤ 35) (h2 : n1 < 36) (e3 : x = nI n1) : (nI (n1 % 6)).toInt ≤ 1073741823 := by
  have b_x := ia_b x
  try have k_0 := ia_n n1 (by first | decide | omega)
  try have k_1 := ia_n (n1 % 6) (by first | decide | omega)
  try simp only [ia_lt, ia_le, ia_eq, ia_m1, ia_0, ia_1, ne_eq, true_and, and_true, false_and, and_false, or_false, false_or, or_true, true_or, not_true_eq_false, not_false_eq_true] at *
  all_goals omega
set_option maxRecDepth 20000 in
theorem lf_x_beside_17   : -1073741824 ≤ (-1 : Int32).toInt := by
  try simp only [ia_lt, ia_le, ia_eq, ia_m1, ia_0, ia_1, ne_eq, true_and, and_true, false_and, and_false, or_false, false_or, or_true, true_or, not_true_eq_false, not_false_eq_true] at *
  all_goals omega
set_option maxRecDepth 20000 in
theorem lf_x_beside_18   : (-1 : Int32).toInt ≤ 1073741823 := by
  try simp only [ia_lt, ia_le, ia_eq, ia_m1, ia_0, ia_1, ne_eq, true_and, and_true, false_and, and_false, or_false, false_or, or_true, true_or, not_true_eq_false, not_false_eq_true] at *
  all_goals omega
set_option maxRecDepth 20000 in
theorem lf_x_beside_19 (x : Int32) (n1 : Nat) (y49 : Int32) (hc_x : 0 ≤ x.toInt ∧ x.toInt ≤ 35) (h2 : n1 < 36) (e3 : x = nI n1) (f51 : y49.toInt = (nI (n1 % 6)).toInt + (-1 : Int32).toInt) : -1 ≤ y49.toInt := by
  have b_x := ia_b x
  have b_y49 := ia_b y49
  try have k_0 := ia_n n1 (by first | decide | omega)
  try have k_1 := ia_n (n1 % 6) (by first | decide | omega)
  try simp only [ia_lt, ia_le, ia_eq, ia_m1, ia_0, ia_1, ne_eq, true_and, and_true, false_and, and_false, or_false, false_or, or_true, true_or, not_true_eq_false, not_false_eq_true] at *
  all_goals omega
set_option maxRecDepth 20000 in
theorem lf_x_beside_20 (x : Int32) (n1 : Nat) (y49 : Int32) (hc_x : 0 ≤ x.toInt ∧ x.toInt ≤ 35) (h2 : n1 < 36) (e3 : x = nI n1) (f51 : y49.toInt = (nI (n1 % 6)).toInt + (-1 : Int32).toInt) : y49.toInt ≤ 4 := by
  have b_x := ia_b x
  have b_y49 := ia_b y49
  try have k_0 := ia_n n1 (by first | decide | omega)
  try have k_1 := ia_n (n1 % 6) (by first | decide | omega)
  try simp only [ia_lt, ia_le, ia_eq, ia_m1, ia_0, ia_1, ne_eq, true_and, and_true, false_and, and_false, or_false, false_or, or_true, true_or, not_true_eq_false, not_false_eq_true] at *
  all_goals omega
set_option maxRecDepth 20000 in
theorem lf_x_beside_21 (knowF : Nat → Int32) (x : Int32) (n1 : Nat) (y49 : Int32) (ab_now : NB knowF) (hc_x : 0 ≤ x.toInt ∧ x.toInt ≤ 35) (h2 : n1 < 36) (e3 : x = nI n1) (f51 : y49.toInt = (nI (n1 % 6)).toInt + (-1 : Int32).toInt) (b52 : -1 ≤ y49.toInt) (b53 : y49.toInt ≤ 4) (t58 : 0 ≤ y49.toInt) (t59 : y49.toInt < (knowF 0).toInt) (t60 : 0 ≤ (nI ((n1 / 6) + 0)).toInt) (t61 : (nI ((n1 / 6) + 0)).toInt < (knowF 1).toInt) (t62 : y49.toInt ≤ 5) (t63 : (nI ((n1 / 6) + 0)).toInt ≤ 5) : 0 ≤ y49.toInt ∧ y49.toInt < ((5 : Nat) : Int) := by
  have b_x := ia_b x
  have b_y49 := ia_b y49
  try have k_0 := ia_n n1 (by first | decide | omega)
  try have k_1 := ia_n (n1 % 6) (by first | decide | omega)
  try have k_2 := ia_n ((n1 / 6) + 0) (by first | decide | omega)
  try simp only [ia_lt, ia_le, ia_eq, ia_m1, ia_0, ia_1, ne_eq, true_and, and_true, false_and, and_false, or_false, false_or, or_true, true_or, not_true_eq_false, not_false_eq_true] at *
  all_goals omega
set_option maxRecDepth 20000 in
theorem lf_x_beside_22 (knowF : Nat → Int32) (x : Int32) (y : Int32) (n1 : Nat) (y49 : Int32) (n66 : Nat) (ab_now : NB knowF) (hc_x : 0 ≤ x.toInt ∧ x.toInt ≤ 35) (hs : 0 ≤ y.toInt ∧ y.toInt ≤ 3) (h2 : n1 < 36) (e3 : x = nI n1) (c4 : y ≠ 0) (c5 : y = nI 2) (f51 : y49.toInt = (nI (n1 % 6)).toInt + (-1 : Int32).toInt) (b52 : -1 ≤ y49.toInt) (b53 : y49.toInt ≤ 4) (c54 : y ≠ nI 1) (c55 : y ≤ nI 2) (t58 : 0 ≤ y49.toInt) (t59 : y49.toInt < (knowF 0).toInt) (t60 : 0 ≤ (nI ((n1 / 6) + 0)).toInt) (t61 : (nI ((n1 / 6) + 0)).toInt < (knowF 1).toInt) (t62 : y49.toInt ≤ 5) (t63 : (nI ((n1 / 6) + 0)).toInt ≤ 5) (h67 : n66 < 5) (e68 : y49 = nI n66) : ((6 * ((n1 / 6) + 0)) + n66) < 36 ∧ BSok x.toInt y.toInt (knowF 0).toInt (knowF 1).toInt := by
  have b_x := ia_b x
  have b_y := ia_b y
  have b_y49 := ia_b y49
  try have k_0 := ia_n n1 (by first | decide | omega)
  try have k_1 := ia_n 2 (by first | decide | omega)
  try have k_2 := ia_n (n1 % 6) (by first | decide | omega)
  try have k_3 := ia_n 1 (by first | decide | omega)
  try have k_4 := ia_n ((n1 / 6) + 0) (by first | decide | omega)
  try have k_5 := ia_n n66 (by first | decide | omega)
  try unfold BSok at *
  try simp only [ia_lt, ia_le, ia_eq, ia_m1, ia_0, ia_1, ne_eq, true_and, and_true, false_and, and_false, or_false, false_or, or_true, true_or, not_true_eq_false, not_false_eq_true] at *
  all_goals omega
set_option maxRecDepth 20000 in
theorem lf_x_beside_23 (knowF : Nat → Int32) (x : Int32) (y : Int32) (n1 : Nat) (y49 : Int32) (ab_now : NB knowF) (hc_x : 0 ≤ x.toInt ∧ x.toInt ≤ 35) (hs : 0 ≤ y.toInt ∧ y.toInt ≤ 3) (h2 : n1 < 36) (e3 : x = nI n1) (c4 : y ≠ 0) (c5 : y = nI 2) (f51 : y49.toInt = (nI (n1 % 6)).toInt + (-1 : Int32).toInt) (b52 : -1 ≤ y49.toInt) (b53 : y49.toInt ≤ 4) (c54 : y ≠ nI 1) (c55 : y ≤ nI 2) (t64 : ¬ (0 ≤ y49.toInt ∧ y49.toInt < (knowF 0).toInt ∧ 0 ≤ (nI ((n1 / 6) + 0)).toInt ∧ (nI ((n1 / 6) + 0)).toInt < (knowF 1).toInt)) : ¬ BSok x.toInt y.toInt (knowF 0).toInt (knowF 1).toInt := by
  have b_x := ia_b x
  have b_y := ia_b y
  have b_y49 := ia_b y49
  try have k_0 := ia_n n1 (by first | decide | omega)
  try have k_1 := ia_n 2 (by first | decide | omega)
  try have k_2 := ia_n (n1 % 6) (by first | decide | omega)
  try have k_3 := ia_n 1 (by first | decide | omega)
  try have k_4 := ia_n ((n1 / 6) + 0) (by first | decide | omega)
  try unfold BSok at *
  try simp only [ia_lt, ia_le, ia_eq, ia_m1, ia_0, ia_1, ne_eq, true_and, and_true, false_and, and_false, or_false, false_or, or_true, true_or, not_true_eq_false, not_false_eq_true] at *
  all_goals omega
set_option maxRecDepth 20000 in
theorem lf_x_beside_24 (x : Int32) (n1 : Nat) (y49 : Int32) (hc_x : 0 ≤ x.toInt ∧ x.toInt ≤ 35) (h2 : n1 < 36) (e3 : x = nI n1) (f51 : y49.toInt = (nI (n1 % 6)).toInt + (-1 : Int32).toInt) (b52 : -1 ≤ y49.toInt) (b53 : y49.toInt ≤ 4) : -1073741824 ≤ (nI (n1 / 6)).toInt := by
  have b_x := ia_b x
  have b_y49 := ia_b y49
  try have k_0 := ia_n n1 (by first | decide | omega)
  try have k_1 := ia_n (n1 % 6) (by first | decide | omega)
  try have k_2 := ia_n (n1 / 6) (by first | decide | omega)
  try simp only [ia_lt, ia_le, ia_eq, ia_m1, ia_0, ia_1, ne_eq, true_and, and_true, false_and, and_false, or_false, false_or, or_true, true_or, not_true_eq_false, not_false_eq_true] at *
  all_goals omega
set_option maxRecDepth 20000 in
theorem lf_x_beside_25 (x : Int32) (n1 : Nat) (y49 : Int32) (hc_x : 0 ≤ x.toInt ∧ x.toInt ≤ 35) (h2 : n1 < 36) (e3 : x = nI n1) (f51 : y49.toInt = (nI (n1 % 6)).toInt + (-1 : Int32).toInt) (b52 : -1 ≤ y49.toInt) (b53 : y49.toInt ≤ 4) : (nI (n1 / 6)).toInt ≤ 1073741823 := by
  have b_x := ia_b x
  have b_y49 := ia_b y49
  try have k_0 := ia_n n1 (by first | decide | omega)
  try have k_1 := ia_n (n1 % 6) (by first | decide | omega)
  try have k_2 := ia_n (n1 / 6) (by first | decide | omega)
  try simp only [ia_lt, ia_le, ia_eq, ia_m1, ia_0, ia_1, ne_eq, true_and, and_true, false_and, and_false, or_false, false_or, or_true, true_or, not_true_eq_false, not_false_eq_true] at *
  all_goals omega
set_option maxRecDepth 20000 in
theorem lf_x_beside_26   : -1073741824 ≤ (-1 : Int32).toInt := by
  try simp only [ia_lt, ia_le, ia_eq, ia_m1, ia_0, ia_1, ne_eq, true_and, and_true, false_and, and_false, or_false, false_or, or_true, true_or, not_true_eq_false, not_false_eq_true] at *
  all_goals omega
set_option maxRecDepth 20000 in
theorem lf_x_beside_27   : (-1 : Int32).toInt ≤ 1073741823 := by
  try simp only [ia_lt, ia_le, ia_eq, ia_m1, ia_0, ia_1, ne_eq, true_and, and_true, false_and, and_false, or_false, false_or, or_true, true_or, not_true_eq_false, not_false_eq_true] at *
  all_goals omega
set_option maxRecDepth 20000 in
theorem lf_x_beside_28 (x : Int32) (n1 : Nat) (y49 : Int32) (y70 : Int32) (hc_x : 0 ≤ x.toInt ∧ x.toInt ≤ 35) (h2 : n1 < 36) (e3 : x = nI n1) (f51 : y49.toInt = (nI (n1 % 6)).toInt + (-1 : Int32).toInt) (b52 : -1 ≤ y49.toInt) (b53 : y49.toInt ≤ 4) (f72 : y70.toInt = (nI (n1 / 6)).toInt + (-1 : Int32).toInt) : -1 ≤ y70.toInt := by
  have b_x := ia_b x
  have b_y49 := ia_b y49
  have b_y70 := ia_b y70
  try have k_0 := ia_n n1 (by first | decide | omega)
  try have k_1 := ia_n (n1 % 6) (by first | decide | omega)
  try have k_2 := ia_n (n1 / 6) (by first | decide | omega)
  try simp only [ia_lt, ia_le, ia_eq, ia_m1, ia_0, ia_1, ne_eq, true_and, and_true, false_and, and_false, or_false, false_or, or_true, true_or, not_true_eq_false, not_false_eq_true] at *
  all_goals omega
set_option maxRecDepth 20000 in
theorem lf_x_beside_29 (x : Int32) (n1 : Nat) (y49 : Int32) (y70 : Int32) (hc_x : 0 ≤ x.toInt ∧ x.toInt ≤ 35) (h2 : n1 < 36) (e3 : x = nI n1) (f51 : y49.toInt = (nI (n1 % 6)).toInt + (-1 : Int32).toInt) (b52 : -1 ≤ y49.toInt) (b53 : y49.toInt ≤ 4) (f72 : y70.toInt = (nI (n1 / 6)).toInt + (-1 : Int32).toInt) : y70.toInt ≤ 4 := by
  have b_x := ia_b x
  have b_y49 := ia_b y49
  have b_y70 := ia_b y70
  try have k_0 := ia_n n1 (by first | decide | omega)
  try have k_1 := ia_n (n1 % 6) (by first | decide | omega)
  try have k_2 := ia_n (n1 / 6) (by first | decide | omega)
  try simp only [ia_lt, ia_le, ia_eq, ia_m1, ia_0, ia_1, ne_eq, true_and, and_true, false_and, and_false, or_false, false_or, or_true, true_or, not_true_eq_false, not_false_eq_true] at *
  all_goals omega
set_option maxRecDepth 20000 in
theorem lf_x_beside_30 (knowF : Nat → Int32) (x : Int32) (n1 : Nat) (y49 : Int32) (y70 : Int32) (ab_now : NB knowF) (hc_x : 0 ≤ x.toInt ∧ x.toInt ≤ 35) (h2 : n1 < 36) (e3 : x = nI n1) (f51 : y49.toInt = (nI (n1 % 6)).toInt + (-1 : Int32).toInt) (b52 : -1 ≤ y49.toInt) (b53 : y49.toInt ≤ 4) (f72 : y70.toInt = (nI (n1 / 6)).toInt + (-1 : Int32).toInt) (b73 : -1 ≤ y70.toInt) (b74 : y70.toInt ≤ 4) (t77 : 0 ≤ y49.toInt) (t78 : y49.toInt < (knowF 0).toInt) (t79 : 0 ≤ y70.toInt) (t80 : y70.toInt < (knowF 1).toInt) (t81 : y49.toInt ≤ 5) (t82 : y70.toInt ≤ 5) : 0 ≤ y70.toInt ∧ y70.toInt < ((5 : Nat) : Int) := by
  have b_x := ia_b x
  have b_y49 := ia_b y49
  have b_y70 := ia_b y70
  try have k_0 := ia_n n1 (by first | decide | omega)
  try have k_1 := ia_n (n1 % 6) (by first | decide | omega)
  try have k_2 := ia_n (n1 / 6) (by first | decide | omega)
  try simp only [ia_lt, ia_le, ia_eq, ia_m1, ia_0, ia_1, ne_eq, true_and, and_true, false_and, and_false, or_false, false_or, or_true, true_or, not_true_eq_false, not_false_eq_true] at *
  all_goals omega
set_option maxRecDepth 20000 in
theorem lf_x_beside_31 (knowF : Nat → Int32) (x : Int32) (n1 : Nat) (y49 : Int32) (y70 : Int32) (n85 : Nat) (ab_now : NB knowF) (hc_x : 0 ≤ x.toInt ∧ x.toInt ≤ 35) (h2 : n1 < 36) (e3 : x = nI n1) (f51 : y49.toInt = (nI (n1 % 6)).toInt + (-1 : Int32).toInt) (b52 : -1 ≤ y49.toInt) (b53 : y49.toInt ≤ 4) (f72 : y70.toInt = (nI (n1 / 6)).toInt + (-1 : Int32).toInt) (b73 : -1 ≤ y70.toInt) (b74 : y70.toInt ≤ 4) (t77 : 0 ≤ y49.toInt) (t78 : y49.toInt < (knowF 0).toInt) (t79 : 0 ≤ y70.toInt) (t80 : y70.toInt < (knowF 1).toInt) (t81 : y49.toInt ≤ 5) (t82 : y70.toInt ≤ 5) (h86 : n85 < 5) (e87 : y70 = nI n85) : 0 ≤ y49.toInt ∧ y49.toInt < ((5 : Nat) : Int) := by
  have b_x := ia_b x
  have b_y49 := ia_b y49
  have b_y70 := ia_b y70
  try have k_0 := ia_n n1 (by first | decide | omega)
  try have k_1 := ia_n (n1 % 6) (by first | decide | omega)
  try have k_2 := ia_n (n1 / 6) (by first | decide | omega)
  try have k_3 := ia_n n85 (by first | decide | omega)
  try simp only [ia_lt, ia_le, ia_eq, ia_m1, ia_0, ia_1, ne_eq, true_and, and_true, false_and, and_false, or_false, false_or, or_true, true_or, not_true_eq_false, not_false_eq_true] at *
  all_goals omega
set_option maxRecDepth 20000 in
theorem lf_x_beside_32 (knowF : Nat → Int32) (x : Int32) (y : Int32) (n1 : Nat) (y49 : Int32) (y70 : Int32) (n85 : Nat) (n88 : Nat) (ab_now : NB knowF) (hc_x : 0 ≤ x.toInt ∧ x.toInt ≤ 35) (hs : 0 ≤ y.toInt ∧ y.toInt ≤ 3) (h2 : n1 < 36) (e3 : x = nI n1) (c4 : y ≠ 0) (c5 : y = nI 2) (f51 : y49.toInt = (nI (n1 % 6)).toInt + (-1 : Int32).toInt) (b52 : -1 ≤ y49.toInt) (b53 : y49.toInt ≤ 4) (c54 : y ≠ nI 1) (c55 : ¬ y ≤ nI 2) (f72 : y70.toInt = (nI (n1 / 6)).toInt + (-1 : Int32).toInt) (b73 : -1 ≤ y70.toInt) (b74 : y70.toInt ≤ 4) (t77 : 0 ≤ y49.toInt) (t78 : y49.toInt < (knowF 0).toInt) (t79 : 0 ≤ y70.toInt) (t80 : y70.toInt < (knowF 1).toInt) (t81 : y49.toInt ≤ 5) (t82 : y70.toInt ≤ 5) (h86 : n85 < 5) (e87 : y70 = nI n85) (h89 : n88 < 5) (e90 : y49 = nI n88) : ((6 * n85) + n88) < 36 ∧ BSok x.toInt y.toInt (knowF 0).toInt (knowF 1).toInt := by
  have b_x := ia_b x
  have b_y := ia_b y
  have b_y49 := ia_b y49
  have b_y70 := ia_b y70
  try have k_0 := ia_n n1 (by first | decide | omega)
  try have k_1 := ia_n 2 (by first | decide | omega)
  try have k_2 := ia_n (n1 % 6) (by first | decide | omega)
  try have k_3 := ia_n 1 (by first | decide | omega)
  try have k_4 := ia_n (n1 / 6) (by first | decide | omega)
  try have k_5 := ia_n n85 (by first | decide | omega)
  try have k_6 := ia_n n88 (by first | decide | omega)
  try unfold BSok at *
  try simp only [ia_lt, ia_le, ia_eq, ia_m1, ia_0, ia_1, ne_eq, true_and, and_true, false_and, and_false, or_false, false_or, or_true, true_or, not_true_eq_false, not_false_eq_true] at *
  all_goals omega
set_option maxRecDepth 20000 in
theorem lf_x_beside_33 (knowF : Nat → Int32) (x : Int32) (y : Int32) (n1 : Nat) (y49 : Int32) (y70 : Int32) (ab_now : NB knowF) (hc_x : 0 ≤ x.toInt ∧ x.toInt ≤ 35) (hs : 0 ≤ y.toInt ∧ y.toInt ≤ 3) (h2 : n1 < 36) (e3 : x = nI n1) (c4 : y ≠ 0) (c5 : y = nI 2) (f51 : y49.toInt = (nI (n1 % 6)).toInt + (-1 : Int32).toInt) (b52 : -1 ≤ y49.toInt) (b53 : y49.toInt ≤ 4) (c54 : y ≠ nI 1) (c55 : ¬ y ≤ nI 2) (f72 : y70.toInt = (nI (n1 / 6)).toInt + (-1 : Int32).toInt) (b73 : -1 ≤ y70.toInt) (b74 : y70.toInt ≤ 4) (t83 : ¬ (0 ≤ y49.toInt ∧ y49.toInt < (knowF 0).toInt ∧ 0 ≤ y70.toInt ∧ y70.toInt < (knowF 1).toInt)) : ¬ BSok x.toInt y.toInt (knowF 0).toInt (knowF 1).toInt := by
  have b_x := ia_b x
  have b_y := ia_b y
  have b_y49 := ia_b y49
  have b_y70 := ia_b y70
  try have k_0 := ia_n n1 (by first | decide | omega)
  try have k_1 := ia_n 2 (by first | decide | omega)
  try have k_2 := ia_n (n1 % 6) (by first | decide | omega)
  try have k_3 := ia_n 1 (by first | decide | omega)
  try have k_4 := ia_n (n1 / 6) (by first | decide | omega)
  try unfold BSok at *
  try simp only [ia_lt, ia_le, ia_eq, ia_m1, ia_0, ia_1, ne_eq, true_and, and_true, false_and, and_false, or_false, false_or, or_true, true_or, not_true_eq_false, not_false_eq_true] at *
  all_goals omega
set_option maxRecDepth 20000 in
theorem lf_x_beside_34 (knowF : Nat → Int32) (x : Int32) (n1 : Nat) (y49 : Int32) (ab_now : NB knowF) (hc_x : 0 ≤ x.toInt ∧ x.toInt ≤ 35) (h2 : n1 < 36) (e3 : x = nI n1) (f51 : y49.toInt = (nI (n1 % 6)).toInt + (-1 : Int32).toInt) (b52 : -1 ≤ y49.toInt) (b53 : y49.toInt ≤ 4) (t94 : 0 ≤ y49.toInt) (t95 : y49.toInt < (knowF 0).toInt) (t96 : 0 ≤ (nI ((n1 / 6) + 1)).toInt) (t97 : (nI ((n1 / 6) + 1)).toInt < (knowF 1).toInt) (t98 : y49.toInt ≤ 5) (t99 : (nI ((n1 / 6) + 1)).toInt ≤ 5) : 0 ≤ y49.toInt ∧ y49.toInt < ((5 : Nat) : Int) := by
  have b_x := ia_b x
  have b_y49 := ia_b y49
  try have k_0 := ia_n n1 (by first | decide | omega)
  try have k_1 := ia_n (n1 % 6) (by first | decide | omega)
  try have k_2 := ia_n ((n1 / 6) + 1) (by first | decide | omega)
  try simp only [ia_lt, ia_le, ia_eq, ia_m1, ia_0, ia_1, ne_eq, true_and, and_true, false_and, and_false, or_false, false_or, or_true, true_or, not_true_eq_false, not_false_eq_true] at *
  all_goals omega
set_option maxRecDepth 20000 in
theorem lf_x_beside_35 (knowF : Nat → Int32) (x : Int32) (y : Int32) (n1 : Nat) (y49 : Int32) (n102 : Nat) (ab_now : NB knowF) (hc_x : 0 ≤ x.toInt ∧ x.toInt ≤ 35) (hs : 0 ≤ y.toInt ∧ y.toInt ≤ 3) (h2 : n1 < 36) (e3 : x = nI n1) (c4 : y ≠ 0) (c5 : y = nI 2) (f51 : y49.toInt = (nI (n1 % 6)).toInt + (-1 : Int32).toInt) (b52 : -1 ≤ y49.toInt) (b53 : y49.toInt ≤ 4) (c54 : y = nI 1) (t94 : 0 ≤ y49.toInt) (t95 : y49.toInt < (knowF 0).toInt) (t96 : 0 ≤ (nI ((n1 / 6) + 1)).toInt) (t97 : (nI ((n1 / 6) + 1)).toInt < (knowF 1).toInt) (t98 : y49.toInt ≤ 5) (t99 : (nI ((n1 / 6) + 1)).toInt ≤ 5) (h103 : n102 < 5) (e104 : y49 = nI n102) : ((6 * ((n1 / 6) + 1)) + n102) < 36 ∧ BSok x.toInt y.toInt (knowF 0).toInt (knowF 1).toInt := by
  have b_x := ia_b x
  have b_y := ia_b y
  have b_y49 := ia_b y49
  try have k_0 := ia_n n1 (by first | decide | omega)
  try have k_1 := ia_n 2 (by first | decide | omega)
  try have k_2 := ia_n (n1 % 6) (by first | decide | omega)
  try have k_3 := ia_n 1 (by first | decide | omega)
  try have k_4 := ia_n ((n1 / 6) + 1) (by first | decide | omega)
  try have k_5 := ia_n n102 (by first | decide | omega)
  try unfold BSok at *
  try simp only [ia_lt, ia_le, ia_eq, ia_m1, ia_0, ia_1, ne_eq, true_and, and_true, false_and, and_false, or_false, false_or, or_true, true_or, not_true_eq_false, not_false_eq_true] at *
  all_goals omega
set_option maxRecDepth 20000 in
theorem lf_x_beside_36 (knowF : Nat → Int32) (x : Int32) (y : Int32) (n1 : Nat) (y49 : Int32) (ab_now : NB knowF) (hc_x : 0 ≤ x.toInt ∧ x.toInt ≤ 35) (hs : 0 ≤ y.toInt ∧ y.toInt ≤ 3) (h2 : n1 < 36) (e3 : x = nI n1) (c4 : y ≠ 0) (c5 : y = nI 2) (f51 : y49.toInt = (nI (n1 % 6)).toInt + (-1 : Int32).toInt) (b52 : -1 ≤ y49.toInt) (b53 : y49.toInt ≤ 4) (c54 : y = nI 1) (t100 : ¬ (0 ≤ y49.toInt ∧ y49.toInt < (knowF 0).toInt ∧ 0 ≤ (nI ((n1 / 6) + 1)).toInt ∧ (nI ((n1 / 6) + 1)).toInt < (knowF 1).toInt)) : ¬ BSok x.toInt y.toInt (knowF 0).toInt (knowF 1).toInt := by
  have b_x := ia_b x
  have b_y := ia_b y
  have b_y49 := ia_b y49
  try have k_0 := ia_n n1 (by first | decide | omega)
  try have k_1 := ia_n 2 (by first | decide | omega)
  try have k_2 := ia_n (n1 % 6) (by first | decide | omega)
  try have k_3 := ia_n 1 (by first | decide | omega)
  try have k_4 := ia_n ((n1 / 6) + 1) (by first | decide | omega)
  try unfold BSok at *
  try simp only [ia_lt, ia_le, ia_eq, ia_m1, ia_0, ia_1, ne_eq, true_and, and_true, false_and, and_false, or_false, false_or, or_true, true_or, not_true_eq_false, not_false_eq_true] at *
  all_goals omega
set_option maxRecDepth 20000 in
theorem lf_x_beside_37 (knowF : Nat → Int32) (x : Int32) (y : Int32) (n1 : Nat) (ab_now : NB knowF) (hc_x : 0 ≤ x.toInt ∧ x.toInt ≤ 35) (hs : 0 ≤ y.toInt ∧ y.toInt ≤ 3) (h2 : n1 < 36) (e3 : x = nI n1) (c4 : y = 0) (c106 : y ≠ nI 1) (c107 : y ≤ nI 2) (t110 : 0 ≤ (nI ((n1 % 6) + 1)).toInt) (t111 : (nI ((n1 % 6) + 1)).toInt < (knowF 0).toInt) (t112 : 0 ≤ (nI ((n1 / 6) + 0)).toInt) (t113 : (nI ((n1 / 6) + 0)).toInt < (knowF 1).toInt) (t114 : (nI ((n1 % 6) + 1)).toInt ≤ 5) (t115 : (nI ((n1 / 6) + 0)).toInt ≤ 5) : ((6 * ((n1 / 6) + 0)) + ((n1 % 6) + 1)) < 36 ∧ BSok x.toInt y.toInt (knowF 0).toInt (knowF 1).toInt := by
  have b_x := ia_b x
  have b_y := ia_b y
  try have k_0 := ia_n n1 (by first | decide | omega)
  try have k_1 := ia_n 1 (by first | decide | omega)
  try have k_2 := ia_n 2 (by first | decide | omega)
  try have k_3 := ia_n ((n1 % 6) + 1) (by first | decide | omega)
  try have k_4 := ia_n ((n1 / 6) + 0) (by first | decide | omega)
  try unfold BSok at *
  try simp only [ia_lt, ia_le, ia_eq, ia_m1, ia_0, ia_1, ne_eq, true_and, and_true, false_and, and_false, or_false, false_or, or_true, true_or, not_true_eq_false, not_false_eq_true] at *
  all_goals omega
set_option maxRecDepth 20000 in
theorem lf_x_beside_38 (knowF : Nat → Int32) (x : Int32) (y : Int32) (n1 : Nat) (ab_now : NB knowF) (hc_x : 0 ≤ x.toInt ∧ x.toInt ≤ 35) (hs : 0 ≤ y.toInt ∧ y.toInt ≤ 3) (h2 : n1 < 36) (e3 : x = nI n1) (c4 : y = 0) (c106 : y ≠ nI 1) (c107 : y ≤ nI 2) (t116 : ¬ (0 ≤ (nI ((n1 % 6) + 1)).toInt ∧ (nI ((n1 % 6) + 1)).toInt < (knowF 0).toInt ∧ 0 ≤ (nI ((n1 / 6) + 0)).toInt ∧ (nI ((n1 / 6) + 0)).toInt < (knowF 1).toInt)) : ¬ BSok x.toInt y.toInt (knowF 0).toInt (knowF 1).toInt := by
  have b_x := ia_b x
  have b_y := ia_b y
  try have k_0 := ia_n n1 (by first | decide | omega)
  try have k_1 := ia_n 1 (by first | decide | omega)
  try have k_2 := ia_n 2 (by first | decide | omega)
  try have k_3 := ia_n ((n1 % 6) + 1) (by first | decide | omega)
  try have k_4 := ia_n ((n1 / 6) + 0) (by first | decide | omega)
  try unfold BSok at *
  try simp only [ia_lt, ia_le, ia_eq, ia_m1, ia_0, ia_1, ne_eq, true_and, and_true, false_and, and_false, or_false, false_or, or_true, true_or, not_true_eq_false, not_false_eq_true] at *
  all_goals omega
set_option maxRecDepth 20000 in
theorem lf_x_beside_39 (x : Int32) (n1 : Nat) (hc_x : 0 ≤ x.toInt ∧ x.toInt ≤ 35) (h2 : n1 < 36) (e3 : x = nI n1) : -1073741824 ≤ (nI (n1 / 6)).toInt := by
  have b_x := ia_b x
  try have k_0 := ia_n n1 (by first | decide | omega)
  try have k_1 := ia_n (n1 / 6) (by first | decide | omega)
  try simp only [ia_lt, ia_le, ia_eq, ia_m1, ia_0, ia_1, ne_eq, true_and, and_true, false_and, and_false, or_false, false_or, or_true, true_or, not_true_eq_false, not_false_eq_true] at *
  all_goals omega
set_option maxRecDepth 20000 in
theorem lf_x_beside_40 (x : Int32) (n1 : Nat) (hc_x : 0 ≤ x.toInt ∧ x.toInt ≤ 35) (h2 : n1 < 36) (e3 : x = nI n1) : (nI (n1 / 6)).toInt ≤ 1073741823 := by
  have b_x := ia_b x
  try have k_0 := ia_n n1 (by first | decide | omega)
  try have k_1 := ia_n (n1 / 6) (by first | decide | omega)
  try simp only [ia_lt, ia_le, ia_eq, ia_m1, ia_0, ia_1, ne_eq, true_and, and_true, false_and, and_false, or_false, false_or, or_true, true_or, not_true_eq_false, not_false_eq_true] at *
  all_goals omega
set_option maxRecDepth 20000 in
theorem lf_x_beside_41   : -1073741824 ≤ (-1 : Int32).toInt := by
  try simp only [ia_lt, ia_le, ia_eq, ia_m1, ia_0, ia_1, ne_eq, true_and, and_true, false_and, and_false, or_false, false_or, or_true, true_or, not_true_eq_false, not_false_eq_true] at *
  all_goals omega
set_option maxRecDepth 20000 in
theorem lf_x_beside_42   : (-1 : Int32).toInt ≤ 1073741823 := by
  try simp only [ia_lt, ia_le, ia_eq, ia_m1, ia_0, ia_1, ne_eq, true_and, and_true, false_and, and_false, or_false, false_or, or_true, true_or, not_true_eq_false, not_false_eq_true] at *
  all_goals omega
set_option maxRecDepth 20000 in
theorem lf_x_beside_43 (x : Int32) (n1 : Nat) (y119 : Int32) (hc_x : 0 ≤ x.toInt ∧ x.toInt ≤ 35) (h2 : n1 < 36) (e3 : x = nI n1) (f121 : y119.toInt = (nI (n1 / 6)).toInt + (-1 : Int32).toInt) : -1 ≤ y119.toInt := by
  have b_x := ia_b x
  have b_y119 := ia_b y119
  try have k_0 := ia_n n1 (by first | decide | omega)
  try have k_1 := ia_n (n1 / 6) (by first | decide | omega)
  try simp only [ia_lt, ia_le, ia_eq, ia_m1, ia_0, ia_1, ne_eq, true_and, and_true, false_and, and_false, or_false, false_or, or_true, true_or, not_true_eq_false, not_false_eq_true] at *
  all_goals omega
set_option maxRecDepth 20000 in
theorem lf_x_beside_44 (x : Int32) (n1 : Nat) (y119 : Int32) (hc_x : 0 ≤ x.toInt ∧ x.toInt ≤ 35) (h2 : n1 < 36) (e3 : x = nI n1) (f121 : y119.toInt = (nI (n1 / 6)).toInt + (-1 : Int32).toInt) : y119.toInt ≤ 4 := by
  have b_x := ia_b x
  have b_y119 := ia_b y119
  try have k_0 := ia_n n1 (by first | decide | omega)
  try have k_1 := ia_n (n1 / 6) (by first | decide | omega)
  try simp only [ia_lt, ia_le, ia_eq, ia_m1, ia_0, ia_1, ne_eq, true_and, and_true, false_and, and_false, or_false, false_or, or_true, true_or, not_true_eq_false, not_false_eq_true] at *
  all_goals omega
set_option maxRecDepth 20000 in
theorem lf_x_beside_45 (knowF : Nat → Int32) (x : Int32) (n1 : Nat) (y119 : Int32) (ab_now : NB knowF) (hc_x : 0 ≤ x.toInt ∧ x.toInt ≤ 35) (h2 : n1 < 36) (e3 : x = nI n1) (f121 : y119.toInt = (nI (n1 / 6)).toInt + (-1 : Int32).toInt) (b122 : -1 ≤ y119.toInt) (b123 : y119.toInt ≤ 4) (t126 : 0 ≤ (nI ((n1 % 6) + 1)).toInt) (t127 : (nI ((n1 % 6) + 1)).toInt < (knowF 0).toInt) (t128 : 0 ≤ y119.toInt) (t129 : y119.toInt < (knowF 1).toInt) (t130 : (nI ((n1 % 6) + 1)).toInt ≤ 5) (t131 : y119.toInt ≤ 5) : 0 ≤ y119.toInt ∧ y119.toInt < ((5 : Nat) : Int) := by
  have b_x := ia_b x
  have b_y119 := ia_b y119
  try have k_0 := ia_n n1 (by first | decide | omega)
  try have k_1 := ia_n (n1 / 6) (by first | decide | omega)
  try have k_2 := ia_n ((n1 % 6) + 1) (by first | decide | omega)
  try simp only [ia_lt, ia_le, ia_eq, ia_m1, ia_0, ia_1, ne_eq, true_and, and_true, false_and, and_false, or_false, false_or, or_true, true_or, not_true_eq_false, not_false_eq_true] at *
  all_goals omega
set_option maxRecDepth 20000 in
theorem lf_x_beside_46 (knowF : Nat → Int32) (x : Int32) (y : Int32) (n1 : Nat) (y119 : Int32) (n134 : Nat) (ab_now : NB knowF) (hc_x : 0 ≤ x.toInt ∧ x.toInt ≤ 35) (hs : 0 ≤ y.toInt ∧ y.toInt ≤ 3) (h2 : n1 < 36) (e3 : x = nI n1) (c4 : y = 0) (c106 : y ≠ nI 1) (c107 : ¬ y ≤ nI 2) (f121 : y119.toInt = (nI (n1 / 6)).toInt + (-1 : Int32).toInt) (b122 : -1 ≤ y119.toInt) (b123 : y119.toInt ≤ 4) (t126 : 0 ≤ (nI ((n1 % 6) + 1)).toInt) (t127 : (nI ((n1 % 6) + 1)).toInt < (knowF 0).toInt) (t128 : 0 ≤ y119.toInt) (t129 : y119.toInt < (knowF 1).toInt) (t130 : (nI ((n1 % 6) + 1)).toInt ≤ 5) (t131 : y119.toInt ≤ 5) (h135 : n134 < 5) (e136 : y119 = nI n134) : ((6 * n134) + ((n1 % 6) + 1)) < 36 ∧ BSok x.toInt y.toInt (knowF 0).toInt (knowF 1).toInt := by
  have b_x := ia_b x
  have b_y := ia_b y
  have b_y119 := ia_b y119
  try have k_0 := ia_n n1 (by first | decide | omega)
  try have k_1 := ia_n 1 (by first | decide | omega)
  try have k_2 := ia_n 2 (by first | decide | omega)
  try have k_3 := ia_n (n1 / 6) (by first | decide | omega)
  try have k_4 := ia_n ((n1 % 6) + 1) (by first | decide | omega)
  try have k_5 := ia_n n134 (by first | decide | omega)
  try unfold BSok at *
  try simp only [ia_lt, ia_le, ia_eq, ia_m1, ia_0, ia_1, ne_eq, true_and, and_true, false_and, and_false, or_false, false_or, or_true, true_or, not_true_eq_false, not_false_eq_true] at *
  all_goals omega
set_option maxRecDepth 20000 in
theorem lf_x_beside_47 (knowF : Nat → Int32) (x : Int32) (y : Int32) (n1 : Nat) (y119 : Int32) (ab_now : NB knowF) (hc_x : 0 ≤ x.toInt ∧ x.toInt ≤ 35) (hs : 0 ≤ y.toInt ∧ y.toInt ≤ 3) (h2 : n1 < 36) (e3 : x = nI n1) (c4 : y = 0) (c106 : y ≠ nI 1) (c107 : ¬ y ≤ nI 2) (f121 : y119.toInt = (nI (n1 / 6)).toInt + (-1 : Int32).toInt) (b122 : -1 ≤ y119.toInt) (b123 : y119.toInt ≤ 4) (t132 : ¬ (0 ≤ (nI ((n1 % 6) + 1)).toInt ∧ (nI ((n1 % 6) + 1)).toInt < (knowF 0).toInt ∧ 0 ≤ y119.toInt ∧ y119.toInt < (knowF 1).toInt)) : ¬ BSok x.toInt y.toInt (knowF 0).toInt (knowF 1).toInt := by
  have b_x := ia_b x
  have b_y := ia_b y
  have b_y119 := ia_b y119
  try have k_0 := ia_n n1 (by first | decide | omega)
  try have k_1 := ia_n 1 (by first | decide | omega)
  try have k_2 := ia_n 2 (by first | decide | omega)
  try have k_3 := ia_n (n1 / 6) (by first | decide | omega)
  try have k_4 := ia_n ((n1 % 6) + 1) (by first | decide | omega)
  try unfold BSok at *
  try simp only [ia_lt, ia_le, ia_eq, ia_m1, ia_0, ia_1, ne_eq, true_and, and_true, false_and, and_false, or_false, false_or, or_true, true_or, not_true_eq_false, not_false_eq_true] at *
  all_goals omega
set_option maxRecDepth 20000 in
theorem lf_x_beside_48 (knowF : Nat → Int32) (x : Int32) (y : Int32) (n1 : Nat) (ab_now : NB knowF) (hc_x : 0 ≤ x.toInt ∧ x.toInt ≤ 35) (hs : 0 ≤ y.toInt ∧ y.toInt ≤ 3) (h2 : n1 < 36) (e3 : x = nI n1) (c4 : y = 0) (c106 : y = nI 1) (t140 : 0 ≤ (nI ((n1 % 6) + 1)).toInt) (t141 : (nI ((n1 % 6) + 1)).toInt < (knowF 0).toInt) (t142 : 0 ≤ (nI ((n1 / 6) + 1)).toInt) (t143 : (nI ((n1 / 6) + 1)).toInt < (knowF 1).toInt) (t144 : (nI ((n1 % 6) + 1)).toInt ≤ 5) (t145 : (nI ((n1 / 6) + 1)).toInt ≤ 5) : ((6 * ((n1 / 6) + 1)) + ((n1 % 6) + 1)) < 36 ∧ BSok x.toInt y.toInt (knowF 0).toInt (knowF 1).toInt := by
  have b_x := ia_b x
  have b_y := ia_b y
  try have k_0 := ia_n n1 (by first | decide | omega)
  try have k_1 := ia_n 1 (by first | decide | omega)
  try have k_2 := ia_n ((n1 % 6) + 1) (by first | decide | omega)
  try have k_3 := ia_n ((n1 / 6) + 1) (by first | decide | omega)
  try unfold BSok at *
  try simp only [ia_lt, ia_le, ia_eq, ia_m1, ia_0, ia_1, ne_eq, true_and, and_true, false_and, and_false, or_false, false_or, or_true, true_or, not_true_eq_false, not_false_eq_true] at *
  all_goals omega
set_option maxRecDepth 20000 in
theorem lf_x_beside_49 (knowF : Nat → Int32) (x : Int32) (y : Int32) (n1 : Nat) (ab_now : NB knowF) (hc_x : 0 ≤ x.toInt ∧ x.toInt ≤ 35) (hs : 0 ≤ y.toInt ∧ y.toInt ≤ 3) (h2 : n1 < 36) (e3 : x = nI n1) (c4 : y = 0) (c106 : y = nI 1) (t146 : ¬ (0 ≤ (nI ((n1 % 6) + 1)).toInt ∧ (nI ((n1 % 6) + 1)).toInt < (knowF 0).toInt ∧ 0 ≤ (nI ((n1 / 6) + 1)).toInt ∧ (nI ((n1 / 6) + 1)).toInt < (knowF 1).toInt)) : ¬ BSok x.toInt y.toInt (knowF 0).toInt (knowF 1).toInt := by
  have b_x := ia_b x
  have b_y := ia_b y
  try have k_0 := ia_n n1 (by first | decide | omega)
  try have k_1 := ia_n 1 (by first | decide | omega)
  try have k_2 := ia_n ((n1 % 6) + 1) (by first | decide | omega)
  try have k_3 := ia_n ((n1 / 6) + 1) (by first | decide | omega)
  try unfold BSok at *
  try simp only [ia_lt, ia_le, ia_eq, ia_m1, ia_0, ia_1, ne_eq, true_and, and_true, false_and, and_false, or_false, false_or, or_true, true_or, not_true_eq_false, not_false_eq_true] at *
  all_goals omega
set_option maxHeartbeats 4000000 in
set_option maxRecDepth 100000 in
theorem c_x_beside (l : Launch) (dC : Nat → ClassId) (dI : Nat → Nat → Nat) (ky : Nat → ClassId) (o : Nat) (kthrown : Int32) (ktape : Nat) (ktaped : Nat) (ksize : Nat) (klimit : Nat) (kto : Nat) (kfrom : Nat) (kkind : Int32) (knumber : Int32) (ksign : Int32) (kfault : Int32) (kplace : Int32) (kword : Int64) (ktold : Int32) (know : Nat) (kread : Nat) (kkept : Nat) (ksnaps : Nat) (kaside : Nat) (kname : Nat) (kreadName : Nat) (kkeptName : Nat) (kisKept : Nat) (konces : Nat) (ksnapMany : Nat) (khasCells : Int32) (kpoured : Nat) (kfar : Nat) (ksides : Nat) (ksideMany : Nat) (kwayDays : Int32) (khasWay : Int32) (klines : Nat) (kmet : Nat) (kmetMany : Nat) (ksunk : Nat) (ktrying : Nat) (ksunkMany : Nat) (ksending : Int32) (kfleets : Int32) (ktext : Nat) (ktexts : Nat) (kseed : Int32) (kline : Nat) (kwritten : Nat) (klineMany : Nat) (khasWritten : Int32) (knode : Nat) (knodes : Nat) (konesMany : Nat) (kwithin : Nat) (ktop : Nat) (knowF : Nat → Int32) (x : Int32) (y : Int32) (iv_ko_0 : ktaped ≤ 940) (iv_ko_1 : ksize ≤ 940) (iv_ko_2 : klimit ≤ 900) (iv_ko_3 : kto ≤ ksize) (iv_ko_4 : kfrom ≤ 940) (iv_ko_5 : ksnapMany ≤ 8) (iv_ko_6 : ksideMany ≤ 36) (iv_ko_7 : kmetMany ≤ 3) (iv_ko_8 : ksunkMany ≤ 36) (iv_ko_9 : ktexts ≤ 64) (iv_ko_10 : klineMany ≤ 40) (iv_ko_11 : knodes ≤ 60) (iv_ko_12 : konesMany ≤ 20) (iv_ko_13 : kwithin ≤ 8) (iv_ko_14 : ktop ≤ 59) (ab_now : NB knowF) (hc_x : 0 ≤ x.toInt ∧ x.toInt ≤ 35) (hs : 0 ≤ y.toInt ∧ y.toInt ≤ 3) : Met l yX12_beside wsX12_beside ({ frames := 2, cells := 0, slots := 0, locals := 44 }) (PcP dC dI ky [.ref o, .int x, .int y] [(o, .inr (12, [.int kthrown, .ref ktape, .int (nI ktaped), .int (nI ksize), .int (nI klimit), .int (nI kto), .int (nI kfrom), .int kkind, .int knumber, .int ksign, .int kfault, .int kplace, .long kword, .int ktold, .ref know, .ref kread, .ref kkept, .ref ksnaps, .ref kaside, .ref kname, .ref kreadName, .ref kkeptName, .ref kisKept, .ref konces, .int (nI ksnapMany), .int khasCells, .ref kpoured, .ref kfar, .ref ksides, .int (nI ksideMany), .int kwayDays, .int khasWay, .ref klines, .ref kmet, .int (nI kmetMany), .ref ksunk, .ref ktrying, .int (nI ksunkMany), .int ksending, .int kfleets, .ref ktext, .int (nI ktexts), .int kseed, .ref kline, .ref kwritten, .int (nI klineMany), .int khasWritten, .ref knode, .int (nI knodes), .int (nI konesMany), .int (nI kwithin), .int (nI ktop)])), (know, .inl (ky 0, 373, .inl knowF))]) (vp_Si (fun r : Int32 => (r = (-1 : Int32) ∧ (¬ BSok x.toInt y.toInt (knowF 0).toInt (knowF 1).toInt)) ∨ (∃ k9 : Nat, (k9 < 36 ∧ BSok x.toInt y.toInt (knowF 0).toInt (knowF 1).toInt) ∧ r = nI k9))) 0 0 (fun _ => False) := by
  refine Met.ofW (cc := cX12_beside) (maxL := 5) (ret := (some .int)) (by decide) rfl ?_
  intro p e s m args below meth c s₁ B hml hv
  obtain ⟨rfl, hP, hK⟩ := hv
  have hx := B.exec
  have hb := B.bytes
  have hr := B.returns
  have hts := atoms_spec (ws := wsX12_beside) B.pre
  have hown : s.vm.findClass RX12 = some m.cls := findClass_of_methodNamed B.named
  have hlocks := B.notSynchronized
  have hl := lv_entry ([.ref o, .int x, .int y]) (n := 5) (Nat.le_of_ble_eq_true rfl)
  rw [lg_entry_eq]
  generalize (lg_sl ([.ref o, .int x, .int y]) ++ List.replicate (5 - (lg_sl ([.ref o, .int x, .int y])).length) Slot.unset).toArray = ls at hl ⊢
  have hl : lv_has ls 5 [(0, .ref o), (1, .int x), (2, .int y)] := hl
  refine q_name (fun Q hQ => ?_)
  generalize ([.ref o, .int x, .int y] : List Value).toArray = args at hts hQ ⊢
  refine lv_iload_n hx hb dX12_beside_0 rfl (lv_at hl 1 rfl) ?_
  refine lv_bipush (v := nI 6) hx hb dX12_beside_1 (by decide) ?_
  obtain ⟨n1, h2, e3⟩ := nat_of x 36 (by decide) (lf_x_beside_1 x hc_x)
  rw [e3]
  refine lv_irem hx hb dX12_beside_3 (by decide) ?_
  refine r_ti (nI (n1 % 6)) (pk_rem (by omega) (by omega) (by omega)) ?_
  refine lv_iload_n hx hb dX12_beside_4 rfl (lv_at hl 2 rfl) ?_
  refine lv_if_ne (tgt := 12) hx hb dX12_beside_5 (by decide) (fun c4 => ?_) (fun c4 => ?_)
  · refine lv_iload_n hx hb dX12_beside_12 rfl (lv_at hl 2 rfl) ?_
    refine lv_iconst (v := nI 2) hx hb dX12_beside_13 (by decide) ?_
    refine lv_icmp_ne (tgt := 21) hx hb dX12_beside_14 (by decide) (fun c5 => ?_) (fun c5 => ?_)
    · refine lv_iconst (v := nI 0) hx hb dX12_beside_21 (by decide) ?_
      refine lv_iadd hx hb dX12_beside_22 ?_
      refine r_ti (nI ((n1 % 6) + 0)) (nI_add _ _) ?_
      refine lv_istore_n (lv' := [(3, .int (nI ((n1 % 6) + 0))), (0, .ref o), (1, .int x), (2, .int y)]) hx hb dX12_beside_23 rfl hl (by decide) rfl (fun ls hl => ?_)
      refine lv_iload_n hx hb dX12_beside_24 rfl (lv_at hl 2 rfl) ?_
      refine lv_bipush (v := nI 6) hx hb dX12_beside_25 (by decide) ?_
      rw [e3]
      refine lv_idiv hx hb dX12_beside_27 (by decide) ?_
      refine r_ti (nI (n1 / 6)) (pk_div (by omega) (by omega) (by omega)) ?_
      refine lv_iload_n hx hb dX12_beside_28 rfl (lv_at hl 3 rfl) ?_
      refine lv_iconst (v := nI 1) hx hb dX12_beside_29 (by decide) ?_
      refine lv_icmp_ne (tgt := 37) hx hb dX12_beside_30 (by decide) (fun c6 => ?_) (fun c6 => ?_)
      · refine lv_iload_n hx hb dX12_beside_37 rfl (lv_at hl 3 rfl) ?_
        refine lv_iconst (v := nI 2) hx hb dX12_beside_38 (by decide) ?_
        refine lv_icmp_le (tgt := 46) hx hb dX12_beside_39 (by decide) (fun c7 => ?_) (fun c7 => ?_)
        · refine lv_iconst (v := nI 0) hx hb dX12_beside_46 (by decide) ?_
          refine lv_iadd hx hb dX12_beside_47 ?_
          refine r_ti (nI ((n1 / 6) + 0)) (nI_add _ _) ?_
          refine lv_istore (lv' := [(4, .int (nI ((n1 / 6) + 0))), (3, .int (nI ((n1 % 6) + 0))), (0, .ref o), (1, .int x), (2, .int y)]) hx hb dX12_beside_48 hl (by decide) rfl (fun ls hl => ?_)
          refine lv_aload_n hx hb dX12_beside_50 rfl (lv_at hl 2 rfl) ?_
          refine lv_iload_n hx hb dX12_beside_51 rfl (lv_at hl 1 rfl) ?_
          refine lv_iload hx hb dX12_beside_52 (lv_at hl 0 rfl) ?_
          refine vp_callSi (W.runV (As := [.int (nI ((n1 % 6) + 0)), .int (nI ((n1 / 6) + 0))]) (rest := []) ⟨hx, hb, hml, hown, hts⟩ (c_x_isCell l dC dI ky o kthrown ktape ktaped ksize klimit kto kfrom kkind knumber ksign kfault kplace kword ktold know kread kkept ksnaps kaside kname kreadName kkeptName kisKept konces ksnapMany khasCells kpoured kfar ksides ksideMany kwayDays khasWay klines kmet kmetMany ksunk ktrying ksunkMany ksending kfleets ktext ktexts kseed kline kwritten klineMany khasWritten knode knodes konesMany kwithin ktop knowF (nI ((n1 % 6) + 0)) (nI ((n1 / 6) + 0)) iv_ko_0 iv_ko_1 iv_ko_2 iv_ko_3 iv_ko_4 iv_ko_5 iv_ko_6 iv_ko_7 iv_ko_8 iv_ko_9 iv_ko_10 iv_ko_11 iv_ko_12 iv_ko_13 iv_ko_14 ab_now) (cwV 2 hts gX12_beside_X12_isCell rfl rfl rfl (by decide +kernel) ⟨(Nat.le_of_ble_eq_true rfl), (Nat.le_of_ble_eq_true rfl)⟩) (pre_PV hK hP [0, 1] rfl (ci := 12) (q0 := 0) rfl rfl) rfl rfl hl.1 rfl (lv_room (Nat.le_of_ble_eq_true rfl)) dX12_beside_54 ⟨(Nat.le_of_ble_eq_true rfl), (Nat.le_of_ble_eq_true rfl)⟩) (fun r8 p9 => ?_)
          rcases p9 with ⟨rfl, t10, t11, t12, t13, t14, t15⟩ | ⟨rfl, t16⟩
          · refine lv_if_eq (tgt := 70) hx hb dX12_beside_57 (by decide) (fun c17 => absurd c17 (by decide)) (fun c17 => ?_)
            refine lv_bipush (v := nI 6) hx hb dX12_beside_60 (by decide) ?_
            refine lv_iload hx hb dX12_beside_62 (lv_at hl 0 rfl) ?_
            refine lv_imul hx hb dX12_beside_64 ?_
            refine r_ti (nI (6 * ((n1 / 6) + 0))) (pk_mul _ _) ?_
            refine lv_iload_n hx hb dX12_beside_65 rfl (lv_at hl 1 rfl) ?_
            refine lv_iadd hx hb dX12_beside_66 ?_
            refine r_ti (nI ((6 * ((n1 / 6) + 0)) + ((n1 % 6) + 0))) (nI_add _ _) ?_
            refine lv_goto (tgt := 71) hx hb dX12_beside_67 (by decide) ?_
            rw [hQ]
            exact W.iret (v := nI ((6 * ((n1 / 6) + 0)) + ((n1 % 6) + 0))) hx hb hr (fun t9 ht9 hW9 => ⟨nI ((6 * ((n1 / 6) + 0)) + ((n1 % 6) + 0)), rfl, (Or.inr ⟨((6 * ((n1 / 6) + 0)) + ((n1 % 6) + 0)), (lf_x_beside_2 knowF x y n1 ab_now hc_x hs h2 e3 c4 c5 c6 c7 t10 t11 t12 t13 t14 t15), rfl⟩), ht9⟩) (fun _ h => absurd h List.not_mem_nil) dX12_beside_71
          · refine lv_if_eq (tgt := 70) hx hb dX12_beside_57 (by decide) (fun c18 => ?_) (fun c18 => absurd (by decide) c18)
            refine lv_iconst (v := (-1 : Int32)) hx hb dX12_beside_70 (by decide) ?_
            rw [hQ]
            exact W.iret (v := (-1 : Int32)) hx hb hr (fun t9 ht9 hW9 => ⟨(-1 : Int32), rfl, (Or.inl ⟨rfl, (lf_x_beside_3 knowF x y n1 ab_now hc_x hs h2 e3 c4 c5 c6 c7 t16)⟩), ht9⟩) (fun _ h => absurd h List.not_mem_nil) dX12_beside_71
        · refine lv_iconst (v := (-1 : Int32)) hx hb dX12_beside_42 (by decide) ?_
          refine lv_goto (tgt := 47) hx hb dX12_beside_43 (by decide) ?_
          refine lv_iadd hx hb dX12_beside_47 ?_
          refine lv_topi (fun y19 e20 => ?_)
          have f21 : y19.toInt = (nI (n1 / 6)).toInt + (-1 : Int32).toInt := by rw [e20]; exact ia_addS _ _ (lf_x_beside_4 x n1 hc_x h2 e3) (lf_x_beside_5 x n1 hc_x h2 e3) (lf_x_beside_6) (lf_x_beside_7)
          have b22 : -1 ≤ y19.toInt := (lf_x_beside_8 x n1 y19 hc_x h2 e3 f21)
          have b23 : y19.toInt ≤ 4 := (lf_x_beside_9 x n1 y19 hc_x h2 e3 f21)
          refine lv_istore (lv' := [(4, .int y19), (3, .int (nI ((n1 % 6) + 0))), (0, .ref o), (1, .int x), (2, .int y)]) hx hb dX12_beside_48 hl (by decide) rfl (fun ls hl => ?_)
          refine lv_aload_n hx hb dX12_beside_50 rfl (lv_at hl 2 rfl) ?_
          refine lv_iload_n hx hb dX12_beside_51 rfl (lv_at hl 1 rfl) ?_
          refine lv_iload hx hb dX12_beside_52 (lv_at hl 0 rfl) ?_
          refine vp_callSi (W.runV (As := [.int (nI ((n1 % 6) + 0)), .int y19]) (rest := []) ⟨hx, hb, hml, hown, hts⟩ (c_x_isCell l dC dI ky o kthrown ktape ktaped ksize klimit kto kfrom kkind knumber ksign kfault kplace kword ktold know kread kkept ksnaps kaside kname kreadName kkeptName kisKept konces ksnapMany khasCells kpoured kfar ksides ksideMany kwayDays khasWay klines kmet kmetMany ksunk ktrying ksunkMany ksending kfleets ktext ktexts kseed kline kwritten klineMany khasWritten knode knodes konesMany kwithin ktop knowF (nI ((n1 % 6) + 0)) y19 iv_ko_0 iv_ko_1 iv_ko_2 iv_ko_3 iv_ko_4 iv_ko_5 iv_ko_6 iv_ko_7 iv_ko_8 iv_ko_9 iv_ko_10 iv_ko_11 iv_ko_12 iv_ko_13 iv_ko_14 ab_now) (cwV 2 hts gX12_beside_X12_isCell rfl rfl rfl (by decide +kernel) ⟨(Nat.le_of_ble_eq_true rfl), (Nat.le_of_ble_eq_true rfl)⟩) (pre_PV hK hP [0, 1] rfl (ci := 12) (q0 := 0) rfl rfl) rfl rfl hl.1 rfl (lv_room (Nat.le_of_ble_eq_true rfl)) dX12_beside_54 ⟨(Nat.le_of_ble_eq_true rfl), (Nat.le_of_ble_eq_true rfl)⟩) (fun r24 p25 => ?_)
          rcases p25 with ⟨rfl, t26, t27, t28, t29, t30, t31⟩ | ⟨rfl, t32⟩
          · refine lv_if_eq (tgt := 70) hx hb dX12_beside_57 (by decide) (fun c33 => absurd c33 (by decide)) (fun c33 => ?_)
            refine lv_bipush (v := nI 6) hx hb dX12_beside_60 (by decide) ?_
            refine lv_iload hx hb dX12_beside_62 (lv_at hl 0 rfl) ?_
            obtain ⟨n34, h35, e36⟩ := nat_of y19 5 (by decide) (lf_x_beside_10 knowF x n1 y19 ab_now hc_x h2 e3 f21 b22 b23 t26 t27 t28 t29 t30 t31)
            rw [e36]
            refine lv_imul hx hb dX12_beside_64 ?_
            refine r_ti (nI (6 * n34)) (pk_mul _ _) ?_
            refine lv_iload_n hx hb dX12_beside_65 rfl (lv_at hl 1 rfl) ?_
            refine lv_iadd hx hb dX12_beside_66 ?_
            refine r_ti (nI ((6 * n34) + ((n1 % 6) + 0))) (nI_add _ _) ?_
            refine lv_goto (tgt := 71) hx hb dX12_beside_67 (by decide) ?_
            rw [hQ]
            exact W.iret (v := nI ((6 * n34) + ((n1 % 6) + 0))) hx hb hr (fun t9 ht9 hW9 => ⟨nI ((6 * n34) + ((n1 % 6) + 0)), rfl, (Or.inr ⟨((6 * n34) + ((n1 % 6) + 0)), (lf_x_beside_11 knowF x y n1 y19 n34 ab_now hc_x hs h2 e3 c4 c5 c6 c7 f21 b22 b23 t26 t27 t28 t29 t30 t31 h35 e36), rfl⟩), ht9⟩) (fun _ h => absurd h List.not_mem_nil) dX12_beside_71
          · refine lv_if_eq (tgt := 70) hx hb dX12_beside_57 (by decide) (fun c37 => ?_) (fun c37 => absurd (by decide) c37)
            refine lv_iconst (v := (-1 : Int32)) hx hb dX12_beside_70 (by decide) ?_
            rw [hQ]
            exact W.iret (v := (-1 : Int32)) hx hb hr (fun t9 ht9 hW9 => ⟨(-1 : Int32), rfl, (Or.inl ⟨rfl, (lf_x_beside_12 knowF x y n1 y19 ab_now hc_x hs h2 e3 c4 c5 c6 c7 f21 b22 b23 t32)⟩), ht9⟩) (fun _ h => absurd h List.not_mem_nil) dX12_beside_71
      · refine lv_iconst (v := nI 1) hx hb dX12_beside_33 (by decide) ?_
        refine lv_goto (tgt := 47) hx hb dX12_beside_34 (by decide) ?_
        refine lv_iadd hx hb dX12_beside_47 ?_
        refine r_ti (nI ((n1 / 6) + 1)) (nI_add _ _) ?_
        refine lv_istore (lv' := [(4, .int (nI ((n1 / 6) + 1))), (3, .int (nI ((n1 % 6) + 0))), (0, .ref o), (1, .int x), (2, .int y)]) hx hb dX12_beside_48 hl (by decide) rfl (fun ls hl => ?_)
        refine lv_aload_n hx hb dX12_beside_50 rfl (lv_at hl 2 rfl) ?_
        refine lv_iload_n hx hb dX12_beside_51 rfl (lv_at hl 1 rfl) ?_
        refine lv_iload hx hb dX12_beside_52 (lv_at hl 0 rfl) ?_
        refine vp_callSi (W.runV (As := [.int (nI ((n1 % 6) + 0)), .int (nI ((n1 / 6) + 1))]) (rest := []) ⟨hx, hb, hml, hown, hts⟩ (c_x_isCell l dC dI ky o kthrown ktape ktaped ksize klimit kto kfrom kkind knumber ksign kfault kplace kword ktold know kread kkept ksnaps kaside kname kreadName kkeptName kisKept konces ksnapMany khasCells kpoured kfar ksides ksideMany kwayDays khasWay klines kmet kmetMany ksunk ktrying ksunkMany ksending kfleets ktext ktexts kseed kline kwritten klineMany khasWritten knode knodes konesMany kwithin ktop knowF (nI ((n1 % 6) + 0)) (nI ((n1 / 6) + 1)) iv_ko_0 iv_ko_1 iv_ko_2 iv_ko_3 iv_ko_4 iv_ko_5 iv_ko_6 iv_ko_7 iv_ko_8 iv_ko_9 iv_ko_10 iv_ko_11 iv_ko_12 iv_ko_13 iv_ko_14 ab_now) (cwV 2 hts gX12_beside_X12_isCell rfl rfl rfl (by decide +kernel) ⟨(Nat.le_of_ble_eq_true rfl), (Nat.le_of_ble_eq_true rfl)⟩) (pre_PV hK hP [0, 1] rfl (ci := 12) (q0 := 0) rfl rfl) rfl rfl hl.1 rfl (lv_room (Nat.le_of_ble_eq_true rfl)) dX12_beside_54 ⟨(Nat.le_of_ble_eq_true rfl), (Nat.le_of_ble_eq_true rfl)⟩) (fun r38 p39 => ?_)
        rcases p39 with ⟨rfl, t40, t41, t42, t43, t44, t45⟩ | ⟨rfl, t46⟩
        · refine lv_if_eq (tgt := 70) hx hb dX12_beside_57 (by decide) (fun c47 => absurd c47 (by decide)) (fun c47 => ?_)
          refine lv_bipush (v := nI 6) hx hb dX12_beside_60 (by decide) ?_
          refine lv_iload hx hb dX12_beside_62 (lv_at hl 0 rfl) ?_
          refine lv_imul hx hb dX12_beside_64 ?_
          refine r_ti (nI (6 * ((n1 / 6) + 1))) (pk_mul _ _) ?_
          refine lv_iload_n hx hb dX12_beside_65 rfl (lv_at hl 1 rfl) ?_
          refine lv_iadd hx hb dX12_beside_66 ?_
          refine r_ti (nI ((6 * ((n1 / 6) + 1)) + ((n1 % 6) + 0))) (nI_add _ _) ?_
          refine lv_goto (tgt := 71) hx hb dX12_beside_67 (by decide) ?_
          rw [hQ]
          exact W.iret (v := nI ((6 * ((n1 / 6) + 1)) + ((n1 % 6) + 0))) hx hb hr (fun t9 ht9 hW9 => ⟨nI ((6 * ((n1 / 6) + 1)) + ((n1 % 6) + 0)), rfl, (Or.inr ⟨((6 * ((n1 / 6) + 1)) + ((n1 % 6) + 0)), (lf_x_beside_13 knowF x y n1 ab_now hc_x hs h2 e3 c4 c5 c6 t40 t41 t42 t43 t44 t45), rfl⟩), ht9⟩) (fun _ h => absurd h List.not_mem_nil) dX12_beside_71
        · refine lv_if_eq (tgt := 70) hx hb dX12_beside_57 (by decide) (fun c48 => ?_) (fun c48 => absurd (by decide) c48)
          refine lv_iconst (v := (-1 : Int32)) hx hb dX12_beside_70 (by decide) ?_
          rw [hQ]
          exact W.iret (v := (-1 : Int32)) hx hb hr (fun t9 ht9 hW9 => ⟨(-1 : Int32), rfl, (Or.inl ⟨rfl, (lf_x_beside_14 knowF x y n1 ab_now hc_x hs h2 e3 c4 c5 c6 t46)⟩), ht9⟩) (fun _ h => absurd h List.not_mem_nil) dX12_beside_71
    · refine lv_iconst (v := (-1 : Int32)) hx hb dX12_beside_17 (by decide) ?_
      refine lv_goto (tgt := 22) hx hb dX12_beside_18 (by decide) ?_
      refine lv_iadd hx hb dX12_beside_22 ?_
      refine lv_topi (fun y49 e50 => ?_)
      have f51 : y49.toInt = (nI (n1 % 6)).toInt + (-1 : Int32).toInt := by rw [e50]; exact ia_addS _ _ (lf_x_beside_15 x n1 hc_x h2 e3) (lf_x_beside_16 x n1 hc_x h2 e3) (lf_x_beside_17) (lf_x_beside_18)
      have b52 : -1 ≤ y49.toInt := (lf_x_beside_19 x n1 y49 hc_x h2 e3 f51)
      have b53 : y49.toInt ≤ 4 := (lf_x_beside_20 x n1 y49 hc_x h2 e3 f51)
      refine lv_istore_n (lv' := [(3, .int y49), (0, .ref o), (1, .int x), (2, .int y)]) hx hb dX12_beside_23 rfl hl (by decide) rfl (fun ls hl => ?_)
      refine lv_iload_n hx hb dX12_beside_24 rfl (lv_at hl 2 rfl) ?_
      refine lv_bipush (v := nI 6) hx hb dX12_beside_25 (by decide) ?_
      rw [e3]
      refine lv_idiv hx hb dX12_beside_27 (by decide) ?_
      refine r_ti (nI (n1 / 6)) (pk_div (by omega) (by omega) (by omega)) ?_
      refine lv_iload_n hx hb dX12_beside_28 rfl (lv_at hl 3 rfl) ?_
      refine lv_iconst (v := nI 1) hx hb dX12_beside_29 (by decide) ?_
      refine lv_icmp_ne (tgt := 37) hx hb dX12_beside_30 (by decide) (fun c54 => ?_) (fun c54 => ?_)
      · refine lv_iload_n hx hb dX12_beside_37 rfl (lv_at hl 3 rfl) ?_
        refine lv_iconst (v := nI 2) hx hb dX12_beside_38 (by decide) ?_
        refine lv_icmp_le (tgt := 46) hx hb dX12_beside_39 (by decide) (fun c55 => ?_) (fun c55 => ?_)
        · refine lv_iconst (v := nI 0) hx hb dX12_beside_46 (by decide) ?_
          refine lv_iadd hx hb dX12_beside_47 ?_
          refine r_ti (nI ((n1 / 6) + 0)) (nI_add _ _) ?_
          refine lv_istore (lv' := [(4, .int (nI ((n1 / 6) + 0))), (3, .int y49), (0, .ref o), (1, .int x), (2, .int y)]) hx hb dX12_beside_48 hl (by decide) rfl (fun ls hl => ?_)
          refine lv_aload_n hx hb dX12_beside_50 rfl (lv_at hl 2 rfl) ?_
          refine lv_iload_n hx hb dX12_beside_51 rfl (lv_at hl 1 rfl) ?_
          refine lv_iload hx hb dX12_beside_52 (lv_at hl 0 rfl) ?_
          refine vp_callSi (W.runV (As := [.int y49, .int (nI ((n1 / 6) + 0))]) (rest := []) ⟨hx, hb, hml, hown, hts⟩ (c_x_isCell l dC dI ky o kthrown ktape ktaped ksize klimit kto kfrom kkind knumber ksign kfault kplace kword ktold know kread kkept ksnaps kaside kname kreadName kkeptName kisKept konces ksnapMany khasCells kpoured kfar ksides ksideMany kwayDays khasWay klines kmet kmetMany ksunk ktrying ksunkMany ksending kfleets ktext ktexts kseed kline kwritten klineMany khasWritten knode knodes konesMany kwithin ktop knowF y49 (nI ((n1 / 6) + 0)) iv_ko_0 iv_ko_1 iv_ko_2 iv_ko_3 iv_ko_4 iv_ko_5 iv_ko_6 iv_ko_7 iv_ko_8 iv_ko_9 iv_ko_10 iv_ko_11 iv_ko_12 iv_ko_13 iv_ko_14 ab_now) (cwV 2 hts gX12_beside_X12_isCell rfl rfl rfl (by decide +kernel) ⟨(Nat.le_of_ble_eq_true rfl), (Nat.le_of_ble_eq_true rfl)⟩) (pre_PV hK hP [0, 1] rfl (ci := 12) (q0 := 0) rfl rfl) rfl rfl hl.1 rfl (lv_room (Nat.le_of_ble_eq_true rfl)) dX12_beside_54 ⟨(Nat.le_of_ble_eq_true rfl), (Nat.le_of_ble_eq_true rfl)⟩) (fun r56 p57 => ?_)
          rcases p57 with ⟨rfl, t58, t59, t60, t61, t62, t63⟩ | ⟨rfl, t64⟩
          · refine lv_if_eq (tgt := 70) hx hb dX12_beside_57 (by decide) (fun c65 => absurd c65 (by decide)) (fun c65 => ?_)
            refine lv_bipush (v := nI 6) hx hb dX12_beside_60 (by decide) ?_
            refine lv_iload hx hb dX12_beside_62 (lv_at hl 0 rfl) ?_
            refine lv_imul hx hb dX12_beside_64 ?_
            refine r_ti (nI (6 * ((n1 / 6) + 0))) (pk_mul _ _) ?_
            refine lv_iload_n hx hb dX12_beside_65 rfl (lv_at hl 1 rfl) ?_
            obtain ⟨n66, h67, e68⟩ := nat_of y49 5 (by decide) (lf_x_beside_21 knowF x n1 y49 ab_now hc_x h2 e3 f51 b52 b53 t58 t59 t60 t61 t62 t63)
            rw [e68]
            refine lv_iadd hx hb dX12_beside_66 ?_
            refine r_ti (nI ((6 * ((n1 / 6) + 0)) + n66)) (nI_add _ _) ?_
            refine lv_goto (tgt := 71) hx hb dX12_beside_67 (by decide) ?_
            rw [hQ]
            exact W.iret (v := nI ((6 * ((n1 / 6) + 0)) + n66)) hx hb hr (fun t9 ht9 hW9 => ⟨nI ((6 * ((n1 / 6) + 0)) + n66), rfl, (Or.inr ⟨((6 * ((n1 / 6) + 0)) + n66), (lf_x_beside_22 knowF x y n1 y49 n66 ab_now hc_x hs h2 e3 c4 c5 f51 b52 b53 c54 c55 t58 t59 t60 t61 t62 t63 h67 e68), rfl⟩), ht9⟩) (fun _ h => absurd h List.not_mem_nil) dX12_beside_71
          · refine lv_if_eq (tgt := 70) hx hb dX12_beside_57 (by decide) (fun c69 => ?_) (fun c69 => absurd (by decide) c69)
            refine lv_iconst (v := (-1 : Int32)) hx hb dX12_beside_70 (by decide) ?_
            rw [hQ]
            exact W.iret (v := (-1 : Int32)) hx hb hr (fun t9 ht9 hW9 => ⟨(-1 : Int32), rfl, (Or.inl ⟨rfl, (lf_x_beside_23 knowF x y n1 y49 ab_now hc_x hs h2 e3 c4 c5 f51 b52 b53 c54 c55 t64)⟩), ht9⟩) (fun _ h => absurd h List.not_mem_nil) dX12_beside_71
        · refine lv_iconst (v := (-1 : Int32)) hx hb dX12_beside_42 (by decide) ?_
          refine lv_goto (tgt := 47) hx hb dX12_beside_43 (by decide) ?_
          refine lv_iadd hx hb dX12_beside_47 ?_
          refine lv_topi (fun y70 e71 => ?_)
          have f72 : y70.toInt = (nI (n1 / 6)).toInt + (-1 : Int32).toInt := by rw [e71]; exact ia_addS _ _ (lf_x_beside_24 x n1 y49 hc_x h2 e3 f51 b52 b53) (lf_x_beside_25 x n1 y49 hc_x h2 e3 f51 b52 b53) (lf_x_beside_26) (lf_x_beside_27)
          have b73 : -1 ≤ y70.toInt := (lf_x_beside_28 x n1 y49 y70 hc_x h2 e3 f51 b52 b53 f72)
          have b74 : y70.toInt ≤ 4 := (lf_x_beside_29 x n1 y49 y70 hc_x h2 e3 f51 b52 b53 f72)
          refine lv_istore (lv' := [(4, .int y70), (3, .int y49), (0, .ref o), (1, .int x), (2, .int y)]) hx hb dX12_beside_48 hl (by decide) rfl (fun ls hl => ?_)
          refine lv_aload_n hx hb dX12_beside_50 rfl (lv_at hl 2 rfl) ?_
          refine lv_iload_n hx hb dX12_beside_51 rfl (lv_at hl 1 rfl) ?_
          refine lv_iload hx hb dX12_beside_52 (lv_at hl 0 rfl) ?_
          refine vp_callSi (W.runV (As := [.int y49, .int y70]) (rest := []) ⟨hx, hb, hml, hown, hts⟩ (c_x_isCell l dC dI ky o kthrown ktape ktaped ksize klimit kto kfrom kkind knumber ksign kfault kplace kword ktold know kread kkept ksnaps kaside kname kreadName kkeptName kisKept konces ksnapMany khasCells kpoured kfar ksides ksideMany kwayDays khasWay klines kmet kmetMany ksunk ktrying ksunkMany ksending kfleets ktext ktexts kseed kline kwritten klineMany khasWritten knode knodes konesMany kwithin ktop knowF y49 y70 iv_ko_0 iv_ko_1 iv_ko_2 iv_ko_3 iv_ko_4 iv_ko_5 iv_ko_6 iv_ko_7 iv_ko_8 iv_ko_9 iv_ko_10 iv_ko_11 iv_ko_12 iv_ko_13 iv_ko_14 ab_now) (cwV 2 hts gX12_beside_X12_isCell rfl rfl rfl (by decide +kernel) ⟨(Nat.le_of_ble_eq_true rfl), (Nat.le_of_ble_eq_true rfl)⟩) (pre_PV hK hP [0, 1] rfl (ci := 12) (q0 := 0) rfl rfl) rfl rfl hl.1 rfl (lv_room (Nat.le_of_ble_eq_true rfl)) dX12_beside_54 ⟨(Nat.le_of_ble_eq_true rfl), (Nat.le_of_ble_eq_true rfl)⟩) (fun r75 p76 => ?_)
          rcases p76 with ⟨rfl, t77, t78, t79, t80, t81, t82⟩ | ⟨rfl, t83⟩
          · refine lv_if_eq (tgt := 70) hx hb dX12_beside_57 (by decide) (fun c84 => absurd c84 (by decide)) (fun c84 => ?_)
            refine lv_bipush (v := nI 6) hx hb dX12_beside_60 (by decide) ?_
            refine lv_iload hx hb dX12_beside_62 (lv_at hl 0 rfl) ?_
            obtain ⟨n85, h86, e87⟩ := nat_of y70 5 (by decide) (lf_x_beside_30 knowF x n1 y49 y70 ab_now hc_x h2 e3 f51 b52 b53 f72 b73 b74 t77 t78 t79 t80 t81 t82)
            rw [e87]
            refine lv_imul hx hb dX12_beside_64 ?_
            refine r_ti (nI (6 * n85)) (pk_mul _ _) ?_
            refine lv_iload_n hx hb dX12_beside_65 rfl (lv_at hl 1 rfl) ?_
            obtain ⟨n88, h89, e90⟩ := nat_of y49 5 (by decide) (lf_x_beside_31 knowF x n1 y49 y70 n85 ab_now hc_x h2 e3 f51 b52 b53 f72 b73 b74 t77 t78 t79 t80 t81 t82 h86 e87)
            rw [e90]
            refine lv_iadd hx hb dX12_beside_66 ?_
            refine r_ti (nI ((6 * n85) + n88)) (nI_add _ _) ?_
            refine lv_goto (tgt := 71) hx hb dX12_beside_67 (by decide) ?_
            rw [hQ]
            exact W.iret (v := nI ((6 * n85) + n88)) hx hb hr (fun t9 ht9 hW9 => ⟨nI ((6 * n85) + n88), rfl, (Or.inr ⟨((6 * n85) + n88), (lf_x_beside_32 knowF x y n1 y49 y70 n85 n88 ab_now hc_x hs h2 e3 c4 c5 f51 b52 b53 c54 c55 f72 b73 b74 t77 t78 t79 t80 t81 t82 h86 e87 h89 e90), rfl⟩), ht9⟩) (fun _ h => absurd h List.not_mem_nil) dX12_beside_71
          · refine lv_if_eq (tgt := 70) hx hb dX12_beside_57 (by decide) (fun c91 => ?_) (fun c91 => absurd (by decide) c91)
            refine lv_iconst (v := (-1 : Int32)) hx hb dX12_beside_70 (by decide) ?_
            rw [hQ]
            exact W.iret (v := (-1 : Int32)) hx hb hr (fun t9 ht9 hW9 => ⟨(-1 : Int32), rfl, (Or.inl ⟨rfl, (lf_x_beside_33 knowF x y n1 y49 y70 ab_now hc_x hs h2 e3 c4 c5 f51 b52 b53 c54 c55 f72 b73 b74 t83)⟩), ht9⟩) (fun _ h => absurd h List.not_mem_nil) dX12_beside_71
      · refine lv_iconst (v := nI 1) hx hb dX12_beside_33 (by decide) ?_
        refine lv_goto (tgt := 47) hx hb dX12_beside_34 (by decide) ?_
        refine lv_iadd hx hb dX12_beside_47 ?_
        refine r_ti (nI ((n1 / 6) + 1)) (nI_add _ _) ?_
        refine lv_istore (lv' := [(4, .int (nI ((n1 / 6) + 1))), (3, .int y49), (0, .ref o), (1, .int x), (2, .int y)]) hx hb dX12_beside_48 hl (by decide) rfl (fun ls hl => ?_)
        refine lv_aload_n hx hb dX12_beside_50 rfl (lv_at hl 2 rfl) ?_
        refine lv_iload_n hx hb dX12_beside_51 rfl (lv_at hl 1 rfl) ?_
        refine lv_iload hx hb dX12_beside_52 (lv_at hl 0 rfl) ?_
        refine vp_callSi (W.runV (As := [.int y49, .int (nI ((n1 / 6) + 1))]) (rest := []) ⟨hx, hb, hml, hown, hts⟩ (c_x_isCell l dC dI ky o kthrown ktape ktaped ksize klimit kto kfrom kkind knumber ksign kfault kplace kword ktold know kread kkept ksnaps kaside kname kreadName kkeptName kisKept konces ksnapMany khasCells kpoured kfar ksides ksideMany kwayDays khasWay klines kmet kmetMany ksunk ktrying ksunkMany ksending kfleets ktext ktexts kseed kline kwritten klineMany khasWritten knode knodes konesMany kwithin ktop knowF y49 (nI ((n1 / 6) + 1)) iv_ko_0 iv_ko_1 iv_ko_2 iv_ko_3 iv_ko_4 iv_ko_5 iv_ko_6 iv_ko_7 iv_ko_8 iv_ko_9 iv_ko_10 iv_ko_11 iv_ko_12 iv_ko_13 iv_ko_14 ab_now) (cwV 2 hts gX12_beside_X12_isCell rfl rfl rfl (by decide +kernel) ⟨(Nat.le_of_ble_eq_true rfl), (Nat.le_of_ble_eq_true rfl)⟩) (pre_PV hK hP [0, 1] rfl (ci := 12) (q0 := 0) rfl rfl) rfl rfl hl.1 rfl (lv_room (Nat.le_of_ble_eq_true rfl)) dX12_beside_54 ⟨(Nat.le_of_ble_eq_true rfl), (Nat.le_of_ble_eq_true rfl)⟩) (fun r92 p93 => ?_)
        rcases p93 with ⟨rfl, t94, t95, t96, t97, t98, t99⟩ | ⟨rfl, t100⟩
        · refine lv_if_eq (tgt := 70) hx hb dX12_beside_57 (by decide) (fun c101 => absurd c101 (by decide)) (fun c101 => ?_)
          refine lv_bipush (v := nI 6) hx hb dX12_beside_60 (by decide) ?_
          refine lv_iload hx hb dX12_beside_62 (lv_at hl 0 rfl) ?_
          refine lv_imul hx hb dX12_beside_64 ?_
          refine r_ti (nI (6 * ((n1 / 6) + 1))) (pk_mul _ _) ?_
          refine lv_iload_n hx hb dX12_beside_65 rfl (lv_at hl 1 rfl) ?_
          obtain ⟨n102, h103, e104⟩ := nat_of y49 5 (by decide) (lf_x_beside_34 knowF x n1 y49 ab_now hc_x h2 e3 f51 b52 b53 t94 t95 t96 t97 t98 t99)
          rw [e104]
          refine lv_iadd hx hb dX12_beside_66 ?_
          refine r_ti (nI ((6 * ((n1 / 6) + 1)) + n102)) (nI_add _ _) ?_
          refine lv_goto (tgt := 71) hx hb dX12_beside_67 (by decide) ?_
          rw [hQ]
          exact W.iret (v := nI ((6 * ((n1 / 6) + 1)) + n102)) hx hb hr (fun t9 ht9 hW9 => ⟨nI ((6 * ((n1 / 6) + 1)) + n102), rfl, (Or.inr ⟨((6 * ((n1 / 6) + 1)) + n102), (lf_x_beside_35 knowF x y n1 y49 n102 ab_now hc_x hs h2 e3 c4 c5 f51 b52 b53 c54 t94 t95 t96 t97 t98 t99 h103 e104), rfl⟩), ht9⟩) (fun _ h => absurd h List.not_mem_nil) dX12_beside_71
        · refine lv_if_eq (tgt := 70) hx hb dX12_beside_57 (by decide) (fun c105 => ?_) (fun c105 => absurd (by decide) c105)
          refine lv_iconst (v := (-1 : Int32)) hx hb dX12_beside_70 (by decide) ?_
          rw [hQ]
          exact W.iret (v := (-1 : Int32)) hx hb hr (fun t9 ht9 hW9 => ⟨(-1 : Int32), rfl, (Or.inl ⟨rfl, (lf_x_beside_36 knowF x y n1 y49 ab_now hc_x hs h2 e3 c4 c5 f51 b52 b53 c54 t100)⟩), ht9⟩) (fun _ h => absurd h List.not_mem_nil) dX12_beside_71
  · refine lv_iconst (v := nI 1) hx hb dX12_beside_8 (by decide) ?_
    refine lv_goto (tgt := 22) hx hb dX12_beside_9 (by decide) ?_
    refine lv_iadd hx hb dX12_beside_22 ?_
    refine r_ti (nI ((n1 % 6) + 1)) (nI_add _ _) ?_
    refine lv_istore_n (lv' := [(3, .int (nI ((n1 % 6) + 1))), (0, .ref o), (1, .int x), (2, .int y)]) hx hb dX12_beside_23 rfl hl (by decide) rfl (fun ls hl => ?_)
    refine lv_iload_n hx hb dX12_beside_24 rfl (lv_at hl 2 rfl) ?_
    refine lv_bipush (v := nI 6) hx hb dX12_beside_25 (by decide) ?_
    rw [e3]
    refine lv_idiv hx hb dX12_beside_27 (by decide) ?_
    refine r_ti (nI (n1 / 6)) (pk_div (by omega) (by omega) (by omega)) ?_
    refine lv_iload_n hx hb dX12_beside_28 rfl (lv_at hl 3 rfl) ?_
    refine lv_iconst (v := nI 1) hx hb dX12_beside_29 (by decide) ?_
    refine lv_icmp_ne (tgt := 37) hx hb dX12_beside_30 (by decide) (fun c106 => ?_) (fun c106 => ?_)
    · refine lv_iload_n hx hb dX12_beside_37 rfl (lv_at hl 3 rfl) ?_
      refine lv_iconst (v := nI 2) hx hb dX12_beside_38 (by decide) ?_
      refine lv_icmp_le (tgt := 46) hx hb dX12_beside_39 (by decide) (fun c107 => ?_) (fun c107 => ?_)
      · refine lv_iconst (v := nI 0) hx hb dX12_beside_46 (by decide) ?_
        refine lv_iadd hx hb dX12_beside_47 ?_
        refine r_ti (nI ((n1 / 6) + 0)) (nI_add _ _) ?_
        refine lv_istore (lv' := [(4, .int (nI ((n1 / 6) + 0))), (3, .int (nI ((n1 % 6) + 1))), (0, .ref o), (1, .int x), (2, .int y)]) hx hb dX12_beside_48 hl (by decide) rfl (fun ls hl => ?_)
        refine lv_aload_n hx hb dX12_beside_50 rfl (lv_at hl 2 rfl) ?_
        refine lv_iload_n hx hb dX12_beside_51 rfl (lv_at hl 1 rfl) ?_
        refine lv_iload hx hb dX12_beside_52 (lv_at hl 0 rfl) ?_
        refine vp_callSi (W.runV (As := [.int (nI ((n1 % 6) + 1)), .int (nI ((n1 / 6) + 0))]) (rest := []) ⟨hx, hb, hml, hown, hts⟩ (c_x_isCell l dC dI ky o kthrown ktape ktaped ksize klimit kto kfrom kkind knumber ksign kfault kplace kword ktold know kread kkept ksnaps kaside kname kreadName kkeptName kisKept konces ksnapMany khasCells kpoured kfar ksides ksideMany kwayDays khasWay klines kmet kmetMany ksunk ktrying ksunkMany ksending kfleets ktext ktexts kseed kline kwritten klineMany khasWritten knode knodes konesMany kwithin ktop knowF (nI ((n1 % 6) + 1)) (nI ((n1 / 6) + 0)) iv_ko_0 iv_ko_1 iv_ko_2 iv_ko_3 iv_ko_4 iv_ko_5 iv_ko_6 iv_ko_7 iv_ko_8 iv_ko_9 iv_ko_10 iv_ko_11 iv_ko_12 iv_ko_13 iv_ko_14 ab_now) (cwV 2 hts gX12_beside_X12_isCell rfl rfl rfl (by decide +kernel) ⟨(Nat.le_of_ble_eq_true rfl), (Nat.le_of_ble_eq_true rfl)⟩) (pre_PV hK hP [0, 1] rfl (ci := 12) (q0 := 0) rfl rfl) rfl rfl hl.1 rfl (lv_room (Nat.le_of_ble_eq_true rfl)) dX12_beside_54 ⟨(Nat.le_of_ble_eq_true rfl), (Nat.le_of_ble_eq_true rfl)⟩) (fun r108 p109 => ?_)
        rcases p109 with ⟨rfl, t110, t111, t112, t113, t114, t115⟩ | ⟨rfl, t116⟩
        · refine lv_if_eq (tgt := 70) hx hb dX12_beside_57 (by decide) (fun c117 => absurd c117 (by decide)) (fun c117 => ?_)
          refine lv_bipush (v := nI 6) hx hb dX12_beside_60 (by decide) ?_
          refine lv_iload hx hb dX12_beside_62 (lv_at hl 0 rfl) ?_
          refine lv_imul hx hb dX12_beside_64 ?_
          refine r_ti (nI (6 * ((n1 / 6) + 0))) (pk_mul _ _) ?_
          refine lv_iload_n hx hb dX12_beside_65 rfl (lv_at hl 1 rfl) ?_
          refine lv_iadd hx hb dX12_beside_66 ?_
          refine r_ti (nI ((6 * ((n1 / 6) + 0)) + ((n1 % 6) + 1))) (nI_add _ _) ?_
          refine lv_goto (tgt := 71) hx hb dX12_beside_67 (by decide) ?_
          rw [hQ]
          exact W.iret (v := nI ((6 * ((n1 / 6) + 0)) + ((n1 % 6) + 1))) hx hb hr (fun t9 ht9 hW9 => ⟨nI ((6 * ((n1 / 6) + 0)) + ((n1 % 6) + 1)), rfl, (Or.inr ⟨((6 * ((n1 / 6) + 0)) + ((n1 % 6) + 1)), (lf_x_beside_37 knowF x y n1 ab_now hc_x hs h2 e3 c4 c106 c107 t110 t111 t112 t113 t114 t115), rfl⟩), ht9⟩) (fun _ h => absurd h List.not_mem_nil) dX12_beside_71
        · refine lv_if_eq (tgt := 70) hx hb dX12_beside_57 (by decide) (fun c118 => ?_) (fun c118 => absurd (by decide) c118)
          refine lv_iconst (v := (-1 : Int32)) hx hb dX12_beside_70 (by decide) ?_
          rw [hQ]
          exact W.iret (v := (-1 : Int32)) hx hb hr (fun t9 ht9 hW9 => ⟨(-1 : Int32), rfl, (Or.inl ⟨rfl, (lf_x_beside_38 knowF x y n1 ab_now hc_x hs h2 e3 c4 c106 c107 t116)⟩), ht9⟩) (fun _ h => absurd h List.not_mem_nil) dX12_beside_71
      · refine lv_iconst (v := (-1 : Int32)) hx hb dX12_beside_42 (by decide) ?_
        refine lv_goto (tgt := 47) hx hb dX12_beside_43 (by decide) ?_
        refine lv_iadd hx hb dX12_beside_47 ?_
        refine lv_topi (fun y119 e120 => ?_)
        have f121 : y119.toInt = (nI (n1 / 6)).toInt + (-1 : Int32).toInt := by rw [e120]; exact ia_addS _ _ (lf_x_beside_39 x n1 hc_x h2 e3) (lf_x_beside_40 x n1 hc_x h2 e3) (lf_x_beside_41) (lf_x_beside_42)
        have b122 : -1 ≤ y119.toInt := (lf_x_beside_43 x n1 y119 hc_x h2 e3 f121)
        have b123 : y119.toInt ≤ 4 := (lf_x_beside_44 x n1 y119 hc_x h2 e3 f121)
        refine lv_istore (lv' := [(4, .int y119), (3, .int (nI ((n1 % 6) + 1))), (0, .ref o), (1, .int x), (2, .int y)]) hx hb dX12_beside_48 hl (by decide) rfl (fun ls hl => ?_)
        refine lv_aload_n hx hb dX12_beside_50 rfl (lv_at hl 2 rfl) ?_
        refine lv_iload_n hx hb dX12_beside_51 rfl (lv_at hl 1 rfl) ?_
        refine lv_iload hx hb dX12_beside_52 (lv_at hl 0 rfl) ?_
        refine vp_callSi (W.runV (As := [.int (nI ((n1 % 6) + 1)), .int y119]) (rest := []) ⟨hx, hb, hml, hown, hts⟩ (c_x_isCell l dC dI ky o kthrown ktape ktaped ksize klimit kto kfrom kkind knumber ksign kfault kplace kword ktold know kread kkept ksnaps kaside kname kreadName kkeptName kisKept konces ksnapMany khasCells kpoured kfar ksides ksideMany kwayDays khasWay klines kmet kmetMany ksunk ktrying ksunkMany ksending kfleets ktext ktexts kseed kline kwritten klineMany khasWritten knode knodes konesMany kwithin ktop knowF (nI ((n1 % 6) + 1)) y119 iv_ko_0 iv_ko_1 iv_ko_2 iv_ko_3 iv_ko_4 iv_ko_5 iv_ko_6 iv_ko_7 iv_ko_8 iv_ko_9 iv_ko_10 iv_ko_11 iv_ko_12 iv_ko_13 iv_ko_14 ab_now) (cwV 2 hts gX12_beside_X12_isCell rfl rfl rfl (by decide +kernel) ⟨(Nat.le_of_ble_eq_true rfl), (Nat.le_of_ble_eq_true rfl)⟩) (pre_PV hK hP [0, 1] rfl (ci := 12) (q0 := 0) rfl rfl) rfl rfl hl.1 rfl (lv_room (Nat.le_of_ble_eq_true rfl)) dX12_beside_54 ⟨(Nat.le_of_ble_eq_true rfl), (Nat.le_of_ble_eq_true rfl)⟩) (fun r124 p125 => ?_)
        rcases p125 with ⟨rfl, t126, t127, t128, t129, t130, t131⟩ | ⟨rfl, t132⟩
        · refine lv_if_eq (tgt := 70) hx hb dX12_beside_57 (by decide) (fun c133 => absurd c133 (by decide)) (fun c133 => ?_)
          refine lv_bipush (v := nI 6) hx hb dX12_beside_60 (by decide) ?_
          refine lv_iload hx hb dX12_beside_62 (lv_at hl 0 rfl) ?_
          obtain ⟨n134, h135, e136⟩ := nat_of y119 5 (by decide) (lf_x_beside_45 knowF x n1 y119 ab_now hc_x h2 e3 f121 b122 b123 t126 t127 t128 t129 t130 t131)
          rw [e136]
          refine lv_imul hx hb dX12_beside_64 ?_
          refine r_ti (nI (6 * n134)) (pk_mul _ _) ?_
          refine lv_iload_n hx hb dX12_beside_65 rfl (lv_at hl 1 rfl) ?_
          refine lv_iadd hx hb dX12_beside_66 ?_
          refine r_ti (nI ((6 * n134) + ((n1 % 6) + 1))) (nI_add _ _) ?_
          refine lv_goto (tgt := 71) hx hb dX12_beside_67 (by decide) ?_
          rw [hQ]
          exact W.iret (v := nI ((6 * n134) + ((n1 % 6) + 1))) hx hb hr (fun t9 ht9 hW9 => ⟨nI ((6 * n134) + ((n1 % 6) + 1)), rfl, (Or.inr ⟨((6 * n134) + ((n1 % 6) + 1)), (lf_x_beside_46 knowF x y n1 y119 n134 ab_now hc_x hs h2 e3 c4 c106 c107 f121 b122 b123 t126 t127 t128 t129 t130 t131 h135 e136), rfl⟩), ht9⟩) (fun _ h => absurd h List.not_mem_nil) dX12_beside_71
        · refine lv_if_eq (tgt := 70) hx hb dX12_beside_57 (by decide) (fun c137 => ?_) (fun c137 => absurd (by decide) c137)
          refine lv_iconst (v := (-1 : Int32)) hx hb dX12_beside_70 (by decide) ?_
          rw [hQ]
          exact W.iret (v := (-1 : Int32)) hx hb hr (fun t9 ht9 hW9 => ⟨(-1 : Int32), rfl, (Or.inl ⟨rfl, (lf_x_beside_47 knowF x y n1 y119 ab_now hc_x hs h2 e3 c4 c106 c107 f121 b122 b123 t132)⟩), ht9⟩) (fun _ h => absurd h List.not_mem_nil) dX12_beside_71
    · refine lv_iconst (v := nI 1) hx hb dX12_beside_33 (by decide) ?_
      refine lv_goto (tgt := 47) hx hb dX12_beside_34 (by decide) ?_
      refine lv_iadd hx hb dX12_beside_47 ?_
      refine r_ti (nI ((n1 / 6) + 1)) (nI_add _ _) ?_
      refine lv_istore (lv' := [(4, .int (nI ((n1 / 6) + 1))), (3, .int (nI ((n1 % 6) + 1))), (0, .ref o), (1, .int x), (2, .int y)]) hx hb dX12_beside_48 hl (by decide) rfl (fun ls hl => ?_)
      refine lv_aload_n hx hb dX12_beside_50 rfl (lv_at hl 2 rfl) ?_
      refine lv_iload_n hx hb dX12_beside_51 rfl (lv_at hl 1 rfl) ?_
      refine lv_iload hx hb dX12_beside_52 (lv_at hl 0 rfl) ?_
      refine vp_callSi (W.runV (As := [.int (nI ((n1 % 6) + 1)), .int (nI ((n1 / 6) + 1))]) (rest := []) ⟨hx, hb, hml, hown, hts⟩ (c_x_isCell l dC dI ky o kthrown ktape ktaped ksize klimit kto kfrom kkind knumber ksign kfault kplace kword ktold know kread kkept ksnaps kaside kname kreadName kkeptName kisKept konces ksnapMany khasCells kpoured kfar ksides ksideMany kwayDays khasWay klines kmet kmetMany ksunk ktrying ksunkMany ksending kfleets ktext ktexts kseed kline kwritten klineMany khasWritten knode knodes konesMany kwithin ktop knowF (nI ((n1 % 6) + 1)) (nI ((n1 / 6) + 1)) iv_ko_0 iv_ko_1 iv_ko_2 iv_ko_3 iv_ko_4 iv_ko_5 iv_ko_6 iv_ko_7 iv_ko_8 iv_ko_9 iv_ko_10 iv_ko_11 iv_ko_12 iv_ko_13 iv_ko_14 ab_now) (cwV 2 hts gX12_beside_X12_isCell rfl rfl rfl (by decide +kernel) ⟨(Nat.le_of_ble_eq_true rfl), (Nat.le_of_ble_eq_true rfl)⟩) (pre_PV hK hP [0, 1] rfl (ci := 12) (q0 := 0) rfl rfl) rfl rfl hl.1 rfl (lv_room (Nat.le_of_ble_eq_true rfl)) dX12_beside_54 ⟨(Nat.le_of_ble_eq_true rfl), (Nat.le_of_ble_eq_true rfl)⟩) (fun r138 p139 => ?_)
      rcases p139 with ⟨rfl, t140, t141, t142, t143, t144, t145⟩ | ⟨rfl, t146⟩
      · refine lv_if_eq (tgt := 70) hx hb dX12_beside_57 (by decide) (fun c147 => absurd c147 (by decide)) (fun c147 => ?_)
        refine lv_bipush (v := nI 6) hx hb dX12_beside_60 (by decide) ?_
        refine lv_iload hx hb dX12_beside_62 (lv_at hl 0 rfl) ?_
        refine lv_imul hx hb dX12_beside_64 ?_
        refine r_ti (nI (6 * ((n1 / 6) + 1))) (pk_mul _ _) ?_
        refine lv_iload_n hx hb dX12_beside_65 rfl (lv_at hl 1 rfl) ?_
        refine lv_iadd hx hb dX12_beside_66 ?_
        refine r_ti (nI ((6 * ((n1 / 6) + 1)) + ((n1 % 6) + 1))) (nI_add _ _) ?_
        refine lv_goto (tgt := 71) hx hb dX12_beside_67 (by decide) ?_
        rw [hQ]
        exact W.iret (v := nI ((6 * ((n1 / 6) + 1)) + ((n1 % 6) + 1))) hx hb hr (fun t9 ht9 hW9 => ⟨nI ((6 * ((n1 / 6) + 1)) + ((n1 % 6) + 1)), rfl, (Or.inr ⟨((6 * ((n1 / 6) + 1)) + ((n1 % 6) + 1)), (lf_x_beside_48 knowF x y n1 ab_now hc_x hs h2 e3 c4 c106 t140 t141 t142 t143 t144 t145), rfl⟩), ht9⟩) (fun _ h => absurd h List.not_mem_nil) dX12_beside_71
      · refine lv_if_eq (tgt := 70) hx hb dX12_beside_57 (by decide) (fun c148 => ?_) (fun c148 => absurd (by decide) c148)
        refine lv_iconst (v := (-1 : Int32)) hx hb dX12_beside_70 (by decide) ?_
        rw [hQ]
        exact W.iret (v := (-1 : Int32)) hx hb hr (fun t9 ht9 hW9 => ⟨(-1 : Int32), rfl, (Or.inl ⟨rfl, (lf_x_beside_49 knowF x y n1 ab_now hc_x hs h2 e3 c4 c106 t146)⟩), ht9⟩) (fun _ h => absurd h List.not_mem_nil) dX12_beside_71
set_option maxRecDepth 20000 in
theorem lf_x_areNear_1  (p8 : True) (p16 : True) : (nI 0) = nI 0 ∨ (nI 0) = nI 1 := by
  try have k_0 := ia_n 0 (by first | decide | omega)
  try have k_1 := ia_n 1 (by first | decide | omega)
  try simp only [ia_lt, ia_le, ia_eq, ia_m1, ia_0, ia_1, ne_eq, true_and, and_true, false_and, and_false, or_false, false_or, or_true, true_or, not_true_eq_false, not_false_eq_true] at *
  all_goals omega
set_option maxRecDepth 20000 in
theorem lf_x_areNear_2  (p8 : True) (p16 : True) : (nI 1) = nI 0 ∨ (nI 1) = nI 1 := by
  try have k_0 := ia_n 1 (by first | decide | omega)
  try have k_1 := ia_n 0 (by first | decide | omega)
  try simp only [ia_lt, ia_le, ia_eq, ia_m1, ia_0, ia_1, ne_eq, true_and, and_true, false_and, and_false, or_false, false_or, or_true, true_or, not_true_eq_false, not_false_eq_true] at *
  all_goals omega
set_option maxHeartbeats 4000000 in
set_option maxRecDepth 100000 in
theorem c_x_areNear (l : Launch) (dC : Nat → ClassId) (dI : Nat → Nat → Nat) (ky : Nat → ClassId) (x : Int32) (y : Int32)  : Met l yX12_areNear wsX12_areNear ({ frames := 1, cells := 0, slots := 0, locals := 20 }) (PcP dC dI ky [.int x, .int y] []) (vp_Si (fun r : Int32 => r = nI 0 ∨ r = nI 1)) 0 0 (fun _ => False) := by
  refine Met.ofW (cc := cX12_areNear) (maxL := 2) (ret := (some .boolean)) (by decide) rfl ?_
  intro p e s m args below meth c s₁ B hml hv
  obtain ⟨rfl, hP, hK⟩ := hv
  have hx := B.exec
  have hb := B.bytes
  have hr := B.returns
  have hts := atoms_spec (ws := wsX12_areNear) B.pre
  have hown : s.vm.findClass RX12 = some m.cls := findClass_of_methodNamed B.named
  have hlocks := B.notSynchronized
  have hl := lv_entry ([.int x, .int y]) (n := 2) (Nat.le_of_ble_eq_true rfl)
  rw [lg_entry_eq]
  generalize (lg_sl ([.int x, .int y]) ++ List.replicate (2 - (lg_sl ([.int x, .int y])).length) Slot.unset).toArray = ls at hl ⊢
  have hl : lv_has ls 2 [(0, .int x), (1, .int y)] := hl
  refine q_name (fun Q hQ => ?_)
  generalize ([.int x, .int y] : List Value).toArray = args at hts hQ ⊢
  refine lv_iload_n hx hb dX12_areNear_0 rfl (lv_at hl 0 rfl) ?_
  refine lv_bipush (v := nI 6) hx hb dX12_areNear_1 (by decide) ?_
  refine lv_irem hx hb dX12_areNear_3 (by decide) ?_
  refine lv_topi (fun y1 e2 => ?_)
  refine lv_iload_n hx hb dX12_areNear_4 rfl (lv_at hl 1 rfl) ?_
  refine lv_bipush (v := nI 6) hx hb dX12_areNear_5 (by decide) ?_
  refine lv_irem hx hb dX12_areNear_7 (by decide) ?_
  refine lv_topi (fun y3 e4 => ?_)
  refine lv_isub hx hb dX12_areNear_8 ?_
  refine lv_topi (fun y5 e6 => ?_)
  refine vp_callSi (W.runS (As := [.int y5]) (rest := []) ⟨hx, hb, hml, hown, hts⟩ (c_x_size l dC dI ky y5) (va_cwS 1 hts gX12_areNear_X12_size rfl rfl rfl (by decide +kernel) ⟨(Nat.le_of_ble_eq_true rfl), (Nat.le_of_ble_eq_true rfl)⟩) (pre_PS hK hP [] rfl) rfl rfl hl.1 rfl (lv_room (Nat.le_of_ble_eq_true rfl)) dX12_areNear_9 ⟨(Nat.le_of_ble_eq_true rfl), (Nat.le_of_ble_eq_true rfl)⟩) (fun r7 p8 => ?_)
  refine lv_iload_n hx hb dX12_areNear_12 rfl (lv_at hl 0 rfl) ?_
  refine lv_bipush (v := nI 6) hx hb dX12_areNear_13 (by decide) ?_
  refine lv_idiv hx hb dX12_areNear_15 (by decide) ?_
  refine lv_topi (fun y9 e10 => ?_)
  refine lv_iload_n hx hb dX12_areNear_16 rfl (lv_at hl 1 rfl) ?_
  refine lv_bipush (v := nI 6) hx hb dX12_areNear_17 (by decide) ?_
  refine lv_idiv hx hb dX12_areNear_19 (by decide) ?_
  refine lv_topi (fun y11 e12 => ?_)
  refine lv_isub hx hb dX12_areNear_20 ?_
  refine lv_topi (fun y13 e14 => ?_)
  refine vp_callSi (W.runS (As := [.int y13]) (rest := [.int r7]) ⟨hx, hb, hml, hown, hts⟩ (c_x_size l dC dI ky y13) (va_cwS 1 hts gX12_areNear_X12_size rfl rfl rfl (by decide +kernel) ⟨(Nat.le_of_ble_eq_true rfl), (Nat.le_of_ble_eq_true rfl)⟩) (pre_PS hK hP [] rfl) rfl rfl hl.1 rfl (lv_room (Nat.le_of_ble_eq_true rfl)) dX12_areNear_21 ⟨(Nat.le_of_ble_eq_true rfl), (Nat.le_of_ble_eq_true rfl)⟩) (fun r15 p16 => ?_)
  refine lv_iadd hx hb dX12_areNear_24 ?_
  refine lv_topi (fun y17 e18 => ?_)
  refine lv_iconst (v := nI 2) hx hb dX12_areNear_25 (by decide) ?_
  refine lv_icmp_ge (tgt := 33) hx hb dX12_areNear_26 (by decide) (fun c19 => ?_) (fun c19 => ?_)
  · refine lv_iconst (v := nI 0) hx hb dX12_areNear_33 (by decide) ?_
    rw [hQ]
    exact W.zret (v := nI 0) hx hb hr (by decide) (fun t9 ht9 hW9 => ⟨nI 0, rfl, (lf_x_areNear_1 p8 p16), ht9⟩) (fun _ h => absurd h List.not_mem_nil) dX12_areNear_34
  · refine lv_iconst (v := nI 1) hx hb dX12_areNear_29 (by decide) ?_
    refine lv_goto (tgt := 34) hx hb dX12_areNear_30 (by decide) ?_
    rw [hQ]
    exact W.zret (v := nI 1) hx hb hr (by decide) (fun t9 ht9 hW9 => ⟨nI 1, rfl, (lf_x_areNear_2 p8 p16), ht9⟩) (fun _ h => absurd h List.not_mem_nil) dX12_areNear_34
