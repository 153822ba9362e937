theorem dX7_isCell_0 : decode cX7_isCell 0 = .ok (.iload_n 1, 1) := by decide +kernel
theorem dX7_isCell_1 : decode cX7_isCell 1 = .ok (.ifCond .lt 27, 3) := by decide +kernel
theorem dX7_isCell_28 : decode cX7_isCell 28 = .ok (.iconst 0, 1) := by decide +kernel
theorem dX7_isCell_29 : decode cX7_isCell 29 = .ok (.ireturn, 1) := by decide +kernel
theorem dX7_isCell_4 : decode cX7_isCell 4 = .ok (.iload_n 1, 1) := by decide +kernel
theorem dX7_isCell_5 : decode cX7_isCell 5 = .ok (.aload_n 0, 1) := by decide +kernel
theorem dX7_isCell_6 : decode cX7_isCell 6 = .ok (.getfield 43, 3) := by decide +kernel
theorem dX7_isCell_9 : decode cX7_isCell 9 = .ok (.if_icmp .ge 19, 3) := by decide +kernel
theorem dX7_isCell_12 : decode cX7_isCell 12 = .ok (.iload_n 2, 1) := by decide +kernel
theorem dX7_isCell_13 : decode cX7_isCell 13 = .ok (.ifCond .lt 15, 3) := by decide +kernel
theorem dX7_isCell_16 : decode cX7_isCell 16 = .ok (.iload_n 2, 1) := by decide +kernel
theorem dX7_isCell_17 : decode cX7_isCell 17 = .ok (.aload_n 0, 1) := by decide +kernel
theorem dX7_isCell_18 : decode cX7_isCell 18 = .ok (.getfield 47, 3) := by decide +kernel
theorem dX7_isCell_21 : decode cX7_isCell 21 = .ok (.if_icmp .ge 7, 3) := by decide +kernel
theorem dX7_isCell_24 : decode cX7_isCell 24 = .ok (.iconst 1, 1) := by decide +kernel
theorem dX7_isCell_25 : decode cX7_isCell 25 = .ok (.goto 4, 3) := by decide +kernel
theorem dX7_isLump_0 : decode cX7_isLump 0 = .ok (.iload_n 1, 1) := by decide +kernel
theorem dX7_isLump_1 : decode cX7_isLump 1 = .ok (.ifCond .lt 15, 3) := by decide +kernel
theorem dX7_isLump_16 : decode cX7_isLump 16 = .ok (.iconst 0, 1) := by decide +kernel
theorem dX7_isLump_17 : decode cX7_isLump 17 = .ok (.ireturn, 1) := by decide +kernel
theorem dX7_isLump_4 : decode cX7_isLump 4 = .ok (.iload_n 1, 1) := by decide +kernel
theorem dX7_isLump_5 : decode cX7_isLump 5 = .ok (.aload_n 0, 1) := by decide +kernel
theorem dX7_isLump_6 : decode cX7_isLump 6 = .ok (.getfield 68, 3) := by decide +kernel
theorem dX7_isLump_9 : decode cX7_isLump 9 = .ok (.if_icmp .ge 7, 3) := by decide +kernel
theorem dX7_isLump_12 : decode cX7_isLump 12 = .ok (.iconst 1, 1) := by decide +kernel
theorem dX7_isLump_13 : decode cX7_isLump 13 = .ok (.goto 4, 3) := by decide +kernel
theorem dX7_isBoat_0 : decode cX7_isBoat 0 = .ok (.iload_n 1, 1) := by decide +kernel
theorem dX7_isBoat_1 : decode cX7_isBoat 1 = .ok (.ifCond .lt 15, 3) := by decide +kernel
theorem dX7_isBoat_16 : decode cX7_isBoat 16 = .ok (.iconst 0, 1) := by decide +kernel
theorem dX7_isBoat_17 : decode cX7_isBoat 17 = .ok (.ireturn, 1) := by decide +kernel
theorem dX7_isBoat_4 : decode cX7_isBoat 4 = .ok (.iload_n 1, 1) := by decide +kernel
theorem dX7_isBoat_5 : decode cX7_isBoat 5 = .ok (.aload_n 0, 1) := by decide +kernel
theorem dX7_isBoat_6 : decode cX7_isBoat 6 = .ok (.getfield 71, 3) := by decide +kernel
theorem dX7_isBoat_9 : decode cX7_isBoat 9 = .ok (.if_icmp .ge 7, 3) := by decide +kernel
theorem dX7_isBoat_12 : decode cX7_isBoat 12 = .ok (.iconst 1, 1) := by decide +kernel
theorem dX7_isBoat_13 : decode cX7_isBoat 13 = .ok (.goto 4, 3) := by decide +kernel
theorem dX7_isLine_0 : decode cX7_isLine 0 = .ok (.iload_n 2, 1) := by decide +kernel
theorem dX7_isLine_1 : decode cX7_isLine 1 = .ok (.ifCond .lt 27, 3) := by decide +kernel
theorem dX7_isLine_28 : decode cX7_isLine 28 = .ok (.iconst 0, 1) := by decide +kernel
theorem dX7_isLine_29 : decode cX7_isLine 29 = .ok (.ireturn, 1) := by decide +kernel
theorem dX7_isLine_4 : decode cX7_isLine 4 = .ok (.iload_n 2, 1) := by decide +kernel
theorem dX7_isLine_5 : decode cX7_isLine 5 = .ok (.iload_n 1, 1) := by decide +kernel
theorem dX7_isLine_6 : decode cX7_isLine 6 = .ok (.iconst 1, 1) := by decide +kernel
theorem dX7_isLine_7 : decode cX7_isLine 7 = .ok (.if_icmp .ne 10, 3) := by decide +kernel
theorem dX7_isLine_17 : decode cX7_isLine 17 = .ok (.aload_n 0, 1) := by decide +kernel
theorem dX7_isLine_18 : decode cX7_isLine 18 = .ok (.getfield 47, 3) := by decide +kernel
theorem dX7_isLine_21 : decode cX7_isLine 21 = .ok (.if_icmp .ge 7, 3) := by decide +kernel
theorem dX7_isLine_24 : decode cX7_isLine 24 = .ok (.iconst 1, 1) := by decide +kernel
theorem dX7_isLine_25 : decode cX7_isLine 25 = .ok (.goto 4, 3) := by decide +kernel
theorem dX7_isLine_10 : decode cX7_isLine 10 = .ok (.aload_n 0, 1) := by decide +kernel
theorem dX7_isLine_11 : decode cX7_isLine 11 = .ok (.getfield 43, 3) := by decide +kernel
theorem dX7_isLine_14 : decode cX7_isLine 14 = .ok (.goto 7, 3) := by decide +kernel
theorem dX7_isEaten_0 : decode cX7_isEaten 0 = .ok (.aload_n 0, 1) := by decide +kernel
theorem dX7_isEaten_1 : decode cX7_isEaten 1 = .ok (.iload_n 1, 1) := by decide +kernel
theorem dX7_isEaten_2 : decode cX7_isEaten 2 = .ok (.invokevirtual 80, 3) := by decide +kernel
theorem dX7_isEaten_5 : decode cX7_isEaten 5 = .ok (.ifCond .eq 17, 3) := by decide +kernel
theorem dX7_isEaten_8 : decode cX7_isEaten 8 = .ok (.aload_n 0, 1) := by decide +kernel
theorem dX7_isEaten_9 : decode cX7_isEaten 9 = .ok (.getfield 37, 3) := by decide +kernel
theorem dX7_isEaten_12 : decode cX7_isEaten 12 = .ok (.iload_n 1, 1) := by decide +kernel
theorem dX7_isEaten_13 : decode cX7_isEaten 13 = .ok (.iaload, 1) := by decide +kernel
theorem dX7_isEaten_14 : decode cX7_isEaten 14 = .ok (.iconst 3, 1) := by decide +kernel
theorem dX7_isEaten_15 : decode cX7_isEaten 15 = .ok (.if_icmp .lt 7, 3) := by decide +kernel
theorem dX7_isEaten_22 : decode cX7_isEaten 22 = .ok (.iconst 0, 1) := by decide +kernel
theorem dX7_isEaten_23 : decode cX7_isEaten 23 = .ok (.ireturn, 1) := by decide +kernel
theorem dX7_isEaten_18 : decode cX7_isEaten 18 = .ok (.iconst 1, 1) := by decide +kernel
theorem dX7_isEaten_19 : decode cX7_isEaten 19 = .ok (.goto 4, 3) := by decide +kernel
theorem dX7_hasSkin_0 : decode cX7_hasSkin 0 = .ok (.aload_n 0, 1) := by decide +kernel
theorem dX7_hasSkin_1 : decode cX7_hasSkin 1 = .ok (.getfield 50, 3) := by decide +kernel
theorem dX7_hasSkin_4 : decode cX7_hasSkin 4 = .ok (.aload_n 0, 1) := by decide +kernel
theorem dX7_hasSkin_5 : decode cX7_hasSkin 5 = .ok (.getfield 56, 3) := by decide +kernel
theorem dX7_hasSkin_8 : decode cX7_hasSkin 8 = .ok (.if_icmp .gt 7, 3) := by decide +kernel
theorem dX7_hasSkin_15 : decode cX7_hasSkin 15 = .ok (.iconst 0, 1) := by decide +kernel
theorem dX7_hasSkin_16 : decode cX7_hasSkin 16 = .ok (.ireturn, 1) := by decide +kernel
theorem dX7_hasSkin_11 : decode cX7_hasSkin 11 = .ok (.iconst 1, 1) := by decide +kernel
theorem dX7_hasSkin_12 : decode cX7_hasSkin 12 = .ok (.goto 4, 3) := by decide +kernel
theorem dX7_daysLeft_0 : decode cX7_daysLeft 0 = .ok (.sipush 400, 3) := by decide +kernel
theorem dX7_daysLeft_3 : decode cX7_daysLeft 3 = .ok (.aload_n 0, 1) := by decide +kernel
theorem dX7_daysLeft_4 : decode cX7_daysLeft 4 = .ok (.getfield 59, 3) := by decide +kernel
theorem dX7_daysLeft_7 : decode cX7_daysLeft 7 = .ok (.isub, 1) := by decide +kernel
theorem dX7_daysLeft_8 : decode cX7_daysLeft 8 = .ok (.ireturn, 1) := by decide +kernel
theorem dX7_thicknessIn_0 : decode cX7_thicknessIn 0 = .ok (.iload_n 1, 1) := by decide +kernel
theorem dX7_thicknessIn_1 : decode cX7_thicknessIn 1 = .ok (.ifCond .lt 18, 3) := by decide +kernel
theorem dX7_thicknessIn_19 : decode cX7_thicknessIn 19 = .ok (.iconst 0, 1) := by decide +kernel
theorem dX7_thicknessIn_20 : decode cX7_thicknessIn 20 = .ok (.ireturn, 1) := by decide +kernel
theorem dX7_thicknessIn_4 : decode cX7_thicknessIn 4 = .ok (.iload_n 1, 1) := by decide +kernel
theorem dX7_thicknessIn_5 : decode cX7_thicknessIn 5 = .ok (.bipush 36, 2) := by decide +kernel
theorem dX7_thicknessIn_7 : decode cX7_thicknessIn 7 = .ok (.if_icmp .ge 12, 3) := by decide +kernel
theorem dX7_thicknessIn_10 : decode cX7_thicknessIn 10 = .ok (.aload_n 0, 1) := by decide +kernel
theorem dX7_thicknessIn_11 : decode cX7_thicknessIn 11 = .ok (.getfield 9, 3) := by decide +kernel
theorem dX7_thicknessIn_14 : decode cX7_thicknessIn 14 = .ok (.iload_n 1, 1) := by decide +kernel
theorem dX7_thicknessIn_15 : decode cX7_thicknessIn 15 = .ok (.iaload, 1) := by decide +kernel
theorem dX7_thicknessIn_16 : decode cX7_thicknessIn 16 = .ok (.goto 4, 3) := by decide +kernel
theorem dX7_lumpNamed_0 : decode cX7_lumpNamed 0 = .ok (.iconst 0, 1) := by decide +kernel
theorem dX7_lumpNamed_1 : decode cX7_lumpNamed 1 = .ok (.istore_n 3, 1) := by decide +kernel
theorem dX7_lumpNamed_2 : decode cX7_lumpNamed 2 = .ok (.iload_n 3, 1) := by decide +kernel
theorem dX7_lumpNamed_3 : decode cX7_lumpNamed 3 = .ok (.aload_n 0, 1) := by decide +kernel
theorem dX7_lumpNamed_4 : decode cX7_lumpNamed 4 = .ok (.getfield 68, 3) := by decide +kernel
theorem dX7_lumpNamed_7 : decode cX7_lumpNamed 7 = .ok (.if_icmp .ge 22, 3) := by decide +kernel
theorem dX7_lumpNamed_29 : decode cX7_lumpNamed 29 = .ok (.iconst (-1), 1) := by decide +kernel
theorem dX7_lumpNamed_30 : decode cX7_lumpNamed 30 = .ok (.ireturn, 1) := by decide +kernel
theorem dX7_lumpNamed_10 : decode cX7_lumpNamed 10 = .ok (.aload_n 0, 1) := by decide +kernel
theorem dX7_lumpNamed_11 : decode cX7_lumpNamed 11 = .ok (.getfield 15, 3) := by decide +kernel
theorem dX7_lumpNamed_14 : decode cX7_lumpNamed 14 = .ok (.iload_n 3, 1) := by decide +kernel
theorem dX7_lumpNamed_15 : decode cX7_lumpNamed 15 = .ok (.laload, 1) := by decide +kernel
theorem dX7_lumpNamed_16 : decode cX7_lumpNamed 16 = .ok (.lload_n 1, 1) := by decide +kernel
theorem dX7_lumpNamed_17 : decode cX7_lumpNamed 17 = .ok (.lcmp, 1) := by decide +kernel
theorem dX7_lumpNamed_18 : decode cX7_lumpNamed 18 = .ok (.ifCond .ne 5, 3) := by decide +kernel
theorem dX7_lumpNamed_23 : decode cX7_lumpNamed 23 = .ok (.iinc 3 1, 3) := by decide +kernel
theorem dX7_lumpNamed_26 : decode cX7_lumpNamed 26 = .ok (.goto (-24), 3) := by decide +kernel
theorem dX7_lumpNamed_21 : decode cX7_lumpNamed 21 = .ok (.iload_n 3, 1) := by decide +kernel
theorem dX7_lumpNamed_22 : decode cX7_lumpNamed 22 = .ok (.ireturn, 1) := by decide +kernel
theorem dX7_boatNamed_0 : decode cX7_boatNamed 0 = .ok (.iconst 0, 1) := by decide +kernel
theorem dX7_boatNamed_1 : decode cX7_boatNamed 1 = .ok (.istore_n 3, 1) := by decide +kernel
theorem dX7_boatNamed_2 : decode cX7_boatNamed 2 = .ok (.iload_n 3, 1) := by decide +kernel
theorem dX7_boatNamed_3 : decode cX7_boatNamed 3 = .ok (.aload_n 0, 1) := by decide +kernel
theorem dX7_boatNamed_4 : decode cX7_boatNamed 4 = .ok (.getfield 71, 3) := by decide +kernel
theorem dX7_boatNamed_7 : decode cX7_boatNamed 7 = .ok (.if_icmp .ge 22, 3) := by decide +kernel
theorem dX7_boatNamed_29 : decode cX7_boatNamed 29 = .ok (.iconst (-1), 1) := by decide +kernel
theorem dX7_boatNamed_30 : decode cX7_boatNamed 30 = .ok (.ireturn, 1) := by decide +kernel
theorem dX7_boatNamed_10 : decode cX7_boatNamed 10 = .ok (.aload_n 0, 1) := by decide +kernel
theorem dX7_boatNamed_11 : decode cX7_boatNamed 11 = .ok (.getfield 22, 3) := by decide +kernel
theorem dX7_boatNamed_14 : decode cX7_boatNamed 14 = .ok (.iload_n 3, 1) := by decide +kernel
theorem dX7_boatNamed_15 : decode cX7_boatNamed 15 = .ok (.laload, 1) := by decide +kernel
theorem dX7_boatNamed_16 : decode cX7_boatNamed 16 = .ok (.lload_n 1, 1) := by decide +kernel
theorem dX7_boatNamed_17 : decode cX7_boatNamed 17 = .ok (.lcmp, 1) := by decide +kernel
theorem dX7_boatNamed_18 : decode cX7_boatNamed 18 = .ok (.ifCond .ne 5, 3) := by decide +kernel
theorem dX7_boatNamed_23 : decode cX7_boatNamed 23 = .ok (.iinc 3 1, 3) := by decide +kernel
theorem dX7_boatNamed_26 : decode cX7_boatNamed 26 = .ok (.goto (-24), 3) := by decide +kernel
theorem dX7_boatNamed_21 : decode cX7_boatNamed 21 = .ok (.iload_n 3, 1) := by decide +kernel
theorem dX7_boatNamed_22 : decode cX7_boatNamed 22 = .ok (.ireturn, 1) := by decide +kernel
theorem dX7_addLump_0 : decode cX7_addLump 0 = .ok (.aload_n 0, 1) := by decide +kernel
theorem dX7_addLump_1 : decode cX7_addLump 1 = .ok (.getfield 68, 3) := by decide +kernel
theorem dX7_addLump_4 : decode cX7_addLump 4 = .ok (.bipush 6, 2) := by decide +kernel
theorem dX7_addLump_6 : decode cX7_addLump 6 = .ok (.if_icmp .ge 33, 3) := by decide +kernel
theorem dX7_addLump_39 : decode cX7_addLump 39 = .ok (.return_, 1) := by decide +kernel
theorem dX7_addLump_9 : decode cX7_addLump 9 = .ok (.aload_n 0, 1) := by decide +kernel
theorem dX7_addLump_10 : decode cX7_addLump 10 = .ok (.getfield 15, 3) := by decide +kernel
theorem dX7_addLump_13 : decode cX7_addLump 13 = .ok (.aload_n 0, 1) := by decide +kernel
theorem dX7_addLump_14 : decode cX7_addLump 14 = .ok (.getfield 68, 3) := by decide +kernel
theorem dX7_addLump_17 : decode cX7_addLump 17 = .ok (.lload_n 1, 1) := by decide +kernel
theorem dX7_addLump_18 : decode cX7_addLump 18 = .ok (.lastore, 1) := by decide +kernel
theorem dX7_addLump_19 : decode cX7_addLump 19 = .ok (.aload_n 0, 1) := by decide +kernel
theorem dX7_addLump_20 : decode cX7_addLump 20 = .ok (.getfield 19, 3) := by decide +kernel
theorem dX7_addLump_23 : decode cX7_addLump 23 = .ok (.aload_n 0, 1) := by decide +kernel
theorem dX7_addLump_24 : decode cX7_addLump 24 = .ok (.getfield 68, 3) := by decide +kernel
theorem dX7_addLump_27 : decode cX7_addLump 27 = .ok (.iload_n 3, 1) := by decide +kernel
theorem dX7_addLump_28 : decode cX7_addLump 28 = .ok (.iastore, 1) := by decide +kernel
theorem dX7_addLump_29 : decode cX7_addLump 29 = .ok (.aload_n 0, 1) := by decide +kernel
theorem dX7_addLump_30 : decode cX7_addLump 30 = .ok (.dup, 1) := by decide +kernel
theorem dX7_addLump_31 : decode cX7_addLump 31 = .ok (.getfield 68, 3) := by decide +kernel
theorem dX7_addLump_34 : decode cX7_addLump 34 = .ok (.iconst 1, 1) := by decide +kernel
theorem dX7_addLump_35 : decode cX7_addLump 35 = .ok (.iadd, 1) := by decide +kernel
theorem dX7_addLump_36 : decode cX7_addLump 36 = .ok (.putfield 68, 3) := by decide +kernel
theorem dX7_addBoat_0 : decode cX7_addBoat 0 = .ok (.aload_n 0, 1) := by decide +kernel
theorem dX7_addBoat_1 : decode cX7_addBoat 1 = .ok (.getfield 71, 3) := by decide +kernel
theorem dX7_addBoat_4 : decode cX7_addBoat 4 = .ok (.bipush 6, 2) := by decide +kernel
theorem dX7_addBoat_6 : decode cX7_addBoat 6 = .ok (.if_icmp .ge 76, 3) := by decide +kernel
theorem dX7_addBoat_82 : decode cX7_addBoat 82 = .ok (.return_, 1) := by decide +kernel
theorem dX7_addBoat_9 : decode cX7_addBoat 9 = .ok (.aload_n 0, 1) := by decide +kernel
theorem dX7_addBoat_10 : decode cX7_addBoat 10 = .ok (.getfield 22, 3) := by decide +kernel
theorem dX7_addBoat_13 : decode cX7_addBoat 13 = .ok (.aload_n 0, 1) := by decide +kernel
theorem dX7_addBoat_14 : decode cX7_addBoat 14 = .ok (.getfield 71, 3) := by decide +kernel
theorem dX7_addBoat_17 : decode cX7_addBoat 17 = .ok (.lload_n 1, 1) := by decide +kernel
theorem dX7_addBoat_18 : decode cX7_addBoat 18 = .ok (.lastore, 1) := by decide +kernel
theorem dX7_addBoat_19 : decode cX7_addBoat 19 = .ok (.aload_n 0, 1) := by decide +kernel
theorem dX7_addBoat_20 : decode cX7_addBoat 20 = .ok (.getfield 25, 3) := by decide +kernel
theorem dX7_addBoat_23 : decode cX7_addBoat 23 = .ok (.aload_n 0, 1) := by decide +kernel
theorem dX7_addBoat_24 : decode cX7_addBoat 24 = .ok (.getfield 71, 3) := by decide +kernel
theorem dX7_addBoat_27 : decode cX7_addBoat 27 = .ok (.iload_n 3, 1) := by decide +kernel
theorem dX7_addBoat_28 : decode cX7_addBoat 28 = .ok (.iastore, 1) := by decide +kernel
theorem dX7_addBoat_29 : decode cX7_addBoat 29 = .ok (.aload_n 0, 1) := by decide +kernel
theorem dX7_addBoat_30 : decode cX7_addBoat 30 = .ok (.getfield 28, 3) := by decide +kernel
theorem dX7_addBoat_33 : decode cX7_addBoat 33 = .ok (.aload_n 0, 1) := by decide +kernel
theorem dX7_addBoat_34 : decode cX7_addBoat 34 = .ok (.getfield 71, 3) := by decide +kernel
theorem dX7_addBoat_37 : decode cX7_addBoat 37 = .ok (.iload 4, 2) := by decide +kernel
theorem dX7_addBoat_39 : decode cX7_addBoat 39 = .ok (.iastore, 1) := by decide +kernel
theorem dX7_addBoat_40 : decode cX7_addBoat 40 = .ok (.aload_n 0, 1) := by decide +kernel
theorem dX7_addBoat_41 : decode cX7_addBoat 41 = .ok (.getfield 31, 3) := by decide +kernel
theorem dX7_addBoat_44 : decode cX7_addBoat 44 = .ok (.aload_n 0, 1) := by decide +kernel
theorem dX7_addBoat_45 : decode cX7_addBoat 45 = .ok (.getfield 71, 3) := by decide +kernel
theorem dX7_addBoat_48 : decode cX7_addBoat 48 = .ok (.iload 5, 2) := by decide +kernel
theorem dX7_addBoat_50 : decode cX7_addBoat 50 = .ok (.iastore, 1) := by decide +kernel
theorem dX7_addBoat_51 : decode cX7_addBoat 51 = .ok (.aload_n 0, 1) := by decide +kernel
theorem dX7_addBoat_52 : decode cX7_addBoat 52 = .ok (.getfield 34, 3) := by decide +kernel
theorem dX7_addBoat_55 : decode cX7_addBoat 55 = .ok (.aload_n 0, 1) := by decide +kernel
theorem dX7_addBoat_56 : decode cX7_addBoat 56 = .ok (.getfield 71, 3) := by decide +kernel
theorem dX7_addBoat_59 : decode cX7_addBoat 59 = .ok (.iload 5, 2) := by decide +kernel
theorem dX7_addBoat_61 : decode cX7_addBoat 61 = .ok (.iastore, 1) := by decide +kernel
theorem dX7_addBoat_62 : decode cX7_addBoat 62 = .ok (.aload_n 0, 1) := by decide +kernel
theorem dX7_addBoat_63 : decode cX7_addBoat 63 = .ok (.getfield 37, 3) := by decide +kernel
theorem dX7_addBoat_66 : decode cX7_addBoat 66 = .ok (.aload_n 0, 1) := by decide +kernel
theorem dX7_addBoat_67 : decode cX7_addBoat 67 = .ok (.getfield 71, 3) := by decide +kernel
theorem dX7_addBoat_70 : decode cX7_addBoat 70 = .ok (.iconst 0, 1) := by decide +kernel
theorem dX7_addBoat_71 : decode cX7_addBoat 71 = .ok (.iastore, 1) := by decide +kernel
theorem dX7_addBoat_72 : decode cX7_addBoat 72 = .ok (.aload_n 0, 1) := by decide +kernel
theorem dX7_addBoat_73 : decode cX7_addBoat 73 = .ok (.dup, 1) := by decide +kernel
theorem dX7_addBoat_74 : decode cX7_addBoat 74 = .ok (.getfield 71, 3) := by decide +kernel
theorem dX7_addBoat_77 : decode cX7_addBoat 77 = .ok (.iconst 1, 1) := by decide +kernel
theorem dX7_addBoat_78 : decode cX7_addBoat 78 = .ok (.iadd, 1) := by decide +kernel
theorem dX7_addBoat_79 : decode cX7_addBoat 79 = .ok (.putfield 71, 3) := by decide +kernel
theorem dX7_hasLumpIn_0 : decode cX7_hasLumpIn 0 = .ok (.iconst 0, 1) := by decide +kernel
theorem dX7_hasLumpIn_1 : decode cX7_hasLumpIn 1 = .ok (.istore_n 2, 1) := by decide +kernel
theorem dX7_hasLumpIn_2 : decode cX7_hasLumpIn 2 = .ok (.iload_n 2, 1) := by decide +kernel
theorem dX7_hasLumpIn_3 : decode cX7_hasLumpIn 3 = .ok (.aload_n 0, 1) := by decide +kernel
theorem dX7_hasLumpIn_4 : decode cX7_hasLumpIn 4 = .ok (.getfield 68, 3) := by decide +kernel
theorem dX7_hasLumpIn_7 : decode cX7_hasLumpIn 7 = .ok (.if_icmp .ge 21, 3) := by decide +kernel
theorem dX7_hasLumpIn_28 : decode cX7_hasLumpIn 28 = .ok (.iconst 0, 1) := by decide +kernel
theorem dX7_hasLumpIn_29 : decode cX7_hasLumpIn 29 = .ok (.ireturn, 1) := by decide +kernel
theorem dX7_hasLumpIn_10 : decode cX7_hasLumpIn 10 = .ok (.aload_n 0, 1) := by decide +kernel
theorem dX7_hasLumpIn_11 : decode cX7_hasLumpIn 11 = .ok (.getfield 19, 3) := by decide +kernel
theorem dX7_hasLumpIn_14 : decode cX7_hasLumpIn 14 = .ok (.iload_n 2, 1) := by decide +kernel
theorem dX7_hasLumpIn_15 : decode cX7_hasLumpIn 15 = .ok (.iaload, 1) := by decide +kernel
theorem dX7_hasLumpIn_16 : decode cX7_hasLumpIn 16 = .ok (.iload_n 1, 1) := by decide +kernel
theorem dX7_hasLumpIn_17 : decode cX7_hasLumpIn 17 = .ok (.if_icmp .ne 5, 3) := by decide +kernel
theorem dX7_hasLumpIn_22 : decode cX7_hasLumpIn 22 = .ok (.iinc 2 1, 3) := by decide +kernel
theorem dX7_hasLumpIn_25 : decode cX7_hasLumpIn 25 = .ok (.goto (-23), 3) := by decide +kernel
theorem dX7_hasLumpIn_20 : decode cX7_hasLumpIn 20 = .ok (.iconst 1, 1) := by decide +kernel
theorem dX7_hasLumpIn_21 : decode cX7_hasLumpIn 21 = .ok (.ireturn, 1) := by decide +kernel
theorem dX7_wouldFloat_0 : decode cX7_wouldFloat 0 = .ok (.aload_n 0, 1) := by decide +kernel
theorem dX7_wouldFloat_1 : decode cX7_wouldFloat 1 = .ok (.iload_n 1, 1) := by decide +kernel
theorem dX7_wouldFloat_2 : decode cX7_wouldFloat 2 = .ok (.invokevirtual 80, 3) := by decide +kernel
theorem dX7_wouldFloat_5 : decode cX7_wouldFloat 5 = .ok (.ifCond .eq 36, 3) := by decide +kernel
theorem dX7_wouldFloat_8 : decode cX7_wouldFloat 8 = .ok (.aload_n 0, 1) := by decide +kernel
theorem dX7_wouldFloat_9 : decode cX7_wouldFloat 9 = .ok (.invokevirtual 84, 3) := by decide +kernel
theorem dX7_wouldFloat_12 : decode cX7_wouldFloat 12 = .ok (.ifCond .ne 25, 3) := by decide +kernel
theorem dX7_wouldFloat_37 : decode cX7_wouldFloat 37 = .ok (.iconst 1, 1) := by decide +kernel
theorem dX7_wouldFloat_38 : decode cX7_wouldFloat 38 = .ok (.goto 4, 3) := by decide +kernel
theorem dX7_wouldFloat_42 : decode cX7_wouldFloat 42 = .ok (.ireturn, 1) := by decide +kernel
theorem dX7_wouldFloat_15 : decode cX7_wouldFloat 15 = .ok (.aload_n 0, 1) := by decide +kernel
theorem dX7_wouldFloat_16 : decode cX7_wouldFloat 16 = .ok (.iload_n 2, 1) := by decide +kernel
theorem dX7_wouldFloat_17 : decode cX7_wouldFloat 17 = .ok (.invokevirtual 88, 3) := by decide +kernel
theorem dX7_wouldFloat_20 : decode cX7_wouldFloat 20 = .ok (.ifCond .ne 17, 3) := by decide +kernel
theorem dX7_wouldFloat_23 : decode cX7_wouldFloat 23 = .ok (.aload_n 0, 1) := by decide +kernel
theorem dX7_wouldFloat_24 : decode cX7_wouldFloat 24 = .ok (.iload_n 2, 1) := by decide +kernel
theorem dX7_wouldFloat_25 : decode cX7_wouldFloat 25 = .ok (.invokevirtual 91, 3) := by decide +kernel
theorem dX7_wouldFloat_28 : decode cX7_wouldFloat 28 = .ok (.aload_n 0, 1) := by decide +kernel
theorem dX7_wouldFloat_29 : decode cX7_wouldFloat 29 = .ok (.getfield 28, 3) := by decide +kernel
theorem dX7_wouldFloat_32 : decode cX7_wouldFloat 32 = .ok (.iload_n 1, 1) := by decide +kernel
theorem dX7_wouldFloat_33 : decode cX7_wouldFloat 33 = .ok (.iaload, 1) := by decide +kernel
theorem dX7_wouldFloat_34 : decode cX7_wouldFloat 34 = .ok (.if_icmp .lt 7, 3) := by decide +kernel
theorem dX7_wouldFloat_41 : decode cX7_wouldFloat 41 = .ok (.iconst 0, 1) := by decide +kernel
theorem dX7_isAfloat_0 : decode cX7_isAfloat 0 = .ok (.aload_n 0, 1) := by decide +kernel
theorem dX7_isAfloat_1 : decode cX7_isAfloat 1 = .ok (.iload_n 1, 1) := by decide +kernel
theorem dX7_isAfloat_2 : decode cX7_isAfloat 2 = .ok (.invokevirtual 80, 3) := by decide +kernel
theorem dX7_isAfloat_5 : decode cX7_isAfloat 5 = .ok (.ifCond .eq 29, 3) := by decide +kernel
theorem dX7_isAfloat_8 : decode cX7_isAfloat 8 = .ok (.aload_n 0, 1) := by decide +kernel
theorem dX7_isAfloat_9 : decode cX7_isAfloat 9 = .ok (.iload_n 1, 1) := by decide +kernel
theorem dX7_isAfloat_10 : decode cX7_isAfloat 10 = .ok (.invokevirtual 95, 3) := by decide +kernel
theorem dX7_isAfloat_13 : decode cX7_isAfloat 13 = .ok (.ifCond .ne 21, 3) := by decide +kernel
theorem dX7_isAfloat_34 : decode cX7_isAfloat 34 = .ok (.iconst 0, 1) := by decide +kernel
theorem dX7_isAfloat_35 : decode cX7_isAfloat 35 = .ok (.ireturn, 1) := by decide +kernel
theorem dX7_isAfloat_16 : decode cX7_isAfloat 16 = .ok (.aload_n 0, 1) := by decide +kernel
theorem dX7_isAfloat_17 : decode cX7_isAfloat 17 = .ok (.iload_n 1, 1) := by decide +kernel
theorem dX7_isAfloat_18 : decode cX7_isAfloat 18 = .ok (.aload_n 0, 1) := by decide +kernel
theorem dX7_isAfloat_19 : decode cX7_isAfloat 19 = .ok (.getfield 25, 3) := by decide +kernel
theorem dX7_isAfloat_22 : decode cX7_isAfloat 22 = .ok (.iload_n 1, 1) := by decide +kernel
theorem dX7_isAfloat_23 : decode cX7_isAfloat 23 = .ok (.iaload, 1) := by decide +kernel
theorem dX7_isAfloat_24 : decode cX7_isAfloat 24 = .ok (.invokevirtual 98, 3) := by decide +kernel
theorem dX7_isAfloat_27 : decode cX7_isAfloat 27 = .ok (.ifCond .eq 7, 3) := by decide +kernel
theorem dX7_isAfloat_30 : decode cX7_isAfloat 30 = .ok (.iconst 1, 1) := by decide +kernel
theorem dX7_isAfloat_31 : decode cX7_isAfloat 31 = .ok (.goto 4, 3) := by decide +kernel
theorem dX7_stepCost_0 : decode cX7_stepCost 0 = .ok (.aload_n 0, 1) := by decide +kernel
theorem dX7_stepCost_1 : decode cX7_stepCost 1 = .ok (.invokevirtual 84, 3) := by decide +kernel
theorem dX7_stepCost_4 : decode cX7_stepCost 4 = .ok (.ifCond .eq 7, 3) := by decide +kernel
theorem dX7_stepCost_11 : decode cX7_stepCost 11 = .ok (.iconst 1, 1) := by decide +kernel
theorem dX7_stepCost_12 : decode cX7_stepCost 12 = .ok (.aload_n 0, 1) := by decide +kernel
theorem dX7_stepCost_13 : decode cX7_stepCost 13 = .ok (.iload_n 1, 1) := by decide +kernel
theorem dX7_stepCost_14 : decode cX7_stepCost 14 = .ok (.invokevirtual 91, 3) := by decide +kernel
theorem dX7_stepCost_17 : decode cX7_stepCost 17 = .ok (.iconst 3, 1) := by decide +kernel
theorem dX7_stepCost_18 : decode cX7_stepCost 18 = .ok (.idiv, 1) := by decide +kernel
theorem dX7_stepCost_19 : decode cX7_stepCost 19 = .ok (.iadd, 1) := by decide +kernel
theorem dX7_stepCost_20 : decode cX7_stepCost 20 = .ok (.ireturn, 1) := by decide +kernel
theorem dX7_stepCost_7 : decode cX7_stepCost 7 = .ok (.iconst 1, 1) := by decide +kernel
theorem dX7_stepCost_8 : decode cX7_stepCost 8 = .ok (.goto 12, 3) := by decide +kernel
theorem dX7_nextCell_0 : decode cX7_nextCell 0 = .ok (.iload_n 1, 1) := by decide +kernel
theorem dX7_nextCell_1 : decode cX7_nextCell 1 = .ok (.bipush 6, 2) := by decide +kernel
theorem dX7_nextCell_3 : decode cX7_nextCell 3 = .ok (.irem, 1) := by decide +kernel
theorem dX7_nextCell_4 : decode cX7_nextCell 4 = .ok (.iload_n 2, 1) := by decide +kernel
theorem dX7_nextCell_5 : decode cX7_nextCell 5 = .ok (.ifCond .ne 7, 3) := by decide +kernel
theorem dX7_nextCell_12 : decode cX7_nextCell 12 = .ok (.iload_n 2, 1) := by decide +kernel
theorem dX7_nextCell_13 : decode cX7_nextCell 13 = .ok (.iconst 2, 1) := by decide +kernel
theorem dX7_nextCell_14 : decode cX7_nextCell 14 = .ok (.if_icmp .ne 7, 3) := by decide +kernel
theorem dX7_nextCell_21 : decode cX7_nextCell 21 = .ok (.iconst 0, 1) := by decide +kernel
theorem dX7_nextCell_17 : decode cX7_nextCell 17 = .ok (.iconst (-1), 1) := by decide +kernel
theorem dX7_nextCell_18 : decode cX7_nextCell 18 = .ok (.goto 4, 3) := by decide +kernel
theorem dX7_nextCell_8 : decode cX7_nextCell 8 = .ok (.iconst 1, 1) := by decide +kernel
theorem dX7_nextCell_9 : decode cX7_nextCell 9 = .ok (.goto 13, 3) := by decide +kernel
theorem dX7_nextCell_22 : decode cX7_nextCell 22 = .ok (.iadd, 1) := by decide +kernel
theorem dX7_nextCell_23 : decode cX7_nextCell 23 = .ok (.istore_n 3, 1) := by decide +kernel
theorem dX7_nextCell_24 : decode cX7_nextCell 24 = .ok (.iload_n 1, 1) := by decide +kernel
theorem dX7_nextCell_25 : decode cX7_nextCell 25 = .ok (.bipush 6, 2) := by decide +kernel
theorem dX7_nextCell_27 : decode cX7_nextCell 27 = .ok (.idiv, 1) := by decide +kernel
theorem dX7_nextCell_28 : decode cX7_nextCell 28 = .ok (.iload_n 2, 1) := by decide +kernel
theorem dX7_nextCell_29 : decode cX7_nextCell 29 = .ok (.iconst 1, 1) := by decide +kernel
theorem dX7_nextCell_30 : decode cX7_nextCell 30 = .ok (.if_icmp .ne 7, 3) := by decide +kernel
theorem dX7_nextCell_37 : decode cX7_nextCell 37 = .ok (.iload_n 2, 1) := by decide +kernel
theorem dX7_nextCell_38 : decode cX7_nextCell 38 = .ok (.iconst 3, 1) := by decide +kernel
theorem dX7_nextCell_39 : decode cX7_nextCell 39 = .ok (.if_icmp .ne 7, 3) := by decide +kernel
theorem dX7_nextCell_46 : decode cX7_nextCell 46 = .ok (.iconst 0, 1) := by decide +kernel
theorem dX7_nextCell_42 : decode cX7_nextCell 42 = .ok (.iconst (-1), 1) := by decide +kernel
theorem dX7_nextCell_43 : decode cX7_nextCell 43 = .ok (.goto 4, 3) := by decide +kernel
theorem dX7_nextCell_33 : decode cX7_nextCell 33 = .ok (.iconst 1, 1) := by decide +kernel
theorem dX7_nextCell_34 : decode cX7_nextCell 34 = .ok (.goto 13, 3) := by decide +kernel
theorem dX7_nextCell_47 : decode cX7_nextCell 47 = .ok (.iadd, 1) := by decide +kernel
theorem dX7_nextCell_48 : decode cX7_nextCell 48 = .ok (.istore 4, 2) := by decide +kernel
theorem dX7_nextCell_50 : decode cX7_nextCell 50 = .ok (.aload_n 0, 1) := by decide +kernel
theorem dX7_nextCell_51 : decode cX7_nextCell 51 = .ok (.iload_n 3, 1) := by decide +kernel
theorem dX7_nextCell_52 : decode cX7_nextCell 52 = .ok (.iload 4, 2) := by decide +kernel
theorem dX7_nextCell_54 : decode cX7_nextCell 54 = .ok (.invokevirtual 102, 3) := by decide +kernel
theorem dX7_nextCell_57 : decode cX7_nextCell 57 = .ok (.ifCond .eq 13, 3) := by decide +kernel
theorem dX7_nextCell_60 : decode cX7_nextCell 60 = .ok (.bipush 6, 2) := by decide +kernel
theorem dX7_nextCell_62 : decode cX7_nextCell 62 = .ok (.iload 4, 2) := by decide +kernel
theorem dX7_nextCell_64 : decode cX7_nextCell 64 = .ok (.imul, 1) := by decide +kernel
theorem dX7_nextCell_65 : decode cX7_nextCell 65 = .ok (.iload_n 3, 1) := by decide +kernel
theorem dX7_nextCell_66 : decode cX7_nextCell 66 = .ok (.iadd, 1) := by decide +kernel
theorem dX7_nextCell_67 : decode cX7_nextCell 67 = .ok (.goto 4, 3) := by decide +kernel
theorem dX7_nextCell_71 : decode cX7_nextCell 71 = .ok (.ireturn, 1) := by decide +kernel
theorem dX7_nextCell_70 : decode cX7_nextCell 70 = .ok (.iconst (-1), 1) := by decide +kernel
theorem dX7_areNear_0 : decode cX7_areNear 0 = .ok (.iload_n 0, 1) := by decide +kernel
theorem dX7_areNear_1 : decode cX7_areNear 1 = .ok (.bipush 6, 2) := by decide +kernel
theorem dX7_areNear_3 : decode cX7_areNear 3 = .ok (.irem, 1) := by decide +kernel
theorem dX7_areNear_4 : decode cX7_areNear 4 = .ok (.iload_n 1, 1) := by decide +kernel
theorem dX7_areNear_5 : decode cX7_areNear 5 = .ok (.bipush 6, 2) := by decide +kernel
theorem dX7_areNear_7 : decode cX7_areNear 7 = .ok (.irem, 1) := by decide +kernel
theorem dX7_areNear_8 : decode cX7_areNear 8 = .ok (.isub, 1) := by decide +kernel
theorem dX7_areNear_9 : decode cX7_areNear 9 = .ok (.invokestatic 105, 3) := by decide +kernel
theorem dX7_areNear_12 : decode cX7_areNear 12 = .ok (.istore_n 2, 1) := by decide +kernel
theorem dX7_areNear_13 : decode cX7_areNear 13 = .ok (.iload_n 0, 1) := by decide +kernel
theorem dX7_areNear_14 : decode cX7_areNear 14 = .ok (.bipush 6, 2) := by decide +kernel
theorem dX7_areNear_16 : decode cX7_areNear 16 = .ok (.idiv, 1) := by decide +kernel
theorem dX7_areNear_17 : decode cX7_areNear 17 = .ok (.iload_n 1, 1) := by decide +kernel
theorem dX7_areNear_18 : decode cX7_areNear 18 = .ok (.bipush 6, 2) := by decide +kernel
theorem dX7_areNear_20 : decode cX7_areNear 20 = .ok (.idiv, 1) := by decide +kernel
theorem dX7_areNear_21 : decode cX7_areNear 21 = .ok (.isub, 1) := by decide +kernel
theorem dX7_areNear_22 : decode cX7_areNear 22 = .ok (.invokestatic 105, 3) := by decide +kernel
theorem dX7_areNear_25 : decode cX7_areNear 25 = .ok (.istore_n 3, 1) := by decide +kernel
theorem dX7_areNear_26 : decode cX7_areNear 26 = .ok (.iload_n 2, 1) := by decide +kernel
theorem dX7_areNear_27 : decode cX7_areNear 27 = .ok (.iload_n 3, 1) := by decide +kernel
theorem dX7_areNear_28 : decode cX7_areNear 28 = .ok (.iadd, 1) := by decide +kernel
theorem dX7_areNear_29 : decode cX7_areNear 29 = .ok (.iconst 1, 1) := by decide +kernel
theorem dX7_areNear_30 : decode cX7_areNear 30 = .ok (.if_icmp .gt 7, 3) := by decide +kernel
theorem dX7_areNear_37 : decode cX7_areNear 37 = .ok (.iconst 0, 1) := by decide +kernel
theorem dX7_areNear_38 : decode cX7_areNear 38 = .ok (.ireturn, 1) := by decide +kernel
theorem dX7_areNear_33 : decode cX7_areNear 33 = .ok (.iconst 1, 1) := by decide +kernel
theorem dX7_areNear_34 : decode cX7_areNear 34 = .ok (.goto 4, 3) := by decide +kernel
theorem dX7_overRim_0 : decode cX7_overRim 0 = .ok (.iload_n 0, 1) := by decide +kernel
theorem dX7_overRim_1 : decode cX7_overRim 1 = .ok (.ifCond .ge 7, 3) := by decide +kernel
theorem dX7_overRim_8 : decode cX7_overRim 8 = .ok (.iload_n 0, 1) := by decide +kernel
theorem dX7_overRim_9 : decode cX7_overRim 9 = .ok (.iload_n 1, 1) := by decide +kernel
theorem dX7_overRim_10 : decode cX7_overRim 10 = .ok (.if_icmp .lt 7, 3) := by decide +kernel
theorem dX7_overRim_17 : decode cX7_overRim 17 = .ok (.iload_n 0, 1) := by decide +kernel
theorem dX7_overRim_18 : decode cX7_overRim 18 = .ok (.ireturn, 1) := by decide +kernel
theorem dX7_overRim_13 : decode cX7_overRim 13 = .ok (.iconst 0, 1) := by decide +kernel
theorem dX7_overRim_14 : decode cX7_overRim 14 = .ok (.goto 4, 3) := by decide +kernel
theorem dX7_overRim_4 : decode cX7_overRim 4 = .ok (.iload_n 1, 1) := by decide +kernel
theorem dX7_overRim_5 : decode cX7_overRim 5 = .ok (.iconst 1, 1) := by decide +kernel
theorem dX7_overRim_6 : decode cX7_overRim 6 = .ok (.isub, 1) := by decide +kernel
theorem dX7_overRim_7 : decode cX7_overRim 7 = .ok (.ireturn, 1) := by decide +kernel
theorem dX7_stirredTo_0 : decode cX7_stirredTo 0 = .ok (.iload_n 1, 1) := by decide +kernel
theorem dX7_stirredTo_1 : decode cX7_stirredTo 1 = .ok (.bipush 6, 2) := by decide +kernel
theorem dX7_stirredTo_3 : decode cX7_stirredTo 3 = .ok (.irem, 1) := by decide +kernel
theorem dX7_stirredTo_4 : decode cX7_stirredTo 4 = .ok (.istore 5, 2) := by decide +kernel
theorem dX7_stirredTo_6 : decode cX7_stirredTo 6 = .ok (.iload_n 1, 1) := by decide +kernel
theorem dX7_stirredTo_7 : decode cX7_stirredTo 7 = .ok (.bipush 6, 2) := by decide +kernel
theorem dX7_stirredTo_9 : decode cX7_stirredTo 9 = .ok (.idiv, 1) := by decide +kernel
theorem dX7_stirredTo_10 : decode cX7_stirredTo 10 = .ok (.istore 6, 2) := by decide +kernel
theorem dX7_stirredTo_12 : decode cX7_stirredTo 12 = .ok (.iload 4, 2) := by decide +kernel
theorem dX7_stirredTo_14 : decode cX7_stirredTo 14 = .ok (.iconst 1, 1) := by decide +kernel
theorem dX7_stirredTo_15 : decode cX7_stirredTo 15 = .ok (.if_icmp .ne 7, 3) := by decide +kernel
theorem dX7_stirredTo_22 : decode cX7_stirredTo 22 = .ok (.iconst 1, 1) := by decide +kernel
theorem dX7_stirredTo_18 : decode cX7_stirredTo 18 = .ok (.iconst (-1), 1) := by decide +kernel
theorem dX7_stirredTo_19 : decode cX7_stirredTo 19 = .ok (.goto 4, 3) := by decide +kernel
theorem dX7_stirredTo_23 : decode cX7_stirredTo 23 = .ok (.istore 7, 2) := by decide +kernel
theorem dX7_stirredTo_25 : decode cX7_stirredTo 25 = .ok (.iload_n 2, 1) := by decide +kernel
theorem dX7_stirredTo_26 : decode cX7_stirredTo 26 = .ok (.iconst 1, 1) := by decide +kernel
theorem dX7_stirredTo_27 : decode cX7_stirredTo 27 = .ok (.if_icmp .ne 32, 3) := by decide +kernel
theorem dX7_stirredTo_59 : decode cX7_stirredTo 59 = .ok (.iload 6, 2) := by decide +kernel
theorem dX7_stirredTo_61 : decode cX7_stirredTo 61 = .ok (.iload_n 3, 1) := by decide +kernel
theorem dX7_stirredTo_62 : decode cX7_stirredTo 62 = .ok (.if_icmp .ne 24, 3) := by decide +kernel
theorem dX7_stirredTo_86 : decode cX7_stirredTo 86 = .ok (.iload_n 1, 1) := by decide +kernel
theorem dX7_stirredTo_87 : decode cX7_stirredTo 87 = .ok (.ireturn, 1) := by decide +kernel
theorem dX7_stirredTo_65 : decode cX7_stirredTo 65 = .ok (.bipush 6, 2) := by decide +kernel
theorem dX7_stirredTo_67 : decode cX7_stirredTo 67 = .ok (.iload 6, 2) := by decide +kernel
theorem dX7_stirredTo_69 : decode cX7_stirredTo 69 = .ok (.imul, 1) := by decide +kernel
theorem dX7_stirredTo_70 : decode cX7_stirredTo 70 = .ok (.iload 5, 2) := by decide +kernel
theorem dX7_stirredTo_72 : decode cX7_stirredTo 72 = .ok (.iload 7, 2) := by decide +kernel
theorem dX7_stirredTo_74 : decode cX7_stirredTo 74 = .ok (.iadd, 1) := by decide +kernel
theorem dX7_stirredTo_75 : decode cX7_stirredTo 75 = .ok (.aload_n 0, 1) := by decide +kernel
theorem dX7_stirredTo_76 : decode cX7_stirredTo 76 = .ok (.getfield 43, 3) := by decide +kernel
theorem dX7_stirredTo_79 : decode cX7_stirredTo 79 = .ok (.invokestatic 110, 3) := by decide +kernel
theorem dX7_stirredTo_82 : decode cX7_stirredTo 82 = .ok (.iadd, 1) := by decide +kernel
theorem dX7_stirredTo_83 : decode cX7_stirredTo 83 = .ok (.goto 4, 3) := by decide +kernel
theorem dX7_stirredTo_30 : decode cX7_stirredTo 30 = .ok (.iload 5, 2) := by decide +kernel
theorem dX7_stirredTo_32 : decode cX7_stirredTo 32 = .ok (.iload_n 3, 1) := by decide +kernel
theorem dX7_stirredTo_33 : decode cX7_stirredTo 33 = .ok (.if_icmp .ne 24, 3) := by decide +kernel
theorem dX7_stirredTo_57 : decode cX7_stirredTo 57 = .ok (.iload_n 1, 1) := by decide +kernel
theorem dX7_stirredTo_58 : decode cX7_stirredTo 58 = .ok (.ireturn, 1) := by decide +kernel
theorem dX7_stirredTo_36 : decode cX7_stirredTo 36 = .ok (.bipush 6, 2) := by decide +kernel
theorem dX7_stirredTo_38 : decode cX7_stirredTo 38 = .ok (.iload 6, 2) := by decide +kernel
theorem dX7_stirredTo_40 : decode cX7_stirredTo 40 = .ok (.iload 7, 2) := by decide +kernel
theorem dX7_stirredTo_42 : decode cX7_stirredTo 42 = .ok (.iadd, 1) := by decide +kernel
theorem dX7_stirredTo_43 : decode cX7_stirredTo 43 = .ok (.aload_n 0, 1) := by decide +kernel
theorem dX7_stirredTo_44 : decode cX7_stirredTo 44 = .ok (.getfield 47, 3) := by decide +kernel
theorem dX7_stirredTo_47 : decode cX7_stirredTo 47 = .ok (.invokestatic 110, 3) := by decide +kernel
theorem dX7_stirredTo_50 : decode cX7_stirredTo 50 = .ok (.imul, 1) := by decide +kernel
theorem dX7_stirredTo_51 : decode cX7_stirredTo 51 = .ok (.iload 5, 2) := by decide +kernel
theorem dX7_stirredTo_53 : decode cX7_stirredTo 53 = .ok (.iadd, 1) := by decide +kernel
theorem dX7_stirredTo_54 : decode cX7_stirredTo 54 = .ok (.goto 4, 3) := by decide +kernel
theorem dX7_whyNotStirred_0 : decode cX7_whyNotStirred 0 = .ok (.iload_n 1, 1) := by decide +kernel
theorem dX7_whyNotStirred_1 : decode cX7_whyNotStirred 1 = .ok (.ifCond .lt 26, 3) := by decide +kernel
theorem dX7_whyNotStirred_27 : decode cX7_whyNotStirred 27 = .ok (.iconst (-1), 1) := by decide +kernel
theorem dX7_whyNotStirred_28 : decode cX7_whyNotStirred 28 = .ok (.ireturn, 1) := by decide +kernel
theorem dX7_whyNotStirred_4 : decode cX7_whyNotStirred 4 = .ok (.iload_n 1, 1) := by decide +kernel
theorem dX7_whyNotStirred_5 : decode cX7_whyNotStirred 5 = .ok (.iconst 1, 1) := by decide +kernel
theorem dX7_whyNotStirred_6 : decode cX7_whyNotStirred 6 = .ok (.if_icmp .gt 21, 3) := by decide +kernel
theorem dX7_whyNotStirred_9 : decode cX7_whyNotStirred 9 = .ok (.iload_n 3, 1) := by decide +kernel
theorem dX7_whyNotStirred_10 : decode cX7_whyNotStirred 10 = .ok (.ifCond .lt 17, 3) := by decide +kernel
theorem dX7_whyNotStirred_13 : decode cX7_whyNotStirred 13 = .ok (.iload_n 3, 1) := by decide +kernel
theorem dX7_whyNotStirred_14 : decode cX7_whyNotStirred 14 = .ok (.iconst 1, 1) := by decide +kernel
theorem dX7_whyNotStirred_15 : decode cX7_whyNotStirred 15 = .ok (.if_icmp .gt 12, 3) := by decide +kernel
theorem dX7_whyNotStirred_18 : decode cX7_whyNotStirred 18 = .ok (.aload_n 0, 1) := by decide +kernel
theorem dX7_whyNotStirred_19 : decode cX7_whyNotStirred 19 = .ok (.iload_n 1, 1) := by decide +kernel
theorem dX7_whyNotStirred_20 : decode cX7_whyNotStirred 20 = .ok (.iload_n 2, 1) := by decide +kernel
theorem dX7_whyNotStirred_21 : decode cX7_whyNotStirred 21 = .ok (.invokevirtual 114, 3) := by decide +kernel
theorem dX7_whyNotStirred_24 : decode cX7_whyNotStirred 24 = .ok (.ifCond .ne 5, 3) := by decide +kernel
theorem dX7_whyNotStirred_29 : decode cX7_whyNotStirred 29 = .ok (.aload_n 0, 1) := by decide +kernel
theorem dX7_whyNotStirred_30 : decode cX7_whyNotStirred 30 = .ok (.invokevirtual 84, 3) := by decide +kernel
theorem dX7_whyNotStirred_33 : decode cX7_whyNotStirred 33 = .ok (.ifCond .eq 7, 3) := by decide +kernel
theorem dX7_whyNotStirred_40 : decode cX7_whyNotStirred 40 = .ok (.iconst 0, 1) := by decide +kernel
theorem dX7_whyNotStirred_41 : decode cX7_whyNotStirred 41 = .ok (.ireturn, 1) := by decide +kernel
theorem dX7_whyNotStirred_36 : decode cX7_whyNotStirred 36 = .ok (.iconst 1, 1) := by decide +kernel
theorem dX7_whyNotStirred_37 : decode cX7_whyNotStirred 37 = .ok (.goto 4, 3) := by decide +kernel
set_option maxRecDepth 100000 in
theorem ggX7_isEaten_X7_isBoat : GoodIn wsX7_isEaten wsX7_isBoat := goodIn_r _ [6, 7, 8, 9, 10, 11, 12, 13, 14, 15, 16, 17, 18, 19, 20, 21, 22, 23, 24, 25, 26] rfl (by decide +kernel)
set_option maxRecDepth 100000 in
theorem ggX7_wouldFloat_X7_isBoat : GoodIn wsX7_wouldFloat wsX7_isBoat := goodIn_r _ [6, 7, 25, 26, 27, 28, 29, 30, 31, 32, 33, 34, 35, 36, 37, 38, 39, 40, 41, 42, 43] rfl (by decide +kernel)
set_option maxRecDepth 100000 in
theorem ggX7_wouldFloat_X7_hasSkin : GoodIn wsX7_wouldFloat wsX7_hasSkin := goodIn_r _ [11, 12, 13, 25, 26, 27, 28, 29, 30, 31, 32, 33, 34, 35, 36, 37, 38, 39, 40, 41, 42, 43] rfl (by decide +kernel)
set_option maxRecDepth 100000 in
theorem ggX7_wouldFloat_X7_hasLumpIn : GoodIn wsX7_wouldFloat wsX7_hasLumpIn := goodIn_r _ [17, 18, 19, 25, 26, 27, 28, 29, 30, 31, 32, 33, 34, 35, 36, 37, 38, 39, 40, 41, 42, 43] rfl (by decide +kernel)
set_option maxRecDepth 100000 in
theorem ggX7_wouldFloat_X7_thicknessIn : GoodIn wsX7_wouldFloat wsX7_thicknessIn := goodIn_r _ [23, 24, 25, 26, 27, 28, 29, 30, 31, 32, 33, 34, 35, 36, 37, 38, 39, 40, 41, 42, 43] rfl (by decide +kernel)
set_option maxRecDepth 100000 in
theorem ggX7_isAfloat_X7_isBoat : GoodIn wsX7_isAfloat wsX7_isBoat := goodIn_r _ [6, 7, 35, 36, 37, 38, 39, 40, 41, 42, 43, 44, 45, 46, 47, 48, 49, 50, 51, 52, 53] rfl (by decide +kernel)
set_option maxRecDepth 100000 in
theorem ggX7_isAfloat_X7_isEaten : GoodIn wsX7_isAfloat wsX7_isEaten := goodIn_r _ [11, 12, 2, 3, 4, 5, 6, 7, 35, 36, 37, 38, 39, 40, 41, 42, 43, 44, 45, 46, 47, 48, 49, 50, 51, 52, 53] rfl (by decide +kernel)
set_option maxRecDepth 100000 in
theorem ggX7_isAfloat_X7_wouldFloat : GoodIn wsX7_isAfloat wsX7_wouldFloat := goodIn_r _ [16, 17, 2, 3, 4, 5, 6, 7, 18, 19, 20, 21, 22, 23, 24, 25, 26, 27, 28, 29, 30, 31, 32, 33, 34, 35, 36, 37, 38, 39, 40, 41, 42, 43, 44, 45, 46, 47, 48, 49, 50, 51, 52, 53] rfl (by decide +kernel)
set_option maxRecDepth 100000 in
theorem ggX7_stepCost_X7_hasSkin : GoodIn wsX7_stepCost wsX7_hasSkin := goodIn_r _ [5, 6, 7, 13, 14, 15, 16, 17, 18, 19, 20, 21, 22, 23, 24, 25, 26, 27, 28, 29, 30, 31] rfl (by decide +kernel)
set_option maxRecDepth 100000 in
theorem ggX7_stepCost_X7_thicknessIn : GoodIn wsX7_stepCost wsX7_thicknessIn := goodIn_r _ [11, 12, 13, 14, 15, 16, 17, 18, 19, 20, 21, 22, 23, 24, 25, 26, 27, 28, 29, 30, 31] rfl (by decide +kernel)
set_option maxRecDepth 100000 in
theorem ggX7_nextCell_X7_isCell : GoodIn wsX7_nextCell wsX7_isCell := goodIn_r _ [5, 6, 7, 8, 9, 10, 11, 12, 13, 14, 15, 16, 17, 18, 19, 20, 21, 22, 23, 24, 25, 26] rfl (by decide +kernel)
set_option maxRecDepth 100000 in
theorem ggX7_stirredTo_X7_overRim : GoodIn wsX7_stirredTo wsX7_overRim := goodIn_r _ [6] rfl (by decide +kernel)
set_option maxRecDepth 100000 in
theorem ggX7_whyNotStirred_X7_isLine : GoodIn wsX7_whyNotStirred wsX7_isLine := goodIn_r _ [5, 6, 7, 14, 15, 16, 17, 18, 19, 20, 21, 22, 23, 24, 25, 26, 27, 28, 29, 30, 31, 32] rfl (by decide +kernel)
set_option maxRecDepth 100000 in
theorem ggX7_whyNotStirred_X7_hasSkin : GoodIn wsX7_whyNotStirred wsX7_hasSkin := goodIn_r _ [11, 12, 13, 14, 15, 16, 17, 18, 19, 20, 21, 22, 23, 24, 25, 26, 27, 28, 29, 30, 31, 32] rfl (by decide +kernel)
set_option maxRecDepth 100000 in
theorem gX7_isEaten_X7_isBoat : GoodIn wsX7_isEaten (wsV RX7 80 RX7 yX7_isBoat wsX7_isBoat) := goodIn_app (goodIn_of _ (by decide +kernel)) ggX7_isEaten_X7_isBoat
set_option maxRecDepth 100000 in
theorem gX7_wouldFloat_X7_isBoat : GoodIn wsX7_wouldFloat (wsV RX7 80 RX7 yX7_isBoat wsX7_isBoat) := goodIn_app (goodIn_of _ (by decide +kernel)) ggX7_wouldFloat_X7_isBoat
set_option maxRecDepth 100000 in
theorem gX7_wouldFloat_X7_hasSkin : GoodIn wsX7_wouldFloat (wsV RX7 84 RX7 yX7_hasSkin wsX7_hasSkin) := goodIn_app (goodIn_of _ (by decide +kernel)) ggX7_wouldFloat_X7_hasSkin
set_option maxRecDepth 100000 in
theorem gX7_wouldFloat_X7_hasLumpIn : GoodIn wsX7_wouldFloat (wsV RX7 88 RX7 yX7_hasLumpIn wsX7_hasLumpIn) := goodIn_app (goodIn_of _ (by decide +kernel)) ggX7_wouldFloat_X7_hasLumpIn
set_option maxRecDepth 100000 in
theorem gX7_wouldFloat_X7_thicknessIn : GoodIn wsX7_wouldFloat (wsV RX7 91 RX7 yX7_thicknessIn wsX7_thicknessIn) := goodIn_app (goodIn_of _ (by decide +kernel)) ggX7_wouldFloat_X7_thicknessIn
set_option maxRecDepth 100000 in
theorem gX7_isAfloat_X7_isBoat : GoodIn wsX7_isAfloat (wsV RX7 80 RX7 yX7_isBoat wsX7_isBoat) := goodIn_app (goodIn_of _ (by decide +kernel)) ggX7_isAfloat_X7_isBoat
set_option maxRecDepth 100000 in
theorem gX7_isAfloat_X7_isEaten : GoodIn wsX7_isAfloat (wsV RX7 95 RX7 yX7_isEaten wsX7_isEaten) := goodIn_app (goodIn_of _ (by decide +kernel)) ggX7_isAfloat_X7_isEaten
set_option maxRecDepth 100000 in
theorem gX7_isAfloat_X7_wouldFloat : GoodIn wsX7_isAfloat (wsV RX7 98 RX7 yX7_wouldFloat wsX7_wouldFloat) := goodIn_app (goodIn_of _ (by decide +kernel)) ggX7_isAfloat_X7_wouldFloat
set_option maxRecDepth 100000 in
theorem gX7_stepCost_X7_hasSkin : GoodIn wsX7_stepCost (wsV RX7 84 RX7 yX7_hasSkin wsX7_hasSkin) := goodIn_app (goodIn_of _ (by decide +kernel)) ggX7_stepCost_X7_hasSkin
set_option maxRecDepth 100000 in
theorem gX7_stepCost_X7_thicknessIn : GoodIn wsX7_stepCost (wsV RX7 91 RX7 yX7_thicknessIn wsX7_thicknessIn) := goodIn_app (goodIn_of _ (by decide +kernel)) ggX7_stepCost_X7_thicknessIn
set_option maxRecDepth 100000 in
theorem gX7_nextCell_X7_isCell : GoodIn wsX7_nextCell (wsV RX7 102 RX7 yX7_isCell wsX7_isCell) := goodIn_app (goodIn_of _ (by decide +kernel)) ggX7_nextCell_X7_isCell
set_option maxRecDepth 100000 in
theorem gX7_stirredTo_X7_overRim : GoodIn wsX7_stirredTo (va_wsS RX7 110 yX7_overRim wsX7_overRim) := goodIn_app (goodIn_of _ (by decide +kernel)) ggX7_stirredTo_X7_overRim
set_option maxRecDepth 100000 in
theorem gX7_whyNotStirred_X7_isLine : GoodIn wsX7_whyNotStirred (wsV RX7 114 RX7 yX7_isLine wsX7_isLine) := goodIn_app (goodIn_of _ (by decide +kernel)) ggX7_whyNotStirred_X7_isLine
set_option maxRecDepth 100000 in
theorem gX7_whyNotStirred_X7_hasSkin : GoodIn wsX7_whyNotStirred (wsV RX7 84 RX7 yX7_hasSkin wsX7_hasSkin) := goodIn_app (goodIn_of _ (by decide +kernel)) ggX7_whyNotStirred_X7_hasSkin
section G2
variable {p : Program} {l : Launch} {e : Env} {R : Room} {s : State} {m : MethodId} {args : Array Value} {below : List Frame} {meth : Method} {c : Code} {H : Heap} {locs : List Loc} {cells slots : Nat} {Q : State → Prop} {g : JFrame}
/-- the goal's end gets a name -/
theorem q_name (k : ∀ Q' : State → Prop, Q' = Q → W p l e R s m args below meth c H locs cells slots Q' g) : W p l e R s m args below meth c H locs cells slots Q g := k Q rfl
end G2
theorem ia_sub (a b : Nat) (ha : a < 2147483648) (hb : b < 2147483648) : (nI a - nI b).toInt = (a : Int) - (b : Int) := by
  rw [Int32.toInt_sub, nI_toInt ha, nI_toInt hb]
  exact Int.bmod_eq_of_le (by omega) (by omega)
theorem sw_0_2 (x : Int32) : (x.toInt < 0 ∨ 2 < x.toInt) ∨ x = nI 0 ∨ x = nI 1 ∨ x = nI 2 := by
  have hk : ∀ k : Nat, k < 2000 → (nI k).toInt = (k : Int) := fun k hk => ia_n k (by omega)
  simp only [ia_eq]
  rw [hk 0 (by decide), hk 1 (by decide), hk 2 (by decide)]
  omega
theorem sw_0_3 (x : Int32) : (x.toInt < 0 ∨ 3 < x.toInt) ∨ x = nI 0 ∨ x = nI 1 ∨ x = nI 2 ∨ x = nI 3 := by
  have hk : ∀ k : Nat, k < 2000 → (nI k).toInt = (k : Int) := fun k hk => ia_n k (by omega)
  simp only [ia_eq]
  rw [hk 0 (by decide), hk 1 (by decide), hk 2 (by decide), hk 3 (by decide)]
  omega
theorem sw_0_4 (x : Int32) : (x.toInt < 0 ∨ 4 < x.toInt) ∨ x = nI 0 ∨ x = nI 1 ∨ x = nI 2 ∨ x = nI 3 ∨ x = nI 4 := by
  have hk : ∀ k : Nat, k < 2000 → (nI k).toInt = (k : Int) := fun k hk => ia_n k (by omega)
  simp only [ia_eq]
  rw [hk 0 (by decide), hk 1 (by decide), hk 2 (by decide), hk 3 (by decide), hk 4 (by decide)]
  omega
theorem sw_0_6 (x : Int32) : (x.toInt < 0 ∨ 6 < x.toInt) ∨ x = nI 0 ∨ x = nI 1 ∨ x = nI 2 ∨ x = nI 3 ∨ x = nI 4 ∨ x = nI 5 ∨ x = nI 6 := by
  have hk : ∀ k : Nat, k < 2000 → (nI k).toInt = (k : Int) := fun k hk => ia_n k (by omega)
  simp only [ia_eq]
  rw [hk 0 (by decide), hk 1 (by decide), hk 2 (by decide), hk 3 (by decide), hk 4 (by decide), hk 5 (by decide), hk 6 (by decide)]
  omega
theorem sw_0_7 (x : Int32) : (x.toInt < 0 ∨ 7 < x.toInt) ∨ x = nI 0 ∨ x = nI 1 ∨ x = nI 2 ∨ x = nI 3 ∨ x = nI 4 ∨ x = nI 5 ∨ x = nI 6 ∨ x = nI 7 := by
  have hk : ∀ k : Nat, k < 2000 → (nI k).toInt = (k : Int) := fun k hk => ia_n k (by omega)
  simp only [ia_eq]
  rw [hk 0 (by decide), hk 1 (by decide), hk 2 (by decide), hk 3 (by decide), hk 4 (by decide), hk 5 (by decide), hk 6 (by decide), hk 7 (by decide)]
  omega
theorem sw_0_29 (x : Int32) : (x.toInt < 0 ∨ 29 < x.toInt) ∨ x = nI 0 ∨ x = nI 1 ∨ x = nI 2 ∨ x = nI 3 ∨ x = nI 4 ∨ x = nI 5 ∨ x = nI 6 ∨ x = nI 7 ∨ x = nI 8 ∨ x = nI 9 ∨ x = nI 10 ∨ x = nI 11 ∨ x = nI 12 ∨ x = nI 13 ∨ x = nI 14 ∨ x = nI 15 ∨ x = nI 16 ∨ x = nI 17 ∨ x = nI 18 ∨ x = nI 19 ∨ x = nI 20 ∨ x = nI 21 ∨ x = nI 22 ∨ x = nI 23 ∨ x = nI 24 ∨ x = nI 25 ∨ x = nI 26 ∨ x = nI 27 ∨ x = nI 28 ∨ x = nI 29 := by
  have hk : ∀ k : Nat, k < 2000 → (nI k).toInt = (k : Int) := fun k hk => ia_n k (by omega)
  simp only [ia_eq]
  rw [hk 0 (by decide), hk 1 (by decide), hk 2 (by decide), hk 3 (by decide), hk 4 (by decide), hk 5 (by decide), hk 6 (by decide), hk 7 (by decide), hk 8 (by decide), hk 9 (by decide), hk 10 (by decide), hk 11 (by decide), hk 12 (by decide), hk 13 (by decide), hk 14 (by decide), hk 15 (by decide), hk 16 (by decide), hk 17 (by decide), hk 18 (by decide), hk 19 (by decide), hk 20 (by decide), hk 21 (by decide), hk 22 (by decide), hk 23 (by decide), hk 24 (by decide), hk 25 (by decide), hk 26 (by decide), hk 27 (by decide), hk 28 (by decide), hk 29 (by decide)]
  omega
theorem sw_20_22 (x : Int32) : (x.toInt < 20 ∨ 22 < x.toInt) ∨ x = nI 20 ∨ x = nI 21 ∨ x = nI 22 := by
  have hk : ∀ k : Nat, k < 2000 → (nI k).toInt = (k : Int) := fun k hk => ia_n k (by omega)
  simp only [ia_eq]
  rw [hk 20 (by decide), hk 21 (by decide), hk 22 (by decide)]
  omega
theorem sw_23_29 (x : Int32) : (x.toInt < 23 ∨ 29 < x.toInt) ∨ x = nI 23 ∨ x = nI 24 ∨ x = nI 25 ∨ x = nI 26 ∨ x = nI 27 ∨ x = nI 28 ∨ x = nI 29 := by
  have hk : ∀ k : Nat, k < 2000 → (nI k).toInt = (k : Int) := fun k hk => ia_n k (by omega)
  simp only [ia_eq]
  rw [hk 23 (by decide), hk 24 (by decide), hk 25 (by decide), hk 26 (by decide), hk 27 (by decide), hk 28 (by decide), hk 29 (by decide)]
  omega
theorem lk_1_2_3_73_74_75_76 (x : Int32) : x = nI 1 ∨ x = nI 2 ∨ x = nI 3 ∨ x = nI 73 ∨ x = nI 74 ∨ x = nI 75 ∨ x = nI 76 ∨ (x ≠ nI 1 ∧ x ≠ nI 2 ∧ x ≠ nI 3 ∧ x ≠ nI 73 ∧ x ≠ nI 74 ∧ x ≠ nI 75 ∧ x ≠ nI 76) := by
  have hk : ∀ k : Nat, k < 2000 → (nI k).toInt = (k : Int) := fun k hk => ia_n k (by omega)
  simp only [ia_eq, ne_eq]
  rw [hk 1 (by decide), hk 2 (by decide), hk 3 (by decide), hk 73 (by decide), hk 74 (by decide), hk 75 (by decide), hk 76 (by decide)]
  omega
theorem lk_7_16_17_18_19_31 (x : Int32) : x = nI 7 ∨ x = nI 16 ∨ x = nI 17 ∨ x = nI 18 ∨ x = nI 19 ∨ x = nI 31 ∨ (x ≠ nI 7 ∧ x ≠ nI 16 ∧ x ≠ nI 17 ∧ x ≠ nI 18 ∧ x ≠ nI 19 ∧ x ≠ nI 31) := by
  have hk : ∀ k : Nat, k < 2000 → (nI k).toInt = (k : Int) := fun k hk => ia_n k (by omega)
  simp only [ia_eq, ne_eq]
  rw [hk 7 (by decide), hk 16 (by decide), hk 17 (by decide), hk 18 (by decide), hk 19 (by decide), hk 31 (by decide)]
  omega
theorem lko_1_2_3_73_74_75_76 {x : Int32} {d o0 o1 o2 o3 o4 o5 o6 : Int} {ps : List (Int × Int)} (hp : ps = [(1, o0), (2, o1), (3, o2), (73, o3), (74, o4), (75, o5), (76, o6)]) (h : x ≠ nI 1 ∧ x ≠ nI 2 ∧ x ≠ nI 3 ∧ x ≠ nI 73 ∧ x ≠ nI 74 ∧ x ≠ nI 75 ∧ x ≠ nI 76) : Op.lookupswitch.offset ps d x.toInt = d := by
  have hk : ∀ k : Nat, k < 2000 → (nI k).toInt = (k : Int) := fun k hk => ia_n k (by omega)
  subst hp
  simp only [ia_eq, ne_eq] at h
  rw [hk 1 (by decide), hk 2 (by decide), hk 3 (by decide), hk 73 (by decide), hk 74 (by decide), hk 75 (by decide), hk 76 (by decide)] at h
  simp only [Op.lookupswitch.offset]
  rw [if_neg (by omega), if_neg (by omega), if_neg (by omega), if_neg (by omega), if_neg (by omega), if_neg (by omega), if_neg (by omega)]
theorem lko_7_16_17_18_19_31 {x : Int32} {d o0 o1 o2 o3 o4 o5 : Int} {ps : List (Int × Int)} (hp : ps = [(7, o0), (16, o1), (17, o2), (18, o3), (19, o4), (31, o5)]) (h : x ≠ nI 7 ∧ x ≠ nI 16 ∧ x ≠ nI 17 ∧ x ≠ nI 18 ∧ x ≠ nI 19 ∧ x ≠ nI 31) : Op.lookupswitch.offset ps d x.toInt = d := by
  have hk : ∀ k : Nat, k < 2000 → (nI k).toInt = (k : Int) := fun k hk => ia_n k (by omega)
  subst hp
  simp only [ia_eq, ne_eq] at h
  rw [hk 7 (by decide), hk 16 (by decide), hk 17 (by decide), hk 18 (by decide), hk 19 (by decide), hk 31 (by decide)] at h
  simp only [Op.lookupswitch.offset]
  rw [if_neg (by omega), if_neg (by omega), if_neg (by omega), if_neg (by omega), if_neg (by omega), if_neg (by omega)]
set_option maxRecDepth 20000 in
theorem lf_s_isCell_1 (wide : Nat) (high : Nat) (x : Int32) (y : Int32) (iv_a_0 : 2 ≤ wide) (iv_a_1 : wide ≤ 6) (iv_a_2 : 2 ≤ high) (iv_a_3 : high ≤ 6) (c1 : x < 0) : ((nI 0) = nI 1 ∧ (0 ≤ x.toInt ∧ x.toInt < wide ∧ 0 ≤ y.toInt ∧ y.toInt < high)) ∨ ((nI 0) = nI 0 ∧ (¬ (0 ≤ x.toInt ∧ x.toInt < wide ∧ 0 ≤ y.toInt ∧ y.toInt < high))) := by
  have b_x := ia_b x
  have b_y := ia_b y
  try have k_0 := ia_n 0 (by first | decide | omega)
  try have k_1 := ia_n 1 (by first | decide | omega)
  try simp only [ia_lt, ia_le, ia_eq, ia_m1, ia_0, ia_1, ne_eq, true_and, and_true, false_and, and_false, or_false, false_or, or_true, true_or, not_true_eq_false, not_false_eq_true] at *
  all_goals omega
set_option maxRecDepth 20000 in
theorem lf_s_isCell_2 (wide : Nat) (high : Nat) (x : Int32) (y : Int32) (iv_a_0 : 2 ≤ wide) (iv_a_1 : wide ≤ 6) (iv_a_2 : 2 ≤ high) (iv_a_3 : high ≤ 6) (c1 : ¬ x < 0) (c2 : nI wide ≤ x) : ((nI 0) = nI 1 ∧ (0 ≤ x.toInt ∧ x.toInt < wide ∧ 0 ≤ y.toInt ∧ y.toInt < high)) ∨ ((nI 0) = nI 0 ∧ (¬ (0 ≤ x.toInt ∧ x.toInt < wide ∧ 0 ≤ y.toInt ∧ y.toInt < high))) := by
  have b_x := ia_b x
  have b_y := ia_b y
  try have k_0 := ia_n wide (by first | decide | omega)
  try have k_1 := ia_n 0 (by first | decide | omega)
  try have k_2 := ia_n 1 (by first | decide | omega)
  try simp only [ia_lt, ia_le, ia_eq, ia_m1, ia_0, ia_1, ne_eq, true_and, and_true, false_and, and_false, or_false, false_or, or_true, true_or, not_true_eq_false, not_false_eq_true] at *
  all_goals omega
set_option maxRecDepth 20000 in
theorem lf_s_isCell_3 (wide : Nat) (high : Nat) (x : Int32) (y : Int32) (iv_a_0 : 2 ≤ wide) (iv_a_1 : wide ≤ 6) (iv_a_2 : 2 ≤ high) (iv_a_3 : high ≤ 6) (c1 : ¬ x < 0) (c2 : ¬ nI wide ≤ x) (c3 : y < 0) : ((nI 0) = nI 1 ∧ (0 ≤ x.toInt ∧ x.toInt < wide ∧ 0 ≤ y.toInt ∧ y.toInt < high)) ∨ ((nI 0) = nI 0 ∧ (¬ (0 ≤ x.toInt ∧ x.toInt < wide ∧ 0 ≤ y.toInt ∧ y.toInt < high))) := by
  have b_x := ia_b x
  have b_y := ia_b y
  try have k_0 := ia_n wide (by first | decide | omega)
  try have k_1 := ia_n 0 (by first | decide | omega)
  try have k_2 := ia_n 1 (by first | decide | omega)
  try simp only [ia_lt, ia_le, ia_eq, ia_m1, ia_0, ia_1, ne_eq, true_and, and_true, false_and, and_false, or_false, false_or, or_true, true_or, not_true_eq_false, not_false_eq_true] at *
  all_goals omega
set_option maxRecDepth 20000 in
theorem lf_s_isCell_4 (wide : Nat) (high : Nat) (x : Int32) (y : Int32) (iv_a_0 : 2 ≤ wide) (iv_a_1 : wide ≤ 6) (iv_a_2 : 2 ≤ high) (iv_a_3 : high ≤ 6) (c1 : ¬ x < 0) (c2 : ¬ nI wide ≤ x) (c3 : ¬ y < 0) (c4 : nI high ≤ y) : ((nI 0) = nI 1 ∧ (0 ≤ x.toInt ∧ x.toInt < wide ∧ 0 ≤ y.toInt ∧ y.toInt < high)) ∨ ((nI 0) = nI 0 ∧ (¬ (0 ≤ x.toInt ∧ x.toInt < wide ∧ 0 ≤ y.toInt ∧ y.toInt < high))) := by
  have b_x := ia_b x
  have b_y := ia_b y
  try have k_0 := ia_n wide (by first | decide | omega)
  try have k_1 := ia_n high (by first | decide | omega)
  try have k_2 := ia_n 0 (by first | decide | omega)
  try have k_3 := ia_n 1 (by first | decide | omega)
  try simp only [ia_lt, ia_le, ia_eq, ia_m1, ia_0, ia_1, ne_eq, true_and, and_true, false_and, and_false, or_false, false_or, or_true, true_or, not_true_eq_false, not_false_eq_true] at *
  all_goals omega
set_option maxRecDepth 20000 in
theorem lf_s_isCell_5 (wide : Nat) (high : Nat) (x : Int32) (y : Int32) (iv_a_0 : 2 ≤ wide) (iv_a_1 : wide ≤ 6) (iv_a_2 : 2 ≤ high) (iv_a_3 : high ≤ 6) (c1 : ¬ x < 0) (c2 : ¬ nI wide ≤ x) (c3 : ¬ y < 0) (c4 : ¬ nI high ≤ y) : ((nI 1) = nI 1 ∧ (0 ≤ x.toInt ∧ x.toInt < wide ∧ 0 ≤ y.toInt ∧ y.toInt < high)) ∨ ((nI 1) = nI 0 ∧ (¬ (0 ≤ x.toInt ∧ x.toInt < wide ∧ 0 ≤ y.toInt ∧ y.toInt < high))) := by
  have b_x := ia_b x
  have b_y := ia_b y
  try have k_0 := ia_n wide (by first | decide | omega)
  try have k_1 := ia_n high (by first | decide | omega)
  try have k_2 := ia_n 1 (by first | decide | omega)
  try have k_3 := ia_n 0 (by first | decide | omega)
  try simp only [ia_lt, ia_le, ia_eq, ia_m1, ia_0, ia_1, ne_eq, true_and, and_true, false_and, and_false, or_false, false_or, or_true, true_or, not_true_eq_false, not_false_eq_true] at *
  all_goals omega
set_option maxHeartbeats 4000000 in
set_option maxRecDepth 100000 in
theorem c_s_isCell (l : Launch) (dC : Nat → ClassId) (dI : Nat → Nat → Nat) (ky : Nat → ClassId) (a : Nat) (wide : Nat) (high : Nat) (heat : Int32) (cools : Int32) (skinHeat : Int32) (today : Int32) (stirs : Int32) (steps : Int32) (lumps : Nat) (boats : Nat) (thickness : Nat) (lumpNames : Nat) (lumpCells : Nat) (boatNames : Nat) (boatCells : Nat) (loads : Nat) (spoons : Nat) (spoonsLeft : Nat) (depths : Nat) (x : Int32) (y : Int32) (iv_a_0 : 2 ≤ wide) (iv_a_1 : wide ≤ 6) (iv_a_2 : 2 ≤ high) (iv_a_3 : high ≤ 6) (iv_a_4 : lumps ≤ 6) (iv_a_5 : boats ≤ 6) : Met l yX7_isCell wsX7_isCell ({ frames := 0, cells := 0, slots := 0, locals := 0 }) (PcP dC dI ky [.ref a, .int x, .int y] [(a, .inr (7, [.int (nI wide), .int (nI high), .int heat, .int cools, .int skinHeat, .int today, .int stirs, .int steps, .int (nI lumps), .int (nI boats), .ref thickness, .ref lumpNames, .ref lumpCells, .ref boatNames, .ref boatCells, .ref loads, .ref spoons, .ref spoonsLeft, .ref depths]))]) (vp_Si (fun r : Int32 => (r = nI 1 ∧ (0 ≤ x.toInt ∧ x.toInt < wide ∧ 0 ≤ y.toInt ∧ y.toInt < high)) ∨ (r = nI 0 ∧ (¬ (0 ≤ x.toInt ∧ x.toInt < wide ∧ 0 ≤ y.toInt ∧ y.toInt < high))))) 0 0 (fun _ => False) := by
  refine Met.ofW (cc := cX7_isCell) (maxL := 3) (ret := (some .boolean)) (by decide) rfl ?_
  intro p e s m args below meth c s₁ B hml hv
  obtain ⟨rfl, hP, hK⟩ := hv
  have hx := B.exec
  have hb := B.bytes
  have hr := B.returns
  have hts := atoms_spec (ws := wsX7_isCell) B.pre
  have hown : s.vm.findClass RX7 = some m.cls := findClass_of_methodNamed B.named
  have hlocks := B.notSynchronized
  have hin7 : ∀ w ∈ u_ws RX7 TX7 19, w ∈ wsX7_isCell := by decide +kernel
  have hl := lv_entry ([.ref a, .int x, .int y]) (n := 3) (Nat.le_of_ble_eq_true rfl)
  rw [lg_entry_eq]
  generalize (lg_sl ([.ref a, .int x, .int y]) ++ List.replicate (3 - (lg_sl ([.ref a, .int x, .int y])).length) Slot.unset).toArray = ls at hl ⊢
  have hl : lv_has ls 3 [(0, .ref a), (1, .int x), (2, .int y)] := hl
  refine q_name (fun Q hQ => ?_)
  generalize ([.ref a, .int x, .int y] : List Value).toArray = args at hts hQ ⊢
  refine lv_iload_n hx hb dX7_isCell_0 rfl (lv_at hl 1 rfl) ?_
  refine lv_if_lt (tgt := 28) hx hb dX7_isCell_1 (by decide) (fun c1 => ?_) (fun c1 => ?_)
  · refine lv_iconst (v := nI 0) hx hb dX7_isCell_28 (by decide) ?_
    rw [hQ]
    exact W.zret (v := nI 0) hx hb hr (by decide) (fun t9 ht9 hW9 => ⟨nI 0, rfl, (lf_s_isCell_1 wide high x y iv_a_0 iv_a_1 iv_a_2 iv_a_3 c1), ht9⟩) (fun _ h => absurd h List.not_mem_nil) dX7_isCell_29
  · refine lv_iload_n hx hb dX7_isCell_4 rfl (lv_at hl 1 rfl) ?_
    refine lv_aload_n hx hb dX7_isCell_5 rfl (lv_at hl 0 rfl) ?_
    refine va_get (D := (dC, dI)) (ci := 7) (v := .int (nI wide)) (C := RX7) (T := TX7) (N := 19) hx hb hts hin7 hown hK hP 0 rfl rfl 0 (by decide) (hts (.fieldLink RX7 43 "PorridgeSea$Sea" "wide" "I") (List.mem_of_getElem? (i := 1) rfl)) (fun _ h9 => h9) rfl dX7_isCell_6 ?_
    refine lv_icmp_ge (tgt := 28) hx hb dX7_isCell_9 (by decide) (fun c2 => ?_) (fun c2 => ?_)
    · refine lv_iconst (v := nI 0) hx hb dX7_isCell_28 (by decide) ?_
      rw [hQ]
      exact W.zret (v := nI 0) hx hb hr (by decide) (fun t9 ht9 hW9 => ⟨nI 0, rfl, (lf_s_isCell_2 wide high x y iv_a_0 iv_a_1 iv_a_2 iv_a_3 c1 c2), ht9⟩) (fun _ h => absurd h List.not_mem_nil) dX7_isCell_29
    · refine lv_iload_n hx hb dX7_isCell_12 rfl (lv_at hl 2 rfl) ?_
      refine lv_if_lt (tgt := 28) hx hb dX7_isCell_13 (by decide) (fun c3 => ?_) (fun c3 => ?_)
      · refine lv_iconst (v := nI 0) hx hb dX7_isCell_28 (by decide) ?_
        rw [hQ]
        exact W.zret (v := nI 0) hx hb hr (by decide) (fun t9 ht9 hW9 => ⟨nI 0, rfl, (lf_s_isCell_3 wide high x y iv_a_0 iv_a_1 iv_a_2 iv_a_3 c1 c2 c3), ht9⟩) (fun _ h => absurd h List.not_mem_nil) dX7_isCell_29
      · refine lv_iload_n hx hb dX7_isCell_16 rfl (lv_at hl 2 rfl) ?_
        refine lv_aload_n hx hb dX7_isCell_17 rfl (lv_at hl 0 rfl) ?_
        refine va_get (D := (dC, dI)) (ci := 7) (v := .int (nI high)) (C := RX7) (T := TX7) (N := 19) hx hb hts hin7 hown hK hP 0 rfl rfl 1 (by decide) (hts (.fieldLink RX7 47 "PorridgeSea$Sea" "high" "I") (List.mem_of_getElem? (i := 2) rfl)) (fun _ h9 => h9) rfl dX7_isCell_18 ?_
        refine lv_icmp_ge (tgt := 28) hx hb dX7_isCell_21 (by decide) (fun c4 => ?_) (fun c4 => ?_)
        · refine lv_iconst (v := nI 0) hx hb dX7_isCell_28 (by decide) ?_
          rw [hQ]
          exact W.zret (v := nI 0) hx hb hr (by decide) (fun t9 ht9 hW9 => ⟨nI 0, rfl, (lf_s_isCell_4 wide high x y iv_a_0 iv_a_1 iv_a_2 iv_a_3 c1 c2 c3 c4), ht9⟩) (fun _ h => absurd h List.not_mem_nil) dX7_isCell_29
        · refine lv_iconst (v := nI 1) hx hb dX7_isCell_24 (by decide) ?_
          refine lv_goto (tgt := 29) hx hb dX7_isCell_25 (by decide) ?_
          rw [hQ]
          exact W.zret (v := nI 1) hx hb hr (by decide) (fun t9 ht9 hW9 => ⟨nI 1, rfl, (lf_s_isCell_5 wide high x y iv_a_0 iv_a_1 iv_a_2 iv_a_3 c1 c2 c3 c4), ht9⟩) (fun _ h => absurd h List.not_mem_nil) dX7_isCell_29
set_option maxRecDepth 20000 in
theorem lf_s_isLump_1 (lumps : Nat) (x : Int32) (iv_a_4 : lumps ≤ 6) (c1 : x < 0) : ((nI 0) = nI 1 ∧ (0 ≤ x.toInt ∧ x.toInt < lumps)) ∨ ((nI 0) = nI 0 ∧ (¬ (0 ≤ x.toInt ∧ x.toInt < lumps))) := by
  have b_x := ia_b x
  try have k_0 := ia_n 0 (by first | decide | omega)
  try have k_1 := ia_n 1 (by first | decide | omega)
  try simp only [ia_lt, ia_le, ia_eq, ia_m1, ia_0, ia_1, ne_eq, true_and, and_true, false_and, and_false, or_false, false_or, or_true, true_or, not_true_eq_false, not_false_eq_true] at *
  all_goals omega
set_option maxRecDepth 20000 in
theorem lf_s_isLump_2 (lumps : Nat) (x : Int32) (iv_a_4 : lumps ≤ 6) (c1 : ¬ x < 0) (c2 : nI lumps ≤ x) : ((nI 0) = nI 1 ∧ (0 ≤ x.toInt ∧ x.toInt < lumps)) ∨ ((nI 0) = nI 0 ∧ (¬ (0 ≤ x.toInt ∧ x.toInt < lumps))) := by
  have b_x := ia_b x
  try have k_0 := ia_n lumps (by first | decide | omega)
  try have k_1 := ia_n 0 (by first | decide | omega)
  try have k_2 := ia_n 1 (by first | decide | omega)
  try simp only [ia_lt, ia_le, ia_eq, ia_m1, ia_0, ia_1, ne_eq, true_and, and_true, false_and, and_false, or_false, false_or, or_true, true_or, not_true_eq_false, not_false_eq_true] at *
  all_goals omega
set_option maxRecDepth 20000 in
theorem lf_s_isLump_3 (lumps : Nat) (x : Int32) (iv_a_4 : lumps ≤ 6) (c1 : ¬ x < 0) (c2 : ¬ nI lumps ≤ x) : ((nI 1) = nI 1 ∧ (0 ≤ x.toInt ∧ x.toInt < lumps)) ∨ ((nI 1) = nI 0 ∧ (¬ (0 ≤ x.toInt ∧ x.toInt < lumps))) := by
  have b_x := ia_b x
  try have k_0 := ia_n lumps (by first | decide | omega)
  try have k_1 := ia_n 1 (by first | decide | omega)
  try have k_2 := ia_n 0 (by first | decide | omega)
  try simp only [ia_lt, ia_le, ia_eq, ia_m1, ia_0, ia_1, ne_eq, true_and, and_true, false_and, and_false, or_false, false_or, or_true, true_or, not_true_eq_false, not_false_eq_true] at *
  all_goals omega
set_option maxHeartbeats 4000000 in
set_option maxRecDepth 100000 in
theorem c_s_isLump (l : Launch) (dC : Nat → ClassId) (dI : Nat → Nat → Nat) (ky : Nat → ClassId) (a : Nat) (wide : Nat) (high : Nat) (heat : Int32) (cools : Int32) (skinHeat : Int32) (today : Int32) (stirs : Int32) (steps : Int32) (lumps : Nat) (boats : Nat) (thickness : Nat) (lumpNames : Nat) (lumpCells : Nat) (boatNames : Nat) (boatCells : Nat) (loads : Nat) (spoons : Nat) (spoonsLeft : Nat) (depths : Nat) (x : Int32) (iv_a_0 : 2 ≤ wide) (iv_a_1 : wide ≤ 6) (iv_a_2 : 2 ≤ high) (iv_a_3 : high ≤ 6) (iv_a_4 : lumps ≤ 6) (iv_a_5 : boats ≤ 6) : Met l yX7_isLump wsX7_isLump ({ frames := 0, cells := 0, slots := 0, locals := 0 }) (PcP dC dI ky [.ref a, .int x] [(a, .inr (7, [.int (nI wide), .int (nI high), .int heat, .int cools, .int skinHeat, .int today, .int stirs, .int steps, .int (nI lumps), .int (nI boats), .ref thickness, .ref lumpNames, .ref lumpCells, .ref boatNames, .ref boatCells, .ref loads, .ref spoons, .ref spoonsLeft, .ref depths]))]) (vp_Si (fun r : Int32 => (r = nI 1 ∧ (0 ≤ x.toInt ∧ x.toInt < lumps)) ∨ (r = nI 0 ∧ (¬ (0 ≤ x.toInt ∧ x.toInt < lumps))))) 0 0 (fun _ => False) := by
  refine Met.ofW (cc := cX7_isLump) (maxL := 2) (ret := (some .boolean)) (by decide) rfl ?_
  intro p e s m args below meth c s₁ B hml hv
  obtain ⟨rfl, hP, hK⟩ := hv
  have hx := B.exec
  have hb := B.bytes
  have hr := B.returns
  have hts := atoms_spec (ws := wsX7_isLump) B.pre
  have hown : s.vm.findClass RX7 = some m.cls := findClass_of_methodNamed B.named
  have hlocks := B.notSynchronized
  have hin7 : ∀ w ∈ u_ws RX7 TX7 19, w ∈ wsX7_isLump := by decide +kernel
  have hl := lv_entry ([.ref a, .int x]) (n := 2) (Nat.le_of_ble_eq_true rfl)
  rw [lg_entry_eq]
  generalize (lg_sl ([.ref a, .int x]) ++ List.replicate (2 - (lg_sl ([.ref a, .int x])).length) Slot.unset).toArray = ls at hl ⊢
  have hl : lv_has ls 2 [(0, .ref a), (1, .int x)] := hl
  refine q_name (fun Q hQ => ?_)
  generalize ([.ref a, .int x] : List Value).toArray = args at hts hQ ⊢
  refine lv_iload_n hx hb dX7_isLump_0 rfl (lv_at hl 1 rfl) ?_
  refine lv_if_lt (tgt := 16) hx hb dX7_isLump_1 (by decide) (fun c1 => ?_) (fun c1 => ?_)
  · refine lv_iconst (v := nI 0) hx hb dX7_isLump_16 (by decide) ?_
    rw [hQ]
    exact W.zret (v := nI 0) hx hb hr (by decide) (fun t9 ht9 hW9 => ⟨nI 0, rfl, (lf_s_isLump_1 lumps x iv_a_4 c1), ht9⟩) (fun _ h => absurd h List.not_mem_nil) dX7_isLump_17
  · refine lv_iload_n hx hb dX7_isLump_4 rfl (lv_at hl 1 rfl) ?_
    refine lv_aload_n hx hb dX7_isLump_5 rfl (lv_at hl 0 rfl) ?_
    refine va_get (D := (dC, dI)) (ci := 7) (v := .int (nI lumps)) (C := RX7) (T := TX7) (N := 19) hx hb hts hin7 hown hK hP 0 rfl rfl 8 (by decide) (hts (.fieldLink RX7 68 "PorridgeSea$Sea" "lumps" "I") (List.mem_of_getElem? (i := 1) rfl)) (fun _ h9 => h9) rfl dX7_isLump_6 ?_
    refine lv_icmp_ge (tgt := 16) hx hb dX7_isLump_9 (by decide) (fun c2 => ?_) (fun c2 => ?_)
    · refine lv_iconst (v := nI 0) hx hb dX7_isLump_16 (by decide) ?_
      rw [hQ]
      exact W.zret (v := nI 0) hx hb hr (by decide) (fun t9 ht9 hW9 => ⟨nI 0, rfl, (lf_s_isLump_2 lumps x iv_a_4 c1 c2), ht9⟩) (fun _ h => absurd h List.not_mem_nil) dX7_isLump_17
    · refine lv_iconst (v := nI 1) hx hb dX7_isLump_12 (by decide) ?_
      refine lv_goto (tgt := 17) hx hb dX7_isLump_13 (by decide) ?_
      rw [hQ]
      exact W.zret (v := nI 1) hx hb hr (by decide) (fun t9 ht9 hW9 => ⟨nI 1, rfl, (lf_s_isLump_3 lumps x iv_a_4 c1 c2), ht9⟩) (fun _ h => absurd h List.not_mem_nil) dX7_isLump_17
set_option maxRecDepth 20000 in
theorem lf_s_isBoat_1 (boats : Nat) (x : Int32) (iv_a_5 : boats ≤ 6) (c1 : x < 0) : ((nI 0) = nI 1 ∧ (0 ≤ x.toInt ∧ x.toInt < boats)) ∨ ((nI 0) = nI 0 ∧ (¬ (0 ≤ x.toInt ∧ x.toInt < boats))) := by
  have b_x := ia_b x
  try have k_0 := ia_n 0 (by first | decide | omega)
  try have k_1 := ia_n 1 (by first | decide | omega)
  try simp only [ia_lt, ia_le, ia_eq, ia_m1, ia_0, ia_1, ne_eq, true_and, and_true, false_and, and_false, or_false, false_or, or_true, true_or, not_true_eq_false, not_false_eq_true] at *
  all_goals omega
set_option maxRecDepth 20000 in
theorem lf_s_isBoat_2 (boats : Nat) (x : Int32) (iv_a_5 : boats ≤ 6) (c1 : ¬ x < 0) (c2 : nI boats ≤ x) : ((nI 0) = nI 1 ∧ (0 ≤ x.toInt ∧ x.toInt < boats)) ∨ ((nI 0) = nI 0 ∧ (¬ (0 ≤ x.toInt ∧ x.toInt < boats))) := by
  have b_x := ia_b x
  try have k_0 := ia_n boats (by first | decide | omega)
  try have k_1 := ia_n 0 (by first | decide | omega)
  try have k_2 := ia_n 1 (by first | decide | omega)
  try simp only [ia_lt, ia_le, ia_eq, ia_m1, ia_0, ia_1, ne_eq, true_and, and_true, false_and, and_false, or_false, false_or, or_true, true_or, not_true_eq_false, not_false_eq_true] at *
  all_goals omega
set_option maxRecDepth 20000 in
theorem lf_s_isBoat_3 (boats : Nat) (x : Int32) (iv_a_5 : boats ≤ 6) (c1 : ¬ x < 0) (c2 : ¬ nI boats ≤ x) : ((nI 1) = nI 1 ∧ (0 ≤ x.toInt ∧ x.toInt < boats)) ∨ ((nI 1) = nI 0 ∧ (¬ (0 ≤ x.toInt ∧ x.toInt < boats))) := by
  have b_x := ia_b x
  try have k_0 := ia_n boats (by first | decide | omega)
  try have k_1 := ia_n 1 (by first | decide | omega)
  try have k_2 := ia_n 0 (by first | decide | omega)
  try simp only [ia_lt, ia_le, ia_eq, ia_m1, ia_0, ia_1, ne_eq, true_and, and_true, false_and, and_false, or_false, false_or, or_true, true_or, not_true_eq_false, not_false_eq_true] at *
  all_goals omega
set_option maxHeartbeats 4000000 in
set_option maxRecDepth 100000 in
theorem c_s_isBoat (l : Launch) (dC : Nat → ClassId) (dI : Nat → Nat → Nat) (ky : Nat → ClassId) (a : Nat) (wide : Nat) (high : Nat) (heat : Int32) (cools : Int32) (skinHeat : Int32) (today : Int32) (stirs : Int32) (steps : Int32) (lumps : Nat) (boats : Nat) (thickness : Nat) (lumpNames : Nat) (lumpCells : Nat) (boatNames : Nat) (boatCells : Nat) (loads : Nat) (spoons : Nat) (spoonsLeft : Nat) (depths : Nat) (x : Int32) (iv_a_0 : 2 ≤ wide) (iv_a_1 : wide ≤ 6) (iv_a_2 : 2 ≤ high) (iv_a_3 : high ≤ 6) (iv_a_4 : lumps ≤ 6) (iv_a_5 : boats ≤ 6) : Met l yX7_isBoat wsX7_isBoat ({ frames := 0, cells := 0, slots := 0, locals := 0 }) (PcP dC dI ky [.ref a, .int x] [(a, .inr (7, [.int (nI wide), .int (nI high), .int heat, .int cools, .int skinHeat, .int today, .int stirs, .int steps, .int (nI lumps), .int (nI boats), .ref thickness, .ref lumpNames, .ref lumpCells, .ref boatNames, .ref boatCells, .ref loads, .ref spoons, .ref spoonsLeft, .ref depths]))]) (vp_Si (fun r : Int32 => (r = nI 1 ∧ (0 ≤ x.toInt ∧ x.toInt < boats)) ∨ (r = nI 0 ∧ (¬ (0 ≤ x.toInt ∧ x.toInt < boats))))) 0 0 (fun _ => False) := by
  refine Met.ofW (cc := cX7_isBoat) (maxL := 2) (ret := (some .boolean)) (by decide) rfl ?_
  intro p e s m args below meth c s₁ B hml hv
  obtain ⟨rfl, hP, hK⟩ := hv
  have hx := B.exec
  have hb := B.bytes
  have hr := B.returns
  have hts := atoms_spec (ws := wsX7_isBoat) B.pre
  have hown : s.vm.findClass RX7 = some m.cls := findClass_of_methodNamed B.named
  have hlocks := B.notSynchronized
  have hin7 : ∀ w ∈ u_ws RX7 TX7 19, w ∈ wsX7_isBoat := by decide +kernel
  have hl := lv_entry ([.ref a, .int x]) (n := 2) (Nat.le_of_ble_eq_true rfl)
  rw [lg_entry_eq]
  generalize (lg_sl ([.ref a, .int x]) ++ List.replicate (2 - (lg_sl ([.ref a, .int x])).length) Slot.unset).toArray = ls at hl ⊢
  have hl : lv_has ls 2 [(0, .ref a), (1, .int x)] := hl
  refine q_name (fun Q hQ => ?_)
  generalize ([.ref a, .int x] : List Value).toArray = args at hts hQ ⊢
  refine lv_iload_n hx hb dX7_isBoat_0 rfl (lv_at hl 1 rfl) ?_
  refine lv_if_lt (tgt := 16) hx hb dX7_isBoat_1 (by decide) (fun c1 => ?_) (fun c1 => ?_)
  · refine lv_iconst (v := nI 0) hx hb dX7_isBoat_16 (by decide) ?_
    rw [hQ]
    exact W.zret (v := nI 0) hx hb hr (by decide) (fun t9 ht9 hW9 => ⟨nI 0, rfl, (lf_s_isBoat_1 boats x iv_a_5 c1), ht9⟩) (fun _ h => absurd h List.not_mem_nil) dX7_isBoat_17
  · refine lv_iload_n hx hb dX7_isBoat_4 rfl (lv_at hl 1 rfl) ?_
    refine lv_aload_n hx hb dX7_isBoat_5 rfl (lv_at hl 0 rfl) ?_
    refine va_get (D := (dC, dI)) (ci := 7) (v := .int (nI boats)) (C := RX7) (T := TX7) (N := 19) hx hb hts hin7 hown hK hP 0 rfl rfl 9 (by decide) (hts (.fieldLink RX7 71 "PorridgeSea$Sea" "boats" "I") (List.mem_of_getElem? (i := 1) rfl)) (fun _ h9 => h9) rfl dX7_isBoat_6 ?_
    refine lv_icmp_ge (tgt := 16) hx hb dX7_isBoat_9 (by decide) (fun c2 => ?_) (fun c2 => ?_)
    · refine lv_iconst (v := nI 0) hx hb dX7_isBoat_16 (by decide) ?_
      rw [hQ]
      exact W.zret (v := nI 0) hx hb hr (by decide) (fun t9 ht9 hW9 => ⟨nI 0, rfl, (lf_s_isBoat_2 boats x iv_a_5 c1 c2), ht9⟩) (fun _ h => absurd h List.not_mem_nil) dX7_isBoat_17
    · refine lv_iconst (v := nI 1) hx hb dX7_isBoat_12 (by decide) ?_
      refine lv_goto (tgt := 17) hx hb dX7_isBoat_13 (by decide) ?_
      rw [hQ]
      exact W.zret (v := nI 1) hx hb hr (by decide) (fun t9 ht9 hW9 => ⟨nI 1, rfl, (lf_s_isBoat_3 boats x iv_a_5 c1 c2), ht9⟩) (fun _ h => absurd h List.not_mem_nil) dX7_isBoat_17
set_option maxRecDepth 20000 in
theorem lf_s_isLine_1 (n : Int32) (c1 : n < 0) : ((nI 0) = nI 1 ∧ (0 ≤ n.toInt ∧ n.toInt < 6)) ∨ ((nI 0) = nI 0 ∧ (True)) := by
  have b_n := ia_b n
  try have k_0 := ia_n 0 (by first | decide | omega)
  try have k_1 := ia_n 1 (by first | decide | omega)
  try simp only [ia_lt, ia_le, ia_eq, ia_m1, ia_0, ia_1, ne_eq, true_and, and_true, false_and, and_false, or_false, false_or, or_true, true_or, not_true_eq_false, not_false_eq_true] at *
  all_goals omega
set_option maxRecDepth 20000 in
theorem lf_s_isLine_2 (high : Nat) (n : Int32) (iv_a_2 : 2 ≤ high) (iv_a_3 : high ≤ 6) (c1 : ¬ n < 0) (c3 : nI high ≤ n) : ((nI 0) = nI 1 ∧ (0 ≤ n.toInt ∧ n.toInt < 6)) ∨ ((nI 0) = nI 0 ∧ (True)) := by
  have b_n := ia_b n
  try have k_0 := ia_n high (by first | decide | omega)
  try have k_1 := ia_n 0 (by first | decide | omega)
  try have k_2 := ia_n 1 (by first | decide | omega)
  try simp only [ia_lt, ia_le, ia_eq, ia_m1, ia_0, ia_1, ne_eq, true_and, and_true, false_and, and_false, or_false, false_or, or_true, true_or, not_true_eq_false, not_false_eq_true] at *
  all_goals omega
set_option maxRecDepth 20000 in
theorem lf_s_isLine_3 (high : Nat) (n : Int32) (iv_a_2 : 2 ≤ high) (iv_a_3 : high ≤ 6) (c1 : ¬ n < 0) (c3 : ¬ nI high ≤ n) : ((nI 1) = nI 1 ∧ (0 ≤ n.toInt ∧ n.toInt < 6)) ∨ ((nI 1) = nI 0 ∧ (True)) := by
  have b_n := ia_b n
  try have k_0 := ia_n high (by first | decide | omega)
  try have k_1 := ia_n 1 (by first | decide | omega)
  try have k_2 := ia_n 0 (by first | decide | omega)
  try simp only [ia_lt, ia_le, ia_eq, ia_m1, ia_0, ia_1, ne_eq, true_and, and_true, false_and, and_false, or_false, false_or, or_true, true_or, not_true_eq_false, not_false_eq_true] at *
  all_goals omega
set_option maxRecDepth 20000 in
theorem lf_s_isLine_4 (wide : Nat) (n : Int32) (iv_a_0 : 2 ≤ wide) (iv_a_1 : wide ≤ 6) (c1 : ¬ n < 0) (c4 : nI wide ≤ n) : ((nI 0) = nI 1 ∧ (0 ≤ n.toInt ∧ n.toInt < 6)) ∨ ((nI 0) = nI 0 ∧ (True)) := by
  have b_n := ia_b n
  try have k_0 := ia_n wide (by first | decide | omega)
  try have k_1 := ia_n 0 (by first | decide | omega)
  try have k_2 := ia_n 1 (by first | decide | omega)
  try simp only [ia_lt, ia_le, ia_eq, ia_m1, ia_0, ia_1, ne_eq, true_and, and_true, false_and, and_false, or_false, false_or, or_true, true_or, not_true_eq_false, not_false_eq_true] at *
  all_goals omega
set_option maxRecDepth 20000 in
theorem lf_s_isLine_5 (wide : Nat) (n : Int32) (iv_a_0 : 2 ≤ wide) (iv_a_1 : wide ≤ 6) (c1 : ¬ n < 0) (c4 : ¬ nI wide ≤ n) : ((nI 1) = nI 1 ∧ (0 ≤ n.toInt ∧ n.toInt < 6)) ∨ ((nI 1) = nI 0 ∧ (True)) := by
  have b_n := ia_b n
  try have k_0 := ia_n wide (by first | decide | omega)
  try have k_1 := ia_n 1 (by first | decide | omega)
  try have k_2 := ia_n 0 (by first | decide | omega)
  try simp only [ia_lt, ia_le, ia_eq, ia_m1, ia_0, ia_1, ne_eq, true_and, and_true, false_and, and_false, or_false, false_or, or_true, true_or, not_true_eq_false, not_false_eq_true] at *
  all_goals omega
set_option maxHeartbeats 4000000 in
set_option maxRecDepth 100000 in
theorem c_s_isLine (l : Launch) (dC : Nat → ClassId) (dI : Nat → Nat → Nat) (ky : Nat → ClassId) (a : Nat) (wide : Nat) (high : Nat) (heat : Int32) (cools : Int32) (skinHeat : Int32) (today : Int32) (stirs : Int32) (steps : Int32) (lumps : Nat) (boats : Nat) (thickness : Nat) (lumpNames : Nat) (lumpCells : Nat) (boatNames : Nat) (boatCells : Nat) (loads : Nat) (spoons : Nat) (spoonsLeft : Nat) (depths : Nat) (column : Int32) (n : Int32) (iv_a_0 : 2 ≤ wide) (iv_a_1 : wide ≤ 6) (iv_a_2 : 2 ≤ high) (iv_a_3 : high ≤ 6) (iv_a_4 : lumps ≤ 6) (iv_a_5 : boats ≤ 6) : Met l yX7_isLine wsX7_isLine ({ frames := 0, cells := 0, slots := 0, locals := 0 }) (PcP dC dI ky [.ref a, .int column, .int n] [(a, .inr (7, [.int (nI wide), .int (nI high), .int heat, .int cools, .int skinHeat, .int today, .int stirs, .int steps, .int (nI lumps), .int (nI boats), .ref thickness, .ref lumpNames, .ref lumpCells, .ref boatNames, .ref boatCells, .ref loads, .ref spoons, .ref spoonsLeft, .ref depths]))]) (vp_Si (fun r : Int32 => (r = nI 1 ∧ (0 ≤ n.toInt ∧ n.toInt < 6)) ∨ (r = nI 0 ∧ (True)))) 0 0 (fun _ => False) := by
  refine Met.ofW (cc := cX7_isLine) (maxL := 3) (ret := (some .boolean)) (by decide) rfl ?_
  intro p e s m args below meth c s₁ B hml hv
  obtain ⟨rfl, hP, hK⟩ := hv
  have hx := B.exec
  have hb := B.bytes
  have hr := B.returns
  have hts := atoms_spec (ws := wsX7_isLine) B.pre
  have hown : s.vm.findClass RX7 = some m.cls := findClass_of_methodNamed B.named
  have hlocks := B.notSynchronized
  have hin7 : ∀ w ∈ u_ws RX7 TX7 19, w ∈ wsX7_isLine := by decide +kernel
  have hl := lv_entry ([.ref a, .int column, .int n]) (n := 3) (Nat.le_of_ble_eq_true rfl)
  rw [lg_entry_eq]
  generalize (lg_sl ([.ref a, .int column, .int n]) ++ List.replicate (3 - (lg_sl ([.ref a, .int column, .int n])).length) Slot.unset).toArray = ls at hl ⊢
  have hl : lv_has ls 3 [(0, .ref a), (1, .int column), (2, .int n)] := hl
  refine q_name (fun Q hQ => ?_)
  generalize ([.ref a, .int column, .int n] : List Value).toArray = args at hts hQ ⊢
  refine lv_iload_n hx hb dX7_isLine_0 rfl (lv_at hl 2 rfl) ?_
  refine lv_if_lt (tgt := 28) hx hb dX7_isLine_1 (by decide) (fun c1 => ?_) (fun c1 => ?_)
  · refine lv_iconst (v := nI 0) hx hb dX7_isLine_28 (by decide) ?_
    rw [hQ]
    exact W.zret (v := nI 0) hx hb hr (by decide) (fun t9 ht9 hW9 => ⟨nI 0, rfl, (lf_s_isLine_1 n c1), ht9⟩) (fun _ h => absurd h List.not_mem_nil) dX7_isLine_29
  · refine lv_iload_n hx hb dX7_isLine_4 rfl (lv_at hl 2 rfl) ?_
    refine lv_iload_n hx hb dX7_isLine_5 rfl (lv_at hl 1 rfl) ?_
    refine lv_iconst (v := nI 1) hx hb dX7_isLine_6 (by decide) ?_
    refine lv_icmp_ne (tgt := 17) hx hb dX7_isLine_7 (by decide) (fun c2 => ?_) (fun c2 => ?_)
    · refine lv_aload_n hx hb dX7_isLine_17 rfl (lv_at hl 0 rfl) ?_
      refine va_get (D := (dC, dI)) (ci := 7) (v := .int (nI high)) (C := RX7) (T := TX7) (N := 19) hx hb hts hin7 hown hK hP 0 rfl rfl 1 (by decide) (hts (.fieldLink RX7 47 "PorridgeSea$Sea" "high" "I") (List.mem_of_getElem? (i := 2) rfl)) (fun _ h9 => h9) rfl dX7_isLine_18 ?_
      refine lv_icmp_ge (tgt := 28) hx hb dX7_isLine_21 (by decide) (fun c3 => ?_) (fun c3 => ?_)
      · refine lv_iconst (v := nI 0) hx hb dX7_isLine_28 (by decide) ?_
        rw [hQ]
        exact W.zret (v := nI 0) hx hb hr (by decide) (fun t9 ht9 hW9 => ⟨nI 0, rfl, (lf_s_isLine_2 high n iv_a_2 iv_a_3 c1 c3), ht9⟩) (fun _ h => absurd h List.not_mem_nil) dX7_isLine_29
      · refine lv_iconst (v := nI 1) hx hb dX7_isLine_24 (by decide) ?_
        refine lv_goto (tgt := 29) hx hb dX7_isLine_25 (by decide) ?_
        rw [hQ]
        exact W.zret (v := nI 1) hx hb hr (by decide) (fun t9 ht9 hW9 => ⟨nI 1, rfl, (lf_s_isLine_3 high n iv_a_2 iv_a_3 c1 c3), ht9⟩) (fun _ h => absurd h List.not_mem_nil) dX7_isLine_29
    · refine lv_aload_n hx hb dX7_isLine_10 rfl (lv_at hl 0 rfl) ?_
      refine va_get (D := (dC, dI)) (ci := 7) (v := .int (nI wide)) (C := RX7) (T := TX7) (N := 19) hx hb hts hin7 hown hK hP 0 rfl rfl 0 (by decide) (hts (.fieldLink RX7 43 "PorridgeSea$Sea" "wide" "I") (List.mem_of_getElem? (i := 1) rfl)) (fun _ h9 => h9) rfl dX7_isLine_11 ?_
      refine lv_goto (tgt := 21) hx hb dX7_isLine_14 (by decide) ?_
      refine lv_icmp_ge (tgt := 28) hx hb dX7_isLine_21 (by decide) (fun c4 => ?_) (fun c4 => ?_)
      · refine lv_iconst (v := nI 0) hx hb dX7_isLine_28 (by decide) ?_
        rw [hQ]
        exact W.zret (v := nI 0) hx hb hr (by decide) (fun t9 ht9 hW9 => ⟨nI 0, rfl, (lf_s_isLine_4 wide n iv_a_0 iv_a_1 c1 c4), ht9⟩) (fun _ h => absurd h List.not_mem_nil) dX7_isLine_29
      · refine lv_iconst (v := nI 1) hx hb dX7_isLine_24 (by decide) ?_
        refine lv_goto (tgt := 29) hx hb dX7_isLine_25 (by decide) ?_
        rw [hQ]
        exact W.zret (v := nI 1) hx hb hr (by decide) (fun t9 ht9 hW9 => ⟨nI 1, rfl, (lf_s_isLine_5 wide n iv_a_0 iv_a_1 c1 c4), ht9⟩) (fun _ h => absurd h List.not_mem_nil) dX7_isLine_29
set_option maxRecDepth 20000 in
theorem lf_s_isEaten_1 (boats : Nat) (x : Int32) (iv_a_5 : boats ≤ 6) (t3 : 0 ≤ x.toInt) (t4 : x.toInt < boats) : 0 ≤ x.toInt ∧ x.toInt < ((6 : Nat) : Int) := by
  have b_x := ia_b x
  try simp only [ia_lt, ia_le, ia_eq, ia_m1, ia_0, ia_1, ne_eq, true_and, and_true, false_and, and_false, or_false, false_or, or_true, true_or, not_true_eq_false, not_false_eq_true] at *
  all_goals omega
set_option maxRecDepth 20000 in
theorem lf_s_isEaten_2 (boats : Nat) (depthsF : Nat → Int32) (x : Int32) (n7 : Nat) (y10 : Int32) (iv_a_5 : boats ≤ 6) (t3 : 0 ≤ x.toInt) (t4 : x.toInt < boats) (h8 : n7 < 6) (e9 : x = nI n7) (e11 : y10 = depthsF n7) (c12 : y10 < nI 3) : ((nI 0) = nI 1 ∧ (0 ≤ x.toInt ∧ x.toInt < boats)) ∨ ((nI 0) = nI 0 ∧ (True)) := by
  have b_x := ia_b x
  have b_y10 := ia_b y10
  try have k_0 := ia_n n7 (by first | decide | omega)
  try have k_1 := ia_n 3 (by first | decide | omega)
  try have k_2 := ia_n 0 (by first | decide | omega)
  try have k_3 := ia_n 1 (by first | decide | omega)
  try simp only [ia_lt, ia_le, ia_eq, ia_m1, ia_0, ia_1, ne_eq, true_and, and_true, false_and, and_false, or_false, false_or, or_true, true_or, not_true_eq_false, not_false_eq_true] at *
  all_goals omega
set_option maxRecDepth 20000 in
theorem lf_s_isEaten_3 (boats : Nat) (depthsF : Nat → Int32) (x : Int32) (n7 : Nat) (y10 : Int32) (iv_a_5 : boats ≤ 6) (t3 : 0 ≤ x.toInt) (t4 : x.toInt < boats) (h8 : n7 < 6) (e9 : x = nI n7) (e11 : y10 = depthsF n7) (c12 : ¬ y10 < nI 3) : ((nI 1) = nI 1 ∧ (0 ≤ x.toInt ∧ x.toInt < boats)) ∨ ((nI 1) = nI 0 ∧ (True)) := by
  have b_x := ia_b x
  have b_y10 := ia_b y10
  try have k_0 := ia_n n7 (by first | decide | omega)
  try have k_1 := ia_n 3 (by first | decide | omega)
  try have k_2 := ia_n 1 (by first | decide | omega)
  try have k_3 := ia_n 0 (by first | decide | omega)
  try simp only [ia_lt, ia_le, ia_eq, ia_m1, ia_0, ia_1, ne_eq, true_and, and_true, false_and, and_false, or_false, false_or, or_true, true_or, not_true_eq_false, not_false_eq_true] at *
  all_goals omega
set_option maxRecDepth 20000 in
theorem lf_s_isEaten_4 (boats : Nat) (x : Int32) (iv_a_5 : boats ≤ 6) (t5 : ¬ (0 ≤ x.toInt ∧ x.toInt < boats)) : ((nI 0) = nI 1 ∧ (0 ≤ x.toInt ∧ x.toInt < boats)) ∨ ((nI 0) = nI 0 ∧ (True)) := by
  have b_x := ia_b x
  try have k_0 := ia_n 0 (by first | decide | omega)
  try have k_1 := ia_n 1 (by first | decide | omega)
  try simp only [ia_lt, ia_le, ia_eq, ia_m1, ia_0, ia_1, ne_eq, true_and, and_true, false_and, and_false, or_false, false_or, or_true, true_or, not_true_eq_false, not_false_eq_true] at *
  all_goals omega
set_option maxHeartbeats 4000000 in
set_option maxRecDepth 100000 in
theorem c_s_isEaten (l : Launch) (dC : Nat → ClassId) (dI : Nat → Nat → Nat) (ky : Nat → ClassId) (a : Nat) (wide : Nat) (high : Nat) (heat : Int32) (cools : Int32) (skinHeat : Int32) (today : Int32) (stirs : Int32) (steps : Int32) (lumps : Nat) (boats : Nat) (thickness : Nat) (lumpNames : Nat) (lumpCells : Nat) (boatNames : Nat) (boatCells : Nat) (loads : Nat) (spoons : Nat) (spoonsLeft : Nat) (depths : Nat) (depthsF : Nat → Int32) (x : Int32) (iv_a_0 : 2 ≤ wide) (iv_a_1 : wide ≤ 6) (iv_a_2 : 2 ≤ high) (iv_a_3 : high ≤ 6) (iv_a_4 : lumps ≤ 6) (iv_a_5 : boats ≤ 6) : Met l yX7_isEaten wsX7_isEaten ({ frames := 1, cells := 0, slots := 0, locals := 21 }) (PcP dC dI ky [.ref a, .int x] [(a, .inr (7, [.int (nI wide), .int (nI high), .int heat, .int cools, .int skinHeat, .int today, .int stirs, .int steps, .int (nI lumps), .int (nI boats), .ref thickness, .ref lumpNames, .ref lumpCells, .ref boatNames, .ref boatCells, .ref loads, .ref spoons, .ref spoonsLeft, .ref depths])), (depths, .inl (ky 0, 6, .inl depthsF))]) (vp_Si (fun r : Int32 => (r = nI 1 ∧ (0 ≤ x.toInt ∧ x.toInt < boats)) ∨ (r = nI 0 ∧ (True)))) 0 0 (fun _ => False) := by
  refine Met.ofW (cc := cX7_isEaten) (maxL := 2) (ret := (some .boolean)) (by decide) rfl ?_
  intro p e s m args below meth c s₁ B hml hv
  obtain ⟨rfl, hP, hK⟩ := hv
  have hx := B.exec
  have hb := B.bytes
  have hr := B.returns
  have hts := atoms_spec (ws := wsX7_isEaten) B.pre
  have hown : s.vm.findClass RX7 = some m.cls := findClass_of_methodNamed B.named
  have hlocks := B.notSynchronized
  have hin7 : ∀ w ∈ u_ws RX7 TX7 19, w ∈ wsX7_isEaten := by decide +kernel
  have hl := lv_entry ([.ref a, .int x]) (n := 2) (Nat.le_of_ble_eq_true rfl)
  rw [lg_entry_eq]
  generalize (lg_sl ([.ref a, .int x]) ++ List.replicate (2 - (lg_sl ([.ref a, .int x])).length) Slot.unset).toArray = ls at hl ⊢
  have hl : lv_has ls 2 [(0, .ref a), (1, .int x)] := hl
  refine q_name (fun Q hQ => ?_)
  generalize ([.ref a, .int x] : List Value).toArray = args at hts hQ ⊢
  refine lv_aload_n hx hb dX7_isEaten_0 rfl (lv_at hl 0 rfl) ?_
  refine lv_iload_n hx hb dX7_isEaten_1 rfl (lv_at hl 1 rfl) ?_
  refine vp_callSi (W.runV (As := [.int x]) (rest := []) ⟨hx, hb, hml, hown, hts⟩ (c_s_isBoat l dC dI ky a wide high heat cools skinHeat today stirs steps lumps boats thickness lumpNames lumpCells boatNames boatCells loads spoons spoonsLeft depths x iv_a_0 iv_a_1 iv_a_2 iv_a_3 iv_a_4 iv_a_5) (cwV 1 hts gX7_isEaten_X7_isBoat rfl rfl rfl (by decide +kernel) ⟨(Nat.le_of_ble_eq_true rfl), (Nat.le_of_ble_eq_true rfl)⟩) (pre_PV hK hP [0] rfl (ci := 7) (q0 := 0) rfl rfl) rfl rfl hl.1 rfl (lv_room (Nat.le_of_ble_eq_true rfl)) dX7_isEaten_2 ⟨(Nat.le_of_ble_eq_true rfl), (Nat.le_of_ble_eq_true rfl)⟩) (fun r1 p2 => ?_)
  rcases p2 with ⟨rfl, t3, t4⟩ | ⟨rfl, t5⟩
  · refine lv_if_eq (tgt := 22) hx hb dX7_isEaten_5 (by decide) (fun c6 => absurd c6 (by decide)) (fun c6 => ?_)
    refine lv_aload_n hx hb dX7_isEaten_8 rfl (lv_at hl 0 rfl) ?_
    refine va_get (D := (dC, dI)) (ci := 7) (v := .ref depths) (C := RX7) (T := TX7) (N := 19) hx hb hts hin7 hown hK hP 0 rfl rfl 18 (by decide) (hts (.fieldLink RX7 37 "PorridgeSea$Sea" "depths" "[I") (List.mem_of_getElem? (i := 1) rfl)) (fun _ h9 => h9) rfl dX7_isEaten_9 ?_
    refine lv_iload_n hx hb dX7_isEaten_12 rfl (lv_at hl 1 rfl) ?_
    obtain ⟨n7, h8, e9⟩ := nat_of x 6 (by decide) (lf_s_isEaten_1 boats x iv_a_5 t3 t4)
    rw [e9]
    obtain ⟨y10, e11⟩ : ∃ z9, z9 = depthsF n7 := ⟨_, rfl⟩
    refine r_iald hx hb hK hP 1 rfl n7 (by omega) (by decide) y10 e11.symm dX7_isEaten_13 ?_
    refine lv_iconst (v := nI 3) hx hb dX7_isEaten_14 (by decide) ?_
    refine lv_icmp_lt (tgt := 22) hx hb dX7_isEaten_15 (by decide) (fun c12 => ?_) (fun c12 => ?_)
    · refine lv_iconst (v := nI 0) hx hb dX7_isEaten_22 (by decide) ?_
      rw [hQ]
      exact W.zret (v := nI 0) hx hb hr (by decide) (fun t9 ht9 hW9 => ⟨nI 0, rfl, (lf_s_isEaten_2 boats depthsF x n7 y10 iv_a_5 t3 t4 h8 e9 e11 c12), ht9⟩) (fun _ h => absurd h List.not_mem_nil) dX7_isEaten_23
    · refine lv_iconst (v := nI 1) hx hb dX7_isEaten_18 (by decide) ?_
      refine lv_goto (tgt := 23) hx hb dX7_isEaten_19 (by decide) ?_
      rw [hQ]
      exact W.zret (v := nI 1) hx hb hr (by decide) (fun t9 ht9 hW9 => ⟨nI 1, rfl, (lf_s_isEaten_3 boats depthsF x n7 y10 iv_a_5 t3 t4 h8 e9 e11 c12), ht9⟩) (fun _ h => absurd h List.not_mem_nil) dX7_isEaten_23
  · refine lv_if_eq (tgt := 22) hx hb dX7_isEaten_5 (by decide) (fun c13 => ?_) (fun c13 => absurd (by decide) c13)
    refine lv_iconst (v := nI 0) hx hb dX7_isEaten_22 (by decide) ?_
    rw [hQ]
    exact W.zret (v := nI 0) hx hb hr (by decide) (fun t9 ht9 hW9 => ⟨nI 0, rfl, (lf_s_isEaten_4 boats x iv_a_5 t5), ht9⟩) (fun _ h => absurd h List.not_mem_nil) dX7_isEaten_23
set_option maxRecDepth 20000 in
theorem lf_s_hasSkin_1   : (nI 0) = nI 0 ∨ (nI 0) = nI 1 := by
  try have k_0 := ia_n 0 (by first | decide | omega)
  try have k_1 := ia_n 1 (by first | decide | omega)
  try simp only [ia_lt, ia_le, ia_eq, ia_m1, ia_0, ia_1, ne_eq, true_and, and_true, false_and, and_false, or_false, false_or, or_true, true_or, not_true_eq_false, not_false_eq_true] at *
  all_goals omega
set_option maxRecDepth 20000 in
theorem lf_s_hasSkin_2   : (nI 1) = nI 0 ∨ (nI 1) = nI 1 := by
  try have k_0 := ia_n 1 (by first | decide | omega)
  try have k_1 := ia_n 0 (by first | decide | omega)
  try simp only [ia_lt, ia_le, ia_eq, ia_m1, ia_0, ia_1, ne_eq, true_and, and_true, false_and, and_false, or_false, false_or, or_true, true_or, not_true_eq_false, not_false_eq_true] at *
  all_goals omega
set_option maxHeartbeats 4000000 in
set_option maxRecDepth 100000 in
theorem c_s_hasSkin (l : Launch) (dC : Nat → ClassId) (dI : Nat → Nat → Nat) (ky : Nat → ClassId) (a : Nat) (wide : Nat) (high : Nat) (heat : Int32) (cools : Int32) (skinHeat : Int32) (today : Int32) (stirs : Int32) (steps : Int32) (lumps : Nat) (boats : Nat) (thickness : Nat) (lumpNames : Nat) (lumpCells : Nat) (boatNames : Nat) (boatCells : Nat) (loads : Nat) (spoons : Nat) (spoonsLeft : Nat) (depths : Nat) (iv_a_0 : 2 ≤ wide) (iv_a_1 : wide ≤ 6) (iv_a_2 : 2 ≤ high) (iv_a_3 : high ≤ 6) (iv_a_4 : lumps ≤ 6) (iv_a_5 : boats ≤ 6) : Met l yX7_hasSkin wsX7_hasSkin ({ frames := 0, cells := 0, slots := 0, locals := 0 }) (PcP dC dI ky [.ref a] [(a, .inr (7, [.int (nI wide), .int (nI high), .int heat, .int cools, .int skinHeat, .int today, .int stirs, .int steps, .int (nI lumps), .int (nI boats), .ref thickness, .ref lumpNames, .ref lumpCells, .ref boatNames, .ref boatCells, .ref loads, .ref spoons, .ref spoonsLeft, .ref depths]))]) (vp_Si (fun r : Int32 => r = nI 0 ∨ r = nI 1)) 0 0 (fun _ => False) := by
  refine Met.ofW (cc := cX7_hasSkin) (maxL := 1) (ret := (some .boolean)) (by decide) rfl ?_
  intro p e s m args below meth c s₁ B hml hv
  obtain ⟨rfl, hP, hK⟩ := hv
  have hx := B.exec
  have hb := B.bytes
  have hr := B.returns
  have hts := atoms_spec (ws := wsX7_hasSkin) B.pre
  have hown : s.vm.findClass RX7 = some m.cls := findClass_of_methodNamed B.named
  have hlocks := B.notSynchronized
  have hin7 : ∀ w ∈ u_ws RX7 TX7 19, w ∈ wsX7_hasSkin := by decide +kernel
  have hl := lv_entry ([.ref a]) (n := 1) (Nat.le_of_ble_eq_true rfl)
  rw [lg_entry_eq]
  generalize (lg_sl ([.ref a]) ++ List.replicate (1 - (lg_sl ([.ref a])).length) Slot.unset).toArray = ls at hl ⊢
  have hl : lv_has ls 1 [(0, .ref a)] := hl
  refine q_name (fun Q hQ => ?_)
  generalize ([.ref a] : List Value).toArray = args at hts hQ ⊢
  refine lv_aload_n hx hb dX7_hasSkin_0 rfl (lv_at hl 0 rfl) ?_
  refine va_get (D := (dC, dI)) (ci := 7) (v := .int heat) (C := RX7) (T := TX7) (N := 19) hx hb hts hin7 hown hK hP 0 rfl rfl 2 (by decide) (hts (.fieldLink RX7 50 "PorridgeSea$Sea" "heat" "I") (List.mem_of_getElem? (i := 1) rfl)) (fun _ h9 => h9) rfl dX7_hasSkin_1 ?_
  refine lv_aload_n hx hb dX7_hasSkin_4 rfl (lv_at hl 0 rfl) ?_
  refine va_get (D := (dC, dI)) (ci := 7) (v := .int skinHeat) (C := RX7) (T := TX7) (N := 19) hx hb hts hin7 hown hK hP 0 rfl rfl 4 (by decide) (hts (.fieldLink RX7 56 "PorridgeSea$Sea" "skinHeat" "I") (List.mem_of_getElem? (i := 2) rfl)) (fun _ h9 => h9) rfl dX7_hasSkin_5 ?_
  refine lv_icmp_gt (tgt := 15) hx hb dX7_hasSkin_8 (by decide) (fun c1 => ?_) (fun c1 => ?_)
  · refine lv_iconst (v := nI 0) hx hb dX7_hasSkin_15 (by decide) ?_
    rw [hQ]
    exact W.zret (v := nI 0) hx hb hr (by decide) (fun t9 ht9 hW9 => ⟨nI 0, rfl, (lf_s_hasSkin_1), ht9⟩) (fun _ h => absurd h List.not_mem_nil) dX7_hasSkin_16
  · refine lv_iconst (v := nI 1) hx hb dX7_hasSkin_11 (by decide) ?_
    refine lv_goto (tgt := 16) hx hb dX7_hasSkin_12 (by decide) ?_
    rw [hQ]
    exact W.zret (v := nI 1) hx hb hr (by decide) (fun t9 ht9 hW9 => ⟨nI 1, rfl, (lf_s_hasSkin_2), ht9⟩) (fun _ h => absurd h List.not_mem_nil) dX7_hasSkin_16
set_option maxHeartbeats 4000000 in
set_option maxRecDepth 100000 in
theorem c_s_daysLeft (l : Launch) (dC : Nat → ClassId) (dI : Nat → Nat → Nat) (ky : Nat → ClassId) (a : Nat) (wide : Nat) (high : Nat) (heat : Int32) (cools : Int32) (skinHeat : Int32) (today : Int32) (stirs : Int32) (steps : Int32) (lumps : Nat) (boats : Nat) (thickness : Nat) (lumpNames : Nat) (lumpCells : Nat) (boatNames : Nat) (boatCells : Nat) (loads : Nat) (spoons : Nat) (spoonsLeft : Nat) (depths : Nat) (iv_a_0 : 2 ≤ wide) (iv_a_1 : wide ≤ 6) (iv_a_2 : 2 ≤ high) (iv_a_3 : high ≤ 6) (iv_a_4 : lumps ≤ 6) (iv_a_5 : boats ≤ 6) : Met l yX7_daysLeft wsX7_daysLeft ({ frames := 0, cells := 0, slots := 0, locals := 0 }) (PcP dC dI ky [.ref a] [(a, .inr (7, [.int (nI wide), .int (nI high), .int heat, .int cools, .int skinHeat, .int today, .int stirs, .int steps, .int (nI lumps), .int (nI boats), .ref thickness, .ref lumpNames, .ref lumpCells, .ref boatNames, .ref boatCells, .ref loads, .ref spoons, .ref spoonsLeft, .ref depths]))]) (vp_Si (fun r : Int32 => True)) 0 0 (fun _ => False) := by
  refine Met.ofW (cc := cX7_daysLeft) (maxL := 1) (ret := (some .int)) (by decide) rfl ?_
  intro p e s m args below meth c s₁ B hml hv
  obtain ⟨rfl, hP, hK⟩ := hv
  have hx := B.exec
  have hb := B.bytes
  have hr := B.returns
  have hts := atoms_spec (ws := wsX7_daysLeft) B.pre
  have hown : s.vm.findClass RX7 = some m.cls := findClass_of_methodNamed B.named
  have hlocks := B.notSynchronized
  have hin7 : ∀ w ∈ u_ws RX7 TX7 19, w ∈ wsX7_daysLeft := by decide +kernel
  have hl := lv_entry ([.ref a]) (n := 1) (Nat.le_of_ble_eq_true rfl)
  rw [lg_entry_eq]
  generalize (lg_sl ([.ref a]) ++ List.replicate (1 - (lg_sl ([.ref a])).length) Slot.unset).toArray = ls at hl ⊢
  have hl : lv_has ls 1 [(0, .ref a)] := hl
  refine q_name (fun Q hQ => ?_)
  generalize ([.ref a] : List Value).toArray = args at hts hQ ⊢
  refine lv_sipush (v := nI 400) hx hb dX7_daysLeft_0 (by decide) ?_
  refine lv_aload_n hx hb dX7_daysLeft_3 rfl (lv_at hl 0 rfl) ?_
  refine va_get (D := (dC, dI)) (ci := 7) (v := .int today) (C := RX7) (T := TX7) (N := 19) hx hb hts hin7 hown hK hP 0 rfl rfl 5 (by decide) (hts (.fieldLink RX7 59 "PorridgeSea$Sea" "today" "I") (List.mem_of_getElem? (i := 1) rfl)) (fun _ h9 => h9) rfl dX7_daysLeft_4 ?_
  refine lv_isub hx hb dX7_daysLeft_7 ?_
  refine lv_topi (fun y1 e2 => ?_)
  rw [hQ]
  exact W.iret (v := y1) hx hb hr (fun t9 ht9 hW9 => ⟨y1, rfl, trivial, ht9⟩) (fun _ h => absurd h List.not_mem_nil) dX7_daysLeft_8
set_option maxRecDepth 20000 in
theorem lf_s_thicknessIn_1 (x : Int32) (c1 : ¬ x < 0) (c2 : ¬ nI 36 ≤ x) : 0 ≤ x.toInt ∧ x.toInt < ((36 : Nat) : Int) := by
  have b_x := ia_b x
  try have k_0 := ia_n 36 (by first | decide | omega)
  try simp only [ia_lt, ia_le, ia_eq, ia_m1, ia_0, ia_1, ne_eq, true_and, and_true, false_and, and_false, or_false, false_or, or_true, true_or, not_true_eq_false, not_false_eq_true] at *
  all_goals omega
set_option maxHeartbeats 4000000 in
set_option maxRecDepth 100000 in
theorem c_s_thicknessIn (l : Launch) (dC : Nat → ClassId) (dI : Nat → Nat → Nat) (ky : Nat → ClassId) (a : Nat) (wide : Nat) (high : Nat) (heat : Int32) (cools : Int32) (skinHeat : Int32) (today : Int32) (stirs : Int32) (steps : Int32) (lumps : Nat) (boats : Nat) (thickness : Nat) (lumpNames : Nat) (lumpCells : Nat) (boatNames : Nat) (boatCells : Nat) (loads : Nat) (spoons : Nat) (spoonsLeft : Nat) (depths : Nat) (thicknessF : Nat → Int32) (x : Int32) (iv_a_0 : 2 ≤ wide) (iv_a_1 : wide ≤ 6) (iv_a_2 : 2 ≤ high) (iv_a_3 : high ≤ 6) (iv_a_4 : lumps ≤ 6) (iv_a_5 : boats ≤ 6) : Met l yX7_thicknessIn wsX7_thicknessIn ({ frames := 0, cells := 0, slots := 0, locals := 0 }) (PcP dC dI ky [.ref a, .int x] [(a, .inr (7, [.int (nI wide), .int (nI high), .int heat, .int cools, .int skinHeat, .int today, .int stirs, .int steps, .int (nI lumps), .int (nI boats), .ref thickness, .ref lumpNames, .ref lumpCells, .ref boatNames, .ref boatCells, .ref loads, .ref spoons, .ref spoonsLeft, .ref depths])), (thickness, .inl (ky 0, 36, .inl thicknessF))]) (vp_Si (fun r : Int32 => True)) 0 0 (fun _ => False) := by
  refine Met.ofW (cc := cX7_thicknessIn) (maxL := 2) (ret := (some .int)) (by decide) rfl ?_
  intro p e s m args below meth c s₁ B hml hv
  obtain ⟨rfl, hP, hK⟩ := hv
  have hx := B.exec
  have hb := B.bytes
  have hr := B.returns
  have hts := atoms_spec (ws := wsX7_thicknessIn) B.pre
  have hown : s.vm.findClass RX7 = some m.cls := findClass_of_methodNamed B.named
  have hlocks := B.notSynchronized
  have hin7 : ∀ w ∈ u_ws RX7 TX7 19, w ∈ wsX7_thicknessIn := by decide +kernel
  have hl := lv_entry ([.ref a, .int x]) (n := 2) (Nat.le_of_ble_eq_true rfl)
  rw [lg_entry_eq]
  generalize (lg_sl ([.ref a, .int x]) ++ List.replicate (2 - (lg_sl ([.ref a, .int x])).length) Slot.unset).toArray = ls at hl ⊢
  have hl : lv_has ls 2 [(0, .ref a), (1, .int x)] := hl
  refine q_name (fun Q hQ => ?_)
  generalize ([.ref a, .int x] : List Value).toArray = args at hts hQ ⊢
  refine lv_iload_n hx hb dX7_thicknessIn_0 rfl (lv_at hl 1 rfl) ?_
  refine lv_if_lt (tgt := 19) hx hb dX7_thicknessIn_1 (by decide) (fun c1 => ?_) (fun c1 => ?_)
  · refine lv_iconst (v := nI 0) hx hb dX7_thicknessIn_19 (by decide) ?_
    rw [hQ]
    exact W.iret (v := nI 0) hx hb hr (fun t9 ht9 hW9 => ⟨nI 0, rfl, trivial, ht9⟩) (fun _ h => absurd h List.not_mem_nil) dX7_thicknessIn_20
  · refine lv_iload_n hx hb dX7_thicknessIn_4 rfl (lv_at hl 1 rfl) ?_
    refine lv_bipush (v := nI 36) hx hb dX7_thicknessIn_5 (by decide) ?_
    refine lv_icmp_ge (tgt := 19) hx hb dX7_thicknessIn_7 (by decide) (fun c2 => ?_) (fun c2 => ?_)
    · refine lv_iconst (v := nI 0) hx hb dX7_thicknessIn_19 (by decide) ?_
      rw [hQ]
      exact W.iret (v := nI 0) hx hb hr (fun t9 ht9 hW9 => ⟨nI 0, rfl, trivial, ht9⟩) (fun _ h => absurd h List.not_mem_nil) dX7_thicknessIn_20
    · refine lv_aload_n hx hb dX7_thicknessIn_10 rfl (lv_at hl 0 rfl) ?_
      refine va_get (D := (dC, dI)) (ci := 7) (v := .ref thickness) (C := RX7) (T := TX7) (N := 19) hx hb hts hin7 hown hK hP 0 rfl rfl 10 (by decide) (hts (.fieldLink RX7 9 "PorridgeSea$Sea" "thickness" "[I") (List.mem_of_getElem? (i := 1) rfl)) (fun _ h9 => h9) rfl dX7_thicknessIn_11 ?_
      refine lv_iload_n hx hb dX7_thicknessIn_14 rfl (lv_at hl 1 rfl) ?_
      obtain ⟨n3, h4, e5⟩ := nat_of x 36 (by decide) (lf_s_thicknessIn_1 x c1 c2)
      rw [e5]
      obtain ⟨y6, e7⟩ : ∃ z9, z9 = thicknessF n3 := ⟨_, rfl⟩
      refine r_iald hx hb hK hP 1 rfl n3 (by omega) (by decide) y6 e7.symm dX7_thicknessIn_15 ?_
      refine lv_goto (tgt := 20) hx hb dX7_thicknessIn_16 (by decide) ?_
      rw [hQ]
      exact W.iret (v := y6) hx hb hr (fun t9 ht9 hW9 => ⟨y6, rfl, trivial, ht9⟩) (fun _ h => absurd h List.not_mem_nil) dX7_thicknessIn_20
set_option maxRecDepth 20000 in
theorem lf_s_boatNamed_1 (boats : Nat) (boatNamesF : Nat → Int64) (k5 : Nat) (n8 : Nat) (y12 : Int64) (iv_a_5 : boats ≤ 6) (j6 : k5 ≤ 6) (hm10 : 6 - k5 < n8 + 1) (c11 : k5 < boats) (e13 : y12 = boatNamesF k5) : (k5 + 1) ≤ 6 := by
  have b_y12 := Int64.toInt_lt y12
  try simp only [ia_lt, ia_le, ia_eq, ia_m1, ia_0, ia_1, ne_eq, true_and, and_true, false_and, and_false, or_false, false_or, or_true, true_or, not_true_eq_false, not_false_eq_true] at *
  all_goals omega
set_option maxRecDepth 20000 in
theorem lf_s_boatNamed_2 (boats : Nat) (boatNamesF : Nat → Int64) (k5 : Nat) (n8 : Nat) (y12 : Int64) (iv_a_5 : boats ≤ 6) (j6 : k5 ≤ 6) (hm10 : 6 - k5 < n8 + 1) (c11 : k5 < boats) (e13 : y12 = boatNamesF k5) : 6 - (k5 + 1) < n8 := by
  have b_y12 := Int64.toInt_lt y12
  try simp only [ia_lt, ia_le, ia_eq, ia_m1, ia_0, ia_1, ne_eq, true_and, and_true, false_and, and_false, or_false, false_or, or_true, true_or, not_true_eq_false, not_false_eq_true] at *
  all_goals omega
set_option maxRecDepth 20000 in
theorem lf_s_boatNamed_3 (boats : Nat) (boatNamesF : Nat → Int64) (k5 : Nat) (n8 : Nat) (y12 : Int64) (iv_a_5 : boats ≤ 6) (j6 : k5 ≤ 6) (hm10 : 6 - k5 < n8 + 1) (c11 : k5 < boats) (e13 : y12 = boatNamesF k5) : k5 < boats := by
  have b_y12 := Int64.toInt_lt y12
  try simp only [ia_lt, ia_le, ia_eq, ia_m1, ia_0, ia_1, ne_eq, true_and, and_true, false_and, and_false, or_false, false_or, or_true, true_or, not_true_eq_false, not_false_eq_true] at *
  all_goals omega
set_option maxRecDepth 20000 in
theorem lf_s_boatNamed_4   : 0 ≤ 6 := by
  try simp only [ia_lt, ia_le, ia_eq, ia_m1, ia_0, ia_1, ne_eq, true_and, and_true, false_and, and_false, or_false, false_or, or_true, true_or, not_true_eq_false, not_false_eq_true] at *
  all_goals omega
set_option maxHeartbeats 4000000 in
set_option maxRecDepth 100000 in
theorem c_s_boatNamed (l : Launch) (dC : Nat → ClassId) (dI : Nat → Nat → Nat) (ky : Nat → ClassId) (a : Nat) (wide : Nat) (high : Nat) (heat : Int32) (cools : Int32) (skinHeat : Int32) (today : Int32) (stirs : Int32) (steps : Int32) (lumps : Nat) (boats : Nat) (thickness : Nat) (lumpNames : Nat) (lumpCells : Nat) (boatNames : Nat) (boatCells : Nat) (loads : Nat) (spoons : Nat) (spoonsLeft : Nat) (depths : Nat) (boatNamesF : Nat → Int64) (name : Int64) (iv_a_0 : 2 ≤ wide) (iv_a_1 : wide ≤ 6) (iv_a_2 : 2 ≤ high) (iv_a_3 : high ≤ 6) (iv_a_4 : lumps ≤ 6) (iv_a_5 : boats ≤ 6) : Met l yX7_boatNamed wsX7_boatNamed ({ frames := 0, cells := 0, slots := 0, locals := 0 }) (PcP dC dI ky [.ref a, .long name] [(a, .inr (7, [.int (nI wide), .int (nI high), .int heat, .int cools, .int skinHeat, .int today, .int stirs, .int steps, .int (nI lumps), .int (nI boats), .ref thickness, .ref lumpNames, .ref lumpCells, .ref boatNames, .ref boatCells, .ref loads, .ref spoons, .ref spoonsLeft, .ref depths])), (boatNames, .inl (ky 1, 6, .inr (.inl boatNamesF)))]) (vp_Si (fun r : Int32 => r = (-1 : Int32) ∨ (∃ k9 : Nat, (k9 < boats) ∧ r = nI k9))) 0 0 (fun _ => False) := by
  refine Met.ofW (cc := cX7_boatNamed) (maxL := 4) (ret := (some .int)) (by decide) rfl ?_
  intro p e s m args below meth c s₁ B hml hv
  obtain ⟨rfl, hP, hK⟩ := hv
  have hx := B.exec
  have hb := B.bytes
  have hr := B.returns
  have hts := atoms_spec (ws := wsX7_boatNamed) B.pre
  have hown : s.vm.findClass RX7 = some m.cls := findClass_of_methodNamed B.named
  have hlocks := B.notSynchronized
  have hin7 : ∀ w ∈ u_ws RX7 TX7 19, w ∈ wsX7_boatNamed := by decide +kernel
  have hl := lv_entry ([.ref a, .long name]) (n := 4) (Nat.le_of_ble_eq_true rfl)
  rw [lg_entry_eq]
  generalize (lg_sl ([.ref a, .long name]) ++ List.replicate (4 - (lg_sl ([.ref a, .long name])).length) Slot.unset).toArray = ls at hl ⊢
  have hl : lv_has ls 4 [(0, .ref a), (1, .long name)] := hl
  refine q_name (fun Q hQ => ?_)
  generalize ([.ref a, .long name] : List Value).toArray = args at hts hQ ⊢
  refine lv_iconst (v := nI 0) hx hb dX7_boatNamed_0 (by decide) ?_
  refine lv_istore_n (lv' := [(3, .int (nI 0)), (0, .ref a), (1, .long name)]) hx hb dX7_boatNamed_1 rfl hl (by decide) rfl (fun ls hl => ?_)
  have hL7 : ∀ (n8 : Nat) (k5 : Nat), (k5 ≤ 6) → 6 - k5 < n8 → ∀ (ls : Array Slot), lv_has ls 4 [(3, .int (nI k5)), (0, .ref a), (1, .long name)] → W p l e (headSpec wsX7_boatNamed ({ frames := 0, cells := 0, slots := 0, locals := 0 })).room s m args below meth c s.heap [] 0 0 Q (F0 m 2 ls []) := by
    intro n8
    induction n8 with
    | zero => intro k5 _ h9; exact absurd h9 (Nat.not_lt_zero _)
    | succ n8 ih9 =>
      intro k5 j6 hm10 ls hl
      refine lv_iload_n hx hb dX7_boatNamed_2 rfl (lv_at hl 0 rfl) ?_
      refine lv_aload_n hx hb dX7_boatNamed_3 rfl (lv_at hl 1 rfl) ?_
      refine va_get (D := (dC, dI)) (ci := 7) (v := .int (nI boats)) (C := RX7) (T := TX7) (N := 19) hx hb hts hin7 hown hK hP 0 rfl rfl 9 (by decide) (hts (.fieldLink RX7 71 "PorridgeSea$Sea" "boats" "I") (List.mem_of_getElem? (i := 1) rfl)) (fun _ h9 => h9) rfl dX7_boatNamed_4 ?_
      refine n_icmp_ge (x := k5) (y := boats) (tgt := 29) hx hb (by omega) (by omega) dX7_boatNamed_7 (by decide) (fun c11 => ?_) (fun c11 => ?_)
      · refine lv_iconst (v := (-1 : Int32)) hx hb dX7_boatNamed_29 (by decide) ?_
        rw [hQ]
        exact W.iret (v := (-1 : Int32)) hx hb hr (fun t9 ht9 hW9 => ⟨(-1 : Int32), rfl, (Or.inl rfl), ht9⟩) (fun _ h => absurd h List.not_mem_nil) dX7_boatNamed_30
      · refine lv_aload_n hx hb dX7_boatNamed_10 rfl (lv_at hl 1 rfl) ?_
        refine va_get (D := (dC, dI)) (ci := 7) (v := .ref boatNames) (C := RX7) (T := TX7) (N := 19) hx hb hts hin7 hown hK hP 0 rfl rfl 13 (by decide) (hts (.fieldLink RX7 22 "PorridgeSea$Sea" "boatNames" "[J") (List.mem_of_getElem? (i := 2) rfl)) (fun _ h9 => h9) rfl dX7_boatNamed_11 ?_
        refine lv_iload_n hx hb dX7_boatNamed_14 rfl (lv_at hl 0 rfl) ?_
        obtain ⟨y12, e13⟩ : ∃ z9, z9 = boatNamesF k5 := ⟨_, rfl⟩
        refine r_lald hx hb hK hP 1 rfl k5 (by omega) (by decide) y12 e13.symm dX7_boatNamed_15 ?_
        refine lv_lload_n hx hb dX7_boatNamed_16 rfl (lv_at hl 2 rfl) ?_
        refine W.lcmp hx hb dX7_boatNamed_17 ?_
        refine lv_topi (fun y14 e15 => ?_)
        refine lv_if_ne (tgt := 23) hx hb dX7_boatNamed_18 (by decide) (fun c16 => ?_) (fun c16 => ?_)
        · refine lv_iinc (v := nI (k5 + 1)) (lv' := [(3, .int (nI (k5 + 1))), (0, .ref a), (1, .long name)]) hx hb dX7_boatNamed_23 hl (k := 0) rfl (show nI k5 + nI 1 = nI (k5 + 1) from nI_add _ _) (by decide) rfl (fun ls hl => ?_)
          refine lv_goto (tgt := 2) hx hb dX7_boatNamed_26 (by decide) ?_
          exact ih9 (k5 + 1) (lf_s_boatNamed_1 boats boatNamesF k5 n8 y12 iv_a_5 j6 hm10 c11 e13) (lf_s_boatNamed_2 boats boatNamesF k5 n8 y12 iv_a_5 j6 hm10 c11 e13) _ (lv_sub hl [0, 1, 2] rfl)
        · refine lv_iload_n hx hb dX7_boatNamed_21 rfl (lv_at hl 0 rfl) ?_
          rw [hQ]
          exact W.iret (v := nI k5) hx hb hr (fun t9 ht9 hW9 => ⟨nI k5, rfl, (Or.inr ⟨k5, (lf_s_boatNamed_3 boats boatNamesF k5 n8 y12 iv_a_5 j6 hm10 c11 e13), rfl⟩), ht9⟩) (fun _ h => absurd h List.not_mem_nil) dX7_boatNamed_22
  exact hL7 ((6 - 0) + 1) 0 (lf_s_boatNamed_4) (Nat.lt_succ_self _) _ (lv_sub hl [0, 1, 2] rfl)
set_option maxRecDepth 20000 in
theorem lf_s_hasLumpIn_1   : (nI 0) = nI 0 ∨ (nI 0) = nI 1 := by
  try have k_0 := ia_n 0 (by first | decide | omega)
  try have k_1 := ia_n 1 (by first | decide | omega)
  try simp only [ia_lt, ia_le, ia_eq, ia_m1, ia_0, ia_1, ne_eq, true_and, and_true, false_and, and_false, or_false, false_or, or_true, true_or, not_true_eq_false, not_false_eq_true] at *
  all_goals omega
set_option maxRecDepth 20000 in
theorem lf_s_hasLumpIn_2 (lumps : Nat) (lumpCellsF : Nat → Int32) (x : Int32) (k5 : Nat) (n8 : Nat) (y12 : Int32) (iv_a_4 : lumps ≤ 6) (j6 : k5 ≤ 6) (hm10 : 6 - k5 < n8 + 1) (c11 : k5 < lumps) (e13 : y12 = lumpCellsF k5) (c14 : y12 ≠ x) : (k5 + 1) ≤ 6 := by
  have b_x := ia_b x
  have b_y12 := ia_b y12
  try simp only [ia_lt, ia_le, ia_eq, ia_m1, ia_0, ia_1, ne_eq, true_and, and_true, false_and, and_false, or_false, false_or, or_true, true_or, not_true_eq_false, not_false_eq_true] at *
  all_goals omega
set_option maxRecDepth 20000 in
theorem lf_s_hasLumpIn_3 (lumps : Nat) (lumpCellsF : Nat → Int32) (x : Int32) (k5 : Nat) (n8 : Nat) (y12 : Int32) (iv_a_4 : lumps ≤ 6) (j6 : k5 ≤ 6) (hm10 : 6 - k5 < n8 + 1) (c11 : k5 < lumps) (e13 : y12 = lumpCellsF k5) (c14 : y12 ≠ x) : 6 - (k5 + 1) < n8 := by
  have b_x := ia_b x
  have b_y12 := ia_b y12
  try simp only [ia_lt, ia_le, ia_eq, ia_m1, ia_0, ia_1, ne_eq, true_and, and_true, false_and, and_false, or_false, false_or, or_true, true_or, not_true_eq_false, not_false_eq_true] at *
  all_goals omega
set_option maxRecDepth 20000 in
theorem lf_s_hasLumpIn_4   : (nI 1) = nI 0 ∨ (nI 1) = nI 1 := by
  try have k_0 := ia_n 1 (by first | decide | omega)
  try have k_1 := ia_n 0 (by first | decide | omega)
  try simp only [ia_lt, ia_le, ia_eq, ia_m1, ia_0, ia_1, ne_eq, true_and, and_true, false_and, and_false, or_false, false_or, or_true, true_or, not_true_eq_false, not_false_eq_true] at *
  all_goals omega
set_option maxRecDepth 20000 in
theorem lf_s_hasLumpIn_5   : 0 ≤ 6 := by
  try simp only [ia_lt, ia_le, ia_eq, ia_m1, ia_0, ia_1, ne_eq, true_and, and_true, false_and, and_false, or_false, false_or, or_true, true_or, not_true_eq_false, not_false_eq_true] at *
  all_goals omega
set_option maxHeartbeats 4000000 in
set_option maxRecDepth 100000 in
theorem c_s_hasLumpIn (l : Launch) (dC : Nat → ClassId) (dI : Nat → Nat → Nat) (ky : Nat → ClassId) (a : Nat) (wide : Nat) (high : Nat) (heat : Int32) (cools : Int32) (skinHeat : Int32) (today : Int32) (stirs : Int32) (steps : Int32) (lumps : Nat) (boats : Nat) (thickness : Nat) (lumpNames : Nat) (lumpCells : Nat) (boatNames : Nat) (boatCells : Nat) (loads : Nat) (spoons : Nat) (spoonsLeft : Nat) (depths : Nat) (lumpCellsF : Nat → Int32) (x : Int32) (iv_a_0 : 2 ≤ wide) (iv_a_1 : wide ≤ 6) (iv_a_2 : 2 ≤ high) (iv_a_3 : high ≤ 6) (iv_a_4 : lumps ≤ 6) (iv_a_5 : boats ≤ 6) : Met l yX7_hasLumpIn wsX7_hasLumpIn ({ frames := 0, cells := 0, slots := 0, locals := 0 }) (PcP dC dI ky [.ref a, .int x] [(a, .inr (7, [.int (nI wide), .int (nI high), .int heat, .int cools, .int skinHeat, .int today, .int stirs, .int steps, .int (nI lumps), .int (nI boats), .ref thickness, .ref lumpNames, .ref lumpCells, .ref boatNames, .ref boatCells, .ref loads, .ref spoons, .ref spoonsLeft, .ref depths])), (lumpCells, .inl (ky 0, 6, .inl lumpCellsF))]) (vp_Si (fun r : Int32 => r = nI 0 ∨ r = nI 1)) 0 0 (fun _ => False) := by
  refine Met.ofW (cc := cX7_hasLumpIn) (maxL := 3) (ret := (some .boolean)) (by decide) rfl ?_
  intro p e s m args below meth c s₁ B hml hv
  obtain ⟨rfl, hP, hK⟩ := hv
  have hx := B.exec
  have hb := B.bytes
  have hr := B.returns
  have hts := atoms_spec (ws := wsX7_hasLumpIn) B.pre
  have hown : s.vm.findClass RX7 = some m.cls := findClass_of_methodNamed B.named
  have hlocks := B.notSynchronized
  have hin7 : ∀ w ∈ u_ws RX7 TX7 19, w ∈ wsX7_hasLumpIn := by decide +kernel
  have hl := lv_entry ([.ref a, .int x]) (n := 3) (Nat.le_of_ble_eq_true rfl)
  rw [lg_entry_eq]
  generalize (lg_sl ([.ref a, .int x]) ++ List.replicate (3 - (lg_sl ([.ref a, .int x])).length) Slot.unset).toArray = ls at hl ⊢
  have hl : lv_has ls 3 [(0, .ref a), (1, .int x)] := hl
  refine q_name (fun Q hQ => ?_)
  generalize ([.ref a, .int x] : List Value).toArray = args at hts hQ ⊢
  refine lv_iconst (v := nI 0) hx hb dX7_hasLumpIn_0 (by decide) ?_
  refine lv_istore_n (lv' := [(2, .int (nI 0)), (0, .ref a), (1, .int x)]) hx hb dX7_hasLumpIn_1 rfl hl (by decide) rfl (fun ls hl => ?_)
  have hL7 : ∀ (n8 : Nat) (k5 : Nat), (k5 ≤ 6) → 6 - k5 < n8 → ∀ (ls : Array Slot), lv_has ls 3 [(2, .int (nI k5)), (0, .ref a), (1, .int x)] → W p l e (headSpec wsX7_hasLumpIn ({ frames := 0, cells := 0, slots := 0, locals := 0 })).room s m args below meth c s.heap [] 0 0 Q (F0 m 2 ls []) := by
    intro n8
    induction n8 with
    | zero => intro k5 _ h9; exact absurd h9 (Nat.not_lt_zero _)
    | succ n8 ih9 =>
      intro k5 j6 hm10 ls hl
      refine lv_iload_n hx hb dX7_hasLumpIn_2 rfl (lv_at hl 0 rfl) ?_
      refine lv_aload_n hx hb dX7_hasLumpIn_3 rfl (lv_at hl 1 rfl) ?_
      refine va_get (D := (dC, dI)) (ci := 7) (v := .int (nI lumps)) (C := RX7) (T := TX7) (N := 19) hx hb hts hin7 hown hK hP 0 rfl rfl 8 (by decide) (hts (.fieldLink RX7 68 "PorridgeSea$Sea" "lumps" "I") (List.mem_of_getElem? (i := 1) rfl)) (fun _ h9 => h9) rfl dX7_hasLumpIn_4 ?_
      refine n_icmp_ge (x := k5) (y := lumps) (tgt := 28) hx hb (by omega) (by omega) dX7_hasLumpIn_7 (by decide) (fun c11 => ?_) (fun c11 => ?_)
      · refine lv_iconst (v := nI 0) hx hb dX7_hasLumpIn_28 (by decide) ?_
        rw [hQ]
        exact W.zret (v := nI 0) hx hb hr (by decide) (fun t9 ht9 hW9 => ⟨nI 0, rfl, (lf_s_hasLumpIn_1), ht9⟩) (fun _ h => absurd h List.not_mem_nil) dX7_hasLumpIn_29
      · refine lv_aload_n hx hb dX7_hasLumpIn_10 rfl (lv_at hl 1 rfl) ?_
        refine va_get (D := (dC, dI)) (ci := 7) (v := .ref lumpCells) (C := RX7) (T := TX7) (N := 19) hx hb hts hin7 hown hK hP 0 rfl rfl 12 (by decide) (hts (.fieldLink RX7 19 "PorridgeSea$Sea" "lumpCells" "[I") (List.mem_of_getElem? (i := 2) rfl)) (fun _ h9 => h9) rfl dX7_hasLumpIn_11 ?_
        refine lv_iload_n hx hb dX7_hasLumpIn_14 rfl (lv_at hl 0 rfl) ?_
        obtain ⟨y12, e13⟩ : ∃ z9, z9 = lumpCellsF k5 := ⟨_, rfl⟩
        refine r_iald hx hb hK hP 1 rfl k5 (by omega) (by decide) y12 e13.symm dX7_hasLumpIn_15 ?_
        refine lv_iload_n hx hb dX7_hasLumpIn_16 rfl (lv_at hl 2 rfl) ?_
        refine lv_icmp_ne (tgt := 22) hx hb dX7_hasLumpIn_17 (by decide) (fun c14 => ?_) (fun c14 => ?_)
        · refine lv_iinc (v := nI (k5 + 1)) (lv' := [(2, .int (nI (k5 + 1))), (0, .ref a), (1, .int x)]) hx hb dX7_hasLumpIn_22 hl (k := 0) rfl (show nI k5 + nI 1 = nI (k5 + 1) from nI_add _ _) (by decide) rfl (fun ls hl => ?_)
          refine lv_goto (tgt := 2) hx hb dX7_hasLumpIn_25 (by decide) ?_
          exact ih9 (k5 + 1) (lf_s_hasLumpIn_2 lumps lumpCellsF x k5 n8 y12 iv_a_4 j6 hm10 c11 e13 c14) (lf_s_hasLumpIn_3 lumps lumpCellsF x k5 n8 y12 iv_a_4 j6 hm10 c11 e13 c14) _ (lv_sub hl [0, 1, 2] rfl)
        · refine lv_iconst (v := nI 1) hx hb dX7_hasLumpIn_20 (by decide) ?_
          rw [hQ]
          exact W.zret (v := nI 1) hx hb hr (by decide) (fun t9 ht9 hW9 => ⟨nI 1, rfl, (lf_s_hasLumpIn_4), ht9⟩) (fun _ h => absurd h List.not_mem_nil) dX7_hasLumpIn_21
  exact hL7 ((6 - 0) + 1) 0 (lf_s_hasLumpIn_5) (Nat.lt_succ_self _) _ (lv_sub hl [0, 1, 2] rfl)
set_option maxRecDepth 20000 in
theorem lf_s_wouldFloat_1   : (nI 1) = nI 0 ∨ (nI 1) = nI 1 := by
  try have k_0 := ia_n 1 (by first | decide | omega)
  try have k_1 := ia_n 0 (by first | decide | omega)
  try simp only [ia_lt, ia_le, ia_eq, ia_m1, ia_0, ia_1, ne_eq, true_and, and_true, false_and, and_false, or_false, false_or, or_true, true_or, not_true_eq_false, not_false_eq_true] at *
  all_goals omega
set_option maxRecDepth 20000 in
theorem lf_s_wouldFloat_2   : (nI 1) = nI 0 ∨ (nI 1) = nI 1 := by
  try have k_0 := ia_n 1 (by first | decide | omega)
  try have k_1 := ia_n 0 (by first | decide | omega)
  try simp only [ia_lt, ia_le, ia_eq, ia_m1, ia_0, ia_1, ne_eq, true_and, and_true, false_and, and_false, or_false, false_or, or_true, true_or, not_true_eq_false, not_false_eq_true] at *
  all_goals omega
set_option maxRecDepth 20000 in
theorem lf_s_wouldFloat_3 (boats : Nat) (x : Int32) (iv_a_5 : boats ≤ 6) (t3 : 0 ≤ x.toInt) (t4 : x.toInt < boats) (p14 : True) : 0 ≤ x.toInt ∧ x.toInt < ((6 : Nat) : Int) := by
  have b_x := ia_b x
  try simp only [ia_lt, ia_le, ia_eq, ia_m1, ia_0, ia_1, ne_eq, true_and, and_true, false_and, and_false, or_false, false_or, or_true, true_or, not_true_eq_false, not_false_eq_true] at *
  all_goals omega
set_option maxRecDepth 20000 in
theorem lf_s_wouldFloat_4  (p14 : True) : (nI 0) = nI 0 ∨ (nI 0) = nI 1 := by
  try have k_0 := ia_n 0 (by first | decide | omega)
  try have k_1 := ia_n 1 (by first | decide | omega)
  try simp only [ia_lt, ia_le, ia_eq, ia_m1, ia_0, ia_1, ne_eq, true_and, and_true, false_and, and_false, or_false, false_or, or_true, true_or, not_true_eq_false, not_false_eq_true] at *
  all_goals omega
set_option maxRecDepth 20000 in
theorem lf_s_wouldFloat_5  (p14 : True) : (nI 1) = nI 0 ∨ (nI 1) = nI 1 := by
  try have k_0 := ia_n 1 (by first | decide | omega)
  try have k_1 := ia_n 0 (by first | decide | omega)
  try simp only [ia_lt, ia_le, ia_eq, ia_m1, ia_0, ia_1, ne_eq, true_and, and_true, false_and, and_false, or_false, false_or, or_true, true_or, not_true_eq_false, not_false_eq_true] at *
  all_goals omega
set_option maxRecDepth 20000 in
theorem lf_s_wouldFloat_6   : (nI 0) = nI 0 ∨ (nI 0) = nI 1 := by
  try have k_0 := ia_n 0 (by first | decide | omega)
  try have k_1 := ia_n 1 (by first | decide | omega)
  try simp only [ia_lt, ia_le, ia_eq, ia_m1, ia_0, ia_1, ne_eq, true_and, and_true, false_and, and_false, or_false, false_or, or_true, true_or, not_true_eq_false, not_false_eq_true] at *
  all_goals omega
set_option maxHeartbeats 4000000 in
set_option maxRecDepth 100000 in
theorem c_s_wouldFloat (l : Launch) (dC : Nat → ClassId) (dI : Nat → Nat → Nat) (ky : Nat → ClassId) (a : Nat) (wide : Nat) (high : Nat) (heat : Int32) (cools : Int32) (skinHeat : Int32) (today : Int32) (stirs : Int32) (steps : Int32) (lumps : Nat) (boats : Nat) (thickness : Nat) (lumpNames : Nat) (lumpCells : Nat) (boatNames : Nat) (boatCells : Nat) (loads : Nat) (spoons : Nat) (spoonsLeft : Nat) (depths : Nat) (thicknessF : Nat → Int32) (lumpCellsF : Nat → Int32) (loadsF : Nat → Int32) (x : Int32) (y : Int32) (iv_a_0 : 2 ≤ wide) (iv_a_1 : wide ≤ 6) (iv_a_2 : 2 ≤ high) (iv_a_3 : high ≤ 6) (iv_a_4 : lumps ≤ 6) (iv_a_5 : boats ≤ 6) : Met l yX7_wouldFloat wsX7_wouldFloat ({ frames := 1, cells := 0, slots := 0, locals := 22 }) (PcP dC dI ky [.ref a, .int x, .int y] [(a, .inr (7, [.int (nI wide), .int (nI high), .int heat, .int cools, .int skinHeat, .int today, .int stirs, .int steps, .int (nI lumps), .int (nI boats), .ref thickness, .ref lumpNames, .ref lumpCells, .ref boatNames, .ref boatCells, .ref loads, .ref spoons, .ref spoonsLeft, .ref depths])), (thickness, .inl (ky 0, 36, .inl thicknessF)), (lumpCells, .inl (ky 0, 6, .inl lumpCellsF)), (loads, .inl (ky 0, 6, .inl loadsF))]) (vp_Si (fun r : Int32 => r = nI 0 ∨ r = nI 1)) 0 0 (fun _ => False) := by
  refine Met.ofW (cc := cX7_wouldFloat) (maxL := 3) (ret := (some .boolean)) (by decide) rfl ?_
  intro p e s m args below meth c s₁ B hml hv
  obtain ⟨rfl, hP, hK⟩ := hv
  have hx := B.exec
  have hb := B.bytes
  have hr := B.returns
  have hts := atoms_spec (ws := wsX7_wouldFloat) B.pre
  have hown : s.vm.findClass RX7 = some m.cls := findClass_of_methodNamed B.named
  have hlocks := B.notSynchronized
  have hin7 : ∀ w ∈ u_ws RX7 TX7 19, w ∈ wsX7_wouldFloat := by decide +kernel
  have hl := lv_entry ([.ref a, .int x, .int y]) (n := 3) (Nat.le_of_ble_eq_true rfl)
  rw [lg_entry_eq]
  generalize (lg_sl ([.ref a, .int x, .int y]) ++ List.replicate (3 - (lg_sl ([.ref a, .int x, .int y])).length) Slot.unset).toArray = ls at hl ⊢
  have hl : lv_has ls 3 [(0, .ref a), (1, .int x), (2, .int y)] := hl
  refine q_name (fun Q hQ => ?_)
  generalize ([.ref a, .int x, .int y] : List Value).toArray = args at hts hQ ⊢
  refine lv_aload_n hx hb dX7_wouldFloat_0 rfl (lv_at hl 0 rfl) ?_
  refine lv_iload_n hx hb dX7_wouldFloat_1 rfl (lv_at hl 1 rfl) ?_
  refine vp_callSi (W.runV (As := [.int x]) (rest := []) ⟨hx, hb, hml, hown, hts⟩ (c_s_isBoat l dC dI ky a wide high heat cools skinHeat today stirs steps lumps boats thickness lumpNames lumpCells boatNames boatCells loads spoons spoonsLeft depths x iv_a_0 iv_a_1 iv_a_2 iv_a_3 iv_a_4 iv_a_5) (cwV 1 hts gX7_wouldFloat_X7_isBoat rfl rfl rfl (by decide +kernel) ⟨(Nat.le_of_ble_eq_true rfl), (Nat.le_of_ble_eq_true rfl)⟩) (pre_PV hK hP [0] rfl (ci := 7) (q0 := 0) rfl rfl) rfl rfl hl.1 rfl (lv_room (Nat.le_of_ble_eq_true rfl)) dX7_wouldFloat_2 ⟨(Nat.le_of_ble_eq_true rfl), (Nat.le_of_ble_eq_true rfl)⟩) (fun r1 p2 => ?_)
  rcases p2 with ⟨rfl, t3, t4⟩ | ⟨rfl, t5⟩
  · refine lv_if_eq (tgt := 41) hx hb dX7_wouldFloat_5 (by decide) (fun c6 => absurd c6 (by decide)) (fun c6 => ?_)
    refine lv_aload_n hx hb dX7_wouldFloat_8 rfl (lv_at hl 0 rfl) ?_
    refine vp_callSi (W.runV (As := []) (rest := []) ⟨hx, hb, hml, hown, hts⟩ (c_s_hasSkin l dC dI ky a wide high heat cools skinHeat today stirs steps lumps boats thickness lumpNames lumpCells boatNames boatCells loads spoons spoonsLeft depths iv_a_0 iv_a_1 iv_a_2 iv_a_3 iv_a_4 iv_a_5) (cwV 0 hts gX7_wouldFloat_X7_hasSkin rfl rfl rfl (by decide +kernel) ⟨(Nat.le_of_ble_eq_true rfl), (Nat.le_of_ble_eq_true rfl)⟩) (pre_PV hK hP [0] rfl (ci := 7) (q0 := 0) rfl rfl) rfl rfl hl.1 rfl (lv_room (Nat.le_of_ble_eq_true rfl)) dX7_wouldFloat_9 ⟨(Nat.le_of_ble_eq_true rfl), (Nat.le_of_ble_eq_true rfl)⟩) (fun r7 p8 => ?_)
    refine lv_if_ne (tgt := 37) hx hb dX7_wouldFloat_12 (by decide) (fun c9 => ?_) (fun c9 => ?_)
    · refine lv_iconst (v := nI 1) hx hb dX7_wouldFloat_37 (by decide) ?_
      refine lv_goto (tgt := 42) hx hb dX7_wouldFloat_38 (by decide) ?_
      rw [hQ]
      exact W.zret (v := nI 1) hx hb hr (by decide) (fun t9 ht9 hW9 => ⟨nI 1, rfl, (lf_s_wouldFloat_1), ht9⟩) (fun _ h => absurd h List.not_mem_nil) dX7_wouldFloat_42
    · refine lv_aload_n hx hb dX7_wouldFloat_15 rfl (lv_at hl 0 rfl) ?_
      refine lv_iload_n hx hb dX7_wouldFloat_16 rfl (lv_at hl 2 rfl) ?_
      refine vp_callSi (W.runV (As := [.int y]) (rest := []) ⟨hx, hb, hml, hown, hts⟩ (c_s_hasLumpIn l dC dI ky a wide high heat cools skinHeat today stirs steps lumps boats thickness lumpNames lumpCells boatNames boatCells loads spoons spoonsLeft depths lumpCellsF y iv_a_0 iv_a_1 iv_a_2 iv_a_3 iv_a_4 iv_a_5) (cwV 1 hts gX7_wouldFloat_X7_hasLumpIn rfl rfl rfl (by decide +kernel) ⟨(Nat.le_of_ble_eq_true rfl), (Nat.le_of_ble_eq_true rfl)⟩) (pre_PV hK hP [0, 2] rfl (ci := 7) (q0 := 0) rfl rfl) rfl rfl hl.1 rfl (lv_room (Nat.le_of_ble_eq_true rfl)) dX7_wouldFloat_17 ⟨(Nat.le_of_ble_eq_true rfl), (Nat.le_of_ble_eq_true rfl)⟩) (fun r10 p11 => ?_)
      refine lv_if_ne (tgt := 37) hx hb dX7_wouldFloat_20 (by decide) (fun c12 => ?_) (fun c12 => ?_)
      · refine lv_iconst (v := nI 1) hx hb dX7_wouldFloat_37 (by decide) ?_
        refine lv_goto (tgt := 42) hx hb dX7_wouldFloat_38 (by decide) ?_
        rw [hQ]
        exact W.zret (v := nI 1) hx hb hr (by decide) (fun t9 ht9 hW9 => ⟨nI 1, rfl, (lf_s_wouldFloat_2), ht9⟩) (fun _ h => absurd h List.not_mem_nil) dX7_wouldFloat_42
      · refine lv_aload_n hx hb dX7_wouldFloat_23 rfl (lv_at hl 0 rfl) ?_
        refine lv_iload_n hx hb dX7_wouldFloat_24 rfl (lv_at hl 2 rfl) ?_
        refine vp_callSi (W.runV (As := [.int y]) (rest := []) ⟨hx, hb, hml, hown, hts⟩ (c_s_thicknessIn l dC dI ky a wide high heat cools skinHeat today stirs steps lumps boats thickness lumpNames lumpCells boatNames boatCells loads spoons spoonsLeft depths thicknessF y iv_a_0 iv_a_1 iv_a_2 iv_a_3 iv_a_4 iv_a_5) (cwV 1 hts gX7_wouldFloat_X7_thicknessIn rfl rfl rfl (by decide +kernel) ⟨(Nat.le_of_ble_eq_true rfl), (Nat.le_of_ble_eq_true rfl)⟩) (pre_PV hK hP [0, 1] rfl (ci := 7) (q0 := 0) rfl rfl) rfl rfl hl.1 rfl (lv_room (Nat.le_of_ble_eq_true rfl)) dX7_wouldFloat_25 ⟨(Nat.le_of_ble_eq_true rfl), (Nat.le_of_ble_eq_true rfl)⟩) (fun r13 p14 => ?_)
        refine lv_aload_n hx hb dX7_wouldFloat_28 rfl (lv_at hl 0 rfl) ?_
        refine va_get (D := (dC, dI)) (ci := 7) (v := .ref loads) (C := RX7) (T := TX7) (N := 19) hx hb hts hin7 hown hK hP 0 rfl rfl 15 (by decide) (hts (.fieldLink RX7 28 "PorridgeSea$Sea" "loads" "[I") (List.mem_of_getElem? (i := 1) rfl)) (fun _ h9 => h9) rfl dX7_wouldFloat_29 ?_
        refine lv_iload_n hx hb dX7_wouldFloat_32 rfl (lv_at hl 1 rfl) ?_
        obtain ⟨n15, h16, e17⟩ := nat_of x 6 (by decide) (lf_s_wouldFloat_3 boats x iv_a_5 t3 t4 p14)
        rw [e17]
        obtain ⟨y18, e19⟩ : ∃ z9, z9 = loadsF n15 := ⟨_, rfl⟩
        refine r_iald hx hb hK hP 3 rfl n15 (by omega) (by decide) y18 e19.symm dX7_wouldFloat_33 ?_
        refine lv_icmp_lt (tgt := 41) hx hb dX7_wouldFloat_34 (by decide) (fun c20 => ?_) (fun c20 => ?_)
        · refine lv_iconst (v := nI 0) hx hb dX7_wouldFloat_41 (by decide) ?_
          rw [hQ]
          exact W.zret (v := nI 0) hx hb hr (by decide) (fun t9 ht9 hW9 => ⟨nI 0, rfl, (lf_s_wouldFloat_4 p14), ht9⟩) (fun _ h => absurd h List.not_mem_nil) dX7_wouldFloat_42
        · refine lv_iconst (v := nI 1) hx hb dX7_wouldFloat_37 (by decide) ?_
          refine lv_goto (tgt := 42) hx hb dX7_wouldFloat_38 (by decide) ?_
          rw [hQ]
          exact W.zret (v := nI 1) hx hb hr (by decide) (fun t9 ht9 hW9 => ⟨nI 1, rfl, (lf_s_wouldFloat_5 p14), ht9⟩) (fun _ h => absurd h List.not_mem_nil) dX7_wouldFloat_42
  · refine lv_if_eq (tgt := 41) hx hb dX7_wouldFloat_5 (by decide) (fun c21 => ?_) (fun c21 => absurd (by decide) c21)
    refine lv_iconst (v := nI 0) hx hb dX7_wouldFloat_41 (by decide) ?_
    rw [hQ]
    exact W.zret (v := nI 0) hx hb hr (by decide) (fun t9 ht9 hW9 => ⟨nI 0, rfl, (lf_s_wouldFloat_6), ht9⟩) (fun _ h => absurd h List.not_mem_nil) dX7_wouldFloat_42
set_option maxRecDepth 20000 in
theorem lf_s_isAfloat_1   : (nI 0) = nI 0 ∨ (nI 0) = nI 1 := by
  try have k_0 := ia_n 0 (by first | decide | omega)
  try have k_1 := ia_n 1 (by first | decide | omega)
  try simp only [ia_lt, ia_le, ia_eq, ia_m1, ia_0, ia_1, ne_eq, true_and, and_true, false_and, and_false, or_false, false_or, or_true, true_or, not_true_eq_false, not_false_eq_true] at *
  all_goals omega
set_option maxRecDepth 20000 in
theorem lf_s_isAfloat_2 (boats : Nat) (x : Int32) (iv_a_5 : boats ≤ 6) (t3 : 0 ≤ x.toInt) (t4 : x.toInt < boats) (t11 : True) : 0 ≤ x.toInt ∧ x.toInt < ((6 : Nat) : Int) := by
  have b_x := ia_b x
  try simp only [ia_lt, ia_le, ia_eq, ia_m1, ia_0, ia_1, ne_eq, true_and, and_true, false_and, and_false, or_false, false_or, or_true, true_or, not_true_eq_false, not_false_eq_true] at *
  all_goals omega
set_option maxRecDepth 20000 in
theorem lf_s_isAfloat_3  (t11 : True) : (nI 0) = nI 0 ∨ (nI 0) = nI 1 := by
  try have k_0 := ia_n 0 (by first | decide | omega)
  try have k_1 := ia_n 1 (by first | decide | omega)
  try simp only [ia_lt, ia_le, ia_eq, ia_m1, ia_0, ia_1, ne_eq, true_and, and_true, false_and, and_false, or_false, false_or, or_true, true_or, not_true_eq_false, not_false_eq_true] at *
  all_goals omega
set_option maxRecDepth 20000 in
theorem lf_s_isAfloat_4  (t11 : True) : (nI 1) = nI 0 ∨ (nI 1) = nI 1 := by
  try have k_0 := ia_n 1 (by first | decide | omega)
  try have k_1 := ia_n 0 (by first | decide | omega)
  try simp only [ia_lt, ia_le, ia_eq, ia_m1, ia_0, ia_1, ne_eq, true_and, and_true, false_and, and_false, or_false, false_or, or_true, true_or, not_true_eq_false, not_false_eq_true] at *
  all_goals omega
set_option maxRecDepth 20000 in
theorem lf_s_isAfloat_5   : (nI 0) = nI 0 ∨ (nI 0) = nI 1 := by
  try have k_0 := ia_n 0 (by first | decide | omega)
  try have k_1 := ia_n 1 (by first | decide | omega)
  try simp only [ia_lt, ia_le, ia_eq, ia_m1, ia_0, ia_1, ne_eq, true_and, and_true, false_and, and_false, or_false, false_or, or_true, true_or, not_true_eq_false, not_false_eq_true] at *
  all_goals omega
set_option maxHeartbeats 4000000 in
set_option maxRecDepth 100000 in
theorem c_s_isAfloat (l : Launch) (dC : Nat → ClassId) (dI : Nat → Nat → Nat) (ky : Nat → ClassId) (a : Nat) (wide : Nat) (high : Nat) (heat : Int32) (cools : Int32) (skinHeat : Int32) (today : Int32) (stirs : Int32) (steps : Int32) (lumps : Nat) (boats : Nat) (thickness : Nat) (lumpNames : Nat) (lumpCells : Nat) (boatNames : Nat) (boatCells : Nat) (loads : Nat) (spoons : Nat) (spoonsLeft : Nat) (depths : Nat) (thicknessF : Nat → Int32) (lumpCellsF : Nat → Int32) (boatCellsF : Nat → Int32) (loadsF : Nat → Int32) (depthsF : Nat → Int32) (x : Int32) (iv_a_0 : 2 ≤ wide) (iv_a_1 : wide ≤ 6) (iv_a_2 : 2 ≤ high) (iv_a_3 : high ≤ 6) (iv_a_4 : lumps ≤ 6) (iv_a_5 : boats ≤ 6) : Met l yX7_isAfloat wsX7_isAfloat ({ frames := 2, cells := 0, slots := 0, locals := 44 }) (PcP dC dI ky [.ref a, .int x] [(a, .inr (7, [.int (nI wide), .int (nI high), .int heat, .int cools, .int skinHeat, .int today, .int stirs, .int steps, .int (nI lumps), .int (nI boats), .ref thickness, .ref lumpNames, .ref lumpCells, .ref boatNames, .ref boatCells, .ref loads, .ref spoons, .ref spoonsLeft, .ref depths])), (thickness, .inl (ky 0, 36, .inl thicknessF)), (lumpCells, .inl (ky 0, 6, .inl lumpCellsF)), (boatCells, .inl (ky 0, 6, .inl boatCellsF)), (loads, .inl (ky 0, 6, .inl loadsF)), (depths, .inl (ky 0, 6, .inl depthsF))]) (vp_Si (fun r : Int32 => r = nI 0 ∨ r = nI 1)) 0 0 (fun _ => False) := by
  refine Met.ofW (cc := cX7_isAfloat) (maxL := 2) (ret := (some .boolean)) (by decide) rfl ?_
  intro p e s m args below meth c s₁ B hml hv
  obtain ⟨rfl, hP, hK⟩ := hv
  have hx := B.exec
  have hb := B.bytes
  have hr := B.returns
  have hts := atoms_spec (ws := wsX7_isAfloat) B.pre
  have hown : s.vm.findClass RX7 = some m.cls := findClass_of_methodNamed B.named
  have hlocks := B.notSynchronized
  have hin7 : ∀ w ∈ u_ws RX7 TX7 19, w ∈ wsX7_isAfloat := by decide +kernel
  have hl := lv_entry ([.ref a, .int x]) (n := 2) (Nat.le_of_ble_eq_true rfl)
  rw [lg_entry_eq]
  generalize (lg_sl ([.ref a, .int x]) ++ List.replicate (2 - (lg_sl ([.ref a, .int x])).length) Slot.unset).toArray = ls at hl ⊢
  have hl : lv_has ls 2 [(0, .ref a), (1, .int x)] := hl
  refine q_name (fun Q hQ => ?_)
  generalize ([.ref a, .int x] : List Value).toArray = args at hts hQ ⊢
  refine lv_aload_n hx hb dX7_isAfloat_0 rfl (lv_at hl 0 rfl) ?_
  refine lv_iload_n hx hb dX7_isAfloat_1 rfl (lv_at hl 1 rfl) ?_
  refine vp_callSi (W.runV (As := [.int x]) (rest := []) ⟨hx, hb, hml, hown, hts⟩ (c_s_isBoat l dC dI ky a wide high heat cools skinHeat today stirs steps lumps boats thickness lumpNames lumpCells boatNames boatCells loads spoons spoonsLeft depths x iv_a_0 iv_a_1 iv_a_2 iv_a_3 iv_a_4 iv_a_5) (cwV 1 hts gX7_isAfloat_X7_isBoat rfl rfl rfl (by decide +kernel) ⟨(Nat.le_of_ble_eq_true rfl), (Nat.le_of_ble_eq_true rfl)⟩) (pre_PV hK hP [0] rfl (ci := 7) (q0 := 0) rfl rfl) rfl rfl hl.1 rfl (lv_room (Nat.le_of_ble_eq_true rfl)) dX7_isAfloat_2 ⟨(Nat.le_of_ble_eq_true rfl), (Nat.le_of_ble_eq_true rfl)⟩) (fun r1 p2 => ?_)
  rcases p2 with ⟨rfl, t3, t4⟩ | ⟨rfl, t5⟩
  · refine lv_if_eq (tgt := 34) hx hb dX7_isAfloat_5 (by decide) (fun c6 => absurd c6 (by decide)) (fun c6 => ?_)
    refine lv_aload_n hx hb dX7_isAfloat_8 rfl (lv_at hl 0 rfl) ?_
    refine lv_iload_n hx hb dX7_isAfloat_9 rfl (lv_at hl 1 rfl) ?_
    refine vp_callSi (W.runV (As := [.int x]) (rest := []) ⟨hx, hb, hml, hown, hts⟩ (c_s_isEaten l dC dI ky a wide high heat cools skinHeat today stirs steps lumps boats thickness lumpNames lumpCells boatNames boatCells loads spoons spoonsLeft depths depthsF x iv_a_0 iv_a_1 iv_a_2 iv_a_3 iv_a_4 iv_a_5) (cwV 1 hts gX7_isAfloat_X7_isEaten rfl rfl rfl (by decide +kernel) ⟨(Nat.le_of_ble_eq_true rfl), (Nat.le_of_ble_eq_true rfl)⟩) (pre_PV hK hP [0, 5] rfl (ci := 7) (q0 := 0) rfl rfl) rfl rfl hl.1 rfl (lv_room (Nat.le_of_ble_eq_true rfl)) dX7_isAfloat_10 ⟨(Nat.le_of_ble_eq_true rfl), (Nat.le_of_ble_eq_true rfl)⟩) (fun r7 p8 => ?_)
    rcases p8 with ⟨rfl, t9, t10⟩ | ⟨rfl, t11⟩
    · refine lv_if_ne (tgt := 34) hx hb dX7_isAfloat_13 (by decide) (fun c12 => ?_) (fun c12 => absurd c12 (by decide))
      refine lv_iconst (v := nI 0) hx hb dX7_isAfloat_34 (by decide) ?_
      rw [hQ]
      exact W.zret (v := nI 0) hx hb hr (by decide) (fun t9 ht9 hW9 => ⟨nI 0, rfl, (lf_s_isAfloat_1), ht9⟩) (fun _ h => absurd h List.not_mem_nil) dX7_isAfloat_35
    · refine lv_if_ne (tgt := 34) hx hb dX7_isAfloat_13 (by decide) (fun c13 => absurd c13 (by decide)) (fun c13 => ?_)
      refine lv_aload_n hx hb dX7_isAfloat_16 rfl (lv_at hl 0 rfl) ?_
      refine lv_iload_n hx hb dX7_isAfloat_17 rfl (lv_at hl 1 rfl) ?_
      refine lv_aload_n hx hb dX7_isAfloat_18 rfl (lv_at hl 0 rfl) ?_
      refine va_get (D := (dC, dI)) (ci := 7) (v := .ref boatCells) (C := RX7) (T := TX7) (N := 19) hx hb hts hin7 hown hK hP 0 rfl rfl 14 (by decide) (hts (.fieldLink RX7 25 "PorridgeSea$Sea" "boatCells" "[I") (List.mem_of_getElem? (i := 1) rfl)) (fun _ h9 => h9) rfl dX7_isAfloat_19 ?_
      refine lv_iload_n hx hb dX7_isAfloat_22 rfl (lv_at hl 1 rfl) ?_
      obtain ⟨n14, h15, e16⟩ := nat_of x 6 (by decide) (lf_s_isAfloat_2 boats x iv_a_5 t3 t4 t11)
      rw [e16]
      obtain ⟨y17, e18⟩ : ∃ z9, z9 = boatCellsF n14 := ⟨_, rfl⟩
      refine r_iald hx hb hK hP 3 rfl n14 (by omega) (by decide) y17 e18.symm dX7_isAfloat_23 ?_
      refine vp_callSi (W.runV (As := [.int (nI n14), .int y17]) (rest := []) ⟨hx, hb, hml, hown, hts⟩ (c_s_wouldFloat l dC dI ky a wide high heat cools skinHeat today stirs steps lumps boats thickness lumpNames lumpCells boatNames boatCells loads spoons spoonsLeft depths thicknessF lumpCellsF loadsF (nI n14) y17 iv_a_0 iv_a_1 iv_a_2 iv_a_3 iv_a_4 iv_a_5) (cwV 2 hts gX7_isAfloat_X7_wouldFloat rfl rfl rfl (by decide +kernel) ⟨(Nat.le_of_ble_eq_true rfl), (Nat.le_of_ble_eq_true rfl)⟩) (pre_PV hK hP [0, 1, 2, 4] rfl (ci := 7) (q0 := 0) rfl rfl) rfl rfl hl.1 rfl (lv_room (Nat.le_of_ble_eq_true rfl)) dX7_isAfloat_24 ⟨(Nat.le_of_ble_eq_true rfl), (Nat.le_of_ble_eq_true rfl)⟩) (fun r19 p20 => ?_)
      refine lv_if_eq (tgt := 34) hx hb dX7_isAfloat_27 (by decide) (fun c21 => ?_) (fun c21 => ?_)
      · refine lv_iconst (v := nI 0) hx hb dX7_isAfloat_34 (by decide) ?_
        rw [hQ]
        exact W.zret (v := nI 0) hx hb hr (by decide) (fun t9 ht9 hW9 => ⟨nI 0, rfl, (lf_s_isAfloat_3 t11), ht9⟩) (fun _ h => absurd h List.not_mem_nil) dX7_isAfloat_35
      · refine lv_iconst (v := nI 1) hx hb dX7_isAfloat_30 (by decide) ?_
        refine lv_goto (tgt := 35) hx hb dX7_isAfloat_31 (by decide) ?_
        rw [hQ]
        exact W.zret (v := nI 1) hx hb hr (by decide) (fun t9 ht9 hW9 => ⟨nI 1, rfl, (lf_s_isAfloat_4 t11), ht9⟩) (fun _ h => absurd h List.not_mem_nil) dX7_isAfloat_35
  · refine lv_if_eq (tgt := 34) hx hb dX7_isAfloat_5 (by decide) (fun c22 => ?_) (fun c22 => absurd (by decide) c22)
    refine lv_iconst (v := nI 0) hx hb dX7_isAfloat_34 (by decide) ?_
    rw [hQ]
    exact W.zret (v := nI 0) hx hb hr (by decide) (fun t9 ht9 hW9 => ⟨nI 0, rfl, (lf_s_isAfloat_5), ht9⟩) (fun _ h => absurd h List.not_mem_nil) dX7_isAfloat_35
set_option maxHeartbeats 4000000 in
set_option maxRecDepth 100000 in
theorem c_s_stepCost (l : Launch) (dC : Nat → ClassId) (dI : Nat → Nat → Nat) (ky : Nat → ClassId) (a : Nat) (wide : Nat) (high : Nat) (heat : Int32) (cools : Int32) (skinHeat : Int32) (today : Int32) (stirs : Int32) (steps : Int32) (lumps : Nat) (boats : Nat) (thickness : Nat) (lumpNames : Nat) (lumpCells : Nat) (boatNames : Nat) (boatCells : Nat) (loads : Nat) (spoons : Nat) (spoonsLeft : Nat) (depths : Nat) (thicknessF : Nat → Int32) (x : Int32) (iv_a_0 : 2 ≤ wide) (iv_a_1 : wide ≤ 6) (iv_a_2 : 2 ≤ high) (iv_a_3 : high ≤ 6) (iv_a_4 : lumps ≤ 6) (iv_a_5 : boats ≤ 6) : Met l yX7_stepCost wsX7_stepCost ({ frames := 1, cells := 0, slots := 0, locals := 21 }) (PcP dC dI ky [.ref a, .int x] [(a, .inr (7, [.int (nI wide), .int (nI high), .int heat, .int cools, .int skinHeat, .int today, .int stirs, .int steps, .int (nI lumps), .int (nI boats), .ref thickness, .ref lumpNames, .ref lumpCells, .ref boatNames, .ref boatCells, .ref loads, .ref spoons, .ref spoonsLeft, .ref depths])), (thickness, .inl (ky 0, 36, .inl thicknessF))]) (vp_Si (fun r : Int32 => True)) 0 0 (fun _ => False) := by
  refine Met.ofW (cc := cX7_stepCost) (maxL := 2) (ret := (some .int)) (by decide) rfl ?_
  intro p e s m args below meth c s₁ B hml hv
  obtain ⟨rfl, hP, hK⟩ := hv
  have hx := B.exec
  have hb := B.bytes
  have hr := B.returns
  have hts := atoms_spec (ws := wsX7_stepCost) B.pre
  have hown : s.vm.findClass RX7 = some m.cls := findClass_of_methodNamed B.named
  have hlocks := B.notSynchronized
  have hl := lv_entry ([.ref a, .int x]) (n := 2) (Nat.le_of_ble_eq_true rfl)
  rw [lg_entry_eq]
  generalize (lg_sl ([.ref a, .int x]) ++ List.replicate (2 - (lg_sl ([.ref a, .int x])).length) Slot.unset).toArray = ls at hl ⊢
  have hl : lv_has ls 2 [(0, .ref a), (1, .int x)] := hl
  refine q_name (fun Q hQ => ?_)
  generalize ([.ref a, .int x] : List Value).toArray = args at hts hQ ⊢
  refine lv_aload_n hx hb dX7_stepCost_0 rfl (lv_at hl 0 rfl) ?_
  refine vp_callSi (W.runV (As := []) (rest := []) ⟨hx, hb, hml, hown, hts⟩ (c_s_hasSkin l dC dI ky a wide high heat cools skinHeat today stirs steps lumps boats thickness lumpNames lumpCells boatNames boatCells loads spoons spoonsLeft depths iv_a_0 iv_a_1 iv_a_2 iv_a_3 iv_a_4 iv_a_5) (cwV 0 hts gX7_stepCost_X7_hasSkin rfl rfl rfl (by decide +kernel) ⟨(Nat.le_of_ble_eq_true rfl), (Nat.le_of_ble_eq_true rfl)⟩) (pre_PV hK hP [0] rfl (ci := 7) (q0 := 0) rfl rfl) rfl rfl hl.1 rfl (lv_room (Nat.le_of_ble_eq_true rfl)) dX7_stepCost_1 ⟨(Nat.le_of_ble_eq_true rfl), (Nat.le_of_ble_eq_true rfl)⟩) (fun r1 p2 => ?_)
  refine lv_if_eq (tgt := 11) hx hb dX7_stepCost_4 (by decide) (fun c3 => ?_) (fun c3 => ?_)
  · refine lv_iconst (v := nI 1) hx hb dX7_stepCost_11 (by decide) ?_
    refine lv_aload_n hx hb dX7_stepCost_12 rfl (lv_at hl 0 rfl) ?_
    refine lv_iload_n hx hb dX7_stepCost_13 rfl (lv_at hl 1 rfl) ?_
    refine vp_callSi (W.runV (As := [.int x]) (rest := [.int (nI 1)]) ⟨hx, hb, hml, hown, hts⟩ (c_s_thicknessIn l dC dI ky a wide high heat cools skinHeat today stirs steps lumps boats thickness lumpNames lumpCells boatNames boatCells loads spoons spoonsLeft depths thicknessF x iv_a_0 iv_a_1 iv_a_2 iv_a_3 iv_a_4 iv_a_5) (cwV 1 hts gX7_stepCost_X7_thicknessIn rfl rfl rfl (by decide +kernel) ⟨(Nat.le_of_ble_eq_true rfl), (Nat.le_of_ble_eq_true rfl)⟩) (pre_PV hK hP [0, 1] rfl (ci := 7) (q0 := 0) rfl rfl) rfl rfl hl.1 rfl (lv_room (Nat.le_of_ble_eq_true rfl)) dX7_stepCost_14 ⟨(Nat.le_of_ble_eq_true rfl), (Nat.le_of_ble_eq_true rfl)⟩) (fun r4 p5 => ?_)
    refine lv_iconst (v := nI 3) hx hb dX7_stepCost_17 (by decide) ?_
    refine lv_idiv hx hb dX7_stepCost_18 (by decide) ?_
    refine lv_topi (fun y6 e7 => ?_)
    refine lv_iadd hx hb dX7_stepCost_19 ?_
    refine lv_topi (fun y8 e9 => ?_)
    rw [hQ]
    exact W.iret (v := y8) hx hb hr (fun t9 ht9 hW9 => ⟨y8, rfl, trivial, ht9⟩) (fun _ h => absurd h List.not_mem_nil) dX7_stepCost_20
  · refine lv_iconst (v := nI 1) hx hb dX7_stepCost_7 (by decide) ?_
    refine lv_goto (tgt := 20) hx hb dX7_stepCost_8 (by decide) ?_
    rw [hQ]
    exact W.iret (v := nI 1) hx hb hr (fun t9 ht9 hW9 => ⟨nI 1, rfl, trivial, ht9⟩) (fun _ h => absurd h List.not_mem_nil) dX7_stepCost_20
set_option maxRecDepth 20000 in
theorem lf_s_nextCell_1 (wide : Nat) (high : Nat) (x : Int32) (y1 : Int32) (x4 : Int32) (y7 : Int32) (y9 : Int32) (x12 : Int32) (y15 : Int32) (iv_a_0 : 2 ≤ wide) (iv_a_1 : wide ≤ 6) (iv_a_2 : 2 ≤ high) (iv_a_3 : high ≤ 6) (e2 : y1 = x - x / (nI 6) * (nI 6)) (j5 : x4 = (-1 : Int32) ∨ x4 = nI 0 ∨ x4 = nI 1) (e8 : y7 = y1 + x4) (e10 : y9 = x / (nI 6)) (j13 : x12 = (-1 : Int32) ∨ x12 = nI 0 ∨ x12 = nI 1) (e16 : y15 = y9 + x12) (t19 : 0 ≤ y7.toInt) (t20 : y7.toInt < wide) (t21 : 0 ≤ y15.toInt) (t22 : y15.toInt < high) : 0 ≤ y15.toInt ∧ y15.toInt < ((6 : Nat) : Int) := by
  have b_x := ia_b x
  have b_y1 := ia_b y1
  have b_x4 := ia_b x4
  have b_y7 := ia_b y7
  have b_y9 := ia_b y9
  have b_x12 := ia_b x12
  have b_y15 := ia_b y15
  try have k_0 := ia_n 6 (by first | decide | omega)
  try have k_1 := ia_n 0 (by first | decide | omega)
  try have k_2 := ia_n 1 (by first | decide | omega)
  try simp only [ia_lt, ia_le, ia_eq, ia_m1, ia_0, ia_1, ne_eq, true_and, and_true, false_and, and_false, or_false, false_or, or_true, true_or, not_true_eq_false, not_false_eq_true] at *
  all_goals omega
set_option maxRecDepth 20000 in
theorem lf_s_nextCell_2 (wide : Nat) (high : Nat) (x : Int32) (y1 : Int32) (x4 : Int32) (y7 : Int32) (y9 : Int32) (x12 : Int32) (y15 : Int32) (n25 : Nat) (iv_a_0 : 2 ≤ wide) (iv_a_1 : wide ≤ 6) (iv_a_2 : 2 ≤ high) (iv_a_3 : high ≤ 6) (e2 : y1 = x - x / (nI 6) * (nI 6)) (j5 : x4 = (-1 : Int32) ∨ x4 = nI 0 ∨ x4 = nI 1) (e8 : y7 = y1 + x4) (e10 : y9 = x / (nI 6)) (j13 : x12 = (-1 : Int32) ∨ x12 = nI 0 ∨ x12 = nI 1) (e16 : y15 = y9 + x12) (t19 : 0 ≤ y7.toInt) (t20 : y7.toInt < wide) (t21 : 0 ≤ y15.toInt) (t22 : y15.toInt < high) (h26 : n25 < 6) (e27 : y15 = nI n25) : 0 ≤ y7.toInt ∧ y7.toInt < ((6 : Nat) : Int) := by
  have b_x := ia_b x
  have b_y1 := ia_b y1
  have b_x4 := ia_b x4
  have b_y7 := ia_b y7
  have b_y9 := ia_b y9
  have b_x12 := ia_b x12
  have b_y15 := ia_b y15
  try have k_0 := ia_n 6 (by first | decide | omega)
  try have k_1 := ia_n 0 (by first | decide | omega)
  try have k_2 := ia_n 1 (by first | decide | omega)
  try have k_3 := ia_n n25 (by first | decide | omega)
  try simp only [ia_lt, ia_le, ia_eq, ia_m1, ia_0, ia_1, ne_eq, true_and, and_true, false_and, and_false, or_false, false_or, or_true, true_or, not_true_eq_false, not_false_eq_true] at *
  all_goals omega
set_option maxRecDepth 20000 in
theorem lf_s_nextCell_3 (wide : Nat) (high : Nat) (x : Int32) (y1 : Int32) (x4 : Int32) (y7 : Int32) (y9 : Int32) (x12 : Int32) (y15 : Int32) (n25 : Nat) (n28 : Nat) (iv_a_0 : 2 ≤ wide) (iv_a_1 : wide ≤ 6) (iv_a_2 : 2 ≤ high) (iv_a_3 : high ≤ 6) (e2 : y1 = x - x / (nI 6) * (nI 6)) (j5 : x4 = (-1 : Int32) ∨ x4 = nI 0 ∨ x4 = nI 1) (e8 : y7 = y1 + x4) (e10 : y9 = x / (nI 6)) (j13 : x12 = (-1 : Int32) ∨ x12 = nI 0 ∨ x12 = nI 1) (e16 : y15 = y9 + x12) (t19 : 0 ≤ y7.toInt) (t20 : y7.toInt < wide) (t21 : 0 ≤ y15.toInt) (t22 : y15.toInt < high) (h26 : n25 < 6) (e27 : y15 = nI n25) (h29 : n28 < 6) (e30 : y7 = nI n28) : ((6 * n25) + n28) < 36 := by
  have b_x := ia_b x
  have b_y1 := ia_b y1
  have b_x4 := ia_b x4
  have b_y7 := ia_b y7
  have b_y9 := ia_b y9
  have b_x12 := ia_b x12
  have b_y15 := ia_b y15
  try have k_0 := ia_n 6 (by first | decide | omega)
  try have k_1 := ia_n 0 (by first | decide | omega)
  try have k_2 := ia_n 1 (by first | decide | omega)
  try have k_3 := ia_n n25 (by first | decide | omega)
  try have k_4 := ia_n n28 (by first | decide | omega)
  try simp only [ia_lt, ia_le, ia_eq, ia_m1, ia_0, ia_1, ne_eq, true_and, and_true, false_and, and_false, or_false, false_or, or_true, true_or, not_true_eq_false, not_false_eq_true] at *
  all_goals omega
set_option maxRecDepth 20000 in
theorem lf_s_nextCell_4   : (nI 0) = (-1 : Int32) ∨ (nI 0) = nI 0 ∨ (nI 0) = nI 1 := by
  try have k_0 := ia_n 0 (by first | decide | omega)
  try have k_1 := ia_n 1 (by first | decide | omega)
  try simp only [ia_lt, ia_le, ia_eq, ia_m1, ia_0, ia_1, ne_eq, true_and, and_true, false_and, and_false, or_false, false_or, or_true, true_or, not_true_eq_false, not_false_eq_true] at *
  all_goals omega
set_option maxRecDepth 20000 in
theorem lf_s_nextCell_5   : (-1 : Int32) = (-1 : Int32) ∨ (-1 : Int32) = nI 0 ∨ (-1 : Int32) = nI 1 := by
  try have k_0 := ia_n 0 (by first | decide | omega)
  try have k_1 := ia_n 1 (by first | decide | omega)
  try simp only [ia_lt, ia_le, ia_eq, ia_m1, ia_0, ia_1, ne_eq, true_and, and_true, false_and, and_false, or_false, false_or, or_true, true_or, not_true_eq_false, not_false_eq_true] at *
  all_goals omega
set_option maxRecDepth 20000 in
theorem lf_s_nextCell_6   : (nI 1) = (-1 : Int32) ∨ (nI 1) = nI 0 ∨ (nI 1) = nI 1 := by
  try have k_0 := ia_n 1 (by first | decide | omega)
  try have k_1 := ia_n 0 (by first | decide | omega)
  try simp only [ia_lt, ia_le, ia_eq, ia_m1, ia_0, ia_1, ne_eq, true_and, and_true, false_and, and_false, or_false, false_or, or_true, true_or, not_true_eq_false, not_false_eq_true] at *
  all_goals omega
set_option maxRecDepth 20000 in
theorem lf_s_nextCell_7   : (nI 0) = (-1 : Int32) ∨ (nI 0) = nI 0 ∨ (nI 0) = nI 1 := by
  try have k_0 := ia_n 0 (by first | decide | omega)
  try have k_1 := ia_n 1 (by first | decide | omega)
  try simp only [ia_lt, ia_le, ia_eq, ia_m1, ia_0, ia_1, ne_eq, true_and, and_true, false_and, and_false, or_false, false_or, or_true, true_or, not_true_eq_false, not_false_eq_true] at *
  all_goals omega
set_option maxRecDepth 20000 in
theorem lf_s_nextCell_8   : (-1 : Int32) = (-1 : Int32) ∨ (-1 : Int32) = nI 0 ∨ (-1 : Int32) = nI 1 := by
  try have k_0 := ia_n 0 (by first | decide | omega)
  try have k_1 := ia_n 1 (by first | decide | omega)
  try simp only [ia_lt, ia_le, ia_eq, ia_m1, ia_0, ia_1, ne_eq, true_and, and_true, false_and, and_false, or_false, false_or, or_true, true_or, not_true_eq_false, not_false_eq_true] at *
  all_goals omega
set_option maxRecDepth 20000 in
theorem lf_s_nextCell_9   : (nI 1) = (-1 : Int32) ∨ (nI 1) = nI 0 ∨ (nI 1) = nI 1 := by
  try have k_0 := ia_n 1 (by first | decide | omega)
  try have k_1 := ia_n 0 (by first | decide | omega)
  try simp only [ia_lt, ia_le, ia_eq, ia_m1, ia_0, ia_1, ne_eq, true_and, and_true, false_and, and_false, or_false, false_or, or_true, true_or, not_true_eq_false, not_false_eq_true] at *
  all_goals omega
set_option maxHeartbeats 4000000 in
set_option maxRecDepth 100000 in
theorem c_s_nextCell (l : Launch) (dC : Nat → ClassId) (dI : Nat → Nat → Nat) (ky : Nat → ClassId) (a : Nat) (wide : Nat) (high : Nat) (heat : Int32) (cools : Int32) (skinHeat : Int32) (today : Int32) (stirs : Int32) (steps : Int32) (lumps : Nat) (boats : Nat) (thickness : Nat) (lumpNames : Nat) (lumpCells : Nat) (boatNames : Nat) (boatCells : Nat) (loads : Nat) (spoons : Nat) (spoonsLeft : Nat) (depths : Nat) (x : Int32) (y : Int32) (iv_a_0 : 2 ≤ wide) (iv_a_1 : wide ≤ 6) (iv_a_2 : 2 ≤ high) (iv_a_3 : high ≤ 6) (iv_a_4 : lumps ≤ 6) (iv_a_5 : boats ≤ 6) : Met l yX7_nextCell wsX7_nextCell ({ frames := 1, cells := 0, slots := 0, locals := 22 }) (PcP dC dI ky [.ref a, .int x, .int y] [(a, .inr (7, [.int (nI wide), .int (nI high), .int heat, .int cools, .int skinHeat, .int today, .int stirs, .int steps, .int (nI lumps), .int (nI boats), .ref thickness, .ref lumpNames, .ref lumpCells, .ref boatNames, .ref boatCells, .ref loads, .ref spoons, .ref spoonsLeft, .ref depths]))]) (vp_Si (fun r : Int32 => r = (-1 : Int32) ∨ (∃ k9 : Nat, (k9 < 36) ∧ r = nI k9))) 0 0 (fun _ => False) := by
  refine Met.ofW (cc := cX7_nextCell) (maxL := 5) (ret := (some .int)) (by decide) rfl ?_
  intro p e s m args below meth c s₁ B hml hv
  obtain ⟨rfl, hP, hK⟩ := hv
  have hx := B.exec
  have hb := B.bytes
  have hr := B.returns
  have hts := atoms_spec (ws := wsX7_nextCell) B.pre
  have hown : s.vm.findClass RX7 = some m.cls := findClass_of_methodNamed B.named
  have hlocks := B.notSynchronized
  have hl := lv_entry ([.ref a, .int x, .int y]) (n := 5) (Nat.le_of_ble_eq_true rfl)
  rw [lg_entry_eq]
  generalize (lg_sl ([.ref a, .int x, .int y]) ++ List.replicate (5 - (lg_sl ([.ref a, .int x, .int y])).length) Slot.unset).toArray = ls at hl ⊢
  have hl : lv_has ls 5 [(0, .ref a), (1, .int x), (2, .int y)] := hl
  refine q_name (fun Q hQ => ?_)
  generalize ([.ref a, .int x, .int y] : List Value).toArray = args at hts hQ ⊢
  refine lv_iload_n hx hb dX7_nextCell_0 rfl (lv_at hl 1 rfl) ?_
  refine lv_bipush (v := nI 6) hx hb dX7_nextCell_1 (by decide) ?_
  refine lv_irem hx hb dX7_nextCell_3 (by decide) ?_
  refine lv_topi (fun y1 e2 => ?_)
  refine lv_iload_n hx hb dX7_nextCell_4 rfl (lv_at hl 2 rfl) ?_
  have hJ6 : ∀ (x4 : Int32), (x4 = (-1 : Int32) ∨ x4 = nI 0 ∨ x4 = nI 1) → ∀ (ls : Array Slot), lv_has ls 5 [(0, .ref a), (1, .int x), (2, .int y)] → W p l e (headSpec wsX7_nextCell ({ frames := 1, cells := 0, slots := 0, locals := 22 })).room s m args below meth c s.heap [] 0 0 Q (F0 m 22 ls [.int x4, .int y1]) := by
    intro x4 j5 ls hl
    refine lv_iadd hx hb dX7_nextCell_22 ?_
    refine lv_topi (fun y7 e8 => ?_)
    refine lv_istore_n (lv' := [(3, .int y7), (0, .ref a), (1, .int x), (2, .int y)]) hx hb dX7_nextCell_23 rfl hl (by decide) rfl (fun ls hl => ?_)
    refine lv_iload_n hx hb dX7_nextCell_24 rfl (lv_at hl 2 rfl) ?_
    refine lv_bipush (v := nI 6) hx hb dX7_nextCell_25 (by decide) ?_
    refine lv_idiv hx hb dX7_nextCell_27 (by decide) ?_
    refine lv_topi (fun y9 e10 => ?_)
    refine lv_iload_n hx hb dX7_nextCell_28 rfl (lv_at hl 3 rfl) ?_
    refine lv_iconst (v := nI 1) hx hb dX7_nextCell_29 (by decide) ?_
    have hJ14 : ∀ (x12 : Int32), (x12 = (-1 : Int32) ∨ x12 = nI 0 ∨ x12 = nI 1) → ∀ (ls : Array Slot), lv_has ls 5 [(3, .int y7), (0, .ref a)] → W p l e (headSpec wsX7_nextCell ({ frames := 1, cells := 0, slots := 0, locals := 22 })).room s m args below meth c s.heap [] 0 0 Q (F0 m 47 ls [.int x12, .int y9]) := by
      intro x12 j13 ls hl
      refine lv_iadd hx hb dX7_nextCell_47 ?_
      refine lv_topi (fun y15 e16 => ?_)
      refine lv_istore (lv' := [(4, .int y15), (3, .int y7), (0, .ref a)]) hx hb dX7_nextCell_48 hl (by decide) rfl (fun ls hl => ?_)
      refine lv_aload_n hx hb dX7_nextCell_50 rfl (lv_at hl 2 rfl) ?_
      refine lv_iload_n hx hb dX7_nextCell_51 rfl (lv_at hl 1 rfl) ?_
      refine lv_iload hx hb dX7_nextCell_52 (lv_at hl 0 rfl) ?_
      refine vp_callSi (W.runV (As := [.int y7, .int y15]) (rest := []) ⟨hx, hb, hml, hown, hts⟩ (c_s_isCell l dC dI ky a wide high heat cools skinHeat today stirs steps lumps boats thickness lumpNames lumpCells boatNames boatCells loads spoons spoonsLeft depths y7 y15 iv_a_0 iv_a_1 iv_a_2 iv_a_3 iv_a_4 iv_a_5) (cwV 2 hts gX7_nextCell_X7_isCell rfl rfl rfl (by decide +kernel) ⟨(Nat.le_of_ble_eq_true rfl), (Nat.le_of_ble_eq_true rfl)⟩) (pre_PV hK hP [0] rfl (ci := 7) (q0 := 0) rfl rfl) rfl rfl hl.1 rfl (lv_room (Nat.le_of_ble_eq_true rfl)) dX7_nextCell_54 ⟨(Nat.le_of_ble_eq_true rfl), (Nat.le_of_ble_eq_true rfl)⟩) (fun r17 p18 => ?_)
      rcases p18 with ⟨rfl, t19, t20, t21, t22⟩ | ⟨rfl, t23⟩
      · refine lv_if_eq (tgt := 70) hx hb dX7_nextCell_57 (by decide) (fun c24 => absurd c24 (by decide)) (fun c24 => ?_)
        refine lv_bipush (v := nI 6) hx hb dX7_nextCell_60 (by decide) ?_
        refine lv_iload hx hb dX7_nextCell_62 (lv_at hl 0 rfl) ?_
        obtain ⟨n25, h26, e27⟩ := nat_of y15 6 (by decide) (lf_s_nextCell_1 wide high x y1 x4 y7 y9 x12 y15 iv_a_0 iv_a_1 iv_a_2 iv_a_3 e2 j5 e8 e10 j13 e16 t19 t20 t21 t22)
        rw [e27]
        refine lv_imul hx hb dX7_nextCell_64 ?_
        refine r_ti (nI (6 * n25)) (pk_mul _ _) ?_
        refine lv_iload_n hx hb dX7_nextCell_65 rfl (lv_at hl 1 rfl) ?_
        obtain ⟨n28, h29, e30⟩ := nat_of y7 6 (by decide) (lf_s_nextCell_2 wide high x y1 x4 y7 y9 x12 y15 n25 iv_a_0 iv_a_1 iv_a_2 iv_a_3 e2 j5 e8 e10 j13 e16 t19 t20 t21 t22 h26 e27)
        rw [e30]
        refine lv_iadd hx hb dX7_nextCell_66 ?_
        refine r_ti (nI ((6 * n25) + n28)) (nI_add _ _) ?_
        refine lv_goto (tgt := 71) hx hb dX7_nextCell_67 (by decide) ?_
        rw [hQ]
        exact W.iret (v := nI ((6 * n25) + n28)) hx hb hr (fun t9 ht9 hW9 => ⟨nI ((6 * n25) + n28), rfl, (Or.inr ⟨((6 * n25) + n28), (lf_s_nextCell_3 wide high x y1 x4 y7 y9 x12 y15 n25 n28 iv_a_0 iv_a_1 iv_a_2 iv_a_3 e2 j5 e8 e10 j13 e16 t19 t20 t21 t22 h26 e27 h29 e30), rfl⟩), ht9⟩) (fun _ h => absurd h List.not_mem_nil) dX7_nextCell_71
      · refine lv_if_eq (tgt := 70) hx hb dX7_nextCell_57 (by decide) (fun c31 => ?_) (fun c31 => absurd (by decide) c31)
        refine lv_iconst (v := (-1 : Int32)) hx hb dX7_nextCell_70 (by decide) ?_
        rw [hQ]
        exact W.iret (v := (-1 : Int32)) hx hb hr (fun t9 ht9 hW9 => ⟨(-1 : Int32), rfl, (Or.inl rfl), ht9⟩) (fun _ h => absurd h List.not_mem_nil) dX7_nextCell_71
    refine lv_icmp_ne (tgt := 37) hx hb dX7_nextCell_30 (by decide) (fun c11 => ?_) (fun c11 => ?_)
    · refine lv_iload_n hx hb dX7_nextCell_37 rfl (lv_at hl 3 rfl) ?_
      refine lv_iconst (v := nI 3) hx hb dX7_nextCell_38 (by decide) ?_
      refine lv_icmp_ne (tgt := 46) hx hb dX7_nextCell_39 (by decide) (fun c32 => ?_) (fun c32 => ?_)
      · refine lv_iconst (v := nI 0) hx hb dX7_nextCell_46 (by decide) ?_
        exact hJ14 (nI 0) (lf_s_nextCell_4) _ (lv_sub hl [0, 1] rfl)
      · refine lv_iconst (v := (-1 : Int32)) hx hb dX7_nextCell_42 (by decide) ?_
        refine lv_goto (tgt := 47) hx hb dX7_nextCell_43 (by decide) ?_
        exact hJ14 (-1 : Int32) (lf_s_nextCell_5) _ (lv_sub hl [0, 1] rfl)
    · refine lv_iconst (v := nI 1) hx hb dX7_nextCell_33 (by decide) ?_
      refine lv_goto (tgt := 47) hx hb dX7_nextCell_34 (by decide) ?_
      exact hJ14 (nI 1) (lf_s_nextCell_6) _ (lv_sub hl [0, 1] rfl)
  refine lv_if_ne (tgt := 12) hx hb dX7_nextCell_5 (by decide) (fun c3 => ?_) (fun c3 => ?_)
  · refine lv_iload_n hx hb dX7_nextCell_12 rfl (lv_at hl 2 rfl) ?_
    refine lv_iconst (v := nI 2) hx hb dX7_nextCell_13 (by decide) ?_
    refine lv_icmp_ne (tgt := 21) hx hb dX7_nextCell_14 (by decide) (fun c33 => ?_) (fun c33 => ?_)
    · refine lv_iconst (v := nI 0) hx hb dX7_nextCell_21 (by decide) ?_
      exact hJ6 (nI 0) (lf_s_nextCell_7) _ (lv_sub hl [0, 1, 2] rfl)
    · refine lv_iconst (v := (-1 : Int32)) hx hb dX7_nextCell_17 (by decide) ?_
      refine lv_goto (tgt := 22) hx hb dX7_nextCell_18 (by decide) ?_
      exact hJ6 (-1 : Int32) (lf_s_nextCell_8) _ (lv_sub hl [0, 1, 2] rfl)
  · refine lv_iconst (v := nI 1) hx hb dX7_nextCell_8 (by decide) ?_
    refine lv_goto (tgt := 22) hx hb dX7_nextCell_9 (by decide) ?_
    exact hJ6 (nI 1) (lf_s_nextCell_9) _ (lv_sub hl [0, 1, 2] rfl)
set_option maxRecDepth 20000 in
theorem lf_s_areNear_1   : (nI 0) = nI 0 ∨ (nI 0) = nI 1 := by
  try have k_0 := ia_n 0 (by first | decide | omega)
  try have k_1 := ia_n 1 (by first | decide | omega)
  try simp only [ia_lt, ia_le, ia_eq, ia_m1, ia_0, ia_1, ne_eq, true_and, and_true, false_and, and_false, or_false, false_or, or_true, true_or, not_true_eq_false, not_false_eq_true] at *
  all_goals omega
set_option maxRecDepth 20000 in
theorem lf_s_areNear_2   : (nI 1) = nI 0 ∨ (nI 1) = nI 1 := by
  try have k_0 := ia_n 1 (by first | decide | omega)
  try have k_1 := ia_n 0 (by first | decide | omega)
  try simp only [ia_lt, ia_le, ia_eq, ia_m1, ia_0, ia_1, ne_eq, true_and, and_true, false_and, and_false, or_false, false_or, or_true, true_or, not_true_eq_false, not_false_eq_true] at *
  all_goals omega
set_option maxHeartbeats 4000000 in
set_option maxRecDepth 100000 in
theorem c_s_areNear (l : Launch) (dC : Nat → ClassId) (dI : Nat → Nat → Nat) (ky : Nat → ClassId) (x : Int32) (y : Int32)  : Met l yX7_areNear wsX7_areNear ({ frames := 1, cells := 0, slots := 0, locals := 13 }) (PcP dC dI ky [.int x, .int y] []) (vp_Si (fun r : Int32 => r = nI 0 ∨ r = nI 1)) 0 0 (fun _ => False) := by
  refine Met.ofW (cc := cX7_areNear) (maxL := 4) (ret := (some .boolean)) (by decide) rfl ?_
  intro p e s m args below meth c s₁ B hml hv
  obtain ⟨rfl, hP, hK⟩ := hv
  have hx := B.exec
  have hb := B.bytes
  have hr := B.returns
  have hts := atoms_spec (ws := wsX7_areNear) B.pre
  have hown : s.vm.findClass RX7 = some m.cls := findClass_of_methodNamed B.named
  have hlocks := B.notSynchronized
  have hl := lv_entry ([.int x, .int y]) (n := 4) (Nat.le_of_ble_eq_true rfl)
  rw [lg_entry_eq]
  generalize (lg_sl ([.int x, .int y]) ++ List.replicate (4 - (lg_sl ([.int x, .int y])).length) Slot.unset).toArray = ls at hl ⊢
  have hl : lv_has ls 4 [(0, .int x), (1, .int y)] := hl
  refine q_name (fun Q hQ => ?_)
  generalize ([.int x, .int y] : List Value).toArray = args at hts hQ ⊢
  refine lv_iload_n hx hb dX7_areNear_0 rfl (lv_at hl 0 rfl) ?_
  refine lv_bipush (v := nI 6) hx hb dX7_areNear_1 (by decide) ?_
  refine lv_irem hx hb dX7_areNear_3 (by decide) ?_
  refine lv_topi (fun y1 e2 => ?_)
  refine lv_iload_n hx hb dX7_areNear_4 rfl (lv_at hl 1 rfl) ?_
  refine lv_bipush (v := nI 6) hx hb dX7_areNear_5 (by decide) ?_
  refine lv_irem hx hb dX7_areNear_7 (by decide) ?_
  refine lv_topi (fun y3 e4 => ?_)
  refine lv_isub hx hb dX7_areNear_8 ?_
  refine lv_topi (fun y5 e6 => ?_)
  refine va_mabs hx hb (by rw [hml]; exact hl.1.symm) hown (hts _ (List.mem_of_getElem? (i := 1) rfl)) (hts _ (List.mem_of_getElem? (i := 2) rfl)) (hts _ (List.mem_of_getElem? (i := 3) rfl)) (hts _ (List.mem_of_getElem? (i := 4) rfl)) (Nat.le_of_ble_eq_true rfl) (Nat.le_of_ble_eq_true rfl) (Nat.le_of_ble_eq_true rfl) (Nat.le_of_ble_eq_true rfl) dX7_areNear_9 ?_
  refine lv_topi (fun y7 e8 => ?_)
  refine lv_istore_n (lv' := [(2, .int y7), (0, .int x), (1, .int y)]) hx hb dX7_areNear_12 rfl hl (by decide) rfl (fun ls hl => ?_)
  refine lv_iload_n hx hb dX7_areNear_13 rfl (lv_at hl 1 rfl) ?_
  refine lv_bipush (v := nI 6) hx hb dX7_areNear_14 (by decide) ?_
  refine lv_idiv hx hb dX7_areNear_16 (by decide) ?_
  refine lv_topi (fun y9 e10 => ?_)
  refine lv_iload_n hx hb dX7_areNear_17 rfl (lv_at hl 2 rfl) ?_
  refine lv_bipush (v := nI 6) hx hb dX7_areNear_18 (by decide) ?_
  refine lv_idiv hx hb dX7_areNear_20 (by decide) ?_
  refine lv_topi (fun y11 e12 => ?_)
  refine lv_isub hx hb dX7_areNear_21 ?_
  refine lv_topi (fun y13 e14 => ?_)
  refine va_mabs hx hb (by rw [hml]; exact hl.1.symm) hown (hts _ (List.mem_of_getElem? (i := 1) rfl)) (hts _ (List.mem_of_getElem? (i := 2) rfl)) (hts _ (List.mem_of_getElem? (i := 3) rfl)) (hts _ (List.mem_of_getElem? (i := 4) rfl)) (Nat.le_of_ble_eq_true rfl) (Nat.le_of_ble_eq_true rfl) (Nat.le_of_ble_eq_true rfl) (Nat.le_of_ble_eq_true rfl) dX7_areNear_22 ?_
  refine lv_topi (fun y15 e16 => ?_)
  refine lv_istore_n (lv' := [(3, .int y15), (2, .int y7), (0, .int x), (1, .int y)]) hx hb dX7_areNear_25 rfl hl (by decide) rfl (fun ls hl => ?_)
  refine lv_iload_n hx hb dX7_areNear_26 rfl (lv_at hl 1 rfl) ?_
  refine lv_iload_n hx hb dX7_areNear_27 rfl (lv_at hl 0 rfl) ?_
  refine lv_iadd hx hb dX7_areNear_28 ?_
  refine lv_topi (fun y17 e18 => ?_)
  refine lv_iconst (v := nI 1) hx hb dX7_areNear_29 (by decide) ?_
  refine lv_icmp_gt (tgt := 37) hx hb dX7_areNear_30 (by decide) (fun c19 => ?_) (fun c19 => ?_)
  · refine lv_iconst (v := nI 0) hx hb dX7_areNear_37 (by decide) ?_
    rw [hQ]
    exact W.zret (v := nI 0) hx hb hr (by decide) (fun t9 ht9 hW9 => ⟨nI 0, rfl, (lf_s_areNear_1), ht9⟩) (fun _ h => absurd h List.not_mem_nil) dX7_areNear_38
  · refine lv_iconst (v := nI 1) hx hb dX7_areNear_33 (by decide) ?_
    refine lv_goto (tgt := 38) hx hb dX7_areNear_34 (by decide) ?_
    rw [hQ]
    exact W.zret (v := nI 1) hx hb hr (by decide) (fun t9 ht9 hW9 => ⟨nI 1, rfl, (lf_s_areNear_2), ht9⟩) (fun _ h => absurd h List.not_mem_nil) dX7_areNear_38
set_option maxHeartbeats 4000000 in
set_option maxRecDepth 100000 in
theorem c_s_overRim (l : Launch) (dC : Nat → ClassId) (dI : Nat → Nat → Nat) (ky : Nat → ClassId) (x : Int32) (y : Int32)  : Met l yX7_overRim wsX7_overRim ({ frames := 0, cells := 0, slots := 0, locals := 0 }) (PcP dC dI ky [.int x, .int y] []) (vp_Si (fun r : Int32 => True)) 0 0 (fun _ => False) := by
  refine Met.ofW (cc := cX7_overRim) (maxL := 2) (ret := (some .int)) (by decide) rfl ?_
  intro p e s m args below meth c s₁ B hml hv
  obtain ⟨rfl, hP, hK⟩ := hv
  have hx := B.exec
  have hb := B.bytes
  have hr := B.returns
  have hts := atoms_spec (ws := wsX7_overRim) B.pre
  have hown : s.vm.findClass RX7 = some m.cls := findClass_of_methodNamed B.named
  have hlocks := B.notSynchronized
  have hl := lv_entry ([.int x, .int y]) (n := 2) (Nat.le_of_ble_eq_true rfl)
  rw [lg_entry_eq]
  generalize (lg_sl ([.int x, .int y]) ++ List.replicate (2 - (lg_sl ([.int x, .int y])).length) Slot.unset).toArray = ls at hl ⊢
  have hl : lv_has ls 2 [(0, .int x), (1, .int y)] := hl
  refine q_name (fun Q hQ => ?_)
  generalize ([.int x, .int y] : List Value).toArray = args at hts hQ ⊢
  refine lv_iload_n hx hb dX7_overRim_0 rfl (lv_at hl 0 rfl) ?_
  refine lv_if_ge (tgt := 8) hx hb dX7_overRim_1 (by decide) (fun c1 => ?_) (fun c1 => ?_)
  · refine lv_iload_n hx hb dX7_overRim_8 rfl (lv_at hl 0 rfl) ?_
    refine lv_iload_n hx hb dX7_overRim_9 rfl (lv_at hl 1 rfl) ?_
    refine lv_icmp_lt (tgt := 17) hx hb dX7_overRim_10 (by decide) (fun c2 => ?_) (fun c2 => ?_)
    · refine lv_iload_n hx hb dX7_overRim_17 rfl (lv_at hl 0 rfl) ?_
      rw [hQ]
      exact W.iret (v := x) hx hb hr (fun t9 ht9 hW9 => ⟨x, rfl, trivial, ht9⟩) (fun _ h => absurd h List.not_mem_nil) dX7_overRim_18
    · refine lv_iconst (v := nI 0) hx hb dX7_overRim_13 (by decide) ?_
      refine lv_goto (tgt := 18) hx hb dX7_overRim_14 (by decide) ?_
      rw [hQ]
      exact W.iret (v := nI 0) hx hb hr (fun t9 ht9 hW9 => ⟨nI 0, rfl, trivial, ht9⟩) (fun _ h => absurd h List.not_mem_nil) dX7_overRim_18
  · refine lv_iload_n hx hb dX7_overRim_4 rfl (lv_at hl 1 rfl) ?_
    refine lv_iconst (v := nI 1) hx hb dX7_overRim_5 (by decide) ?_
    refine lv_isub hx hb dX7_overRim_6 ?_
    refine lv_topi (fun y3 e4 => ?_)
    rw [hQ]
    exact W.iret (v := y3) hx hb hr (fun t9 ht9 hW9 => ⟨y3, rfl, trivial, ht9⟩) (fun _ h => absurd h List.not_mem_nil) dX7_overRim_7
set_option maxRecDepth 20000 in
theorem lf_s_stirredTo_1   : (nI 1) = (-1 : Int32) ∨ (nI 1) = nI 1 := by
  try have k_0 := ia_n 1 (by first | decide | omega)
  try simp only [ia_lt, ia_le, ia_eq, ia_m1, ia_0, ia_1, ne_eq, true_and, and_true, false_and, and_false, or_false, false_or, or_true, true_or, not_true_eq_false, not_false_eq_true] at *
  all_goals omega
set_option maxRecDepth 20000 in
theorem lf_s_stirredTo_2   : (-1 : Int32) = (-1 : Int32) ∨ (-1 : Int32) = nI 1 := by
  try have k_0 := ia_n 1 (by first | decide | omega)
  try simp only [ia_lt, ia_le, ia_eq, ia_m1, ia_0, ia_1, ne_eq, true_and, and_true, false_and, and_false, or_false, false_or, or_true, true_or, not_true_eq_false, not_false_eq_true] at *
  all_goals omega
set_option maxHeartbeats 4000000 in
set_option maxRecDepth 100000 in
theorem c_s_stirredTo (l : Launch) (dC : Nat → ClassId) (dI : Nat → Nat → Nat) (ky : Nat → ClassId) (a : Nat) (wide : Nat) (high : Nat) (heat : Int32) (cools : Int32) (skinHeat : Int32) (today : Int32) (stirs : Int32) (steps : Int32) (lumps : Nat) (boats : Nat) (thickness : Nat) (lumpNames : Nat) (lumpCells : Nat) (boatNames : Nat) (boatCells : Nat) (loads : Nat) (spoons : Nat) (spoonsLeft : Nat) (depths : Nat) (x : Int32) (column : Int32) (n : Int32) (back : Int32) (iv_a_0 : 2 ≤ wide) (iv_a_1 : wide ≤ 6) (iv_a_2 : 2 ≤ high) (iv_a_3 : high ≤ 6) (iv_a_4 : lumps ≤ 6) (iv_a_5 : boats ≤ 6) : Met l yX7_stirredTo wsX7_stirredTo ({ frames := 1, cells := 0, slots := 0, locals := 21 }) (PcP dC dI ky [.ref a, .int x, .int column, .int n, .int back] [(a, .inr (7, [.int (nI wide), .int (nI high), .int heat, .int cools, .int skinHeat, .int today, .int stirs, .int steps, .int (nI lumps), .int (nI boats), .ref thickness, .ref lumpNames, .ref lumpCells, .ref boatNames, .ref boatCells, .ref loads, .ref spoons, .ref spoonsLeft, .ref depths]))]) (vp_Si (fun r : Int32 => True)) 0 0 (fun _ => False) := by
  refine Met.ofW (cc := cX7_stirredTo) (maxL := 8) (ret := (some .int)) (by decide) rfl ?_
  intro p e s m args below meth c s₁ B hml hv
  obtain ⟨rfl, hP, hK⟩ := hv
  have hx := B.exec
  have hb := B.bytes
  have hr := B.returns
  have hts := atoms_spec (ws := wsX7_stirredTo) B.pre
  have hown : s.vm.findClass RX7 = some m.cls := findClass_of_methodNamed B.named
  have hlocks := B.notSynchronized
  have hin7 : ∀ w ∈ u_ws RX7 TX7 19, w ∈ wsX7_stirredTo := by decide +kernel
  have hl := lv_entry ([.ref a, .int x, .int column, .int n, .int back]) (n := 8) (Nat.le_of_ble_eq_true rfl)
  rw [lg_entry_eq]
  generalize (lg_sl ([.ref a, .int x, .int column, .int n, .int back]) ++ List.replicate (8 - (lg_sl ([.ref a, .int x, .int column, .int n, .int back])).length) Slot.unset).toArray = ls at hl ⊢
  have hl : lv_has ls 8 [(0, .ref a), (1, .int x), (2, .int column), (3, .int n), (4, .int back)] := hl
  refine q_name (fun Q hQ => ?_)
  generalize ([.ref a, .int x, .int column, .int n, .int back] : List Value).toArray = args at hts hQ ⊢
  refine lv_iload_n hx hb dX7_stirredTo_0 rfl (lv_at hl 1 rfl) ?_
  refine lv_bipush (v := nI 6) hx hb dX7_stirredTo_1 (by decide) ?_
  refine lv_irem hx hb dX7_stirredTo_3 (by decide) ?_
  refine lv_topi (fun y1 e2 => ?_)
  refine lv_istore (lv' := [(5, .int y1), (0, .ref a), (1, .int x), (2, .int column), (3, .int n), (4, .int back)]) hx hb dX7_stirredTo_4 hl (by decide) rfl (fun ls hl => ?_)
  refine lv_iload_n hx hb dX7_stirredTo_6 rfl (lv_at hl 2 rfl) ?_
  refine lv_bipush (v := nI 6) hx hb dX7_stirredTo_7 (by decide) ?_
  refine lv_idiv hx hb dX7_stirredTo_9 (by decide) ?_
  refine lv_topi (fun y3 e4 => ?_)
  refine lv_istore (lv' := [(6, .int y3), (5, .int y1), (0, .ref a), (1, .int x), (2, .int column), (3, .int n), (4, .int back)]) hx hb dX7_stirredTo_10 hl (by decide) rfl (fun ls hl => ?_)
  refine lv_iload hx hb dX7_stirredTo_12 (lv_at hl 6 rfl) ?_
  refine lv_iconst (v := nI 1) hx hb dX7_stirredTo_14 (by decide) ?_
  have hJ8 : ∀ (x6 : Int32), (x6 = (-1 : Int32) ∨ x6 = nI 1) → ∀ (ls : Array Slot), lv_has ls 8 [(6, .int y3), (5, .int y1), (0, .ref a), (1, .int x), (2, .int column), (3, .int n)] → W p l e (headSpec wsX7_stirredTo ({ frames := 1, cells := 0, slots := 0, locals := 21 })).room s m args below meth c s.heap [] 0 0 Q (F0 m 23 ls [.int x6]) := by
    intro x6 j7 ls hl
    refine lv_istore (lv' := [(7, .int x6), (6, .int y3), (5, .int y1), (0, .ref a), (1, .int x), (2, .int column), (3, .int n)]) hx hb dX7_stirredTo_23 hl (by decide) rfl (fun ls hl => ?_)
    refine lv_iload_n hx hb dX7_stirredTo_25 rfl (lv_at hl 5 rfl) ?_
    refine lv_iconst (v := nI 1) hx hb dX7_stirredTo_26 (by decide) ?_
    refine lv_icmp_ne (tgt := 59) hx hb dX7_stirredTo_27 (by decide) (fun c9 => ?_) (fun c9 => ?_)
    · refine lv_iload hx hb dX7_stirredTo_59 (lv_at hl 1 rfl) ?_
      refine lv_iload_n hx hb dX7_stirredTo_61 rfl (lv_at hl 6 rfl) ?_
      refine lv_icmp_ne (tgt := 86) hx hb dX7_stirredTo_62 (by decide) (fun c10 => ?_) (fun c10 => ?_)
      · refine lv_iload_n hx hb dX7_stirredTo_86 rfl (lv_at hl 4 rfl) ?_
        rw [hQ]
        exact W.iret (v := x) hx hb hr (fun t9 ht9 hW9 => ⟨x, rfl, trivial, ht9⟩) (fun _ h => absurd h List.not_mem_nil) dX7_stirredTo_87
      · refine lv_bipush (v := nI 6) hx hb dX7_stirredTo_65 (by decide) ?_
        refine lv_iload hx hb dX7_stirredTo_67 (lv_at hl 1 rfl) ?_
        refine lv_imul hx hb dX7_stirredTo_69 ?_
        refine lv_topi (fun y11 e12 => ?_)
        refine lv_iload hx hb dX7_stirredTo_70 (lv_at hl 2 rfl) ?_
        refine lv_iload hx hb dX7_stirredTo_72 (lv_at hl 0 rfl) ?_
        refine lv_iadd hx hb dX7_stirredTo_74 ?_
        refine lv_topi (fun y13 e14 => ?_)
        refine lv_aload_n hx hb dX7_stirredTo_75 rfl (lv_at hl 3 rfl) ?_
        refine va_get (D := (dC, dI)) (ci := 7) (v := .int (nI wide)) (C := RX7) (T := TX7) (N := 19) hx hb hts hin7 hown hK hP 0 rfl rfl 0 (by decide) (hts (.fieldLink RX7 43 "PorridgeSea$Sea" "wide" "I") (List.mem_of_getElem? (i := 2) rfl)) (fun _ h9 => h9) rfl dX7_stirredTo_76 ?_
        refine vp_callSi (W.runS (As := [.int y13, .int (nI wide)]) (rest := [.int y11]) ⟨hx, hb, hml, hown, hts⟩ (c_s_overRim l dC dI ky y13 (nI wide)) (va_cwS 2 hts gX7_stirredTo_X7_overRim rfl rfl rfl (by decide +kernel) ⟨(Nat.le_of_ble_eq_true rfl), (Nat.le_of_ble_eq_true rfl)⟩) (pre_PS hK hP [] rfl) rfl rfl hl.1 rfl (lv_room (Nat.le_of_ble_eq_true rfl)) dX7_stirredTo_79 ⟨(Nat.le_of_ble_eq_true rfl), (Nat.le_of_ble_eq_true rfl)⟩) (fun r15 p16 => ?_)
        refine lv_iadd hx hb dX7_stirredTo_82 ?_
        refine lv_topi (fun y17 e18 => ?_)
        refine lv_goto (tgt := 87) hx hb dX7_stirredTo_83 (by decide) ?_
        rw [hQ]
        exact W.iret (v := y17) hx hb hr (fun t9 ht9 hW9 => ⟨y17, rfl, trivial, ht9⟩) (fun _ h => absurd h List.not_mem_nil) dX7_stirredTo_87
    · refine lv_iload hx hb dX7_stirredTo_30 (lv_at hl 2 rfl) ?_
      refine lv_iload_n hx hb dX7_stirredTo_32 rfl (lv_at hl 6 rfl) ?_
      refine lv_icmp_ne (tgt := 57) hx hb dX7_stirredTo_33 (by decide) (fun c19 => ?_) (fun c19 => ?_)
      · refine lv_iload_n hx hb dX7_stirredTo_57 rfl (lv_at hl 4 rfl) ?_
        rw [hQ]
        exact W.iret (v := x) hx hb hr (fun t9 ht9 hW9 => ⟨x, rfl, trivial, ht9⟩) (fun _ h => absurd h List.not_mem_nil) dX7_stirredTo_58
      · refine lv_bipush (v := nI 6) hx hb dX7_stirredTo_36 (by decide) ?_
        refine lv_iload hx hb dX7_stirredTo_38 (lv_at hl 1 rfl) ?_
        refine lv_iload hx hb dX7_stirredTo_40 (lv_at hl 0 rfl) ?_
        refine lv_iadd hx hb dX7_stirredTo_42 ?_
        refine lv_topi (fun y20 e21 => ?_)
        refine lv_aload_n hx hb dX7_stirredTo_43 rfl (lv_at hl 3 rfl) ?_
        refine va_get (D := (dC, dI)) (ci := 7) (v := .int (nI high)) (C := RX7) (T := TX7) (N := 19) hx hb hts hin7 hown hK hP 0 rfl rfl 1 (by decide) (hts (.fieldLink RX7 47 "PorridgeSea$Sea" "high" "I") (List.mem_of_getElem? (i := 1) rfl)) (fun _ h9 => h9) rfl dX7_stirredTo_44 ?_
        refine vp_callSi (W.runS (As := [.int y20, .int (nI high)]) (rest := [.int (nI 6)]) ⟨hx, hb, hml, hown, hts⟩ (c_s_overRim l dC dI ky y20 (nI high)) (va_cwS 2 hts gX7_stirredTo_X7_overRim rfl rfl rfl (by decide +kernel) ⟨(Nat.le_of_ble_eq_true rfl), (Nat.le_of_ble_eq_true rfl)⟩) (pre_PS hK hP [] rfl) rfl rfl hl.1 rfl (lv_room (Nat.le_of_ble_eq_true rfl)) dX7_stirredTo_47 ⟨(Nat.le_of_ble_eq_true rfl), (Nat.le_of_ble_eq_true rfl)⟩) (fun r22 p23 => ?_)
        refine lv_imul hx hb dX7_stirredTo_50 ?_
        refine lv_topi (fun y24 e25 => ?_)
        refine lv_iload hx hb dX7_stirredTo_51 (lv_at hl 2 rfl) ?_
        refine lv_iadd hx hb dX7_stirredTo_53 ?_
        refine lv_topi (fun y26 e27 => ?_)
        refine lv_goto (tgt := 58) hx hb dX7_stirredTo_54 (by decide) ?_
        rw [hQ]
        exact W.iret (v := y26) hx hb hr (fun t9 ht9 hW9 => ⟨y26, rfl, trivial, ht9⟩) (fun _ h => absurd h List.not_mem_nil) dX7_stirredTo_58
  refine lv_icmp_ne (tgt := 22) hx hb dX7_stirredTo_15 (by decide) (fun c5 => ?_) (fun c5 => ?_)
  · refine lv_iconst (v := nI 1) hx hb dX7_stirredTo_22 (by decide) ?_
    exact hJ8 (nI 1) (lf_s_stirredTo_1) _ (lv_sub hl [0, 1, 2, 3, 4, 5] rfl)
  · refine lv_iconst (v := (-1 : Int32)) hx hb dX7_stirredTo_18 (by decide) ?_
    refine lv_goto (tgt := 23) hx hb dX7_stirredTo_19 (by decide) ?_
    exact hJ8 (-1 : Int32) (lf_s_stirredTo_2) _ (lv_sub hl [0, 1, 2, 3, 4, 5] rfl)
set_option maxHeartbeats 4000000 in
set_option maxRecDepth 100000 in
theorem c_s_whyNotStirred (l : Launch) (dC : Nat → ClassId) (dI : Nat → Nat → Nat) (ky : Nat → ClassId) (a : Nat) (wide : Nat) (high : Nat) (heat : Int32) (cools : Int32) (skinHeat : Int32) (today : Int32) (stirs : Int32) (steps : Int32) (lumps : Nat) (boats : Nat) (thickness : Nat) (lumpNames : Nat) (lumpCells : Nat) (boatNames : Nat) (boatCells : Nat) (loads : Nat) (spoons : Nat) (spoonsLeft : Nat) (depths : Nat) (column : Int32) (n : Int32) (back : Int32) (iv_a_0 : 2 ≤ wide) (iv_a_1 : wide ≤ 6) (iv_a_2 : 2 ≤ high) (iv_a_3 : high ≤ 6) (iv_a_4 : lumps ≤ 6) (iv_a_5 : boats ≤ 6) : Met l yX7_whyNotStirred wsX7_whyNotStirred ({ frames := 1, cells := 0, slots := 0, locals := 22 }) (PcP dC dI ky [.ref a, .int column, .int n, .int back] [(a, .inr (7, [.int (nI wide), .int (nI high), .int heat, .int cools, .int skinHeat, .int today, .int stirs, .int steps, .int (nI lumps), .int (nI boats), .ref thickness, .ref lumpNames, .ref lumpCells, .ref boatNames, .ref boatCells, .ref loads, .ref spoons, .ref spoonsLeft, .ref depths]))]) (vp_Si (fun r : Int32 => True)) 0 0 (fun _ => False) := by
  refine Met.ofW (cc := cX7_whyNotStirred) (maxL := 4) (ret := (some .int)) (by decide) rfl ?_
  intro p e s m args below meth c s₁ B hml hv
  obtain ⟨rfl, hP, hK⟩ := hv
  have hx := B.exec
  have hb := B.bytes
  have hr := B.returns
  have hts := atoms_spec (ws := wsX7_whyNotStirred) B.pre
  have hown : s.vm.findClass RX7 = some m.cls := findClass_of_methodNamed B.named
  have hlocks := B.notSynchronized
  have hl := lv_entry ([.ref a, .int column, .int n, .int back]) (n := 4) (Nat.le_of_ble_eq_true rfl)
  rw [lg_entry_eq]
  generalize (lg_sl ([.ref a, .int column, .int n, .int back]) ++ List.replicate (4 - (lg_sl ([.ref a, .int column, .int n, .int back])).length) Slot.unset).toArray = ls at hl ⊢
  have hl : lv_has ls 4 [(0, .ref a), (1, .int column), (2, .int n), (3, .int back)] := hl
  refine q_name (fun Q hQ => ?_)
  generalize ([.ref a, .int column, .int n, .int back] : List Value).toArray = args at hts hQ ⊢
  refine lv_iload_n hx hb dX7_whyNotStirred_0 rfl (lv_at hl 1 rfl) ?_
  refine lv_if_lt (tgt := 27) hx hb dX7_whyNotStirred_1 (by decide) (fun c1 => ?_) (fun c1 => ?_)
  · refine lv_iconst (v := (-1 : Int32)) hx hb dX7_whyNotStirred_27 (by decide) ?_
    rw [hQ]
    exact W.iret (v := (-1 : Int32)) hx hb hr (fun t9 ht9 hW9 => ⟨(-1 : Int32), rfl, trivial, ht9⟩) (fun _ h => absurd h List.not_mem_nil) dX7_whyNotStirred_28
  · refine lv_iload_n hx hb dX7_whyNotStirred_4 rfl (lv_at hl 1 rfl) ?_
    refine lv_iconst (v := nI 1) hx hb dX7_whyNotStirred_5 (by decide) ?_
    refine lv_icmp_gt (tgt := 27) hx hb dX7_whyNotStirred_6 (by decide) (fun c2 => ?_) (fun c2 => ?_)
    · refine lv_iconst (v := (-1 : Int32)) hx hb dX7_whyNotStirred_27 (by decide) ?_
      rw [hQ]
      exact W.iret (v := (-1 : Int32)) hx hb hr (fun t9 ht9 hW9 => ⟨(-1 : Int32), rfl, trivial, ht9⟩) (fun _ h => absurd h List.not_mem_nil) dX7_whyNotStirred_28
    · refine lv_iload_n hx hb dX7_whyNotStirred_9 rfl (lv_at hl 3 rfl) ?_
      refine lv_if_lt (tgt := 27) hx hb dX7_whyNotStirred_10 (by decide) (fun c3 => ?_) (fun c3 => ?_)
      · refine lv_iconst (v := (-1 : Int32)) hx hb dX7_whyNotStirred_27 (by decide) ?_
        rw [hQ]
        exact W.iret (v := (-1 : Int32)) hx hb hr (fun t9 ht9 hW9 => ⟨(-1 : Int32), rfl, trivial, ht9⟩) (fun _ h => absurd h List.not_mem_nil) dX7_whyNotStirred_28
      · refine lv_iload_n hx hb dX7_whyNotStirred_13 rfl (lv_at hl 3 rfl) ?_
        refine lv_iconst (v := nI 1) hx hb dX7_whyNotStirred_14 (by decide) ?_
        refine lv_icmp_gt (tgt := 27) hx hb dX7_whyNotStirred_15 (by decide) (fun c4 => ?_) (fun c4 => ?_)
        · refine lv_iconst (v := (-1 : Int32)) hx hb dX7_whyNotStirred_27 (by decide) ?_
          rw [hQ]
          exact W.iret (v := (-1 : Int32)) hx hb hr (fun t9 ht9 hW9 => ⟨(-1 : Int32), rfl, trivial, ht9⟩) (fun _ h => absurd h List.not_mem_nil) dX7_whyNotStirred_28
        · refine lv_aload_n hx hb dX7_whyNotStirred_18 rfl (lv_at hl 0 rfl) ?_
          refine lv_iload_n hx hb dX7_whyNotStirred_19 rfl (lv_at hl 1 rfl) ?_
          refine lv_iload_n hx hb dX7_whyNotStirred_20 rfl (lv_at hl 2 rfl) ?_
          refine vp_callSi (W.runV (As := [.int column, .int n]) (rest := []) ⟨hx, hb, hml, hown, hts⟩ (c_s_isLine l dC dI ky a wide high heat cools skinHeat today stirs steps lumps boats thickness lumpNames lumpCells boatNames boatCells loads spoons spoonsLeft depths column n iv_a_0 iv_a_1 iv_a_2 iv_a_3 iv_a_4 iv_a_5) (cwV 2 hts gX7_whyNotStirred_X7_isLine rfl rfl rfl (by decide +kernel) ⟨(Nat.le_of_ble_eq_true rfl), (Nat.le_of_ble_eq_true rfl)⟩) (pre_PV hK hP [0] rfl (ci := 7) (q0 := 0) rfl rfl) rfl rfl hl.1 rfl (lv_room (Nat.le_of_ble_eq_true rfl)) dX7_whyNotStirred_21 ⟨(Nat.le_of_ble_eq_true rfl), (Nat.le_of_ble_eq_true rfl)⟩) (fun r5 p6 => ?_)
          rcases p6 with ⟨rfl, t7, t8⟩ | ⟨rfl, t9⟩
          · refine lv_if_ne (tgt := 29) hx hb dX7_whyNotStirred_24 (by decide) (fun c10 => ?_) (fun c10 => absurd c10 (by decide))
            refine lv_aload_n hx hb dX7_whyNotStirred_29 rfl (lv_at hl 0 rfl) ?_
            refine vp_callSi (W.runV (As := []) (rest := []) ⟨hx, hb, hml, hown, hts⟩ (c_s_hasSkin l dC dI ky a wide high heat cools skinHeat today stirs steps lumps boats thickness lumpNames lumpCells boatNames boatCells loads spoons spoonsLeft depths iv_a_0 iv_a_1 iv_a_2 iv_a_3 iv_a_4 iv_a_5) (cwV 0 hts gX7_whyNotStirred_X7_hasSkin rfl rfl rfl (by decide +kernel) ⟨(Nat.le_of_ble_eq_true rfl), (Nat.le_of_ble_eq_true rfl)⟩) (pre_PV hK hP [0] rfl (ci := 7) (q0 := 0) rfl rfl) rfl rfl hl.1 rfl (lv_room (Nat.le_of_ble_eq_true rfl)) dX7_whyNotStirred_30 ⟨(Nat.le_of_ble_eq_true rfl), (Nat.le_of_ble_eq_true rfl)⟩) (fun r11 p12 => ?_)
            refine lv_if_eq (tgt := 40) hx hb dX7_whyNotStirred_33 (by decide) (fun c13 => ?_) (fun c13 => ?_)
            · refine lv_iconst (v := nI 0) hx hb dX7_whyNotStirred_40 (by decide) ?_
              rw [hQ]
              exact W.iret (v := nI 0) hx hb hr (fun t9 ht9 hW9 => ⟨nI 0, rfl, trivial, ht9⟩) (fun _ h => absurd h List.not_mem_nil) dX7_whyNotStirred_41
            · refine lv_iconst (v := nI 1) hx hb dX7_whyNotStirred_36 (by decide) ?_
              refine lv_goto (tgt := 41) hx hb dX7_whyNotStirred_37 (by decide) ?_
              rw [hQ]
              exact W.iret (v := nI 1) hx hb hr (fun t9 ht9 hW9 => ⟨nI 1, rfl, trivial, ht9⟩) (fun _ h => absurd h List.not_mem_nil) dX7_whyNotStirred_41
          · refine lv_if_ne (tgt := 29) hx hb dX7_whyNotStirred_24 (by decide) (fun c14 => absurd c14 (by decide)) (fun c14 => ?_)
            refine lv_iconst (v := (-1 : Int32)) hx hb dX7_whyNotStirred_27 (by decide) ?_
            rw [hQ]
            exact W.iret (v := (-1 : Int32)) hx hb hr (fun t9 ht9 hW9 => ⟨(-1 : Int32), rfl, trivial, ht9⟩) (fun _ h => absurd h List.not_mem_nil) dX7_whyNotStirred_28
