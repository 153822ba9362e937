theorem dX7_isLine_0 : decode cX7_isLine 0 = .ok (.iload_n 2, 1) := by decide +kernel
theorem dX7_isLine_1 : decode cX7_isLine 1 = .ok (.ifCond .lt 27, 3) := by decide +kernel
theorem dX7_isLine_28 : decode cX7_isLine 28 = .ok (.iconst 0, 1) := by decide +kernel
theorem dX7_isLine_29 : decode cX7_isLine 29 = .ok (.ireturn, 1) := by decide +kernel
theorem dX7_isLine_4 : decode cX7_isLine 4 = .ok (.iload_n 2, 1) := by decide +kernel
theorem dX7_isLine_5 : decode cX7_isLine 5 = .ok (.iload_n 1, 1) := by decide +kernel
theorem dX7_isLine_6 : decode cX7_isLine 6 = .ok (.iconst 1, 1) := by decide +kernel
theorem dX7_isLine_7 : decode cX7_isLine 7 = .ok (.if_icmp .ne 10, 3) := by decide +kernel
theorem dX7_isLine_17 : decode cX7_isLine 17 = .ok (.aload_n 0, 1) := by decide +kernel
theorem dX7_isLine_18 : decode cX7_isLine 18 = .ok (.getfield 47, 3) := by decide +kernel
theorem dX7_isLine_21 : decode cX7_isLine 21 = .ok (.if_icmp .ge 7, 3) := by decide +kernel
theorem dX7_isLine_24 : decode cX7_isLine 24 = .ok (.iconst 1, 1) := by decide +kernel
theorem dX7_isLine_25 : decode cX7_isLine 25 = .ok (.goto 4, 3) := by decide +kernel
theorem dX7_isLine_10 : decode cX7_isLine 10 = .ok (.aload_n 0, 1) := by decide +kernel
theorem dX7_isLine_11 : decode cX7_isLine 11 = .ok (.getfield 43, 3) := by decide +kernel
theorem dX7_isLine_14 : decode cX7_isLine 14 = .ok (.goto 7, 3) := by decide +kernel
theorem dX7_eatenBits_0 : decode cX7_eatenBits 0 = .ok (.iconst 0, 1) := by decide +kernel
theorem dX7_eatenBits_1 : decode cX7_eatenBits 1 = .ok (.istore_n 1, 1) := by decide +kernel
theorem dX7_eatenBits_2 : decode cX7_eatenBits 2 = .ok (.iconst 0, 1) := by decide +kernel
theorem dX7_eatenBits_3 : decode cX7_eatenBits 3 = .ok (.istore_n 2, 1) := by decide +kernel
theorem dX7_eatenBits_4 : decode cX7_eatenBits 4 = .ok (.iload_n 2, 1) := by decide +kernel
theorem dX7_eatenBits_5 : decode cX7_eatenBits 5 = .ok (.aload_n 0, 1) := by decide +kernel
theorem dX7_eatenBits_6 : decode cX7_eatenBits 6 = .ok (.getfield 71, 3) := by decide +kernel
theorem dX7_eatenBits_9 : decode cX7_eatenBits 9 = .ok (.if_icmp .ge 27, 3) := by decide +kernel
theorem dX7_eatenBits_36 : decode cX7_eatenBits 36 = .ok (.iload_n 1, 1) := by decide +kernel
theorem dX7_eatenBits_37 : decode cX7_eatenBits 37 = .ok (.ireturn, 1) := by decide +kernel
theorem dX7_afloatBits_0 : decode cX7_afloatBits 0 = .ok (.iconst 0, 1) := by decide +kernel
theorem dX7_afloatBits_1 : decode cX7_afloatBits 1 = .ok (.istore_n 1, 1) := by decide +kernel
theorem dX7_afloatBits_2 : decode cX7_afloatBits 2 = .ok (.iconst 0, 1) := by decide +kernel
theorem dX7_afloatBits_3 : decode cX7_afloatBits 3 = .ok (.istore_n 2, 1) := by decide +kernel
theorem dX7_afloatBits_4 : decode cX7_afloatBits 4 = .ok (.iload_n 2, 1) := by decide +kernel
theorem dX7_afloatBits_5 : decode cX7_afloatBits 5 = .ok (.aload_n 0, 1) := by decide +kernel
theorem dX7_afloatBits_6 : decode cX7_afloatBits 6 = .ok (.getfield 71, 3) := by decide +kernel
theorem dX7_afloatBits_9 : decode cX7_afloatBits 9 = .ok (.if_icmp .ge 27, 3) := by decide +kernel
theorem dX7_afloatBits_36 : decode cX7_afloatBits 36 = .ok (.iload_n 1, 1) := by decide +kernel
theorem dX7_afloatBits_37 : decode cX7_afloatBits 37 = .ok (.ireturn, 1) := by decide +kernel
theorem dX7_thicknessIn_0 : decode cX7_thicknessIn 0 = .ok (.iload_n 1, 1) := by decide +kernel
theorem dX7_thicknessIn_1 : decode cX7_thicknessIn 1 = .ok (.ifCond .lt 18, 3) := by decide +kernel
theorem dX7_thicknessIn_4 : decode cX7_thicknessIn 4 = .ok (.iload_n 1, 1) := by decide +kernel
theorem dX7_thicknessIn_5 : decode cX7_thicknessIn 5 = .ok (.bipush 36, 2) := by decide +kernel
theorem dX7_thicknessIn_7 : decode cX7_thicknessIn 7 = .ok (.if_icmp .ge 12, 3) := by decide +kernel
theorem dX7_thicknessIn_10 : decode cX7_thicknessIn 10 = .ok (.aload_n 0, 1) := by decide +kernel
theorem dX7_thicknessIn_11 : decode cX7_thicknessIn 11 = .ok (.getfield 9, 3) := by decide +kernel
theorem dX7_thicknessIn_14 : decode cX7_thicknessIn 14 = .ok (.iload_n 1, 1) := by decide +kernel
theorem dX7_thicknessIn_15 : decode cX7_thicknessIn 15 = .ok (.iaload, 1) := by decide +kernel
theorem dX7_thicknessIn_16 : decode cX7_thicknessIn 16 = .ok (.goto 4, 3) := by decide +kernel
theorem dX7_thicknessIn_20 : decode cX7_thicknessIn 20 = .ok (.ireturn, 1) := by decide +kernel
theorem dX7_stepCost_0 : decode cX7_stepCost 0 = .ok (.aload_n 0, 1) := by decide +kernel
theorem dX7_stepCost_1 : decode cX7_stepCost 1 = .ok (.invokevirtual 84, 3) := by decide +kernel
theorem dX7_stepCost_4 : decode cX7_stepCost 4 = .ok (.ifCond .eq 7, 3) := by decide +kernel
theorem dX7_stepCost_11 : decode cX7_stepCost 11 = .ok (.iconst 1, 1) := by decide +kernel
theorem dX7_stepCost_12 : decode cX7_stepCost 12 = .ok (.aload_n 0, 1) := by decide +kernel
theorem dX7_stepCost_13 : decode cX7_stepCost 13 = .ok (.iload_n 1, 1) := by decide +kernel
theorem dX7_stepCost_14 : decode cX7_stepCost 14 = .ok (.invokevirtual 91, 3) := by decide +kernel
theorem dX7_stepCost_17 : decode cX7_stepCost 17 = .ok (.iconst 3, 1) := by decide +kernel
theorem dX7_stepCost_18 : decode cX7_stepCost 18 = .ok (.idiv, 1) := by decide +kernel
theorem dX7_stepCost_19 : decode cX7_stepCost 19 = .ok (.iadd, 1) := by decide +kernel
theorem dX7_stepCost_20 : decode cX7_stepCost 20 = .ok (.ireturn, 1) := by decide +kernel
theorem dX7_stepCost_7 : decode cX7_stepCost 7 = .ok (.iconst 1, 1) := by decide +kernel
theorem dX7_stepCost_8 : decode cX7_stepCost 8 = .ok (.goto 12, 3) := by decide +kernel
theorem dX7_allThickness_0 : decode cX7_allThickness 0 = .ok (.iconst 0, 1) := by decide +kernel
theorem dX7_allThickness_1 : decode cX7_allThickness 1 = .ok (.istore_n 1, 1) := by decide +kernel
theorem dX7_allThickness_2 : decode cX7_allThickness 2 = .ok (.iconst 0, 1) := by decide +kernel
theorem dX7_allThickness_3 : decode cX7_allThickness 3 = .ok (.istore_n 2, 1) := by decide +kernel
theorem dX7_allThickness_4 : decode cX7_allThickness 4 = .ok (.iload_n 2, 1) := by decide +kernel
theorem dX7_allThickness_5 : decode cX7_allThickness 5 = .ok (.bipush 36, 2) := by decide +kernel
theorem dX7_allThickness_7 : decode cX7_allThickness 7 = .ok (.if_icmp .ge 18, 3) := by decide +kernel
theorem dX7_allThickness_10 : decode cX7_allThickness 10 = .ok (.iload_n 1, 1) := by decide +kernel
theorem dX7_allThickness_11 : decode cX7_allThickness 11 = .ok (.aload_n 0, 1) := by decide +kernel
theorem dX7_allThickness_12 : decode cX7_allThickness 12 = .ok (.getfield 9, 3) := by decide +kernel
theorem dX7_allThickness_15 : decode cX7_allThickness 15 = .ok (.iload_n 2, 1) := by decide +kernel
theorem dX7_allThickness_16 : decode cX7_allThickness 16 = .ok (.iaload, 1) := by decide +kernel
theorem dX7_allThickness_17 : decode cX7_allThickness 17 = .ok (.iadd, 1) := by decide +kernel
theorem dX7_allThickness_18 : decode cX7_allThickness 18 = .ok (.istore_n 1, 1) := by decide +kernel
theorem dX7_allThickness_19 : decode cX7_allThickness 19 = .ok (.iinc 2 1, 3) := by decide +kernel
theorem dX7_allThickness_22 : decode cX7_allThickness 22 = .ok (.goto (-18), 3) := by decide +kernel
theorem dX7_allThickness_25 : decode cX7_allThickness 25 = .ok (.iload_n 1, 1) := by decide +kernel
theorem dX7_allThickness_26 : decode cX7_allThickness 26 = .ok (.ireturn, 1) := by decide +kernel
theorem dX7_whyNotStirred_0 : decode cX7_whyNotStirred 0 = .ok (.iload_n 1, 1) := by decide +kernel
theorem dX7_whyNotStirred_1 : decode cX7_whyNotStirred 1 = .ok (.ifCond .lt 26, 3) := by decide +kernel
theorem dX7_whyNotStirred_27 : decode cX7_whyNotStirred 27 = .ok (.iconst (-1), 1) := by decide +kernel
theorem dX7_whyNotStirred_28 : decode cX7_whyNotStirred 28 = .ok (.ireturn, 1) := by decide +kernel
theorem dX7_whyNotStirred_4 : decode cX7_whyNotStirred 4 = .ok (.iload_n 1, 1) := by decide +kernel
theorem dX7_whyNotStirred_5 : decode cX7_whyNotStirred 5 = .ok (.iconst 1, 1) := by decide +kernel
theorem dX7_whyNotStirred_6 : decode cX7_whyNotStirred 6 = .ok (.if_icmp .gt 21, 3) := by decide +kernel
theorem dX7_whyNotStirred_9 : decode cX7_whyNotStirred 9 = .ok (.iload_n 3, 1) := by decide +kernel
theorem dX7_whyNotStirred_10 : decode cX7_whyNotStirred 10 = .ok (.ifCond .lt 17, 3) := by decide +kernel
theorem dX7_whyNotStirred_13 : decode cX7_whyNotStirred 13 = .ok (.iload_n 3, 1) := by decide +kernel
theorem dX7_whyNotStirred_14 : decode cX7_whyNotStirred 14 = .ok (.iconst 1, 1) := by decide +kernel
theorem dX7_whyNotStirred_15 : decode cX7_whyNotStirred 15 = .ok (.if_icmp .gt 12, 3) := by decide +kernel
theorem dX7_whyNotStirred_18 : decode cX7_whyNotStirred 18 = .ok (.aload_n 0, 1) := by decide +kernel
theorem dX7_whyNotStirred_19 : decode cX7_whyNotStirred 19 = .ok (.iload_n 1, 1) := by decide +kernel
theorem dX7_whyNotStirred_20 : decode cX7_whyNotStirred 20 = .ok (.iload_n 2, 1) := by decide +kernel
theorem dX7_whyNotStirred_21 : decode cX7_whyNotStirred 21 = .ok (.invokevirtual 114, 3) := by decide +kernel
theorem dX7_whyNotStirred_24 : decode cX7_whyNotStirred 24 = .ok (.ifCond .ne 5, 3) := by decide +kernel
theorem dX7_whyNotStirred_29 : decode cX7_whyNotStirred 29 = .ok (.aload_n 0, 1) := by decide +kernel
theorem dX7_whyNotStirred_30 : decode cX7_whyNotStirred 30 = .ok (.invokevirtual 84, 3) := by decide +kernel
theorem dX7_whyNotStirred_33 : decode cX7_whyNotStirred 33 = .ok (.ifCond .eq 7, 3) := by decide +kernel
theorem dX7_whyNotStirred_40 : decode cX7_whyNotStirred 40 = .ok (.iconst 0, 1) := by decide +kernel
theorem dX7_whyNotStirred_41 : decode cX7_whyNotStirred 41 = .ok (.ireturn, 1) := by decide +kernel
theorem dX7_whyNotStirred_36 : decode cX7_whyNotStirred 36 = .ok (.iconst 1, 1) := by decide +kernel
theorem dX7_whyNotStirred_37 : decode cX7_whyNotStirred 37 = .ok (.goto 4, 3) := by decide +kernel
theorem dX7_whyNotFloured_0 : decode cX7_whyNotFloured 0 = .ok (.aload_n 0, 1) := by decide +kernel
theorem dX7_whyNotFloured_1 : decode cX7_whyNotFloured 1 = .ok (.iload_n 1, 1) := by decide +kernel
theorem dX7_whyNotFloured_2 : decode cX7_whyNotFloured 2 = .ok (.iload_n 2, 1) := by decide +kernel
theorem dX7_whyNotFloured_3 : decode cX7_whyNotFloured 3 = .ok (.invokevirtual 102, 3) := by decide +kernel
theorem dX7_whyNotFloured_6 : decode cX7_whyNotFloured 6 = .ok (.ifCond .eq 14, 3) := by decide +kernel
theorem dX7_whyNotFloured_20 : decode cX7_whyNotFloured 20 = .ok (.iconst (-1), 1) := by decide +kernel
theorem dX7_whyNotFloured_21 : decode cX7_whyNotFloured 21 = .ok (.ireturn, 1) := by decide +kernel
theorem dX7_whyNotFloured_9 : decode cX7_whyNotFloured 9 = .ok (.iload_n 3, 1) := by decide +kernel
theorem dX7_whyNotFloured_10 : decode cX7_whyNotFloured 10 = .ok (.iconst 1, 1) := by decide +kernel
theorem dX7_whyNotFloured_11 : decode cX7_whyNotFloured 11 = .ok (.if_icmp .lt 9, 3) := by decide +kernel
theorem dX7_whyNotFloured_14 : decode cX7_whyNotFloured 14 = .ok (.iload_n 3, 1) := by decide +kernel
theorem dX7_whyNotFloured_15 : decode cX7_whyNotFloured 15 = .ok (.bipush 9, 2) := by decide +kernel
theorem dX7_whyNotFloured_17 : decode cX7_whyNotFloured 17 = .ok (.if_icmp .le 5, 3) := by decide +kernel
theorem dX7_whyNotFloured_22 : decode cX7_whyNotFloured 22 = .ok (.aload_n 0, 1) := by decide +kernel
theorem dX7_whyNotFloured_23 : decode cX7_whyNotFloured 23 = .ok (.bipush 6, 2) := by decide +kernel
theorem dX7_whyNotFloured_25 : decode cX7_whyNotFloured 25 = .ok (.iload_n 2, 1) := by decide +kernel
theorem dX7_whyNotFloured_26 : decode cX7_whyNotFloured 26 = .ok (.imul, 1) := by decide +kernel
theorem dX7_whyNotFloured_27 : decode cX7_whyNotFloured 27 = .ok (.iload_n 1, 1) := by decide +kernel
theorem dX7_whyNotFloured_28 : decode cX7_whyNotFloured 28 = .ok (.iadd, 1) := by decide +kernel
theorem dX7_whyNotFloured_29 : decode cX7_whyNotFloured 29 = .ok (.invokevirtual 91, 3) := by decide +kernel
theorem dX7_whyNotFloured_32 : decode cX7_whyNotFloured 32 = .ok (.bipush 9, 2) := by decide +kernel
theorem dX7_whyNotFloured_34 : decode cX7_whyNotFloured 34 = .ok (.if_icmp .ne 7, 3) := by decide +kernel
theorem dX7_whyNotFloured_41 : decode cX7_whyNotFloured 41 = .ok (.iconst 0, 1) := by decide +kernel
theorem dX7_whyNotFloured_42 : decode cX7_whyNotFloured 42 = .ok (.ireturn, 1) := by decide +kernel
theorem dX7_whyNotMilked_0 : decode cX7_whyNotMilked 0 = .ok (.aload_n 0, 1) := by decide +kernel
theorem dX7_whyNotMilked_1 : decode cX7_whyNotMilked 1 = .ok (.iload_n 1, 1) := by decide +kernel
theorem dX7_whyNotMilked_2 : decode cX7_whyNotMilked 2 = .ok (.iload_n 2, 1) := by decide +kernel
theorem dX7_whyNotMilked_3 : decode cX7_whyNotMilked 3 = .ok (.invokevirtual 102, 3) := by decide +kernel
theorem dX7_whyNotMilked_6 : decode cX7_whyNotMilked 6 = .ok (.ifCond .eq 14, 3) := by decide +kernel
theorem dX7_whyNotMilked_20 : decode cX7_whyNotMilked 20 = .ok (.iconst (-1), 1) := by decide +kernel
theorem dX7_whyNotMilked_21 : decode cX7_whyNotMilked 21 = .ok (.ireturn, 1) := by decide +kernel
theorem dX7_whyNotMilked_9 : decode cX7_whyNotMilked 9 = .ok (.iload_n 3, 1) := by decide +kernel
theorem dX7_whyNotMilked_10 : decode cX7_whyNotMilked 10 = .ok (.iconst 1, 1) := by decide +kernel
theorem dX7_whyNotMilked_11 : decode cX7_whyNotMilked 11 = .ok (.if_icmp .lt 9, 3) := by decide +kernel
theorem dX7_whyNotMilked_14 : decode cX7_whyNotMilked 14 = .ok (.iload_n 3, 1) := by decide +kernel
theorem dX7_whyNotMilked_15 : decode cX7_whyNotMilked 15 = .ok (.bipush 9, 2) := by decide +kernel
theorem dX7_whyNotMilked_17 : decode cX7_whyNotMilked 17 = .ok (.if_icmp .le 5, 3) := by decide +kernel
theorem dX7_whyNotMilked_22 : decode cX7_whyNotMilked 22 = .ok (.aload_n 0, 1) := by decide +kernel
theorem dX7_whyNotMilked_23 : decode cX7_whyNotMilked 23 = .ok (.bipush 6, 2) := by decide +kernel
theorem dX7_whyNotMilked_25 : decode cX7_whyNotMilked 25 = .ok (.iload_n 2, 1) := by decide +kernel
theorem dX7_whyNotMilked_26 : decode cX7_whyNotMilked 26 = .ok (.imul, 1) := by decide +kernel
theorem dX7_whyNotMilked_27 : decode cX7_whyNotMilked 27 = .ok (.iload_n 1, 1) := by decide +kernel
theorem dX7_whyNotMilked_28 : decode cX7_whyNotMilked 28 = .ok (.iadd, 1) := by decide +kernel
theorem dX7_whyNotMilked_29 : decode cX7_whyNotMilked 29 = .ok (.invokevirtual 91, 3) := by decide +kernel
theorem dX7_whyNotMilked_32 : decode cX7_whyNotMilked 32 = .ok (.ifCond .ne 7, 3) := by decide +kernel
theorem dX7_whyNotMilked_35 : decode cX7_whyNotMilked 35 = .ok (.iconst 1, 1) := by decide +kernel
theorem dX7_whyNotMilked_36 : decode cX7_whyNotMilked 36 = .ok (.goto 4, 3) := by decide +kernel
theorem dX7_whyNotMilked_40 : decode cX7_whyNotMilked 40 = .ok (.ireturn, 1) := by decide +kernel
theorem dX7_whyNotRowed_0 : decode cX7_whyNotRowed 0 = .ok (.aload_n 0, 1) := by decide +kernel
theorem dX7_whyNotRowed_1 : decode cX7_whyNotRowed 1 = .ok (.iload_n 1, 1) := by decide +kernel
theorem dX7_whyNotRowed_2 : decode cX7_whyNotRowed 2 = .ok (.invokevirtual 80, 3) := by decide +kernel
theorem dX7_whyNotRowed_5 : decode cX7_whyNotRowed 5 = .ok (.ifCond .eq 12, 3) := by decide +kernel
theorem dX7_whyNotRowed_17 : decode cX7_whyNotRowed 17 = .ok (.iconst (-1), 1) := by decide +kernel
theorem dX7_whyNotRowed_18 : decode cX7_whyNotRowed 18 = .ok (.ireturn, 1) := by decide +kernel
theorem dX7_whyNotWarmed_0 : decode cX7_whyNotWarmed 0 = .ok (.iload_n 1, 1) := by decide +kernel
theorem dX7_whyNotWarmed_1 : decode cX7_whyNotWarmed 1 = .ok (.iconst 1, 1) := by decide +kernel
theorem dX7_whyNotWarmed_2 : decode cX7_whyNotWarmed 2 = .ok (.if_icmp .lt 9, 3) := by decide +kernel
theorem dX7_whyNotWarmed_11 : decode cX7_whyNotWarmed 11 = .ok (.iconst (-1), 1) := by decide +kernel
theorem dX7_whyNotWarmed_12 : decode cX7_whyNotWarmed 12 = .ok (.ireturn, 1) := by decide +kernel
theorem dX7_whyNotWarmed_5 : decode cX7_whyNotWarmed 5 = .ok (.iload_n 1, 1) := by decide +kernel
theorem dX7_whyNotWarmed_6 : decode cX7_whyNotWarmed 6 = .ok (.bipush 20, 2) := by decide +kernel
theorem dX7_whyNotWarmed_8 : decode cX7_whyNotWarmed 8 = .ok (.if_icmp .le 5, 3) := by decide +kernel
theorem dX7_whyNotWarmed_13 : decode cX7_whyNotWarmed 13 = .ok (.aload_n 0, 1) := by decide +kernel
theorem dX7_whyNotWarmed_14 : decode cX7_whyNotWarmed 14 = .ok (.getfield 50, 3) := by decide +kernel
theorem dX7_whyNotWarmed_17 : decode cX7_whyNotWarmed 17 = .ok (.bipush 30, 2) := by decide +kernel
theorem dX7_whyNotWarmed_19 : decode cX7_whyNotWarmed 19 = .ok (.if_icmp .ne 7, 3) := by decide +kernel
theorem dX7_whyNotWarmed_26 : decode cX7_whyNotWarmed 26 = .ok (.iconst 0, 1) := by decide +kernel
theorem dX7_whyNotWarmed_27 : decode cX7_whyNotWarmed 27 = .ok (.ireturn, 1) := by decide +kernel
theorem dX7_stirThickness_0 : decode cX7_stirThickness 0 = .ok (.iload_n 1, 1) := by decide +kernel
theorem dX7_stirThickness_1 : decode cX7_stirThickness 1 = .ok (.iconst 1, 1) := by decide +kernel
theorem dX7_stirThickness_2 : decode cX7_stirThickness 2 = .ok (.if_icmp .ne 10, 3) := by decide +kernel
theorem dX7_stirThickness_12 : decode cX7_stirThickness 12 = .ok (.aload_n 0, 1) := by decide +kernel
theorem dX7_stirThickness_13 : decode cX7_stirThickness 13 = .ok (.getfield 43, 3) := by decide +kernel
theorem dX7_stirThickness_16 : decode cX7_stirThickness 16 = .ok (.istore 4, 2) := by decide +kernel
theorem dX7_stirThickness_18 : decode cX7_stirThickness 18 = .ok (.iload_n 1, 1) := by decide +kernel
theorem dX7_stirThickness_19 : decode cX7_stirThickness 19 = .ok (.iconst 1, 1) := by decide +kernel
theorem dX7_stirThickness_20 : decode cX7_stirThickness 20 = .ok (.if_icmp .ne 7, 3) := by decide +kernel
theorem dX7_stirThickness_27 : decode cX7_stirThickness 27 = .ok (.bipush 6, 2) := by decide +kernel
theorem dX7_stirThickness_29 : decode cX7_stirThickness 29 = .ok (.iload_n 2, 1) := by decide +kernel
theorem dX7_stirThickness_30 : decode cX7_stirThickness 30 = .ok (.imul, 1) := by decide +kernel
theorem dX7_stirThickness_31 : decode cX7_stirThickness 31 = .ok (.istore 5, 2) := by decide +kernel
theorem dX7_stirThickness_33 : decode cX7_stirThickness 33 = .ok (.iload_n 1, 1) := by decide +kernel
theorem dX7_stirThickness_34 : decode cX7_stirThickness 34 = .ok (.iconst 1, 1) := by decide +kernel
theorem dX7_stirThickness_35 : decode cX7_stirThickness 35 = .ok (.if_icmp .ne 8, 3) := by decide +kernel
theorem dX7_stirThickness_43 : decode cX7_stirThickness 43 = .ok (.iconst 1, 1) := by decide +kernel
theorem dX7_stirThickness_44 : decode cX7_stirThickness 44 = .ok (.istore 6, 2) := by decide +kernel
theorem dX7_stirThickness_46 : decode cX7_stirThickness 46 = .ok (.iconst 1, 1) := by decide +kernel
theorem dX7_stirThickness_47 : decode cX7_stirThickness 47 = .ok (.istore 7, 2) := by decide +kernel
theorem dX7_stirThickness_49 : decode cX7_stirThickness 49 = .ok (.iload 7, 2) := by decide +kernel
theorem dX7_stirThickness_51 : decode cX7_stirThickness 51 = .ok (.iload 4, 2) := by decide +kernel
theorem dX7_stirThickness_53 : decode cX7_stirThickness 53 = .ok (.if_icmp .ge 83, 3) := by decide +kernel
theorem dX7_stirThickness_56 : decode cX7_stirThickness 56 = .ok (.iload 5, 2) := by decide +kernel
theorem dX7_stirThickness_58 : decode cX7_stirThickness 58 = .ok (.iload 6, 2) := by decide +kernel
theorem dX7_stirThickness_60 : decode cX7_stirThickness 60 = .ok (.iload_n 3, 1) := by decide +kernel
theorem dX7_stirThickness_61 : decode cX7_stirThickness 61 = .ok (.iconst 1, 1) := by decide +kernel
theorem dX7_stirThickness_62 : decode cX7_stirThickness 62 = .ok (.if_icmp .ne 8, 3) := by decide +kernel
theorem dX7_stirThickness_70 : decode cX7_stirThickness 70 = .ok (.iload 4, 2) := by decide +kernel
theorem dX7_stirThickness_72 : decode cX7_stirThickness 72 = .ok (.iload 7, 2) := by decide +kernel
theorem dX7_stirThickness_74 : decode cX7_stirThickness 74 = .ok (.isub, 1) := by decide +kernel
theorem dX7_stirThickness_75 : decode cX7_stirThickness 75 = .ok (.imul, 1) := by decide +kernel
theorem dX7_stirThickness_76 : decode cX7_stirThickness 76 = .ok (.iadd, 1) := by decide +kernel
theorem dX7_stirThickness_77 : decode cX7_stirThickness 77 = .ok (.istore 8, 2) := by decide +kernel
theorem dX7_stirThickness_79 : decode cX7_stirThickness 79 = .ok (.iload 8, 2) := by decide +kernel
theorem dX7_stirThickness_81 : decode cX7_stirThickness 81 = .ok (.iload 6, 2) := by decide +kernel
theorem dX7_stirThickness_83 : decode cX7_stirThickness 83 = .ok (.isub, 1) := by decide +kernel
theorem dX7_stirThickness_84 : decode cX7_stirThickness 84 = .ok (.istore 9, 2) := by decide +kernel
theorem dX7_stirThickness_86 : decode cX7_stirThickness 86 = .ok (.iload 9, 2) := by decide +kernel
theorem dX7_stirThickness_88 : decode cX7_stirThickness 88 = .ok (.ifCond .lt 42, 3) := by decide +kernel
theorem dX7_stirThickness_91 : decode cX7_stirThickness 91 = .ok (.iload 8, 2) := by decide +kernel
theorem dX7_stirThickness_93 : decode cX7_stirThickness 93 = .ok (.bipush 36, 2) := by decide +kernel
theorem dX7_stirThickness_95 : decode cX7_stirThickness 95 = .ok (.if_icmp .ge 35, 3) := by decide +kernel
theorem dX7_stirThickness_98 : decode cX7_stirThickness 98 = .ok (.aload_n 0, 1) := by decide +kernel
theorem dX7_stirThickness_99 : decode cX7_stirThickness 99 = .ok (.getfield 9, 3) := by decide +kernel
theorem dX7_stirThickness_102 : decode cX7_stirThickness 102 = .ok (.iload 8, 2) := by decide +kernel
theorem dX7_stirThickness_104 : decode cX7_stirThickness 104 = .ok (.iaload, 1) := by decide +kernel
theorem dX7_stirThickness_105 : decode cX7_stirThickness 105 = .ok (.istore 10, 2) := by decide +kernel
theorem dX7_stirThickness_107 : decode cX7_stirThickness 107 = .ok (.aload_n 0, 1) := by decide +kernel
theorem dX7_stirThickness_108 : decode cX7_stirThickness 108 = .ok (.getfield 9, 3) := by decide +kernel
theorem dX7_stirThickness_111 : decode cX7_stirThickness 111 = .ok (.iload 8, 2) := by decide +kernel
theorem dX7_stirThickness_113 : decode cX7_stirThickness 113 = .ok (.aload_n 0, 1) := by decide +kernel
theorem dX7_stirThickness_114 : decode cX7_stirThickness 114 = .ok (.getfield 9, 3) := by decide +kernel
theorem dX7_stirThickness_117 : decode cX7_stirThickness 117 = .ok (.iload 9, 2) := by decide +kernel
theorem dX7_stirThickness_119 : decode cX7_stirThickness 119 = .ok (.iaload, 1) := by decide +kernel
theorem dX7_stirThickness_120 : decode cX7_stirThickness 120 = .ok (.iastore, 1) := by decide +kernel
theorem dX7_stirThickness_121 : decode cX7_stirThickness 121 = .ok (.aload_n 0, 1) := by decide +kernel
theorem dX7_stirThickness_122 : decode cX7_stirThickness 122 = .ok (.getfield 9, 3) := by decide +kernel
theorem dX7_stirThickness_125 : decode cX7_stirThickness 125 = .ok (.iload 9, 2) := by decide +kernel
theorem dX7_stirThickness_127 : decode cX7_stirThickness 127 = .ok (.iload 10, 2) := by decide +kernel
theorem dX7_stirThickness_129 : decode cX7_stirThickness 129 = .ok (.iastore, 1) := by decide +kernel
theorem dX7_stirThickness_130 : decode cX7_stirThickness 130 = .ok (.iinc 7 1, 3) := by decide +kernel
theorem dX7_stirThickness_133 : decode cX7_stirThickness 133 = .ok (.goto (-84), 3) := by decide +kernel
theorem dX7_stirThickness_136 : decode cX7_stirThickness 136 = .ok (.return_, 1) := by decide +kernel
theorem dX7_stirLine_0 : decode cX7_stirLine 0 = .ok (.aload_n 0, 1) := by decide +kernel
theorem dX7_stirLine_1 : decode cX7_stirLine 1 = .ok (.iload_n 1, 1) := by decide +kernel
theorem dX7_stirLine_2 : decode cX7_stirLine 2 = .ok (.iload_n 2, 1) := by decide +kernel
theorem dX7_stirLine_3 : decode cX7_stirLine 3 = .ok (.invokevirtual 114, 3) := by decide +kernel
theorem dX7_stirLine_6 : decode cX7_stirLine 6 = .ok (.ifCond .ne 4, 3) := by decide +kernel
theorem dX7_stirLine_10 : decode cX7_stirLine 10 = .ok (.aload_n 0, 1) := by decide +kernel
theorem dX7_stirLine_11 : decode cX7_stirLine 11 = .ok (.iload_n 1, 1) := by decide +kernel
theorem dX7_stirLine_12 : decode cX7_stirLine 12 = .ok (.iload_n 2, 1) := by decide +kernel
theorem dX7_stirLine_13 : decode cX7_stirLine 13 = .ok (.iload_n 3, 1) := by decide +kernel
theorem dX7_stirLine_14 : decode cX7_stirLine 14 = .ok (.invokevirtual 117, 3) := by decide +kernel
theorem dX7_stirLine_17 : decode cX7_stirLine 17 = .ok (.iconst 0, 1) := by decide +kernel
theorem dX7_stirLine_18 : decode cX7_stirLine 18 = .ok (.istore 4, 2) := by decide +kernel
theorem dX7_stirLine_20 : decode cX7_stirLine 20 = .ok (.iload 4, 2) := by decide +kernel
theorem dX7_stirLine_22 : decode cX7_stirLine 22 = .ok (.aload_n 0, 1) := by decide +kernel
theorem dX7_stirLine_23 : decode cX7_stirLine 23 = .ok (.getfield 68, 3) := by decide +kernel
theorem dX7_stirLine_26 : decode cX7_stirLine 26 = .ok (.if_icmp .ge 30, 3) := by decide +kernel
theorem dX7_stirLine_56 : decode cX7_stirLine 56 = .ok (.iconst 0, 1) := by decide +kernel
theorem dX7_stirLine_57 : decode cX7_stirLine 57 = .ok (.istore 4, 2) := by decide +kernel
theorem dX7_stirLine_59 : decode cX7_stirLine 59 = .ok (.iload 4, 2) := by decide +kernel
theorem dX7_stirLine_61 : decode cX7_stirLine 61 = .ok (.aload_n 0, 1) := by decide +kernel
theorem dX7_stirLine_62 : decode cX7_stirLine 62 = .ok (.getfield 71, 3) := by decide +kernel
theorem dX7_stirLine_65 : decode cX7_stirLine 65 = .ok (.if_icmp .ge 39, 3) := by decide +kernel
theorem dX7_stirLine_104 : decode cX7_stirLine 104 = .ok (.aload_n 0, 1) := by decide +kernel
theorem dX7_stirLine_105 : decode cX7_stirLine 105 = .ok (.dup, 1) := by decide +kernel
theorem dX7_stirLine_106 : decode cX7_stirLine 106 = .ok (.getfield 62, 3) := by decide +kernel
theorem dX7_stirLine_109 : decode cX7_stirLine 109 = .ok (.iconst 1, 1) := by decide +kernel
theorem dX7_stirLine_110 : decode cX7_stirLine 110 = .ok (.iadd, 1) := by decide +kernel
theorem dX7_stirLine_111 : decode cX7_stirLine 111 = .ok (.putfield 62, 3) := by decide +kernel
theorem dX7_stirLine_114 : decode cX7_stirLine 114 = .ok (.return_, 1) := by decide +kernel
theorem dX7_stirLine_9 : decode cX7_stirLine 9 = .ok (.return_, 1) := by decide +kernel
theorem dX7_stirThickness_65 : decode cX7_stirThickness 65 = .ok (.iload 7, 2) := by decide +kernel
theorem dX7_stirThickness_67 : decode cX7_stirThickness 67 = .ok (.goto 8, 3) := by decide +kernel
theorem dX7_stirThickness_5 : decode cX7_stirThickness 5 = .ok (.aload_n 0, 1) := by decide +kernel
theorem dX7_stirThickness_6 : decode cX7_stirThickness 6 = .ok (.getfield 47, 3) := by decide +kernel
theorem dX7_stirThickness_9 : decode cX7_stirThickness 9 = .ok (.goto 7, 3) := by decide +kernel
theorem dX7_stirThickness_23 : decode cX7_stirThickness 23 = .ok (.iload_n 2, 1) := by decide +kernel
theorem dX7_stirThickness_24 : decode cX7_stirThickness 24 = .ok (.goto 7, 3) := by decide +kernel
theorem dX7_stirThickness_38 : decode cX7_stirThickness 38 = .ok (.bipush 6, 2) := by decide +kernel
theorem dX7_stirThickness_40 : decode cX7_stirThickness 40 = .ok (.goto 4, 3) := by decide +kernel
theorem dX7_thicken_0 : decode cX7_thicken 0 = .ok (.aload_n 0, 1) := by decide +kernel
theorem dX7_thicken_1 : decode cX7_thicken 1 = .ok (.iload_n 1, 1) := by decide +kernel
theorem dX7_thicken_2 : decode cX7_thicken 2 = .ok (.iload_n 2, 1) := by decide +kernel
theorem dX7_thicken_3 : decode cX7_thicken 3 = .ok (.invokevirtual 102, 3) := by decide +kernel
theorem dX7_thicken_6 : decode cX7_thicken 6 = .ok (.ifCond .eq 36, 3) := by decide +kernel
theorem dX7_thicken_42 : decode cX7_thicken 42 = .ok (.return_, 1) := by decide +kernel
theorem dX7_thicken_9 : decode cX7_thicken 9 = .ok (.bipush 6, 2) := by decide +kernel
theorem dX7_thicken_11 : decode cX7_thicken 11 = .ok (.iload_n 2, 1) := by decide +kernel
theorem dX7_thicken_12 : decode cX7_thicken 12 = .ok (.imul, 1) := by decide +kernel
theorem dX7_thicken_13 : decode cX7_thicken 13 = .ok (.iload_n 1, 1) := by decide +kernel
theorem dX7_thicken_14 : decode cX7_thicken 14 = .ok (.iadd, 1) := by decide +kernel
theorem dX7_thicken_15 : decode cX7_thicken 15 = .ok (.istore 4, 2) := by decide +kernel
theorem dX7_thicken_17 : decode cX7_thicken 17 = .ok (.aload_n 0, 1) := by decide +kernel
theorem dX7_thicken_18 : decode cX7_thicken 18 = .ok (.getfield 9, 3) := by decide +kernel
theorem dX7_thicken_21 : decode cX7_thicken 21 = .ok (.iload 4, 2) := by decide +kernel
theorem dX7_thicken_23 : decode cX7_thicken 23 = .ok (.iconst 0, 1) := by decide +kernel
theorem dX7_thicken_24 : decode cX7_thicken 24 = .ok (.bipush 9, 2) := by decide +kernel
theorem dX7_thicken_26 : decode cX7_thicken 26 = .ok (.aload_n 0, 1) := by decide +kernel
theorem dX7_thicken_27 : decode cX7_thicken 27 = .ok (.getfield 9, 3) := by decide +kernel
theorem dX7_thicken_30 : decode cX7_thicken 30 = .ok (.iload 4, 2) := by decide +kernel
theorem dX7_thicken_32 : decode cX7_thicken 32 = .ok (.iaload, 1) := by decide +kernel
theorem dX7_thicken_33 : decode cX7_thicken 33 = .ok (.iload_n 3, 1) := by decide +kernel
theorem dX7_thicken_34 : decode cX7_thicken 34 = .ok (.iadd, 1) := by decide +kernel
theorem dX7_thicken_35 : decode cX7_thicken 35 = .ok (.invokestatic 131, 3) := by decide +kernel
theorem dX7_thicken_38 : decode cX7_thicken 38 = .ok (.invokestatic 134, 3) := by decide +kernel
theorem dX7_thicken_41 : decode cX7_thicken 41 = .ok (.iastore, 1) := by decide +kernel
theorem dX7_warm_0 : decode cX7_warm 0 = .ok (.aload_n 0, 1) := by decide +kernel
theorem dX7_warm_1 : decode cX7_warm 1 = .ok (.bipush 30, 2) := by decide +kernel
theorem dX7_warm_3 : decode cX7_warm 3 = .ok (.aload_n 0, 1) := by decide +kernel
theorem dX7_warm_4 : decode cX7_warm 4 = .ok (.getfield 50, 3) := by decide +kernel
theorem dX7_warm_7 : decode cX7_warm 7 = .ok (.iload_n 1, 1) := by decide +kernel
theorem dX7_warm_8 : decode cX7_warm 8 = .ok (.iadd, 1) := by decide +kernel
theorem dX7_warm_9 : decode cX7_warm 9 = .ok (.invokestatic 131, 3) := by decide +kernel
theorem dX7_warm_12 : decode cX7_warm 12 = .ok (.putfield 50, 3) := by decide +kernel
theorem dX7_warm_15 : decode cX7_warm 15 = .ok (.return_, 1) := by decide +kernel
theorem dX7_passDay_0 : decode cX7_passDay 0 = .ok (.iconst 0, 1) := by decide +kernel
theorem dX7_passDay_1 : decode cX7_passDay 1 = .ok (.istore_n 1, 1) := by decide +kernel
theorem dX7_passDay_2 : decode cX7_passDay 2 = .ok (.iload_n 1, 1) := by decide +kernel
theorem dX7_passDay_3 : decode cX7_passDay 3 = .ok (.aload_n 0, 1) := by decide +kernel
theorem dX7_passDay_4 : decode cX7_passDay 4 = .ok (.getfield 71, 3) := by decide +kernel
theorem dX7_passDay_7 : decode cX7_passDay 7 = .ok (.if_icmp .ge 55, 3) := by decide +kernel
theorem dX7_passDay_62 : decode cX7_passDay 62 = .ok (.aload_n 0, 1) := by decide +kernel
theorem dX7_passDay_63 : decode cX7_passDay 63 = .ok (.iconst 0, 1) := by decide +kernel
theorem dX7_passDay_64 : decode cX7_passDay 64 = .ok (.aload_n 0, 1) := by decide +kernel
theorem dX7_passDay_65 : decode cX7_passDay 65 = .ok (.getfield 50, 3) := by decide +kernel
theorem dX7_passDay_68 : decode cX7_passDay 68 = .ok (.aload_n 0, 1) := by decide +kernel
theorem dX7_passDay_69 : decode cX7_passDay 69 = .ok (.getfield 53, 3) := by decide +kernel
theorem dX7_passDay_72 : decode cX7_passDay 72 = .ok (.isub, 1) := by decide +kernel
theorem dX7_passDay_73 : decode cX7_passDay 73 = .ok (.invokestatic 134, 3) := by decide +kernel
theorem dX7_passDay_76 : decode cX7_passDay 76 = .ok (.putfield 50, 3) := by decide +kernel
theorem dX7_passDay_79 : decode cX7_passDay 79 = .ok (.aload_n 0, 1) := by decide +kernel
theorem dX7_passDay_80 : decode cX7_passDay 80 = .ok (.dup, 1) := by decide +kernel
theorem dX7_passDay_81 : decode cX7_passDay 81 = .ok (.getfield 59, 3) := by decide +kernel
theorem dX7_passDay_84 : decode cX7_passDay 84 = .ok (.iconst 1, 1) := by decide +kernel
theorem dX7_passDay_85 : decode cX7_passDay 85 = .ok (.iadd, 1) := by decide +kernel
theorem dX7_passDay_86 : decode cX7_passDay 86 = .ok (.putfield 59, 3) := by decide +kernel
theorem dX7_passDay_89 : decode cX7_passDay 89 = .ok (.return_, 1) := by decide +kernel
theorem dX7_passDays_0 : decode cX7_passDays 0 = .ok (.iload_n 1, 1) := by decide +kernel
theorem dX7_passDays_1 : decode cX7_passDays 1 = .ok (.aload_n 0, 1) := by decide +kernel
theorem dX7_passDays_2 : decode cX7_passDays 2 = .ok (.invokevirtual 137, 3) := by decide +kernel
theorem dX7_passDays_5 : decode cX7_passDays 5 = .ok (.invokestatic 131, 3) := by decide +kernel
theorem dX7_passDays_8 : decode cX7_passDays 8 = .ok (.istore_n 2, 1) := by decide +kernel
theorem dX7_passDays_9 : decode cX7_passDays 9 = .ok (.iconst 0, 1) := by decide +kernel
theorem dX7_passDays_10 : decode cX7_passDays 10 = .ok (.istore_n 3, 1) := by decide +kernel
theorem dX7_passDays_11 : decode cX7_passDays 11 = .ok (.iload_n 3, 1) := by decide +kernel
theorem dX7_passDays_12 : decode cX7_passDays 12 = .ok (.iload_n 2, 1) := by decide +kernel
theorem dX7_passDays_13 : decode cX7_passDays 13 = .ok (.if_icmp .ge 13, 3) := by decide +kernel
theorem dX7_passDays_16 : decode cX7_passDays 16 = .ok (.aload_n 0, 1) := by decide +kernel
theorem dX7_passDays_17 : decode cX7_passDays 17 = .ok (.invokevirtual 141, 3) := by decide +kernel
theorem dX7_passDays_20 : decode cX7_passDays 20 = .ok (.iinc 3 1, 3) := by decide +kernel
theorem dX7_passDays_23 : decode cX7_passDays 23 = .ok (.goto (-12), 3) := by decide +kernel
theorem dX7_passDays_26 : decode cX7_passDays 26 = .ok (.iload_n 2, 1) := by decide +kernel
theorem dX7_passDays_27 : decode cX7_passDays 27 = .ok (.ireturn, 1) := by decide +kernel
set_option maxRecDepth 20000 in
theorem ggX7_stepCost_X7_hasSkin : GoodIn wsX7_stepCost wsX7_hasSkin := goodIn_r _ [5, 6, 7, 13, 14, 15, 16, 17, 18, 19, 20, 21, 22, 23, 24, 25, 26, 27, 28, 29, 30, 31] (by decide +kernel) (by decide +kernel)
set_option maxRecDepth 20000 in
theorem ggX7_stepCost_X7_thicknessIn : GoodIn wsX7_stepCost wsX7_thicknessIn := goodIn_r _ [11, 12, 13, 14, 15, 16, 17, 18, 19, 20, 21, 22, 23, 24, 25, 26, 27, 28, 29, 30, 31] (by decide +kernel) (by decide +kernel)
set_option maxRecDepth 20000 in
theorem ggX7_whyNotStirred_X7_isLine : GoodIn wsX7_whyNotStirred wsX7_isLine := goodIn_r _ [5, 6, 7, 14, 15, 16, 17, 18, 19, 20, 21, 22, 23, 24, 25, 26, 27, 28, 29, 30, 31, 32] (by decide +kernel) (by decide +kernel)
set_option maxRecDepth 20000 in
theorem ggX7_whyNotStirred_X7_hasSkin : GoodIn wsX7_whyNotStirred wsX7_hasSkin := goodIn_r _ [11, 12, 13, 14, 15, 16, 17, 18, 19, 20, 21, 22, 23, 24, 25, 26, 27, 28, 29, 30, 31, 32] (by decide +kernel) (by decide +kernel)
set_option maxRecDepth 20000 in
theorem ggX7_whyNotFloured_X7_isCell : GoodIn wsX7_whyNotFloured wsX7_isCell := goodIn_r _ [5, 6, 7, 13, 14, 15, 16, 17, 18, 19, 20, 21, 22, 23, 24, 25, 26, 27, 28, 29, 30, 31] (by decide +kernel) (by decide +kernel)
set_option maxRecDepth 20000 in
theorem ggX7_whyNotFloured_X7_thicknessIn : GoodIn wsX7_whyNotFloured wsX7_thicknessIn := goodIn_r _ [11, 12, 13, 14, 15, 16, 17, 18, 19, 20, 21, 22, 23, 24, 25, 26, 27, 28, 29, 30, 31] (by decide +kernel) (by decide +kernel)
set_option maxRecDepth 20000 in
theorem ggX7_whyNotMilked_X7_isCell : GoodIn wsX7_whyNotMilked wsX7_isCell := goodIn_r _ [5, 6, 7, 13, 14, 15, 16, 17, 18, 19, 20, 21, 22, 23, 24, 25, 26, 27, 28, 29, 30, 31] (by decide +kernel) (by decide +kernel)
set_option maxRecDepth 20000 in
theorem ggX7_whyNotMilked_X7_thicknessIn : GoodIn wsX7_whyNotMilked wsX7_thicknessIn := goodIn_r _ [11, 12, 13, 14, 15, 16, 17, 18, 19, 20, 21, 22, 23, 24, 25, 26, 27, 28, 29, 30, 31] (by decide +kernel) (by decide +kernel)
set_option maxRecDepth 20000 in
theorem ggX7_whyNotRowed_X7_isBoat : GoodIn wsX7_whyNotRowed wsX7_isBoat := goodIn_r _ [7, 8, 39, 40, 41, 42, 43, 44, 45, 46, 47, 48, 49, 50, 51, 52, 53, 54, 55, 56, 57] (by decide +kernel) (by decide +kernel)
set_option maxRecDepth 20000 in
theorem ggX7_stirLine_X7_isLine : GoodIn wsX7_stirLine wsX7_isLine := goodIn_r _ [10, 11, 12, 34, 35, 36, 37, 38, 39, 40, 41, 42, 43, 44, 45, 46, 47, 48, 49, 50, 51, 52] (by decide +kernel) (by decide +kernel)
set_option maxRecDepth 20000 in
theorem ggX7_stirLine_X7_stirThickness : GoodIn wsX7_stirLine wsX7_stirThickness := goodIn_r _ [16, 12, 11, 17, 34, 35, 36, 37, 38, 39, 40, 41, 42, 43, 44, 45, 46, 47, 48, 49, 50, 51, 52] (by decide +kernel) (by decide +kernel)
set_option maxRecDepth 20000 in
theorem ggX7_thicken_X7_isCell : GoodIn wsX7_thicken wsX7_isCell := goodIn_r _ [13, 14, 15, 16, 17, 18, 19, 20, 21, 22, 23, 24, 25, 26, 27, 28, 29, 30, 31, 32, 33, 34] (by decide +kernel) (by decide +kernel)
set_option maxRecDepth 20000 in
theorem ggX7_passDays_X7_daysLeft : GoodIn wsX7_passDays wsX7_daysLeft := goodIn_r _ [9, 10, 58, 59, 60, 61, 62, 63, 64, 65, 66, 67, 68, 69, 70, 71, 72, 73, 74, 75, 76] (by decide +kernel) (by decide +kernel)
set_option maxRecDepth 20000 in
theorem ggX7_passDays_X7_passDay : GoodIn wsX7_passDays wsX7_passDay := goodIn_r _ [14, 15, 16, 17, 18, 19, 20, 21, 22, 3, 23, 10, 24, 25, 26, 8, 27, 28, 29, 30, 31, 32, 33, 34, 35, 36, 37, 38, 39, 40, 41, 42, 43, 44, 45, 46, 47, 48, 49, 50, 51, 52, 53, 54, 55, 56, 57, 58, 59, 60, 61, 62, 63, 64, 65, 66, 67, 68, 69, 70, 71, 72, 73, 74, 75, 76] (by decide +kernel) (by decide +kernel)
set_option maxRecDepth 20000 in
theorem gX7_stepCost_X7_hasSkin : GoodIn wsX7_stepCost (wsV RX7 84 RX7 yX7_hasSkin wsX7_hasSkin) := goodIn_app (goodIn_of _ (by decide +kernel)) ggX7_stepCost_X7_hasSkin
set_option maxRecDepth 20000 in
theorem gX7_stepCost_X7_thicknessIn : GoodIn wsX7_stepCost (wsV RX7 91 RX7 yX7_thicknessIn wsX7_thicknessIn) := goodIn_app (goodIn_of _ (by decide +kernel)) ggX7_stepCost_X7_thicknessIn
set_option maxRecDepth 20000 in
theorem gX7_whyNotStirred_X7_isLine : GoodIn wsX7_whyNotStirred (wsV RX7 114 RX7 yX7_isLine wsX7_isLine) := goodIn_app (goodIn_of _ (by decide +kernel)) ggX7_whyNotStirred_X7_isLine
set_option maxRecDepth 20000 in
theorem gX7_whyNotStirred_X7_hasSkin : GoodIn wsX7_whyNotStirred (wsV RX7 84 RX7 yX7_hasSkin wsX7_hasSkin) := goodIn_app (goodIn_of _ (by decide +kernel)) ggX7_whyNotStirred_X7_hasSkin
set_option maxRecDepth 20000 in
theorem gX7_whyNotFloured_X7_isCell : GoodIn wsX7_whyNotFloured (wsV RX7 102 RX7 yX7_isCell wsX7_isCell) := goodIn_app (goodIn_of _ (by decide +kernel)) ggX7_whyNotFloured_X7_isCell
set_option maxRecDepth 20000 in
theorem gX7_whyNotFloured_X7_thicknessIn : GoodIn wsX7_whyNotFloured (wsV RX7 91 RX7 yX7_thicknessIn wsX7_thicknessIn) := goodIn_app (goodIn_of _ (by decide +kernel)) ggX7_whyNotFloured_X7_thicknessIn
set_option maxRecDepth 20000 in
theorem gX7_whyNotMilked_X7_isCell : GoodIn wsX7_whyNotMilked (wsV RX7 102 RX7 yX7_isCell wsX7_isCell) := goodIn_app (goodIn_of _ (by decide +kernel)) ggX7_whyNotMilked_X7_isCell
set_option maxRecDepth 20000 in
theorem gX7_whyNotMilked_X7_thicknessIn : GoodIn wsX7_whyNotMilked (wsV RX7 91 RX7 yX7_thicknessIn wsX7_thicknessIn) := goodIn_app (goodIn_of _ (by decide +kernel)) ggX7_whyNotMilked_X7_thicknessIn
set_option maxRecDepth 20000 in
theorem gX7_whyNotRowed_X7_isBoat : GoodIn wsX7_whyNotRowed (wsV RX7 80 RX7 yX7_isBoat wsX7_isBoat) := goodIn_app (goodIn_of _ (by decide +kernel)) ggX7_whyNotRowed_X7_isBoat
set_option maxRecDepth 20000 in
theorem gX7_stirLine_X7_isLine : GoodIn wsX7_stirLine (wsV RX7 114 RX7 yX7_isLine wsX7_isLine) := goodIn_app (goodIn_of _ (by decide +kernel)) ggX7_stirLine_X7_isLine
set_option maxRecDepth 20000 in
theorem gX7_stirLine_X7_stirThickness : GoodIn wsX7_stirLine (wsV RX7 117 RX7 yX7_stirThickness wsX7_stirThickness) := goodIn_app (goodIn_of _ (by decide +kernel)) ggX7_stirLine_X7_stirThickness
set_option maxRecDepth 20000 in
theorem gX7_thicken_X7_isCell : GoodIn wsX7_thicken (wsV RX7 102 RX7 yX7_isCell wsX7_isCell) := goodIn_app (goodIn_of _ (by decide +kernel)) ggX7_thicken_X7_isCell
set_option maxRecDepth 20000 in
theorem gX7_passDays_X7_daysLeft : GoodIn wsX7_passDays (wsV RX7 137 RX7 yX7_daysLeft wsX7_daysLeft) := goodIn_app (goodIn_of _ (by decide +kernel)) ggX7_passDays_X7_daysLeft
set_option maxRecDepth 20000 in
theorem gX7_passDays_X7_passDay : GoodIn wsX7_passDays (wsV RX7 141 RX7 yX7_passDay wsX7_passDay) := goodIn_app (goodIn_of _ (by decide +kernel)) ggX7_passDays_X7_passDay
set_option maxRecDepth 20000 in
theorem lf_isLine_1 (a : Nat) (wide : Int32) (high : Int32) (heat : Int32) (cools : Int32) (skinHeat : Int32) (today : Int32) (stirs : Int32) (steps : Int32) (lumps : Int32) (boats : Int32) (thickness : Nat) (lumpNames : Nat) (lumpCells : Nat) (boatNames : Nat) (boatCells : Nat) (loads : Nat) (spoons : Nat) (spoonsLeft : Nat) (depths : Nat) (column : Int32) (n : Int32) (c1 : n < 0) : ((nI 0) = nI 1 ∧ (0 ≤ n.toInt ∧ ((column.toInt = 1 ∧ n.toInt < wide.toInt) ∨ (column.toInt ≠ 1 ∧ n.toInt < high.toInt)))) ∨ ((nI 0) = nI 0 ∧ ¬ (0 ≤ n.toInt ∧ ((column.toInt = 1 ∧ n.toInt < wide.toInt) ∨ (column.toInt ≠ 1 ∧ n.toInt < high.toInt)))) := by
  have k_0 := ia_n 0 (by decide)
  have k_1 := ia_n 1 (by decide)
  simp only [ia_lt, ia_le, ia_eq, ia_m1, ia_0, ia_1, ne_eq, true_and, and_true, false_and, and_false, or_false, false_or, or_true, true_or, not_true_eq_false, not_false_eq_true] at *
  all_goals omega
set_option maxRecDepth 20000 in
theorem lf_isLine_2 (a : Nat) (wide : Int32) (high : Int32) (heat : Int32) (cools : Int32) (skinHeat : Int32) (today : Int32) (stirs : Int32) (steps : Int32) (lumps : Int32) (boats : Int32) (thickness : Nat) (lumpNames : Nat) (lumpCells : Nat) (boatNames : Nat) (boatCells : Nat) (loads : Nat) (spoons : Nat) (spoonsLeft : Nat) (depths : Nat) (column : Int32) (n : Int32) (c1 : ¬ n < 0) (c2 : column ≠ nI 1) (c3 : high ≤ n) : ((nI 0) = nI 1 ∧ (0 ≤ n.toInt ∧ ((column.toInt = 1 ∧ n.toInt < wide.toInt) ∨ (column.toInt ≠ 1 ∧ n.toInt < high.toInt)))) ∨ ((nI 0) = nI 0 ∧ ¬ (0 ≤ n.toInt ∧ ((column.toInt = 1 ∧ n.toInt < wide.toInt) ∨ (column.toInt ≠ 1 ∧ n.toInt < high.toInt)))) := by
  have k_0 := ia_n 1 (by decide)
  have k_1 := ia_n 0 (by decide)
  simp only [ia_lt, ia_le, ia_eq, ia_m1, ia_0, ia_1, ne_eq, true_and, and_true, false_and, and_false, or_false, false_or, or_true, true_or, not_true_eq_false, not_false_eq_true] at *
  all_goals omega
set_option maxRecDepth 20000 in
theorem lf_isLine_3 (a : Nat) (wide : Int32) (high : Int32) (heat : Int32) (cools : Int32) (skinHeat : Int32) (today : Int32) (stirs : Int32) (steps : Int32) (lumps : Int32) (boats : Int32) (thickness : Nat) (lumpNames : Nat) (lumpCells : Nat) (boatNames : Nat) (boatCells : Nat) (loads : Nat) (spoons : Nat) (spoonsLeft : Nat) (depths : Nat) (column : Int32) (n : Int32) (c1 : ¬ n < 0) (c2 : column ≠ nI 1) (c3 : ¬ high ≤ n) : ((nI 1) = nI 1 ∧ (0 ≤ n.toInt ∧ ((column.toInt = 1 ∧ n.toInt < wide.toInt) ∨ (column.toInt ≠ 1 ∧ n.toInt < high.toInt)))) ∨ ((nI 1) = nI 0 ∧ ¬ (0 ≤ n.toInt ∧ ((column.toInt = 1 ∧ n.toInt < wide.toInt) ∨ (column.toInt ≠ 1 ∧ n.toInt < high.toInt)))) := by
  have k_0 := ia_n 1 (by decide)
  have k_1 := ia_n 0 (by decide)
  simp only [ia_lt, ia_le, ia_eq, ia_m1, ia_0, ia_1, ne_eq, true_and, and_true, false_and, and_false, or_false, false_or, or_true, true_or, not_true_eq_false, not_false_eq_true] at *
  all_goals omega
set_option maxRecDepth 20000 in
theorem lf_isLine_4 (a : Nat) (wide : Int32) (high : Int32) (heat : Int32) (cools : Int32) (skinHeat : Int32) (today : Int32) (stirs : Int32) (steps : Int32) (lumps : Int32) (boats : Int32) (thickness : Nat) (lumpNames : Nat) (lumpCells : Nat) (boatNames : Nat) (boatCells : Nat) (loads : Nat) (spoons : Nat) (spoonsLeft : Nat) (depths : Nat) (column : Int32) (n : Int32) (c1 : ¬ n < 0) (c2 : column = nI 1) (c4 : wide ≤ n) : ((nI 0) = nI 1 ∧ (0 ≤ n.toInt ∧ ((column.toInt = 1 ∧ n.toInt < wide.toInt) ∨ (column.toInt ≠ 1 ∧ n.toInt < high.toInt)))) ∨ ((nI 0) = nI 0 ∧ ¬ (0 ≤ n.toInt ∧ ((column.toInt = 1 ∧ n.toInt < wide.toInt) ∨ (column.toInt ≠ 1 ∧ n.toInt < high.toInt)))) := by
  have k_0 := ia_n 1 (by decide)
  have k_1 := ia_n 0 (by decide)
  simp only [ia_lt, ia_le, ia_eq, ia_m1, ia_0, ia_1, ne_eq, true_and, and_true, false_and, and_false, or_false, false_or, or_true, true_or, not_true_eq_false, not_false_eq_true] at *
  all_goals omega
set_option maxRecDepth 20000 in
theorem lf_isLine_5 (a : Nat) (wide : Int32) (high : Int32) (heat : Int32) (cools : Int32) (skinHeat : Int32) (today : Int32) (stirs : Int32) (steps : Int32) (lumps : Int32) (boats : Int32) (thickness : Nat) (lumpNames : Nat) (lumpCells : Nat) (boatNames : Nat) (boatCells : Nat) (loads : Nat) (spoons : Nat) (spoonsLeft : Nat) (depths : Nat) (column : Int32) (n : Int32) (c1 : ¬ n < 0) (c2 : column = nI 1) (c4 : ¬ wide ≤ n) : ((nI 1) = nI 1 ∧ (0 ≤ n.toInt ∧ ((column.toInt = 1 ∧ n.toInt < wide.toInt) ∨ (column.toInt ≠ 1 ∧ n.toInt < high.toInt)))) ∨ ((nI 1) = nI 0 ∧ ¬ (0 ≤ n.toInt ∧ ((column.toInt = 1 ∧ n.toInt < wide.toInt) ∨ (column.toInt ≠ 1 ∧ n.toInt < high.toInt)))) := by
  have k_0 := ia_n 1 (by decide)
  have k_1 := ia_n 0 (by decide)
  simp only [ia_lt, ia_le, ia_eq, ia_m1, ia_0, ia_1, ne_eq, true_and, and_true, false_and, and_false, or_false, false_or, or_true, true_or, not_true_eq_false, not_false_eq_true] at *
  all_goals omega
set_option maxHeartbeats 4000000 in
set_option maxRecDepth 100000 in
theorem c_isLine (l : Launch) (dC : Nat → ClassId) (dI : Nat → Nat → Nat) (ky : Nat → ClassId) (a : Nat) (wide : Int32) (high : Int32) (heat : Int32) (cools : Int32) (skinHeat : Int32) (today : Int32) (stirs : Int32) (steps : Int32) (lumps : Int32) (boats : Int32) (thickness : Nat) (lumpNames : Nat) (lumpCells : Nat) (boatNames : Nat) (boatCells : Nat) (loads : Nat) (spoons : Nat) (spoonsLeft : Nat) (depths : Nat) (column : Int32) (n : Int32)  : Met l yX7_isLine wsX7_isLine ({ frames := 0, cells := 0, slots := 0, locals := 0 }) (PcP dC dI ky [.ref a, .int column, .int n] [(a, .inr (7, [.int wide, .int high, .int heat, .int cools, .int skinHeat, .int today, .int stirs, .int steps, .int lumps, .int boats, .ref thickness, .ref lumpNames, .ref lumpCells, .ref boatNames, .ref boatCells, .ref loads, .ref spoons, .ref spoonsLeft, .ref depths]))]) (vp_Si (fun r : Int32 => (r = nI 1 ∧ (0 ≤ n.toInt ∧ ((column.toInt = 1 ∧ n.toInt < wide.toInt) ∨ (column.toInt ≠ 1 ∧ n.toInt < high.toInt)))) ∨ (r = nI 0 ∧ ¬ (0 ≤ n.toInt ∧ ((column.toInt = 1 ∧ n.toInt < wide.toInt) ∨ (column.toInt ≠ 1 ∧ n.toInt < high.toInt)))))) 0 0 (fun _ => False) := by
  refine Met.ofW (cc := cX7_isLine) (maxL := 3) (ret := (some .boolean)) (by decide) rfl ?_
  intro p e s m args below meth c s₁ B hml hv
  obtain ⟨rfl, hP, hK⟩ := hv
  have hx := B.exec
  have hb := B.bytes
  have hr := B.returns
  have hts := atoms_spec (ws := wsX7_isLine) B.pre
  have hown : s.vm.findClass RX7 = some m.cls := findClass_of_methodNamed B.named
  have hlocks := B.notSynchronized
  have hin7 : ∀ w ∈ u_ws RX7 TX7 19, w ∈ wsX7_isLine := by decide +kernel
  have hl := lv_entry ([.ref a, .int column, .int n]) (n := 3) (Nat.le_of_ble_eq_true rfl)
  rw [lg_entry_eq]
  generalize (lg_sl ([.ref a, .int column, .int n]) ++ List.replicate (3 - (lg_sl ([.ref a, .int column, .int n])).length) Slot.unset).toArray = ls at hl ⊢
  have hl : lv_has ls 3 [(0, .ref a), (1, .int column), (2, .int n)] := hl
  refine lv_iload_n hx hb dX7_isLine_0 rfl (lv_at hl 2 rfl) ?_
  refine lv_if_lt (tgt := 28) hx hb dX7_isLine_1 (by decide) (fun c1 => ?_) (fun c1 => ?_)
  · refine lv_iconst (v := nI 0) hx hb dX7_isLine_28 (by decide) ?_
    exact W.zret (v := nI 0) hx hb hr (by decide) (fun t ht9 hW9 => ⟨nI 0, rfl, (lf_isLine_1 a wide high heat cools skinHeat today stirs steps lumps boats thickness lumpNames lumpCells boatNames boatCells loads spoons spoonsLeft depths column n c1), ht9⟩) (fun _ h => absurd h List.not_mem_nil) dX7_isLine_29
  · refine lv_iload_n hx hb dX7_isLine_4 rfl (lv_at hl 2 rfl) ?_
    refine lv_iload_n hx hb dX7_isLine_5 rfl (lv_at hl 1 rfl) ?_
    refine lv_iconst (v := nI 1) hx hb dX7_isLine_6 (by decide) ?_
    refine lv_icmp_ne (tgt := 17) hx hb dX7_isLine_7 (by decide) (fun c2 => ?_) (fun c2 => ?_)
    · refine lv_aload_n hx hb dX7_isLine_17 rfl (lv_at hl 0 rfl) ?_
      refine va_get (D := (dC, dI)) (ci := 7) (v := .int high) (C := RX7) (T := TX7) (N := 19) hx hb hts hin7 hown hK hP 0 rfl rfl 1 (by decide) (hts (.fieldLink RX7 47 "PorridgeSea$Sea" "high" "I") (List.mem_of_getElem? (i := 2) rfl)) (fun _ h9 => h9) rfl dX7_isLine_18 ?_
      refine lv_icmp_ge (tgt := 28) hx hb dX7_isLine_21 (by decide) (fun c3 => ?_) (fun c3 => ?_)
      · refine lv_iconst (v := nI 0) hx hb dX7_isLine_28 (by decide) ?_
        exact W.zret (v := nI 0) hx hb hr (by decide) (fun t ht9 hW9 => ⟨nI 0, rfl, (lf_isLine_2 a wide high heat cools skinHeat today stirs steps lumps boats thickness lumpNames lumpCells boatNames boatCells loads spoons spoonsLeft depths column n c1 c2 c3), ht9⟩) (fun _ h => absurd h List.not_mem_nil) dX7_isLine_29
      · refine lv_iconst (v := nI 1) hx hb dX7_isLine_24 (by decide) ?_
        refine lv_goto (tgt := 29) hx hb dX7_isLine_25 (by decide) ?_
        exact W.zret (v := nI 1) hx hb hr (by decide) (fun t ht9 hW9 => ⟨nI 1, rfl, (lf_isLine_3 a wide high heat cools skinHeat today stirs steps lumps boats thickness lumpNames lumpCells boatNames boatCells loads spoons spoonsLeft depths column n c1 c2 c3), ht9⟩) (fun _ h => absurd h List.not_mem_nil) dX7_isLine_29
    · refine lv_aload_n hx hb dX7_isLine_10 rfl (lv_at hl 0 rfl) ?_
      refine va_get (D := (dC, dI)) (ci := 7) (v := .int wide) (C := RX7) (T := TX7) (N := 19) hx hb hts hin7 hown hK hP 0 rfl rfl 0 (by decide) (hts (.fieldLink RX7 43 "PorridgeSea$Sea" "wide" "I") (List.mem_of_getElem? (i := 1) rfl)) (fun _ h9 => h9) rfl dX7_isLine_11 ?_
      refine lv_goto (tgt := 21) hx hb dX7_isLine_14 (by decide) ?_
      refine lv_icmp_ge (tgt := 28) hx hb dX7_isLine_21 (by decide) (fun c4 => ?_) (fun c4 => ?_)
      · refine lv_iconst (v := nI 0) hx hb dX7_isLine_28 (by decide) ?_
        exact W.zret (v := nI 0) hx hb hr (by decide) (fun t ht9 hW9 => ⟨nI 0, rfl, (lf_isLine_4 a wide high heat cools skinHeat today stirs steps lumps boats thickness lumpNames lumpCells boatNames boatCells loads spoons spoonsLeft depths column n c1 c2 c4), ht9⟩) (fun _ h => absurd h List.not_mem_nil) dX7_isLine_29
      · refine lv_iconst (v := nI 1) hx hb dX7_isLine_24 (by decide) ?_
        refine lv_goto (tgt := 29) hx hb dX7_isLine_25 (by decide) ?_
        exact W.zret (v := nI 1) hx hb hr (by decide) (fun t ht9 hW9 => ⟨nI 1, rfl, (lf_isLine_5 a wide high heat cools skinHeat today stirs steps lumps boats thickness lumpNames lumpCells boatNames boatCells loads spoons spoonsLeft depths column n c1 c2 c4), ht9⟩) (fun _ h => absurd h List.not_mem_nil) dX7_isLine_29
set_option maxRecDepth 20000 in
theorem lf_isBoat0_1 (a : Nat) (heat : Int32) (cools : Int32) (skinHeat : Int32) (today : Int32) (stirs : Int32) (steps : Int32) (thickness : Nat) (lumpNames : Nat) (lumpCells : Nat) (boatNames : Nat) (boatCells : Nat) (loads : Nat) (spoons : Nat) (spoonsLeft : Nat) (depths : Nat) (x : Int32) (c1 : ¬ x < 0) (c2 : ¬ nI 0 ≤ x) : (nI 1) = nI 0 := by
  have k_0 := ia_n 0 (by decide)
  have k_1 := ia_n 1 (by decide)
  simp only [ia_lt, ia_le, ia_eq, ia_m1, ia_0, ia_1, ne_eq, true_and, and_true, false_and, and_false, or_false, false_or, or_true, true_or, not_true_eq_false, not_false_eq_true] at *
  all_goals omega
set_option maxHeartbeats 4000000 in
set_option maxRecDepth 100000 in
theorem c_isBoat0 (l : Launch) (dC : Nat → ClassId) (dI : Nat → Nat → Nat) (ky : Nat → ClassId) (a : Nat) (heat : Int32) (cools : Int32) (skinHeat : Int32) (today : Int32) (stirs : Int32) (steps : Int32) (thickness : Nat) (lumpNames : Nat) (lumpCells : Nat) (boatNames : Nat) (boatCells : Nat) (loads : Nat) (spoons : Nat) (spoonsLeft : Nat) (depths : Nat) (x : Int32)  : Met l yX7_isBoat wsX7_isBoat ({ frames := 0, cells := 0, slots := 0, locals := 0 }) (PcP dC dI ky [.ref a, .int x] [(a, .inr (7, [.int (nI 4), .int (nI 4), .int heat, .int cools, .int skinHeat, .int today, .int stirs, .int steps, .int (nI 0), .int (nI 0), .ref thickness, .ref lumpNames, .ref lumpCells, .ref boatNames, .ref boatCells, .ref loads, .ref spoons, .ref spoonsLeft, .ref depths]))]) (vp_Si (fun r : Int32 => r = nI 0)) 0 0 (fun _ => False) := by
  refine Met.ofW (cc := cX7_isBoat) (maxL := 2) (ret := (some .boolean)) (by decide) rfl ?_
  intro p e s m args below meth c s₁ B hml hv
  obtain ⟨rfl, hP, hK⟩ := hv
  have hx := B.exec
  have hb := B.bytes
  have hr := B.returns
  have hts := atoms_spec (ws := wsX7_isBoat) B.pre
  have hown : s.vm.findClass RX7 = some m.cls := findClass_of_methodNamed B.named
  have hlocks := B.notSynchronized
  have hin7 : ∀ w ∈ u_ws RX7 TX7 19, w ∈ wsX7_isBoat := by decide +kernel
  have hl := lv_entry ([.ref a, .int x]) (n := 2) (Nat.le_of_ble_eq_true rfl)
  rw [lg_entry_eq]
  generalize (lg_sl ([.ref a, .int x]) ++ List.replicate (2 - (lg_sl ([.ref a, .int x])).length) Slot.unset).toArray = ls at hl ⊢
  have hl : lv_has ls 2 [(0, .ref a), (1, .int x)] := hl
  refine lv_iload_n hx hb dX7_isBoat_0 rfl (lv_at hl 1 rfl) ?_
  refine lv_if_lt (tgt := 16) hx hb dX7_isBoat_1 (by decide) (fun c1 => ?_) (fun c1 => ?_)
  · refine lv_iconst (v := nI 0) hx hb dX7_isBoat_16 (by decide) ?_
    exact W.zret (v := nI 0) hx hb hr (by decide) (fun t ht9 hW9 => ⟨nI 0, rfl, rfl, ht9⟩) (fun _ h => absurd h List.not_mem_nil) dX7_isBoat_17
  · refine lv_iload_n hx hb dX7_isBoat_4 rfl (lv_at hl 1 rfl) ?_
    refine lv_aload_n hx hb dX7_isBoat_5 rfl (lv_at hl 0 rfl) ?_
    refine va_get (D := (dC, dI)) (ci := 7) (v := .int (nI 0)) (C := RX7) (T := TX7) (N := 19) hx hb hts hin7 hown hK hP 0 rfl rfl 9 (by decide) (hts (.fieldLink RX7 71 "PorridgeSea$Sea" "boats" "I") (List.mem_of_getElem? (i := 1) rfl)) (fun _ h9 => h9) rfl dX7_isBoat_6 ?_
    refine lv_icmp_ge (tgt := 16) hx hb dX7_isBoat_9 (by decide) (fun c2 => ?_) (fun c2 => ?_)
    · refine lv_iconst (v := nI 0) hx hb dX7_isBoat_16 (by decide) ?_
      exact W.zret (v := nI 0) hx hb hr (by decide) (fun t ht9 hW9 => ⟨nI 0, rfl, rfl, ht9⟩) (fun _ h => absurd h List.not_mem_nil) dX7_isBoat_17
    · refine lv_iconst (v := nI 1) hx hb dX7_isBoat_12 (by decide) ?_
      refine lv_goto (tgt := 17) hx hb dX7_isBoat_13 (by decide) ?_
      exact W.zret (v := nI 1) hx hb hr (by decide) (fun t ht9 hW9 => ⟨nI 1, rfl, (lf_isBoat0_1 a heat cools skinHeat today stirs steps thickness lumpNames lumpCells boatNames boatCells loads spoons spoonsLeft depths x c1 c2), ht9⟩) (fun _ h => absurd h List.not_mem_nil) dX7_isBoat_17
set_option maxRecDepth 20000 in
theorem lf_isLump0_1 (a : Nat) (heat : Int32) (cools : Int32) (skinHeat : Int32) (today : Int32) (stirs : Int32) (steps : Int32) (thickness : Nat) (lumpNames : Nat) (lumpCells : Nat) (boatNames : Nat) (boatCells : Nat) (loads : Nat) (spoons : Nat) (spoonsLeft : Nat) (depths : Nat) (x : Int32) (c1 : ¬ x < 0) (c2 : ¬ nI 0 ≤ x) : (nI 1) = nI 0 := by
  have k_0 := ia_n 0 (by decide)
  have k_1 := ia_n 1 (by decide)
  simp only [ia_lt, ia_le, ia_eq, ia_m1, ia_0, ia_1, ne_eq, true_and, and_true, false_and, and_false, or_false, false_or, or_true, true_or, not_true_eq_false, not_false_eq_true] at *
  all_goals omega
set_option maxHeartbeats 4000000 in
set_option maxRecDepth 100000 in
theorem c_isLump0 (l : Launch) (dC : Nat → ClassId) (dI : Nat → Nat → Nat) (ky : Nat → ClassId) (a : Nat) (heat : Int32) (cools : Int32) (skinHeat : Int32) (today : Int32) (stirs : Int32) (steps : Int32) (thickness : Nat) (lumpNames : Nat) (lumpCells : Nat) (boatNames : Nat) (boatCells : Nat) (loads : Nat) (spoons : Nat) (spoonsLeft : Nat) (depths : Nat) (x : Int32)  : Met l yX7_isLump wsX7_isLump ({ frames := 0, cells := 0, slots := 0, locals := 0 }) (PcP dC dI ky [.ref a, .int x] [(a, .inr (7, [.int (nI 4), .int (nI 4), .int heat, .int cools, .int skinHeat, .int today, .int stirs, .int steps, .int (nI 0), .int (nI 0), .ref thickness, .ref lumpNames, .ref lumpCells, .ref boatNames, .ref boatCells, .ref loads, .ref spoons, .ref spoonsLeft, .ref depths]))]) (vp_Si (fun r : Int32 => r = nI 0)) 0 0 (fun _ => False) := by
  refine Met.ofW (cc := cX7_isLump) (maxL := 2) (ret := (some .boolean)) (by decide) rfl ?_
  intro p e s m args below meth c s₁ B hml hv
  obtain ⟨rfl, hP, hK⟩ := hv
  have hx := B.exec
  have hb := B.bytes
  have hr := B.returns
  have hts := atoms_spec (ws := wsX7_isLump) B.pre
  have hown : s.vm.findClass RX7 = some m.cls := findClass_of_methodNamed B.named
  have hlocks := B.notSynchronized
  have hin7 : ∀ w ∈ u_ws RX7 TX7 19, w ∈ wsX7_isLump := by decide +kernel
  have hl := lv_entry ([.ref a, .int x]) (n := 2) (Nat.le_of_ble_eq_true rfl)
  rw [lg_entry_eq]
  generalize (lg_sl ([.ref a, .int x]) ++ List.replicate (2 - (lg_sl ([.ref a, .int x])).length) Slot.unset).toArray = ls at hl ⊢
  have hl : lv_has ls 2 [(0, .ref a), (1, .int x)] := hl
  refine lv_iload_n hx hb dX7_isLump_0 rfl (lv_at hl 1 rfl) ?_
  refine lv_if_lt (tgt := 16) hx hb dX7_isLump_1 (by decide) (fun c1 => ?_) (fun c1 => ?_)
  · refine lv_iconst (v := nI 0) hx hb dX7_isLump_16 (by decide) ?_
    exact W.zret (v := nI 0) hx hb hr (by decide) (fun t ht9 hW9 => ⟨nI 0, rfl, rfl, ht9⟩) (fun _ h => absurd h List.not_mem_nil) dX7_isLump_17
  · refine lv_iload_n hx hb dX7_isLump_4 rfl (lv_at hl 1 rfl) ?_
    refine lv_aload_n hx hb dX7_isLump_5 rfl (lv_at hl 0 rfl) ?_
    refine va_get (D := (dC, dI)) (ci := 7) (v := .int (nI 0)) (C := RX7) (T := TX7) (N := 19) hx hb hts hin7 hown hK hP 0 rfl rfl 8 (by decide) (hts (.fieldLink RX7 68 "PorridgeSea$Sea" "lumps" "I") (List.mem_of_getElem? (i := 1) rfl)) (fun _ h9 => h9) rfl dX7_isLump_6 ?_
    refine lv_icmp_ge (tgt := 16) hx hb dX7_isLump_9 (by decide) (fun c2 => ?_) (fun c2 => ?_)
    · refine lv_iconst (v := nI 0) hx hb dX7_isLump_16 (by decide) ?_
      exact W.zret (v := nI 0) hx hb hr (by decide) (fun t ht9 hW9 => ⟨nI 0, rfl, rfl, ht9⟩) (fun _ h => absurd h List.not_mem_nil) dX7_isLump_17
    · refine lv_iconst (v := nI 1) hx hb dX7_isLump_12 (by decide) ?_
      refine lv_goto (tgt := 17) hx hb dX7_isLump_13 (by decide) ?_
      exact W.zret (v := nI 1) hx hb hr (by decide) (fun t ht9 hW9 => ⟨nI 1, rfl, (lf_isLump0_1 a heat cools skinHeat today stirs steps thickness lumpNames lumpCells boatNames boatCells loads spoons spoonsLeft depths x c1 c2), ht9⟩) (fun _ h => absurd h List.not_mem_nil) dX7_isLump_17
set_option maxHeartbeats 4000000 in
set_option maxRecDepth 100000 in
theorem c_eatenBits0 (l : Launch) (dC : Nat → ClassId) (dI : Nat → Nat → Nat) (ky : Nat → ClassId) (a : Nat) (heat : Int32) (cools : Int32) (skinHeat : Int32) (today : Int32) (stirs : Int32) (steps : Int32) (thickness : Nat) (lumpNames : Nat) (lumpCells : Nat) (boatNames : Nat) (boatCells : Nat) (loads : Nat) (spoons : Nat) (spoonsLeft : Nat) (depths : Nat)  : Met l yX7_eatenBits wsX7_eatenBits ({ frames := 0, cells := 0, slots := 0, locals := 0 }) (PcP dC dI ky [.ref a] [(a, .inr (7, [.int (nI 4), .int (nI 4), .int heat, .int cools, .int skinHeat, .int today, .int stirs, .int steps, .int (nI 0), .int (nI 0), .ref thickness, .ref lumpNames, .ref lumpCells, .ref boatNames, .ref boatCells, .ref loads, .ref spoons, .ref spoonsLeft, .ref depths]))]) (vp_Si (fun r : Int32 => r = nI 0)) 0 0 (fun _ => False) := by
  refine Met.ofW (cc := cX7_eatenBits) (maxL := 3) (ret := (some .int)) (by decide) rfl ?_
  intro p e s m args below meth c s₁ B hml hv
  obtain ⟨rfl, hP, hK⟩ := hv
  have hx := B.exec
  have hb := B.bytes
  have hr := B.returns
  have hts := atoms_spec (ws := wsX7_eatenBits) B.pre
  have hown : s.vm.findClass RX7 = some m.cls := findClass_of_methodNamed B.named
  have hlocks := B.notSynchronized
  have hin7 : ∀ w ∈ u_ws RX7 TX7 19, w ∈ wsX7_eatenBits := by decide +kernel
  have hl := lv_entry ([.ref a]) (n := 3) (Nat.le_of_ble_eq_true rfl)
  rw [lg_entry_eq]
  generalize (lg_sl ([.ref a]) ++ List.replicate (3 - (lg_sl ([.ref a])).length) Slot.unset).toArray = ls at hl ⊢
  have hl : lv_has ls 3 [(0, .ref a)] := hl
  refine lv_iconst (v := nI 0) hx hb dX7_eatenBits_0 (by decide) ?_
  refine lv_istore_n (lv' := [(1, .int (nI 0)), (0, .ref a)]) hx hb dX7_eatenBits_1 rfl hl (by decide) rfl (fun ls hl => ?_)
  refine lv_iconst (v := nI 0) hx hb dX7_eatenBits_2 (by decide) ?_
  refine lv_istore_n (lv' := [(2, .int (nI 0)), (1, .int (nI 0)), (0, .ref a)]) hx hb dX7_eatenBits_3 rfl hl (by decide) rfl (fun ls hl => ?_)
  refine lv_iload_n hx hb dX7_eatenBits_4 rfl (lv_at hl 0 rfl) ?_
  refine lv_aload_n hx hb dX7_eatenBits_5 rfl (lv_at hl 2 rfl) ?_
  refine va_get (D := (dC, dI)) (ci := 7) (v := .int (nI 0)) (C := RX7) (T := TX7) (N := 19) hx hb hts hin7 hown hK hP 0 rfl rfl 9 (by decide) (hts (.fieldLink RX7 71 "PorridgeSea$Sea" "boats" "I") (List.mem_of_getElem? (i := 1) rfl)) (fun _ h9 => h9) rfl dX7_eatenBits_6 ?_
  refine lv_icmp_ge (tgt := 36) hx hb dX7_eatenBits_9 (by decide) (fun c1 => ?_) (fun c1 => absurd (by decide) c1)
  refine lv_iload_n hx hb dX7_eatenBits_36 rfl (lv_at hl 1 rfl) ?_
  exact W.iret (v := nI 0) hx hb hr (fun t ht9 hW9 => ⟨nI 0, rfl, rfl, ht9⟩) (fun _ h => absurd h List.not_mem_nil) dX7_eatenBits_37
set_option maxHeartbeats 4000000 in
set_option maxRecDepth 100000 in
theorem c_afloatBits0 (l : Launch) (dC : Nat → ClassId) (dI : Nat → Nat → Nat) (ky : Nat → ClassId) (a : Nat) (heat : Int32) (cools : Int32) (skinHeat : Int32) (today : Int32) (stirs : Int32) (steps : Int32) (thickness : Nat) (lumpNames : Nat) (lumpCells : Nat) (boatNames : Nat) (boatCells : Nat) (loads : Nat) (spoons : Nat) (spoonsLeft : Nat) (depths : Nat)  : Met l yX7_afloatBits wsX7_afloatBits ({ frames := 0, cells := 0, slots := 0, locals := 0 }) (PcP dC dI ky [.ref a] [(a, .inr (7, [.int (nI 4), .int (nI 4), .int heat, .int cools, .int skinHeat, .int today, .int stirs, .int steps, .int (nI 0), .int (nI 0), .ref thickness, .ref lumpNames, .ref lumpCells, .ref boatNames, .ref boatCells, .ref loads, .ref spoons, .ref spoonsLeft, .ref depths]))]) (vp_Si (fun r : Int32 => r = nI 0)) 0 0 (fun _ => False) := by
  refine Met.ofW (cc := cX7_afloatBits) (maxL := 3) (ret := (some .int)) (by decide) rfl ?_
  intro p e s m args below meth c s₁ B hml hv
  obtain ⟨rfl, hP, hK⟩ := hv
  have hx := B.exec
  have hb := B.bytes
  have hr := B.returns
  have hts := atoms_spec (ws := wsX7_afloatBits) B.pre
  have hown : s.vm.findClass RX7 = some m.cls := findClass_of_methodNamed B.named
  have hlocks := B.notSynchronized
  have hin7 : ∀ w ∈ u_ws RX7 TX7 19, w ∈ wsX7_afloatBits := by decide +kernel
  have hl := lv_entry ([.ref a]) (n := 3) (Nat.le_of_ble_eq_true rfl)
  rw [lg_entry_eq]
  generalize (lg_sl ([.ref a]) ++ List.replicate (3 - (lg_sl ([.ref a])).length) Slot.unset).toArray = ls at hl ⊢
  have hl : lv_has ls 3 [(0, .ref a)] := hl
  refine lv_iconst (v := nI 0) hx hb dX7_afloatBits_0 (by decide) ?_
  refine lv_istore_n (lv' := [(1, .int (nI 0)), (0, .ref a)]) hx hb dX7_afloatBits_1 rfl hl (by decide) rfl (fun ls hl => ?_)
  refine lv_iconst (v := nI 0) hx hb dX7_afloatBits_2 (by decide) ?_
  refine lv_istore_n (lv' := [(2, .int (nI 0)), (1, .int (nI 0)), (0, .ref a)]) hx hb dX7_afloatBits_3 rfl hl (by decide) rfl (fun ls hl => ?_)
  refine lv_iload_n hx hb dX7_afloatBits_4 rfl (lv_at hl 0 rfl) ?_
  refine lv_aload_n hx hb dX7_afloatBits_5 rfl (lv_at hl 2 rfl) ?_
  refine va_get (D := (dC, dI)) (ci := 7) (v := .int (nI 0)) (C := RX7) (T := TX7) (N := 19) hx hb hts hin7 hown hK hP 0 rfl rfl 9 (by decide) (hts (.fieldLink RX7 71 "PorridgeSea$Sea" "boats" "I") (List.mem_of_getElem? (i := 1) rfl)) (fun _ h9 => h9) rfl dX7_afloatBits_6 ?_
  refine lv_icmp_ge (tgt := 36) hx hb dX7_afloatBits_9 (by decide) (fun c1 => ?_) (fun c1 => absurd (by decide) c1)
  refine lv_iload_n hx hb dX7_afloatBits_36 rfl (lv_at hl 1 rfl) ?_
  exact W.iret (v := nI 0) hx hb hr (fun t ht9 hW9 => ⟨nI 0, rfl, rfl, ht9⟩) (fun _ h => absurd h List.not_mem_nil) dX7_afloatBits_37
set_option maxHeartbeats 4000000 in
set_option maxRecDepth 100000 in
theorem c_daysLeft0 (l : Launch) (dC : Nat → ClassId) (dI : Nat → Nat → Nat) (ky : Nat → ClassId) (a : Nat) (heat : Int32) (cools : Int32) (skinHeat : Int32) (stirs : Int32) (steps : Int32) (thickness : Nat) (lumpNames : Nat) (lumpCells : Nat) (boatNames : Nat) (boatCells : Nat) (loads : Nat) (spoons : Nat) (spoonsLeft : Nat) (depths : Nat)  : Met l yX7_daysLeft wsX7_daysLeft ({ frames := 0, cells := 0, slots := 0, locals := 0 }) (PcP dC dI ky [.ref a] [(a, .inr (7, [.int (nI 4), .int (nI 4), .int heat, .int cools, .int skinHeat, .int (nI 0), .int stirs, .int steps, .int (nI 0), .int (nI 0), .ref thickness, .ref lumpNames, .ref lumpCells, .ref boatNames, .ref boatCells, .ref loads, .ref spoons, .ref spoonsLeft, .ref depths]))]) (vp_Si (fun r : Int32 => r = nI 400)) 0 0 (fun _ => False) := by
  refine Met.ofW (cc := cX7_daysLeft) (maxL := 1) (ret := (some .int)) (by decide) rfl ?_
  intro p e s m args below meth c s₁ B hml hv
  obtain ⟨rfl, hP, hK⟩ := hv
  have hx := B.exec
  have hb := B.bytes
  have hr := B.returns
  have hts := atoms_spec (ws := wsX7_daysLeft) B.pre
  have hown : s.vm.findClass RX7 = some m.cls := findClass_of_methodNamed B.named
  have hlocks := B.notSynchronized
  have hin7 : ∀ w ∈ u_ws RX7 TX7 19, w ∈ wsX7_daysLeft := by decide +kernel
  have hl := lv_entry ([.ref a]) (n := 1) (Nat.le_of_ble_eq_true rfl)
  rw [lg_entry_eq]
  generalize (lg_sl ([.ref a]) ++ List.replicate (1 - (lg_sl ([.ref a])).length) Slot.unset).toArray = ls at hl ⊢
  have hl : lv_has ls 1 [(0, .ref a)] := hl
  refine lv_sipush (v := nI 400) hx hb dX7_daysLeft_0 (by decide) ?_
  refine lv_aload_n hx hb dX7_daysLeft_3 rfl (lv_at hl 0 rfl) ?_
  refine va_get (D := (dC, dI)) (ci := 7) (v := .int (nI 0)) (C := RX7) (T := TX7) (N := 19) hx hb hts hin7 hown hK hP 0 rfl rfl 5 (by decide) (hts (.fieldLink RX7 59 "PorridgeSea$Sea" "today" "I") (List.mem_of_getElem? (i := 1) rfl)) (fun _ h9 => h9) rfl dX7_daysLeft_4 ?_
  refine lv_isub hx hb dX7_daysLeft_7 ?_
  refine r_ti (nI 400) (by decide) ?_
  exact W.iret (v := nI 400) hx hb hr (fun t ht9 hW9 => ⟨nI 400, rfl, rfl, ht9⟩) (fun _ h => absurd h List.not_mem_nil) dX7_daysLeft_8
set_option maxHeartbeats 4000000 in
set_option maxRecDepth 100000 in
theorem c_thicknessIn0 (l : Launch) (dC : Nat → ClassId) (dI : Nat → Nat → Nat) (ky : Nat → ClassId) (a : Nat) (heat : Int32) (cools : Int32) (skinHeat : Int32) (today : Int32) (stirs : Int32) (steps : Int32) (thickness : Nat) (lumpNames : Nat) (lumpCells : Nat) (boatNames : Nat) (boatCells : Nat) (loads : Nat) (spoons : Nat) (spoonsLeft : Nat) (depths : Nat) (thicknessF : Nat → Int32) (k : Nat) (hz : ∀ j, j < 36 → thicknessF j = nI 0) (hk : k < 36) : Met l yX7_thicknessIn wsX7_thicknessIn ({ frames := 0, cells := 0, slots := 0, locals := 0 }) (PcP dC dI ky [.ref a, .int (nI k)] [(a, .inr (7, [.int (nI 4), .int (nI 4), .int heat, .int cools, .int skinHeat, .int today, .int stirs, .int steps, .int (nI 0), .int (nI 0), .ref thickness, .ref lumpNames, .ref lumpCells, .ref boatNames, .ref boatCells, .ref loads, .ref spoons, .ref spoonsLeft, .ref depths])), (thickness, .inl (ky 0, 36, .inl thicknessF))]) (vp_Si (fun r : Int32 => r = nI 0)) 0 0 (fun _ => False) := by
  refine Met.ofW (cc := cX7_thicknessIn) (maxL := 2) (ret := (some .int)) (by decide) rfl ?_
  intro p e s m args below meth c s₁ B hml hv
  obtain ⟨rfl, hP, hK⟩ := hv
  have hx := B.exec
  have hb := B.bytes
  have hr := B.returns
  have hts := atoms_spec (ws := wsX7_thicknessIn) B.pre
  have hown : s.vm.findClass RX7 = some m.cls := findClass_of_methodNamed B.named
  have hlocks := B.notSynchronized
  have hin7 : ∀ w ∈ u_ws RX7 TX7 19, w ∈ wsX7_thicknessIn := by decide +kernel
  have hl := lv_entry ([.ref a, .int (nI k)]) (n := 2) (Nat.le_of_ble_eq_true rfl)
  rw [lg_entry_eq]
  generalize (lg_sl ([.ref a, .int (nI k)]) ++ List.replicate (2 - (lg_sl ([.ref a, .int (nI k)])).length) Slot.unset).toArray = ls at hl ⊢
  have hl : lv_has ls 2 [(0, .ref a), (1, .int (nI k))] := hl
  refine lv_iload_n hx hb dX7_thicknessIn_0 rfl (lv_at hl 1 rfl) ?_
  refine n_if_lt (x := k) (tgt := 19) hx hb (by omega) dX7_thicknessIn_1 (by decide) (fun c1 => c1.elim) (fun c1 => ?_)
  refine lv_iload_n hx hb dX7_thicknessIn_4 rfl (lv_at hl 1 rfl) ?_
  refine lv_bipush (v := nI 36) hx hb dX7_thicknessIn_5 (by decide) ?_
  refine n_icmp_ge (x := k) (y := 36) (tgt := 19) hx hb (by omega) (by omega) dX7_thicknessIn_7 (by decide) (fun c2 => by exfalso; omega) (fun c2 => ?_)
  refine lv_aload_n hx hb dX7_thicknessIn_10 rfl (lv_at hl 0 rfl) ?_
  refine va_get (D := (dC, dI)) (ci := 7) (v := .ref thickness) (C := RX7) (T := TX7) (N := 19) hx hb hts hin7 hown hK hP 0 rfl rfl 10 (by decide) (hts (.fieldLink RX7 9 "PorridgeSea$Sea" "thickness" "[I") (List.mem_of_getElem? (i := 1) rfl)) (fun _ h9 => h9) rfl dX7_thicknessIn_11 ?_
  refine lv_iload_n hx hb dX7_thicknessIn_14 rfl (lv_at hl 1 rfl) ?_
  refine r_iald hx hb hK hP 1 rfl k (by omega) (by decide) (nI 0) (hz k hk) dX7_thicknessIn_15 ?_
  refine lv_goto (tgt := 20) hx hb dX7_thicknessIn_16 (by decide) ?_
  exact W.iret (v := nI 0) hx hb hr (fun t ht9 hW9 => ⟨nI 0, rfl, rfl, ht9⟩) (fun _ h => absurd h List.not_mem_nil) dX7_thicknessIn_20
set_option maxHeartbeats 4000000 in
set_option maxRecDepth 100000 in
theorem c_stepCost0 (l : Launch) (dC : Nat → ClassId) (dI : Nat → Nat → Nat) (ky : Nat → ClassId) (a : Nat) (heat : Int32) (cools : Int32) (skinHeat : Int32) (today : Int32) (stirs : Int32) (steps : Int32) (thickness : Nat) (lumpNames : Nat) (lumpCells : Nat) (boatNames : Nat) (boatCells : Nat) (loads : Nat) (spoons : Nat) (spoonsLeft : Nat) (depths : Nat) (thicknessF : Nat → Int32) (k : Nat) (hz : ∀ j, j < 36 → thicknessF j = nI 0) (hk : k < 36) : Met l yX7_stepCost wsX7_stepCost ({ frames := 1, cells := 0, slots := 0, locals := 21 }) (PcP dC dI ky [.ref a, .int (nI k)] [(a, .inr (7, [.int (nI 4), .int (nI 4), .int heat, .int cools, .int skinHeat, .int today, .int stirs, .int steps, .int (nI 0), .int (nI 0), .ref thickness, .ref lumpNames, .ref lumpCells, .ref boatNames, .ref boatCells, .ref loads, .ref spoons, .ref spoonsLeft, .ref depths])), (thickness, .inl (ky 0, 36, .inl thicknessF))]) (vp_Si (fun r : Int32 => r = nI 1)) 0 0 (fun _ => False) := by
  refine Met.ofW (cc := cX7_stepCost) (maxL := 2) (ret := (some .int)) (by decide) rfl ?_
  intro p e s m args below meth c s₁ B hml hv
  obtain ⟨rfl, hP, hK⟩ := hv
  have hx := B.exec
  have hb := B.bytes
  have hr := B.returns
  have hts := atoms_spec (ws := wsX7_stepCost) B.pre
  have hown : s.vm.findClass RX7 = some m.cls := findClass_of_methodNamed B.named
  have hlocks := B.notSynchronized
  have hl := lv_entry ([.ref a, .int (nI k)]) (n := 2) (Nat.le_of_ble_eq_true rfl)
  rw [lg_entry_eq]
  generalize (lg_sl ([.ref a, .int (nI k)]) ++ List.replicate (2 - (lg_sl ([.ref a, .int (nI k)])).length) Slot.unset).toArray = ls at hl ⊢
  have hl : lv_has ls 2 [(0, .ref a), (1, .int (nI k))] := hl
  refine lv_aload_n hx hb dX7_stepCost_0 rfl (lv_at hl 0 rfl) ?_
  refine vp_callSi (W.runV (As := []) (rest := []) ⟨hx, hb, hml, hown, hts⟩ (c_hasSkin l dC dI ky a (nI 4) (nI 4) heat cools skinHeat today stirs steps (nI 0) (nI 0) thickness lumpNames lumpCells boatNames boatCells loads spoons spoonsLeft depths) (cwV 0 hts gX7_stepCost_X7_hasSkin rfl rfl rfl (by decide +kernel) ⟨(Nat.le_of_ble_eq_true rfl), (Nat.le_of_ble_eq_true rfl)⟩) (pre_PV hK hP [0] rfl (ci := 7) (q0 := 0) rfl rfl) rfl rfl hl.1 rfl (lv_room (Nat.le_of_ble_eq_true rfl)) dX7_stepCost_1 ⟨(Nat.le_of_ble_eq_true rfl), (Nat.le_of_ble_eq_true rfl)⟩) (fun r1 p2 => ?_)
  refine lv_if_eq (tgt := 11) hx hb dX7_stepCost_4 (by decide) (fun c3 => ?_) (fun c3 => ?_)
  · refine lv_iconst (v := nI 1) hx hb dX7_stepCost_11 (by decide) ?_
    refine lv_aload_n hx hb dX7_stepCost_12 rfl (lv_at hl 0 rfl) ?_
    refine lv_iload_n hx hb dX7_stepCost_13 rfl (lv_at hl 1 rfl) ?_
    refine vp_callSi (W.runV (As := [.int (nI k)]) (rest := [.int (nI 1)]) ⟨hx, hb, hml, hown, hts⟩ (c_thicknessIn0 l dC dI ky a heat cools skinHeat today stirs steps thickness lumpNames lumpCells boatNames boatCells loads spoons spoonsLeft depths thicknessF k hz (by omega)) (cwV 1 hts gX7_stepCost_X7_thicknessIn rfl rfl rfl (by decide +kernel) ⟨(Nat.le_of_ble_eq_true rfl), (Nat.le_of_ble_eq_true rfl)⟩) (pre_PV hK hP [0, 1] rfl (ci := 7) (q0 := 0) rfl rfl) rfl rfl hl.1 rfl (lv_room (Nat.le_of_ble_eq_true rfl)) dX7_stepCost_14 ⟨(Nat.le_of_ble_eq_true rfl), (Nat.le_of_ble_eq_true rfl)⟩) (fun r4 p5 => ?_)
    subst p5
    refine lv_iconst (v := nI 3) hx hb dX7_stepCost_17 (by decide) ?_
    refine lv_idiv hx hb dX7_stepCost_18 (by decide) ?_
    refine r_ti (nI 0) (by decide) ?_
    refine lv_iadd hx hb dX7_stepCost_19 ?_
    refine r_ti (nI 1) (by decide) ?_
    exact W.iret (v := nI 1) hx hb hr (fun t ht9 hW9 => ⟨nI 1, rfl, rfl, ht9⟩) (fun _ h => absurd h List.not_mem_nil) dX7_stepCost_20
  · refine lv_iconst (v := nI 1) hx hb dX7_stepCost_7 (by decide) ?_
    refine lv_goto (tgt := 20) hx hb dX7_stepCost_8 (by decide) ?_
    exact W.iret (v := nI 1) hx hb hr (fun t ht9 hW9 => ⟨nI 1, rfl, rfl, ht9⟩) (fun _ h => absurd h List.not_mem_nil) dX7_stepCost_20
set_option maxHeartbeats 4000000 in
set_option maxRecDepth 100000 in
theorem lp_allThickness {p : Program} {l : Launch} {e : Env} {R : Room} {s : State} {m : MethodId} {args : Array Value} {below : List Frame} {meth : Method} {c : Code} {Q : State → Prop} {dC : Nat → ClassId} {dI : Nat → Nat → Nat} {ky : Nat → ClassId} {H : Heap} {locs : List Loc} (hx : p.tables.exec = Jvm.exec) (hb : c.code = cX7_allThickness) (hml : c.maxLocals = 3) (hown : s.vm.findClass RX7 = some m.cls) (hts : ∀ w ∈ wsX7_allThickness, w.before args s = true) (hK : Kk dC dI ky s)  (hRf : 0 ≤ R.frames) (hRl : 0 ≤ R.locals) (hRc : 0 ≤ R.cells) (hRs : 0 ≤ R.slots) (a : Nat) (heat : Int32) (cools : Int32) (skinHeat : Int32) (today : Int32) (stirs : Int32) (steps : Int32) (thickness : Nat) (lumpNames : Nat) (lumpCells : Nat) (boatNames : Nat) (boatCells : Nat) (loads : Nat) (spoons : Nat) (spoonsLeft : Nat) (depths : Nat) (thicknessF : Nat → Int32) (hz : ∀ j, j < 36 → thicknessF j = nI 0) (hP : va_P (dC, dI) vwCl [(a, .inr (7, [.int (nI 4), .int (nI 4), .int heat, .int cools, .int skinHeat, .int today, .int stirs, .int steps, .int (nI 0), .int (nI 0), .ref thickness, .ref lumpNames, .ref lumpCells, .ref boatNames, .ref boatCells, .ref loads, .ref spoons, .ref spoonsLeft, .ref depths])), (thickness, .inl (ky 0, 36, .inl thicknessF))] H) (kx : ∀ (i : Nat) , 36 = i → ∀ (ls : Array Slot), lv_has ls 3 [(2, .int (nI i)), (1, .int (nI 0)), (0, .ref a)] → W p l e R s m args below meth c H locs 0 0 Q (F0 m 25 ls [])) :
    ∀ (nN i : Nat) , i ≤ 36 → 36 + 1 ≤ i + nN → ∀ (ls : Array Slot), lv_has ls 3 [(2, .int (nI i)), (1, .int (nI 0)), (0, .ref a)] → W p l e R s m args below meth c H locs 0 0 Q (F0 m 4 ls []) := by
  have hin7 : ∀ w ∈ u_ws RX7 TX7 19, w ∈ wsX7_allThickness := by decide +kernel
  intro nN
  induction nN with
  | zero => intro i  hi hnN; exfalso; omega
  | succ nN ih =>
    intro i  hi hnN  ls hl
    refine lv_iload_n hx hb dX7_allThickness_4 rfl (lv_at hl 0 rfl) ?_
    refine lv_bipush (v := nI 36) hx hb dX7_allThickness_5 (by decide) ?_
    refine n_icmp_ge (x := i) (y := 36) (tgt := 25) hx hb (by omega) (by omega) dX7_allThickness_7 (by decide) (fun c1 => ?_) (fun c1 => ?_)
    · exact kx i  (by omega)  ls (lv_sub hl [0, 1, 2] rfl)
    · refine lv_iload_n hx hb dX7_allThickness_10 rfl (lv_at hl 1 rfl) ?_
      refine lv_aload_n hx hb dX7_allThickness_11 rfl (lv_at hl 2 rfl) ?_
      refine va_get (D := (dC, dI)) (ci := 7) (v := .ref thickness) (C := RX7) (T := TX7) (N := 19) hx hb hts hin7 hown hK hP 0 rfl rfl 10 (by decide) (hts (.fieldLink RX7 9 "PorridgeSea$Sea" "thickness" "[I") (List.mem_of_getElem? (i := 1) rfl)) (fun _ h9 => h9) rfl dX7_allThickness_12 ?_
      refine lv_iload_n hx hb dX7_allThickness_15 rfl (lv_at hl 0 rfl) ?_
      refine r_iald hx hb hK hP 1 rfl i (by omega) (by decide) (nI 0) (hz i (by omega)) dX7_allThickness_16 ?_
      refine lv_iadd hx hb dX7_allThickness_17 ?_
      refine r_ti (nI 0) (by decide) ?_
      refine lv_istore_n (lv' := [(1, .int (nI 0)), (2, .int (nI i)), (0, .ref a)]) hx hb dX7_allThickness_18 rfl hl (by decide) rfl (fun ls hl => ?_)
      refine lv_iinc (v := nI (i + 1)) (lv' := [(2, .int (nI (i + 1))), (1, .int (nI 0)), (0, .ref a)]) hx hb dX7_allThickness_19 hl (k := 1) rfl (show nI i + nI 1 = nI (i + 1) from nI_add _ _) (by decide) rfl (fun ls hl => ?_)
      refine lv_goto (tgt := 4) hx hb dX7_allThickness_22 (by decide) ?_
      exact ih (i + 1)  (by omega) (by omega)  _ (lv_sub hl [0, 1, 2] rfl)
set_option maxHeartbeats 4000000 in
set_option maxRecDepth 100000 in
theorem c_allThickness0 (l : Launch) (dC : Nat → ClassId) (dI : Nat → Nat → Nat) (ky : Nat → ClassId) (a : Nat) (heat : Int32) (cools : Int32) (skinHeat : Int32) (today : Int32) (stirs : Int32) (steps : Int32) (thickness : Nat) (lumpNames : Nat) (lumpCells : Nat) (boatNames : Nat) (boatCells : Nat) (loads : Nat) (spoons : Nat) (spoonsLeft : Nat) (depths : Nat) (thicknessF : Nat → Int32) (hz : ∀ j, j < 36 → thicknessF j = nI 0) : Met l yX7_allThickness wsX7_allThickness ({ frames := 0, cells := 0, slots := 0, locals := 0 }) (PcP dC dI ky [.ref a] [(a, .inr (7, [.int (nI 4), .int (nI 4), .int heat, .int cools, .int skinHeat, .int today, .int stirs, .int steps, .int (nI 0), .int (nI 0), .ref thickness, .ref lumpNames, .ref lumpCells, .ref boatNames, .ref boatCells, .ref loads, .ref spoons, .ref spoonsLeft, .ref depths])), (thickness, .inl (ky 0, 36, .inl thicknessF))]) (vp_Si (fun r : Int32 => r = nI 0)) 0 0 (fun _ => False) := by
  refine Met.ofW (cc := cX7_allThickness) (maxL := 3) (ret := (some .int)) (by decide) rfl ?_
  intro p e s m args below meth c s₁ B hml hv
  obtain ⟨rfl, hP, hK⟩ := hv
  have hx := B.exec
  have hb := B.bytes
  have hr := B.returns
  have hts := atoms_spec (ws := wsX7_allThickness) B.pre
  have hown : s.vm.findClass RX7 = some m.cls := findClass_of_methodNamed B.named
  have hlocks := B.notSynchronized
  have hl := lv_entry ([.ref a]) (n := 3) (Nat.le_of_ble_eq_true rfl)
  rw [lg_entry_eq]
  generalize (lg_sl ([.ref a]) ++ List.replicate (3 - (lg_sl ([.ref a])).length) Slot.unset).toArray = ls at hl ⊢
  have hl : lv_has ls 3 [(0, .ref a)] := hl
  refine lv_iconst (v := nI 0) hx hb dX7_allThickness_0 (by decide) ?_
  refine lv_istore_n (lv' := [(1, .int (nI 0)), (0, .ref a)]) hx hb dX7_allThickness_1 rfl hl (by decide) rfl (fun ls hl => ?_)
  refine lv_iconst (v := nI 0) hx hb dX7_allThickness_2 (by decide) ?_
  refine lv_istore_n (lv' := [(2, .int (nI 0)), (1, .int (nI 0)), (0, .ref a)]) hx hb dX7_allThickness_3 rfl hl (by decide) rfl (fun ls hl => ?_)
  refine lp_allThickness hx hb hml hown hts hK (Nat.le_of_ble_eq_true rfl) (Nat.le_of_ble_eq_true rfl) (Nat.le_of_ble_eq_true rfl) (Nat.le_of_ble_eq_true rfl) a heat cools skinHeat today stirs steps thickness lumpNames lumpCells boatNames boatCells loads spoons spoonsLeft depths thicknessF hz hP ?_ (36 + 1) 0  (by omega) (by omega)  _ (lv_sub hl [0, 1, 2] rfl)
  intro i  hiN  ls hl
  subst hiN
  refine lv_iload_n hx hb dX7_allThickness_25 rfl (lv_at hl 1 rfl) ?_
  exact W.iret (v := nI 0) hx hb hr (fun t ht9 hW9 => ⟨nI 0, rfl, rfl, ht9⟩) (fun _ h => absurd h List.not_mem_nil) dX7_allThickness_26
set_option maxRecDepth 20000 in
theorem lf_whyNotStirred_1 (a : Nat) (heat : Int32) (cools : Int32) (skinHeat : Int32) (today : Int32) (stirs : Int32) (steps : Int32) (thickness : Nat) (lumpNames : Nat) (lumpCells : Nat) (boatNames : Nat) (boatCells : Nat) (loads : Nat) (spoons : Nat) (spoonsLeft : Nat) (depths : Nat) (column : Int32) (n : Int32) (back : Int32) (c1 : column < 0) : ((-1 : Int32) = (-1 : Int32) ∧ ¬ ((column.toInt = 0 ∨ column.toInt = 1) ∧ (back.toInt = 0 ∨ back.toInt = 1) ∧ 0 ≤ n.toInt ∧ n.toInt < 4)) ∨ ((-1 : Int32) = nI 1 ∧ ((column.toInt = 0 ∨ column.toInt = 1) ∧ (back.toInt = 0 ∨ back.toInt = 1) ∧ 0 ≤ n.toInt ∧ n.toInt < 4) ∧ heat.toInt ≤ skinHeat.toInt) ∨ ((-1 : Int32) = nI 0 ∧ ((column.toInt = 0 ∨ column.toInt = 1) ∧ (back.toInt = 0 ∨ back.toInt = 1) ∧ 0 ≤ n.toInt ∧ n.toInt < 4) ∧ skinHeat.toInt < heat.toInt) := by
  have k_0 := ia_n 1 (by decide)
  have k_1 := ia_n 0 (by decide)
  simp only [ia_lt, ia_le, ia_eq, ia_m1, ia_0, ia_1, ne_eq, true_and, and_true, false_and, and_false, or_false, false_or, or_true, true_or, not_true_eq_false, not_false_eq_true] at *
  all_goals omega
set_option maxRecDepth 20000 in
theorem lf_whyNotStirred_2 (a : Nat) (heat : Int32) (cools : Int32) (skinHeat : Int32) (today : Int32) (stirs : Int32) (steps : Int32) (thickness : Nat) (lumpNames : Nat) (lumpCells : Nat) (boatNames : Nat) (boatCells : Nat) (loads : Nat) (spoons : Nat) (spoonsLeft : Nat) (depths : Nat) (column : Int32) (n : Int32) (back : Int32) (c1 : ¬ column < 0) (c2 : nI 1 < column) : ((-1 : Int32) = (-1 : Int32) ∧ ¬ ((column.toInt = 0 ∨ column.toInt = 1) ∧ (back.toInt = 0 ∨ back.toInt = 1) ∧ 0 ≤ n.toInt ∧ n.toInt < 4)) ∨ ((-1 : Int32) = nI 1 ∧ ((column.toInt = 0 ∨ column.toInt = 1) ∧ (back.toInt = 0 ∨ back.toInt = 1) ∧ 0 ≤ n.toInt ∧ n.toInt < 4) ∧ heat.toInt ≤ skinHeat.toInt) ∨ ((-1 : Int32) = nI 0 ∧ ((column.toInt = 0 ∨ column.toInt = 1) ∧ (back.toInt = 0 ∨ back.toInt = 1) ∧ 0 ≤ n.toInt ∧ n.toInt < 4) ∧ skinHeat.toInt < heat.toInt) := by
  have k_0 := ia_n 1 (by decide)
  have k_1 := ia_n 0 (by decide)
  simp only [ia_lt, ia_le, ia_eq, ia_m1, ia_0, ia_1, ne_eq, true_and, and_true, false_and, and_false, or_false, false_or, or_true, true_or, not_true_eq_false, not_false_eq_true] at *
  all_goals omega
set_option maxRecDepth 20000 in
theorem lf_whyNotStirred_3 (a : Nat) (heat : Int32) (cools : Int32) (skinHeat : Int32) (today : Int32) (stirs : Int32) (steps : Int32) (thickness : Nat) (lumpNames : Nat) (lumpCells : Nat) (boatNames : Nat) (boatCells : Nat) (loads : Nat) (spoons : Nat) (spoonsLeft : Nat) (depths : Nat) (column : Int32) (n : Int32) (back : Int32) (c1 : ¬ column < 0) (c2 : ¬ nI 1 < column) (c3 : back < 0) : ((-1 : Int32) = (-1 : Int32) ∧ ¬ ((column.toInt = 0 ∨ column.toInt = 1) ∧ (back.toInt = 0 ∨ back.toInt = 1) ∧ 0 ≤ n.toInt ∧ n.toInt < 4)) ∨ ((-1 : Int32) = nI 1 ∧ ((column.toInt = 0 ∨ column.toInt = 1) ∧ (back.toInt = 0 ∨ back.toInt = 1) ∧ 0 ≤ n.toInt ∧ n.toInt < 4) ∧ heat.toInt ≤ skinHeat.toInt) ∨ ((-1 : Int32) = nI 0 ∧ ((column.toInt = 0 ∨ column.toInt = 1) ∧ (back.toInt = 0 ∨ back.toInt = 1) ∧ 0 ≤ n.toInt ∧ n.toInt < 4) ∧ skinHeat.toInt < heat.toInt) := by
  have k_0 := ia_n 1 (by decide)
  have k_1 := ia_n 0 (by decide)
  simp only [ia_lt, ia_le, ia_eq, ia_m1, ia_0, ia_1, ne_eq, true_and, and_true, false_and, and_false, or_false, false_or, or_true, true_or, not_true_eq_false, not_false_eq_true] at *
  all_goals omega
set_option maxRecDepth 20000 in
theorem lf_whyNotStirred_4 (a : Nat) (heat : Int32) (cools : Int32) (skinHeat : Int32) (today : Int32) (stirs : Int32) (steps : Int32) (thickness : Nat) (lumpNames : Nat) (lumpCells : Nat) (boatNames : Nat) (boatCells : Nat) (loads : Nat) (spoons : Nat) (spoonsLeft : Nat) (depths : Nat) (column : Int32) (n : Int32) (back : Int32) (c1 : ¬ column < 0) (c2 : ¬ nI 1 < column) (c3 : ¬ back < 0) (c4 : nI 1 < back) : ((-1 : Int32) = (-1 : Int32) ∧ ¬ ((column.toInt = 0 ∨ column.toInt = 1) ∧ (back.toInt = 0 ∨ back.toInt = 1) ∧ 0 ≤ n.toInt ∧ n.toInt < 4)) ∨ ((-1 : Int32) = nI 1 ∧ ((column.toInt = 0 ∨ column.toInt = 1) ∧ (back.toInt = 0 ∨ back.toInt = 1) ∧ 0 ≤ n.toInt ∧ n.toInt < 4) ∧ heat.toInt ≤ skinHeat.toInt) ∨ ((-1 : Int32) = nI 0 ∧ ((column.toInt = 0 ∨ column.toInt = 1) ∧ (back.toInt = 0 ∨ back.toInt = 1) ∧ 0 ≤ n.toInt ∧ n.toInt < 4) ∧ skinHeat.toInt < heat.toInt) := by
  have k_0 := ia_n 1 (by decide)
  have k_1 := ia_n 0 (by decide)
  simp only [ia_lt, ia_le, ia_eq, ia_m1, ia_0, ia_1, ne_eq, true_and, and_true, false_and, and_false, or_false, false_or, or_true, true_or, not_true_eq_false, not_false_eq_true] at *
  all_goals omega
set_option maxRecDepth 20000 in
theorem lf_whyNotStirred_5 (a : Nat) (heat : Int32) (cools : Int32) (skinHeat : Int32) (today : Int32) (stirs : Int32) (steps : Int32) (thickness : Nat) (lumpNames : Nat) (lumpCells : Nat) (boatNames : Nat) (boatCells : Nat) (loads : Nat) (spoons : Nat) (spoonsLeft : Nat) (depths : Nat) (column : Int32) (n : Int32) (back : Int32) (r5 : Int32) (r8 : Int32) (c1 : ¬ column < 0) (c2 : ¬ nI 1 < column) (c3 : ¬ back < 0) (c4 : ¬ nI 1 < back) (p6 : (r5 = nI 1 ∧ (0 ≤ n.toInt ∧ ((column.toInt = 1 ∧ n.toInt < (nI 4).toInt) ∨ (column.toInt ≠ 1 ∧ n.toInt < (nI 4).toInt)))) ∨ (r5 = nI 0 ∧ ¬ (0 ≤ n.toInt ∧ ((column.toInt = 1 ∧ n.toInt < (nI 4).toInt) ∨ (column.toInt ≠ 1 ∧ n.toInt < (nI 4).toInt))))) (c7 : r5 ≠ 0) (p9 : (r8 = nI 1 ∧ heat.toInt ≤ skinHeat.toInt) ∨ (r8 = nI 0 ∧ skinHeat.toInt < heat.toInt)) (c10 : r8 = 0) : ((nI 0) = (-1 : Int32) ∧ ¬ ((column.toInt = 0 ∨ column.toInt = 1) ∧ (back.toInt = 0 ∨ back.toInt = 1) ∧ 0 ≤ n.toInt ∧ n.toInt < 4)) ∨ ((nI 0) = nI 1 ∧ ((column.toInt = 0 ∨ column.toInt = 1) ∧ (back.toInt = 0 ∨ back.toInt = 1) ∧ 0 ≤ n.toInt ∧ n.toInt < 4) ∧ heat.toInt ≤ skinHeat.toInt) ∨ ((nI 0) = nI 0 ∧ ((column.toInt = 0 ∨ column.toInt = 1) ∧ (back.toInt = 0 ∨ back.toInt = 1) ∧ 0 ≤ n.toInt ∧ n.toInt < 4) ∧ skinHeat.toInt < heat.toInt) := by
  have k_0 := ia_n 1 (by decide)
  have k_1 := ia_n 4 (by decide)
  have k_2 := ia_n 0 (by decide)
  simp only [ia_lt, ia_le, ia_eq, ia_m1, ia_0, ia_1, ne_eq, true_and, and_true, false_and, and_false, or_false, false_or, or_true, true_or, not_true_eq_false, not_false_eq_true] at *
  all_goals omega
set_option maxRecDepth 20000 in
theorem lf_whyNotStirred_6 (a : Nat) (heat : Int32) (cools : Int32) (skinHeat : Int32) (today : Int32) (stirs : Int32) (steps : Int32) (thickness : Nat) (lumpNames : Nat) (lumpCells : Nat) (boatNames : Nat) (boatCells : Nat) (loads : Nat) (spoons : Nat) (spoonsLeft : Nat) (depths : Nat) (column : Int32) (n : Int32) (back : Int32) (r5 : Int32) (r8 : Int32) (c1 : ¬ column < 0) (c2 : ¬ nI 1 < column) (c3 : ¬ back < 0) (c4 : ¬ nI 1 < back) (p6 : (r5 = nI 1 ∧ (0 ≤ n.toInt ∧ ((column.toInt = 1 ∧ n.toInt < (nI 4).toInt) ∨ (column.toInt ≠ 1 ∧ n.toInt < (nI 4).toInt)))) ∨ (r5 = nI 0 ∧ ¬ (0 ≤ n.toInt ∧ ((column.toInt = 1 ∧ n.toInt < (nI 4).toInt) ∨ (column.toInt ≠ 1 ∧ n.toInt < (nI 4).toInt))))) (c7 : r5 ≠ 0) (p9 : (r8 = nI 1 ∧ heat.toInt ≤ skinHeat.toInt) ∨ (r8 = nI 0 ∧ skinHeat.toInt < heat.toInt)) (c10 : ¬ r8 = 0) : ((nI 1) = (-1 : Int32) ∧ ¬ ((column.toInt = 0 ∨ column.toInt = 1) ∧ (back.toInt = 0 ∨ back.toInt = 1) ∧ 0 ≤ n.toInt ∧ n.toInt < 4)) ∨ ((nI 1) = nI 1 ∧ ((column.toInt = 0 ∨ column.toInt = 1) ∧ (back.toInt = 0 ∨ back.toInt = 1) ∧ 0 ≤ n.toInt ∧ n.toInt < 4) ∧ heat.toInt ≤ skinHeat.toInt) ∨ ((nI 1) = nI 0 ∧ ((column.toInt = 0 ∨ column.toInt = 1) ∧ (back.toInt = 0 ∨ back.toInt = 1) ∧ 0 ≤ n.toInt ∧ n.toInt < 4) ∧ skinHeat.toInt < heat.toInt) := by
  have k_0 := ia_n 1 (by decide)
  have k_1 := ia_n 4 (by decide)
  have k_2 := ia_n 0 (by decide)
  simp only [ia_lt, ia_le, ia_eq, ia_m1, ia_0, ia_1, ne_eq, true_and, and_true, false_and, and_false, or_false, false_or, or_true, true_or, not_true_eq_false, not_false_eq_true] at *
  all_goals omega
set_option maxRecDepth 20000 in
theorem lf_whyNotStirred_7 (a : Nat) (heat : Int32) (cools : Int32) (skinHeat : Int32) (today : Int32) (stirs : Int32) (steps : Int32) (thickness : Nat) (lumpNames : Nat) (lumpCells : Nat) (boatNames : Nat) (boatCells : Nat) (loads : Nat) (spoons : Nat) (spoonsLeft : Nat) (depths : Nat) (column : Int32) (n : Int32) (back : Int32) (r5 : Int32) (c1 : ¬ column < 0) (c2 : ¬ nI 1 < column) (c3 : ¬ back < 0) (c4 : ¬ nI 1 < back) (p6 : (r5 = nI 1 ∧ (0 ≤ n.toInt ∧ ((column.toInt = 1 ∧ n.toInt < (nI 4).toInt) ∨ (column.toInt ≠ 1 ∧ n.toInt < (nI 4).toInt)))) ∨ (r5 = nI 0 ∧ ¬ (0 ≤ n.toInt ∧ ((column.toInt = 1 ∧ n.toInt < (nI 4).toInt) ∨ (column.toInt ≠ 1 ∧ n.toInt < (nI 4).toInt))))) (c7 : r5 = 0) : ((-1 : Int32) = (-1 : Int32) ∧ ¬ ((column.toInt = 0 ∨ column.toInt = 1) ∧ (back.toInt = 0 ∨ back.toInt = 1) ∧ 0 ≤ n.toInt ∧ n.toInt < 4)) ∨ ((-1 : Int32) = nI 1 ∧ ((column.toInt = 0 ∨ column.toInt = 1) ∧ (back.toInt = 0 ∨ back.toInt = 1) ∧ 0 ≤ n.toInt ∧ n.toInt < 4) ∧ heat.toInt ≤ skinHeat.toInt) ∨ ((-1 : Int32) = nI 0 ∧ ((column.toInt = 0 ∨ column.toInt = 1) ∧ (back.toInt = 0 ∨ back.toInt = 1) ∧ 0 ≤ n.toInt ∧ n.toInt < 4) ∧ skinHeat.toInt < heat.toInt) := by
  have k_0 := ia_n 1 (by decide)
  have k_1 := ia_n 4 (by decide)
  have k_2 := ia_n 0 (by decide)
  simp only [ia_lt, ia_le, ia_eq, ia_m1, ia_0, ia_1, ne_eq, true_and, and_true, false_and, and_false, or_false, false_or, or_true, true_or, not_true_eq_false, not_false_eq_true] at *
  all_goals omega
set_option maxHeartbeats 4000000 in
set_option maxRecDepth 100000 in
theorem c_whyNotStirred (l : Launch) (dC : Nat → ClassId) (dI : Nat → Nat → Nat) (ky : Nat → ClassId) (a : Nat) (heat : Int32) (cools : Int32) (skinHeat : Int32) (today : Int32) (stirs : Int32) (steps : Int32) (thickness : Nat) (lumpNames : Nat) (lumpCells : Nat) (boatNames : Nat) (boatCells : Nat) (loads : Nat) (spoons : Nat) (spoonsLeft : Nat) (depths : Nat) (column : Int32) (n : Int32) (back : Int32)  : Met l yX7_whyNotStirred wsX7_whyNotStirred ({ frames := 1, cells := 0, slots := 0, locals := 22 }) (PcP dC dI ky [.ref a, .int column, .int n, .int back] [(a, .inr (7, [.int (nI 4), .int (nI 4), .int heat, .int cools, .int skinHeat, .int today, .int stirs, .int steps, .int (nI 0), .int (nI 0), .ref thickness, .ref lumpNames, .ref lumpCells, .ref boatNames, .ref boatCells, .ref loads, .ref spoons, .ref spoonsLeft, .ref depths]))]) (vp_Si (fun r : Int32 => (r = (-1 : Int32) ∧ ¬ ((column.toInt = 0 ∨ column.toInt = 1) ∧ (back.toInt = 0 ∨ back.toInt = 1) ∧ 0 ≤ n.toInt ∧ n.toInt < 4)) ∨ (r = nI 1 ∧ ((column.toInt = 0 ∨ column.toInt = 1) ∧ (back.toInt = 0 ∨ back.toInt = 1) ∧ 0 ≤ n.toInt ∧ n.toInt < 4) ∧ heat.toInt ≤ skinHeat.toInt) ∨ (r = nI 0 ∧ ((column.toInt = 0 ∨ column.toInt = 1) ∧ (back.toInt = 0 ∨ back.toInt = 1) ∧ 0 ≤ n.toInt ∧ n.toInt < 4) ∧ skinHeat.toInt < heat.toInt))) 0 0 (fun _ => False) := by
  refine Met.ofW (cc := cX7_whyNotStirred) (maxL := 4) (ret := (some .int)) (by decide) rfl ?_
  intro p e s m args below meth c s₁ B hml hv
  obtain ⟨rfl, hP, hK⟩ := hv
  have hx := B.exec
  have hb := B.bytes
  have hr := B.returns
  have hts := atoms_spec (ws := wsX7_whyNotStirred) B.pre
  have hown : s.vm.findClass RX7 = some m.cls := findClass_of_methodNamed B.named
  have hlocks := B.notSynchronized
  have hl := lv_entry ([.ref a, .int column, .int n, .int back]) (n := 4) (Nat.le_of_ble_eq_true rfl)
  rw [lg_entry_eq]
  generalize (lg_sl ([.ref a, .int column, .int n, .int back]) ++ List.replicate (4 - (lg_sl ([.ref a, .int column, .int n, .int back])).length) Slot.unset).toArray = ls at hl ⊢
  have hl : lv_has ls 4 [(0, .ref a), (1, .int column), (2, .int n), (3, .int back)] := hl
  refine lv_iload_n hx hb dX7_whyNotStirred_0 rfl (lv_at hl 1 rfl) ?_
  refine lv_if_lt (tgt := 27) hx hb dX7_whyNotStirred_1 (by decide) (fun c1 => ?_) (fun c1 => ?_)
  · refine lv_iconst (v := (-1 : Int32)) hx hb dX7_whyNotStirred_27 (by decide) ?_
    exact W.iret (v := (-1 : Int32)) hx hb hr (fun t ht9 hW9 => ⟨(-1 : Int32), rfl, (lf_whyNotStirred_1 a heat cools skinHeat today stirs steps thickness lumpNames lumpCells boatNames boatCells loads spoons spoonsLeft depths column n back c1), ht9⟩) (fun _ h => absurd h List.not_mem_nil) dX7_whyNotStirred_28
  · refine lv_iload_n hx hb dX7_whyNotStirred_4 rfl (lv_at hl 1 rfl) ?_
    refine lv_iconst (v := nI 1) hx hb dX7_whyNotStirred_5 (by decide) ?_
    refine lv_icmp_gt (tgt := 27) hx hb dX7_whyNotStirred_6 (by decide) (fun c2 => ?_) (fun c2 => ?_)
    · refine lv_iconst (v := (-1 : Int32)) hx hb dX7_whyNotStirred_27 (by decide) ?_
      exact W.iret (v := (-1 : Int32)) hx hb hr (fun t ht9 hW9 => ⟨(-1 : Int32), rfl, (lf_whyNotStirred_2 a heat cools skinHeat today stirs steps thickness lumpNames lumpCells boatNames boatCells loads spoons spoonsLeft depths column n back c1 c2), ht9⟩) (fun _ h => absurd h List.not_mem_nil) dX7_whyNotStirred_28
    · refine lv_iload_n hx hb dX7_whyNotStirred_9 rfl (lv_at hl 3 rfl) ?_
      refine lv_if_lt (tgt := 27) hx hb dX7_whyNotStirred_10 (by decide) (fun c3 => ?_) (fun c3 => ?_)
      · refine lv_iconst (v := (-1 : Int32)) hx hb dX7_whyNotStirred_27 (by decide) ?_
        exact W.iret (v := (-1 : Int32)) hx hb hr (fun t ht9 hW9 => ⟨(-1 : Int32), rfl, (lf_whyNotStirred_3 a heat cools skinHeat today stirs steps thickness lumpNames lumpCells boatNames boatCells loads spoons spoonsLeft depths column n back c1 c2 c3), ht9⟩) (fun _ h => absurd h List.not_mem_nil) dX7_whyNotStirred_28
      · refine lv_iload_n hx hb dX7_whyNotStirred_13 rfl (lv_at hl 3 rfl) ?_
        refine lv_iconst (v := nI 1) hx hb dX7_whyNotStirred_14 (by decide) ?_
        refine lv_icmp_gt (tgt := 27) hx hb dX7_whyNotStirred_15 (by decide) (fun c4 => ?_) (fun c4 => ?_)
        · refine lv_iconst (v := (-1 : Int32)) hx hb dX7_whyNotStirred_27 (by decide) ?_
          exact W.iret (v := (-1 : Int32)) hx hb hr (fun t ht9 hW9 => ⟨(-1 : Int32), rfl, (lf_whyNotStirred_4 a heat cools skinHeat today stirs steps thickness lumpNames lumpCells boatNames boatCells loads spoons spoonsLeft depths column n back c1 c2 c3 c4), ht9⟩) (fun _ h => absurd h List.not_mem_nil) dX7_whyNotStirred_28
        · refine lv_aload_n hx hb dX7_whyNotStirred_18 rfl (lv_at hl 0 rfl) ?_
          refine lv_iload_n hx hb dX7_whyNotStirred_19 rfl (lv_at hl 1 rfl) ?_
          refine lv_iload_n hx hb dX7_whyNotStirred_20 rfl (lv_at hl 2 rfl) ?_
          refine vp_callSi (W.runV (As := [.int column, .int n]) (rest := []) ⟨hx, hb, hml, hown, hts⟩ (c_isLine l dC dI ky a (nI 4) (nI 4) heat cools skinHeat today stirs steps (nI 0) (nI 0) thickness lumpNames lumpCells boatNames boatCells loads spoons spoonsLeft depths column n) (cwV 2 hts gX7_whyNotStirred_X7_isLine rfl rfl rfl (by decide +kernel) ⟨(Nat.le_of_ble_eq_true rfl), (Nat.le_of_ble_eq_true rfl)⟩) (pre_PV hK hP [0] rfl (ci := 7) (q0 := 0) rfl rfl) rfl rfl hl.1 rfl (lv_room (Nat.le_of_ble_eq_true rfl)) dX7_whyNotStirred_21 ⟨(Nat.le_of_ble_eq_true rfl), (Nat.le_of_ble_eq_true rfl)⟩) (fun r5 p6 => ?_)
          refine lv_if_ne (tgt := 29) hx hb dX7_whyNotStirred_24 (by decide) (fun c7 => ?_) (fun c7 => ?_)
          · refine lv_aload_n hx hb dX7_whyNotStirred_29 rfl (lv_at hl 0 rfl) ?_
            refine vp_callSi (W.runV (As := []) (rest := []) ⟨hx, hb, hml, hown, hts⟩ (c_hasSkin l dC dI ky a (nI 4) (nI 4) heat cools skinHeat today stirs steps (nI 0) (nI 0) thickness lumpNames lumpCells boatNames boatCells loads spoons spoonsLeft depths) (cwV 0 hts gX7_whyNotStirred_X7_hasSkin rfl rfl rfl (by decide +kernel) ⟨(Nat.le_of_ble_eq_true rfl), (Nat.le_of_ble_eq_true rfl)⟩) (pre_PV hK hP [0] rfl (ci := 7) (q0 := 0) rfl rfl) rfl rfl hl.1 rfl (lv_room (Nat.le_of_ble_eq_true rfl)) dX7_whyNotStirred_30 ⟨(Nat.le_of_ble_eq_true rfl), (Nat.le_of_ble_eq_true rfl)⟩) (fun r8 p9 => ?_)
            refine lv_if_eq (tgt := 40) hx hb dX7_whyNotStirred_33 (by decide) (fun c10 => ?_) (fun c10 => ?_)
            · refine lv_iconst (v := nI 0) hx hb dX7_whyNotStirred_40 (by decide) ?_
              exact W.iret (v := nI 0) hx hb hr (fun t ht9 hW9 => ⟨nI 0, rfl, (lf_whyNotStirred_5 a heat cools skinHeat today stirs steps thickness lumpNames lumpCells boatNames boatCells loads spoons spoonsLeft depths column n back r5 r8 c1 c2 c3 c4 p6 c7 p9 c10), ht9⟩) (fun _ h => absurd h List.not_mem_nil) dX7_whyNotStirred_41
            · refine lv_iconst (v := nI 1) hx hb dX7_whyNotStirred_36 (by decide) ?_
              refine lv_goto (tgt := 41) hx hb dX7_whyNotStirred_37 (by decide) ?_
              exact W.iret (v := nI 1) hx hb hr (fun t ht9 hW9 => ⟨nI 1, rfl, (lf_whyNotStirred_6 a heat cools skinHeat today stirs steps thickness lumpNames lumpCells boatNames boatCells loads spoons spoonsLeft depths column n back r5 r8 c1 c2 c3 c4 p6 c7 p9 c10), ht9⟩) (fun _ h => absurd h List.not_mem_nil) dX7_whyNotStirred_41
          · refine lv_iconst (v := (-1 : Int32)) hx hb dX7_whyNotStirred_27 (by decide) ?_
            exact W.iret (v := (-1 : Int32)) hx hb hr (fun t ht9 hW9 => ⟨(-1 : Int32), rfl, (lf_whyNotStirred_7 a heat cools skinHeat today stirs steps thickness lumpNames lumpCells boatNames boatCells loads spoons spoonsLeft depths column n back r5 c1 c2 c3 c4 p6 c7), ht9⟩) (fun _ h => absurd h List.not_mem_nil) dX7_whyNotStirred_28
set_option maxRecDepth 20000 in
theorem lf_whyNotFloured_1 (a : Nat) (heat : Int32) (cools : Int32) (skinHeat : Int32) (today : Int32) (stirs : Int32) (steps : Int32) (thickness : Nat) (lumpNames : Nat) (lumpCells : Nat) (boatNames : Nat) (boatCells : Nat) (loads : Nat) (spoons : Nat) (spoonsLeft : Nat) (depths : Nat) (thicknessF : Nat → Int32) (x : Int32) (y : Int32) (n : Int32) (r1 : Int32) (hz : ∀ j, j < 36 → thicknessF j = nI 0) (p2 : (r1 = nI 1 ∧ (0 ≤ x.toInt ∧ x.toInt < (nI 4).toInt ∧ 0 ≤ y.toInt ∧ y.toInt < (nI 4).toInt)) ∨ (r1 = nI 0 ∧ ¬ (0 ≤ x.toInt ∧ x.toInt < (nI 4).toInt ∧ 0 ≤ y.toInt ∧ y.toInt < (nI 4).toInt))) (c3 : r1 = 0) : ((-1 : Int32) = (-1 : Int32) ∧ ¬ (0 ≤ x.toInt ∧ x.toInt < 4 ∧ 0 ≤ y.toInt ∧ y.toInt < 4 ∧ 1 ≤ n.toInt ∧ n.toInt ≤ 9)) ∨ ((-1 : Int32) = nI 0 ∧ (0 ≤ x.toInt ∧ x.toInt < 4 ∧ 0 ≤ y.toInt ∧ y.toInt < 4 ∧ 1 ≤ n.toInt ∧ n.toInt ≤ 9)) := by
  have k_0 := ia_n 0 (by decide)
  have k_1 := ia_n 1 (by decide)
  have k_2 := ia_n 4 (by decide)
  simp only [ia_lt, ia_le, ia_eq, ia_m1, ia_0, ia_1, ne_eq, true_and, and_true, false_and, and_false, or_false, false_or, or_true, true_or, not_true_eq_false, not_false_eq_true] at *
  all_goals omega
set_option maxRecDepth 20000 in
theorem lf_whyNotFloured_2 (a : Nat) (heat : Int32) (cools : Int32) (skinHeat : Int32) (today : Int32) (stirs : Int32) (steps : Int32) (thickness : Nat) (lumpNames : Nat) (lumpCells : Nat) (boatNames : Nat) (boatCells : Nat) (loads : Nat) (spoons : Nat) (spoonsLeft : Nat) (depths : Nat) (thicknessF : Nat → Int32) (x : Int32) (y : Int32) (n : Int32) (r1 : Int32) (hz : ∀ j, j < 36 → thicknessF j = nI 0) (p2 : (r1 = nI 1 ∧ (0 ≤ x.toInt ∧ x.toInt < (nI 4).toInt ∧ 0 ≤ y.toInt ∧ y.toInt < (nI 4).toInt)) ∨ (r1 = nI 0 ∧ ¬ (0 ≤ x.toInt ∧ x.toInt < (nI 4).toInt ∧ 0 ≤ y.toInt ∧ y.toInt < (nI 4).toInt))) (c3 : ¬ r1 = 0) (c4 : n < nI 1) : ((-1 : Int32) = (-1 : Int32) ∧ ¬ (0 ≤ x.toInt ∧ x.toInt < 4 ∧ 0 ≤ y.toInt ∧ y.toInt < 4 ∧ 1 ≤ n.toInt ∧ n.toInt ≤ 9)) ∨ ((-1 : Int32) = nI 0 ∧ (0 ≤ x.toInt ∧ x.toInt < 4 ∧ 0 ≤ y.toInt ∧ y.toInt < 4 ∧ 1 ≤ n.toInt ∧ n.toInt ≤ 9)) := by
  have k_0 := ia_n 0 (by decide)
  have k_1 := ia_n 1 (by decide)
  have k_2 := ia_n 4 (by decide)
  simp only [ia_lt, ia_le, ia_eq, ia_m1, ia_0, ia_1, ne_eq, true_and, and_true, false_and, and_false, or_false, false_or, or_true, true_or, not_true_eq_false, not_false_eq_true] at *
  all_goals omega
set_option maxRecDepth 20000 in
theorem lf_whyNotFloured_3 (a : Nat) (heat : Int32) (cools : Int32) (skinHeat : Int32) (today : Int32) (stirs : Int32) (steps : Int32) (thickness : Nat) (lumpNames : Nat) (lumpCells : Nat) (boatNames : Nat) (boatCells : Nat) (loads : Nat) (spoons : Nat) (spoonsLeft : Nat) (depths : Nat) (thicknessF : Nat → Int32) (x : Int32) (y : Int32) (n : Int32) (r1 : Int32) (hz : ∀ j, j < 36 → thicknessF j = nI 0) (p2 : (r1 = nI 1 ∧ (0 ≤ x.toInt ∧ x.toInt < (nI 4).toInt ∧ 0 ≤ y.toInt ∧ y.toInt < (nI 4).toInt)) ∨ (r1 = nI 0 ∧ ¬ (0 ≤ x.toInt ∧ x.toInt < (nI 4).toInt ∧ 0 ≤ y.toInt ∧ y.toInt < (nI 4).toInt))) (c3 : ¬ r1 = 0) (c4 : ¬ n < nI 1) (c5 : n ≤ nI 9) : 0 ≤ x.toInt ∧ x.toInt < ((4 : Nat) : Int) := by
  have k_0 := ia_n 0 (by decide)
  have k_1 := ia_n 1 (by decide)
  have k_2 := ia_n 4 (by decide)
  have k_3 := ia_n 9 (by decide)
  simp only [ia_lt, ia_le, ia_eq, ia_m1, ia_0, ia_1, ne_eq, true_and, and_true, false_and, and_false, or_false, false_or, or_true, true_or, not_true_eq_false, not_false_eq_true] at *
  all_goals omega
set_option maxRecDepth 20000 in
theorem lf_whyNotFloured_4 (a : Nat) (heat : Int32) (cools : Int32) (skinHeat : Int32) (today : Int32) (stirs : Int32) (steps : Int32) (thickness : Nat) (lumpNames : Nat) (lumpCells : Nat) (boatNames : Nat) (boatCells : Nat) (loads : Nat) (spoons : Nat) (spoonsLeft : Nat) (depths : Nat) (thicknessF : Nat → Int32) (y : Int32) (n : Int32) (r1 : Int32) (xn : Nat) (hz : ∀ j, j < 36 → thicknessF j = nI 0) (p2 : (r1 = nI 1 ∧ (0 ≤ (nI xn).toInt ∧ (nI xn).toInt < (nI 4).toInt ∧ 0 ≤ y.toInt ∧ y.toInt < (nI 4).toInt)) ∨ (r1 = nI 0 ∧ ¬ (0 ≤ (nI xn).toInt ∧ (nI xn).toInt < (nI 4).toInt ∧ 0 ≤ y.toInt ∧ y.toInt < (nI 4).toInt))) (c3 : ¬ r1 = 0) (c4 : ¬ n < nI 1) (c5 : n ≤ nI 9) (h6 : xn < 4) : 0 ≤ y.toInt ∧ y.toInt < ((4 : Nat) : Int) := by
  have k_0 := ia_n 0 (by decide)
  have k_1 := ia_n 1 (by decide)
  have k_2 := ia_n xn (by omega)
  have k_3 := ia_n 4 (by decide)
  have k_4 := ia_n 9 (by decide)
  simp only [ia_lt, ia_le, ia_eq, ia_m1, ia_0, ia_1, ne_eq, true_and, and_true, false_and, and_false, or_false, false_or, or_true, true_or, not_true_eq_false, not_false_eq_true] at *
  all_goals omega
set_option maxRecDepth 20000 in
theorem lf_whyNotFloured_5 (a : Nat) (heat : Int32) (cools : Int32) (skinHeat : Int32) (today : Int32) (stirs : Int32) (steps : Int32) (thickness : Nat) (lumpNames : Nat) (lumpCells : Nat) (boatNames : Nat) (boatCells : Nat) (loads : Nat) (spoons : Nat) (spoonsLeft : Nat) (depths : Nat) (thicknessF : Nat → Int32) (n : Int32) (r1 : Int32) (xn : Nat) (yn : Nat) (hz : ∀ j, j < 36 → thicknessF j = nI 0) (p2 : (r1 = nI 1 ∧ (0 ≤ (nI xn).toInt ∧ (nI xn).toInt < (nI 4).toInt ∧ 0 ≤ (nI yn).toInt ∧ (nI yn).toInt < (nI 4).toInt)) ∨ (r1 = nI 0 ∧ ¬ (0 ≤ (nI xn).toInt ∧ (nI xn).toInt < (nI 4).toInt ∧ 0 ≤ (nI yn).toInt ∧ (nI yn).toInt < (nI 4).toInt))) (c3 : ¬ r1 = 0) (c4 : ¬ n < nI 1) (c5 : n ≤ nI 9) (h6 : xn < 4) (h7 : yn < 4) : ((nI 0) = (-1 : Int32) ∧ ¬ (0 ≤ (nI xn).toInt ∧ (nI xn).toInt < 4 ∧ 0 ≤ (nI yn).toInt ∧ (nI yn).toInt < 4 ∧ 1 ≤ n.toInt ∧ n.toInt ≤ 9)) ∨ ((nI 0) = nI 0 ∧ (0 ≤ (nI xn).toInt ∧ (nI xn).toInt < 4 ∧ 0 ≤ (nI yn).toInt ∧ (nI yn).toInt < 4 ∧ 1 ≤ n.toInt ∧ n.toInt ≤ 9)) := by
  have k_0 := ia_n 0 (by decide)
  have k_1 := ia_n 1 (by decide)
  have k_2 := ia_n xn (by omega)
  have k_3 := ia_n 4 (by decide)
  have k_4 := ia_n yn (by omega)
  have k_5 := ia_n 9 (by decide)
  simp only [ia_lt, ia_le, ia_eq, ia_m1, ia_0, ia_1, ne_eq, true_and, and_true, false_and, and_false, or_false, false_or, or_true, true_or, not_true_eq_false, not_false_eq_true] at *
  all_goals omega
set_option maxRecDepth 20000 in
theorem lf_whyNotFloured_6 (a : Nat) (heat : Int32) (cools : Int32) (skinHeat : Int32) (today : Int32) (stirs : Int32) (steps : Int32) (thickness : Nat) (lumpNames : Nat) (lumpCells : Nat) (boatNames : Nat) (boatCells : Nat) (loads : Nat) (spoons : Nat) (spoonsLeft : Nat) (depths : Nat) (thicknessF : Nat → Int32) (x : Int32) (y : Int32) (n : Int32) (r1 : Int32) (hz : ∀ j, j < 36 → thicknessF j = nI 0) (p2 : (r1 = nI 1 ∧ (0 ≤ x.toInt ∧ x.toInt < (nI 4).toInt ∧ 0 ≤ y.toInt ∧ y.toInt < (nI 4).toInt)) ∨ (r1 = nI 0 ∧ ¬ (0 ≤ x.toInt ∧ x.toInt < (nI 4).toInt ∧ 0 ≤ y.toInt ∧ y.toInt < (nI 4).toInt))) (c3 : ¬ r1 = 0) (c4 : ¬ n < nI 1) (c5 : ¬ n ≤ nI 9) : ((-1 : Int32) = (-1 : Int32) ∧ ¬ (0 ≤ x.toInt ∧ x.toInt < 4 ∧ 0 ≤ y.toInt ∧ y.toInt < 4 ∧ 1 ≤ n.toInt ∧ n.toInt ≤ 9)) ∨ ((-1 : Int32) = nI 0 ∧ (0 ≤ x.toInt ∧ x.toInt < 4 ∧ 0 ≤ y.toInt ∧ y.toInt < 4 ∧ 1 ≤ n.toInt ∧ n.toInt ≤ 9)) := by
  have k_0 := ia_n 0 (by decide)
  have k_1 := ia_n 1 (by decide)
  have k_2 := ia_n 4 (by decide)
  have k_3 := ia_n 9 (by decide)
  simp only [ia_lt, ia_le, ia_eq, ia_m1, ia_0, ia_1, ne_eq, true_and, and_true, false_and, and_false, or_false, false_or, or_true, true_or, not_true_eq_false, not_false_eq_true] at *
  all_goals omega
set_option maxHeartbeats 4000000 in
set_option maxRecDepth 100000 in
theorem c_whyNotFloured (l : Launch) (dC : Nat → ClassId) (dI : Nat → Nat → Nat) (ky : Nat → ClassId) (a : Nat) (heat : Int32) (cools : Int32) (skinHeat : Int32) (today : Int32) (stirs : Int32) (steps : Int32) (thickness : Nat) (lumpNames : Nat) (lumpCells : Nat) (boatNames : Nat) (boatCells : Nat) (loads : Nat) (spoons : Nat) (spoonsLeft : Nat) (depths : Nat) (thicknessF : Nat → Int32) (x : Int32) (y : Int32) (n : Int32) (hz : ∀ j, j < 36 → thicknessF j = nI 0) : Met l yX7_whyNotFloured wsX7_whyNotFloured ({ frames := 1, cells := 0, slots := 0, locals := 22 }) (PcP dC dI ky [.ref a, .int x, .int y, .int n] [(a, .inr (7, [.int (nI 4), .int (nI 4), .int heat, .int cools, .int skinHeat, .int today, .int stirs, .int steps, .int (nI 0), .int (nI 0), .ref thickness, .ref lumpNames, .ref lumpCells, .ref boatNames, .ref boatCells, .ref loads, .ref spoons, .ref spoonsLeft, .ref depths])), (thickness, .inl (ky 0, 36, .inl thicknessF))]) (vp_Si (fun r : Int32 => (r = (-1 : Int32) ∧ ¬ (0 ≤ x.toInt ∧ x.toInt < 4 ∧ 0 ≤ y.toInt ∧ y.toInt < 4 ∧ 1 ≤ n.toInt ∧ n.toInt ≤ 9)) ∨ (r = nI 0 ∧ (0 ≤ x.toInt ∧ x.toInt < 4 ∧ 0 ≤ y.toInt ∧ y.toInt < 4 ∧ 1 ≤ n.toInt ∧ n.toInt ≤ 9)))) 0 0 (fun _ => False) := by
  refine Met.ofW (cc := cX7_whyNotFloured) (maxL := 4) (ret := (some .int)) (by decide) rfl ?_
  intro p e s m args below meth c s₁ B hml hv
  obtain ⟨rfl, hP, hK⟩ := hv
  have hx := B.exec
  have hb := B.bytes
  have hr := B.returns
  have hts := atoms_spec (ws := wsX7_whyNotFloured) B.pre
  have hown : s.vm.findClass RX7 = some m.cls := findClass_of_methodNamed B.named
  have hlocks := B.notSynchronized
  have hl := lv_entry ([.ref a, .int x, .int y, .int n]) (n := 4) (Nat.le_of_ble_eq_true rfl)
  rw [lg_entry_eq]
  generalize (lg_sl ([.ref a, .int x, .int y, .int n]) ++ List.replicate (4 - (lg_sl ([.ref a, .int x, .int y, .int n])).length) Slot.unset).toArray = ls at hl ⊢
  have hl : lv_has ls 4 [(0, .ref a), (1, .int x), (2, .int y), (3, .int n)] := hl
  refine lv_aload_n hx hb dX7_whyNotFloured_0 rfl (lv_at hl 0 rfl) ?_
  refine lv_iload_n hx hb dX7_whyNotFloured_1 rfl (lv_at hl 1 rfl) ?_
  refine lv_iload_n hx hb dX7_whyNotFloured_2 rfl (lv_at hl 2 rfl) ?_
  refine vp_callSi (W.runV (As := [.int x, .int y]) (rest := []) ⟨hx, hb, hml, hown, hts⟩ (c_isCell l dC dI ky a (nI 4) (nI 4) heat cools skinHeat today stirs steps (nI 0) (nI 0) thickness lumpNames lumpCells boatNames boatCells loads spoons spoonsLeft depths x y) (cwV 2 hts gX7_whyNotFloured_X7_isCell rfl rfl rfl (by decide +kernel) ⟨(Nat.le_of_ble_eq_true rfl), (Nat.le_of_ble_eq_true rfl)⟩) (pre_PV hK hP [0] rfl (ci := 7) (q0 := 0) rfl rfl) rfl rfl hl.1 rfl (lv_room (Nat.le_of_ble_eq_true rfl)) dX7_whyNotFloured_3 ⟨(Nat.le_of_ble_eq_true rfl), (Nat.le_of_ble_eq_true rfl)⟩) (fun r1 p2 => ?_)
  refine lv_if_eq (tgt := 20) hx hb dX7_whyNotFloured_6 (by decide) (fun c3 => ?_) (fun c3 => ?_)
  · refine lv_iconst (v := (-1 : Int32)) hx hb dX7_whyNotFloured_20 (by decide) ?_
    exact W.iret (v := (-1 : Int32)) hx hb hr (fun t ht9 hW9 => ⟨(-1 : Int32), rfl, (lf_whyNotFloured_1 a heat cools skinHeat today stirs steps thickness lumpNames lumpCells boatNames boatCells loads spoons spoonsLeft depths thicknessF x y n r1 hz p2 c3), ht9⟩) (fun _ h => absurd h List.not_mem_nil) dX7_whyNotFloured_21
  · refine lv_iload_n hx hb dX7_whyNotFloured_9 rfl (lv_at hl 3 rfl) ?_
    refine lv_iconst (v := nI 1) hx hb dX7_whyNotFloured_10 (by decide) ?_
    refine lv_icmp_lt (tgt := 20) hx hb dX7_whyNotFloured_11 (by decide) (fun c4 => ?_) (fun c4 => ?_)
    · refine lv_iconst (v := (-1 : Int32)) hx hb dX7_whyNotFloured_20 (by decide) ?_
      exact W.iret (v := (-1 : Int32)) hx hb hr (fun t ht9 hW9 => ⟨(-1 : Int32), rfl, (lf_whyNotFloured_2 a heat cools skinHeat today stirs steps thickness lumpNames lumpCells boatNames boatCells loads spoons spoonsLeft depths thicknessF x y n r1 hz p2 c3 c4), ht9⟩) (fun _ h => absurd h List.not_mem_nil) dX7_whyNotFloured_21
    · refine lv_iload_n hx hb dX7_whyNotFloured_14 rfl (lv_at hl 3 rfl) ?_
      refine lv_bipush (v := nI 9) hx hb dX7_whyNotFloured_15 (by decide) ?_
      refine lv_icmp_le (tgt := 22) hx hb dX7_whyNotFloured_17 (by decide) (fun c5 => ?_) (fun c5 => ?_)
      · obtain ⟨xn, h6, rfl⟩ := nat_of x 4 (by decide) (lf_whyNotFloured_3 a heat cools skinHeat today stirs steps thickness lumpNames lumpCells boatNames boatCells loads spoons spoonsLeft depths thicknessF x y n r1 hz p2 c3 c4 c5)
        obtain ⟨yn, h7, rfl⟩ := nat_of y 4 (by decide) (lf_whyNotFloured_4 a heat cools skinHeat today stirs steps thickness lumpNames lumpCells boatNames boatCells loads spoons spoonsLeft depths thicknessF y n r1 xn hz p2 c3 c4 c5 h6)
        refine lv_aload_n hx hb dX7_whyNotFloured_22 rfl (lv_at hl 0 rfl) ?_
        refine lv_bipush (v := nI 6) hx hb dX7_whyNotFloured_23 (by decide) ?_
        refine lv_iload_n hx hb dX7_whyNotFloured_25 rfl (lv_at hl 2 rfl) ?_
        refine lv_imul hx hb dX7_whyNotFloured_26 ?_
        refine r_ti (nI (6 * yn)) (pk_mul _ _) ?_
        refine lv_iload_n hx hb dX7_whyNotFloured_27 rfl (lv_at hl 1 rfl) ?_
        refine lv_iadd hx hb dX7_whyNotFloured_28 ?_
        refine r_ti (nI ((6 * yn) + xn)) (nI_add _ _) ?_
        refine vp_callSi (W.runV (As := [.int (nI ((6 * yn) + xn))]) (rest := []) ⟨hx, hb, hml, hown, hts⟩ (c_thicknessIn0 l dC dI ky a heat cools skinHeat today stirs steps thickness lumpNames lumpCells boatNames boatCells loads spoons spoonsLeft depths thicknessF ((6 * yn) + xn) hz (by omega)) (cwV 1 hts gX7_whyNotFloured_X7_thicknessIn rfl rfl rfl (by decide +kernel) ⟨(Nat.le_of_ble_eq_true rfl), (Nat.le_of_ble_eq_true rfl)⟩) (pre_PV hK hP [0, 1] rfl (ci := 7) (q0 := 0) rfl rfl) rfl rfl hl.1 rfl (lv_room (Nat.le_of_ble_eq_true rfl)) dX7_whyNotFloured_29 ⟨(Nat.le_of_ble_eq_true rfl), (Nat.le_of_ble_eq_true rfl)⟩) (fun r8 p9 => ?_)
        subst p9
        refine lv_bipush (v := nI 9) hx hb dX7_whyNotFloured_32 (by decide) ?_
        refine lv_icmp_ne (tgt := 41) hx hb dX7_whyNotFloured_34 (by decide) (fun c10 => ?_) (fun c10 => absurd c10 (by decide))
        refine lv_iconst (v := nI 0) hx hb dX7_whyNotFloured_41 (by decide) ?_
        exact W.iret (v := nI 0) hx hb hr (fun t ht9 hW9 => ⟨nI 0, rfl, (lf_whyNotFloured_5 a heat cools skinHeat today stirs steps thickness lumpNames lumpCells boatNames boatCells loads spoons spoonsLeft depths thicknessF n r1 xn yn hz p2 c3 c4 c5 h6 h7), ht9⟩) (fun _ h => absurd h List.not_mem_nil) dX7_whyNotFloured_42
      · refine lv_iconst (v := (-1 : Int32)) hx hb dX7_whyNotFloured_20 (by decide) ?_
        exact W.iret (v := (-1 : Int32)) hx hb hr (fun t ht9 hW9 => ⟨(-1 : Int32), rfl, (lf_whyNotFloured_6 a heat cools skinHeat today stirs steps thickness lumpNames lumpCells boatNames boatCells loads spoons spoonsLeft depths thicknessF x y n r1 hz p2 c3 c4 c5), ht9⟩) (fun _ h => absurd h List.not_mem_nil) dX7_whyNotFloured_21
set_option maxRecDepth 20000 in
theorem lf_whyNotMilked_1 (a : Nat) (heat : Int32) (cools : Int32) (skinHeat : Int32) (today : Int32) (stirs : Int32) (steps : Int32) (thickness : Nat) (lumpNames : Nat) (lumpCells : Nat) (boatNames : Nat) (boatCells : Nat) (loads : Nat) (spoons : Nat) (spoonsLeft : Nat) (depths : Nat) (thicknessF : Nat → Int32) (x : Int32) (y : Int32) (n : Int32) (r1 : Int32) (hz : ∀ j, j < 36 → thicknessF j = nI 0) (p2 : (r1 = nI 1 ∧ (0 ≤ x.toInt ∧ x.toInt < (nI 4).toInt ∧ 0 ≤ y.toInt ∧ y.toInt < (nI 4).toInt)) ∨ (r1 = nI 0 ∧ ¬ (0 ≤ x.toInt ∧ x.toInt < (nI 4).toInt ∧ 0 ≤ y.toInt ∧ y.toInt < (nI 4).toInt))) (c3 : r1 = 0) : ((-1 : Int32) = (-1 : Int32) ∧ ¬ (0 ≤ x.toInt ∧ x.toInt < 4 ∧ 0 ≤ y.toInt ∧ y.toInt < 4 ∧ 1 ≤ n.toInt ∧ n.toInt ≤ 9)) ∨ ((-1 : Int32) = nI 1 ∧ (0 ≤ x.toInt ∧ x.toInt < 4 ∧ 0 ≤ y.toInt ∧ y.toInt < 4 ∧ 1 ≤ n.toInt ∧ n.toInt ≤ 9)) := by
  have k_0 := ia_n 0 (by decide)
  have k_1 := ia_n 1 (by decide)
  have k_2 := ia_n 4 (by decide)
  simp only [ia_lt, ia_le, ia_eq, ia_m1, ia_0, ia_1, ne_eq, true_and, and_true, false_and, and_false, or_false, false_or, or_true, true_or, not_true_eq_false, not_false_eq_true] at *
  all_goals omega
set_option maxRecDepth 20000 in
theorem lf_whyNotMilked_2 (a : Nat) (heat : Int32) (cools : Int32) (skinHeat : Int32) (today : Int32) (stirs : Int32) (steps : Int32) (thickness : Nat) (lumpNames : Nat) (lumpCells : Nat) (boatNames : Nat) (boatCells : Nat) (loads : Nat) (spoons : Nat) (spoonsLeft : Nat) (depths : Nat) (thicknessF : Nat → Int32) (x : Int32) (y : Int32) (n : Int32) (r1 : Int32) (hz : ∀ j, j < 36 → thicknessF j = nI 0) (p2 : (r1 = nI 1 ∧ (0 ≤ x.toInt ∧ x.toInt < (nI 4).toInt ∧ 0 ≤ y.toInt ∧ y.toInt < (nI 4).toInt)) ∨ (r1 = nI 0 ∧ ¬ (0 ≤ x.toInt ∧ x.toInt < (nI 4).toInt ∧ 0 ≤ y.toInt ∧ y.toInt < (nI 4).toInt))) (c3 : ¬ r1 = 0) (c4 : n < nI 1) : ((-1 : Int32) = (-1 : Int32) ∧ ¬ (0 ≤ x.toInt ∧ x.toInt < 4 ∧ 0 ≤ y.toInt ∧ y.toInt < 4 ∧ 1 ≤ n.toInt ∧ n.toInt ≤ 9)) ∨ ((-1 : Int32) = nI 1 ∧ (0 ≤ x.toInt ∧ x.toInt < 4 ∧ 0 ≤ y.toInt ∧ y.toInt < 4 ∧ 1 ≤ n.toInt ∧ n.toInt ≤ 9)) := by
  have k_0 := ia_n 0 (by decide)
  have k_1 := ia_n 1 (by decide)
  have k_2 := ia_n 4 (by decide)
  simp only [ia_lt, ia_le, ia_eq, ia_m1, ia_0, ia_1, ne_eq, true_and, and_true, false_and, and_false, or_false, false_or, or_true, true_or, not_true_eq_false, not_false_eq_true] at *
  all_goals omega
set_option maxRecDepth 20000 in
theorem lf_whyNotMilked_3 (a : Nat) (heat : Int32) (cools : Int32) (skinHeat : Int32) (today : Int32) (stirs : Int32) (steps : Int32) (thickness : Nat) (lumpNames : Nat) (lumpCells : Nat) (boatNames : Nat) (boatCells : Nat) (loads : Nat) (spoons : Nat) (spoonsLeft : Nat) (depths : Nat) (thicknessF : Nat → Int32) (x : Int32) (y : Int32) (n : Int32) (r1 : Int32) (hz : ∀ j, j < 36 → thicknessF j = nI 0) (p2 : (r1 = nI 1 ∧ (0 ≤ x.toInt ∧ x.toInt < (nI 4).toInt ∧ 0 ≤ y.toInt ∧ y.toInt < (nI 4).toInt)) ∨ (r1 = nI 0 ∧ ¬ (0 ≤ x.toInt ∧ x.toInt < (nI 4).toInt ∧ 0 ≤ y.toInt ∧ y.toInt < (nI 4).toInt))) (c3 : ¬ r1 = 0) (c4 : ¬ n < nI 1) (c5 : n ≤ nI 9) : 0 ≤ x.toInt ∧ x.toInt < ((4 : Nat) : Int) := by
  have k_0 := ia_n 0 (by decide)
  have k_1 := ia_n 1 (by decide)
  have k_2 := ia_n 4 (by decide)
  have k_3 := ia_n 9 (by decide)
  simp only [ia_lt, ia_le, ia_eq, ia_m1, ia_0, ia_1, ne_eq, true_and, and_true, false_and, and_false, or_false, false_or, or_true, true_or, not_true_eq_false, not_false_eq_true] at *
  all_goals omega
set_option maxRecDepth 20000 in
theorem lf_whyNotMilked_4 (a : Nat) (heat : Int32) (cools : Int32) (skinHeat : Int32) (today : Int32) (stirs : Int32) (steps : Int32) (thickness : Nat) (lumpNames : Nat) (lumpCells : Nat) (boatNames : Nat) (boatCells : Nat) (loads : Nat) (spoons : Nat) (spoonsLeft : Nat) (depths : Nat) (thicknessF : Nat → Int32) (y : Int32) (n : Int32) (r1 : Int32) (xn : Nat) (hz : ∀ j, j < 36 → thicknessF j = nI 0) (p2 : (r1 = nI 1 ∧ (0 ≤ (nI xn).toInt ∧ (nI xn).toInt < (nI 4).toInt ∧ 0 ≤ y.toInt ∧ y.toInt < (nI 4).toInt)) ∨ (r1 = nI 0 ∧ ¬ (0 ≤ (nI xn).toInt ∧ (nI xn).toInt < (nI 4).toInt ∧ 0 ≤ y.toInt ∧ y.toInt < (nI 4).toInt))) (c3 : ¬ r1 = 0) (c4 : ¬ n < nI 1) (c5 : n ≤ nI 9) (h6 : xn < 4) : 0 ≤ y.toInt ∧ y.toInt < ((4 : Nat) : Int) := by
  have k_0 := ia_n 0 (by decide)
  have k_1 := ia_n 1 (by decide)
  have k_2 := ia_n xn (by omega)
  have k_3 := ia_n 4 (by decide)
  have k_4 := ia_n 9 (by decide)
  simp only [ia_lt, ia_le, ia_eq, ia_m1, ia_0, ia_1, ne_eq, true_and, and_true, false_and, and_false, or_false, false_or, or_true, true_or, not_true_eq_false, not_false_eq_true] at *
  all_goals omega
set_option maxRecDepth 20000 in
theorem lf_whyNotMilked_5 (a : Nat) (heat : Int32) (cools : Int32) (skinHeat : Int32) (today : Int32) (stirs : Int32) (steps : Int32) (thickness : Nat) (lumpNames : Nat) (lumpCells : Nat) (boatNames : Nat) (boatCells : Nat) (loads : Nat) (spoons : Nat) (spoonsLeft : Nat) (depths : Nat) (thicknessF : Nat → Int32) (n : Int32) (r1 : Int32) (xn : Nat) (yn : Nat) (hz : ∀ j, j < 36 → thicknessF j = nI 0) (p2 : (r1 = nI 1 ∧ (0 ≤ (nI xn).toInt ∧ (nI xn).toInt < (nI 4).toInt ∧ 0 ≤ (nI yn).toInt ∧ (nI yn).toInt < (nI 4).toInt)) ∨ (r1 = nI 0 ∧ ¬ (0 ≤ (nI xn).toInt ∧ (nI xn).toInt < (nI 4).toInt ∧ 0 ≤ (nI yn).toInt ∧ (nI yn).toInt < (nI 4).toInt))) (c3 : ¬ r1 = 0) (c4 : ¬ n < nI 1) (c5 : n ≤ nI 9) (h6 : xn < 4) (h7 : yn < 4) : ((nI 1) = (-1 : Int32) ∧ ¬ (0 ≤ (nI xn).toInt ∧ (nI xn).toInt < 4 ∧ 0 ≤ (nI yn).toInt ∧ (nI yn).toInt < 4 ∧ 1 ≤ n.toInt ∧ n.toInt ≤ 9)) ∨ ((nI 1) = nI 1 ∧ (0 ≤ (nI xn).toInt ∧ (nI xn).toInt < 4 ∧ 0 ≤ (nI yn).toInt ∧ (nI yn).toInt < 4 ∧ 1 ≤ n.toInt ∧ n.toInt ≤ 9)) := by
  have k_0 := ia_n 0 (by decide)
  have k_1 := ia_n 1 (by decide)
  have k_2 := ia_n xn (by omega)
  have k_3 := ia_n 4 (by decide)
  have k_4 := ia_n yn (by omega)
  have k_5 := ia_n 9 (by decide)
  simp only [ia_lt, ia_le, ia_eq, ia_m1, ia_0, ia_1, ne_eq, true_and, and_true, false_and, and_false, or_false, false_or, or_true, true_or, not_true_eq_false, not_false_eq_true] at *
  all_goals omega
set_option maxRecDepth 20000 in
theorem lf_whyNotMilked_6 (a : Nat) (heat : Int32) (cools : Int32) (skinHeat : Int32) (today : Int32) (stirs : Int32) (steps : Int32) (thickness : Nat) (lumpNames : Nat) (lumpCells : Nat) (boatNames : Nat) (boatCells : Nat) (loads : Nat) (spoons : Nat) (spoonsLeft : Nat) (depths : Nat) (thicknessF : Nat → Int32) (x : Int32) (y : Int32) (n : Int32) (r1 : Int32) (hz : ∀ j, j < 36 → thicknessF j = nI 0) (p2 : (r1 = nI 1 ∧ (0 ≤ x.toInt ∧ x.toInt < (nI 4).toInt ∧ 0 ≤ y.toInt ∧ y.toInt < (nI 4).toInt)) ∨ (r1 = nI 0 ∧ ¬ (0 ≤ x.toInt ∧ x.toInt < (nI 4).toInt ∧ 0 ≤ y.toInt ∧ y.toInt < (nI 4).toInt))) (c3 : ¬ r1 = 0) (c4 : ¬ n < nI 1) (c5 : ¬ n ≤ nI 9) : ((-1 : Int32) = (-1 : Int32) ∧ ¬ (0 ≤ x.toInt ∧ x.toInt < 4 ∧ 0 ≤ y.toInt ∧ y.toInt < 4 ∧ 1 ≤ n.toInt ∧ n.toInt ≤ 9)) ∨ ((-1 : Int32) = nI 1 ∧ (0 ≤ x.toInt ∧ x.toInt < 4 ∧ 0 ≤ y.toInt ∧ y.toInt < 4 ∧ 1 ≤ n.toInt ∧ n.toInt ≤ 9)) := by
  have k_0 := ia_n 0 (by decide)
  have k_1 := ia_n 1 (by decide)
  have k_2 := ia_n 4 (by decide)
  have k_3 := ia_n 9 (by decide)
  simp only [ia_lt, ia_le, ia_eq, ia_m1, ia_0, ia_1, ne_eq, true_and, and_true, false_and, and_false, or_false, false_or, or_true, true_or, not_true_eq_false, not_false_eq_true] at *
  all_goals omega
set_option maxHeartbeats 4000000 in
set_option maxRecDepth 100000 in
theorem c_whyNotMilked (l : Launch) (dC : Nat → ClassId) (dI : Nat → Nat → Nat) (ky : Nat → ClassId) (a : Nat) (heat : Int32) (cools : Int32) (skinHeat : Int32) (today : Int32) (stirs : Int32) (steps : Int32) (thickness : Nat) (lumpNames : Nat) (lumpCells : Nat) (boatNames : Nat) (boatCells : Nat) (loads : Nat) (spoons : Nat) (spoonsLeft : Nat) (depths : Nat) (thicknessF : Nat → Int32) (x : Int32) (y : Int32) (n : Int32) (hz : ∀ j, j < 36 → thicknessF j = nI 0) : Met l yX7_whyNotMilked wsX7_whyNotMilked ({ frames := 1, cells := 0, slots := 0, locals := 22 }) (PcP dC dI ky [.ref a, .int x, .int y, .int n] [(a, .inr (7, [.int (nI 4), .int (nI 4), .int heat, .int cools, .int skinHeat, .int today, .int stirs, .int steps, .int (nI 0), .int (nI 0), .ref thickness, .ref lumpNames, .ref lumpCells, .ref boatNames, .ref boatCells, .ref loads, .ref spoons, .ref spoonsLeft, .ref depths])), (thickness, .inl (ky 0, 36, .inl thicknessF))]) (vp_Si (fun r : Int32 => (r = (-1 : Int32) ∧ ¬ (0 ≤ x.toInt ∧ x.toInt < 4 ∧ 0 ≤ y.toInt ∧ y.toInt < 4 ∧ 1 ≤ n.toInt ∧ n.toInt ≤ 9)) ∨ (r = nI 1 ∧ (0 ≤ x.toInt ∧ x.toInt < 4 ∧ 0 ≤ y.toInt ∧ y.toInt < 4 ∧ 1 ≤ n.toInt ∧ n.toInt ≤ 9)))) 0 0 (fun _ => False) := by
  refine Met.ofW (cc := cX7_whyNotMilked) (maxL := 4) (ret := (some .int)) (by decide) rfl ?_
  intro p e s m args below meth c s₁ B hml hv
  obtain ⟨rfl, hP, hK⟩ := hv
  have hx := B.exec
  have hb := B.bytes
  have hr := B.returns
  have hts := atoms_spec (ws := wsX7_whyNotMilked) B.pre
  have hown : s.vm.findClass RX7 = some m.cls := findClass_of_methodNamed B.named
  have hlocks := B.notSynchronized
  have hl := lv_entry ([.ref a, .int x, .int y, .int n]) (n := 4) (Nat.le_of_ble_eq_true rfl)
  rw [lg_entry_eq]
  generalize (lg_sl ([.ref a, .int x, .int y, .int n]) ++ List.replicate (4 - (lg_sl ([.ref a, .int x, .int y, .int n])).length) Slot.unset).toArray = ls at hl ⊢
  have hl : lv_has ls 4 [(0, .ref a), (1, .int x), (2, .int y), (3, .int n)] := hl
  refine lv_aload_n hx hb dX7_whyNotMilked_0 rfl (lv_at hl 0 rfl) ?_
  refine lv_iload_n hx hb dX7_whyNotMilked_1 rfl (lv_at hl 1 rfl) ?_
  refine lv_iload_n hx hb dX7_whyNotMilked_2 rfl (lv_at hl 2 rfl) ?_
  refine vp_callSi (W.runV (As := [.int x, .int y]) (rest := []) ⟨hx, hb, hml, hown, hts⟩ (c_isCell l dC dI ky a (nI 4) (nI 4) heat cools skinHeat today stirs steps (nI 0) (nI 0) thickness lumpNames lumpCells boatNames boatCells loads spoons spoonsLeft depths x y) (cwV 2 hts gX7_whyNotMilked_X7_isCell rfl rfl rfl (by decide +kernel) ⟨(Nat.le_of_ble_eq_true rfl), (Nat.le_of_ble_eq_true rfl)⟩) (pre_PV hK hP [0] rfl (ci := 7) (q0 := 0) rfl rfl) rfl rfl hl.1 rfl (lv_room (Nat.le_of_ble_eq_true rfl)) dX7_whyNotMilked_3 ⟨(Nat.le_of_ble_eq_true rfl), (Nat.le_of_ble_eq_true rfl)⟩) (fun r1 p2 => ?_)
  refine lv_if_eq (tgt := 20) hx hb dX7_whyNotMilked_6 (by decide) (fun c3 => ?_) (fun c3 => ?_)
  · refine lv_iconst (v := (-1 : Int32)) hx hb dX7_whyNotMilked_20 (by decide) ?_
    exact W.iret (v := (-1 : Int32)) hx hb hr (fun t ht9 hW9 => ⟨(-1 : Int32), rfl, (lf_whyNotMilked_1 a heat cools skinHeat today stirs steps thickness lumpNames lumpCells boatNames boatCells loads spoons spoonsLeft depths thicknessF x y n r1 hz p2 c3), ht9⟩) (fun _ h => absurd h List.not_mem_nil) dX7_whyNotMilked_21
  · refine lv_iload_n hx hb dX7_whyNotMilked_9 rfl (lv_at hl 3 rfl) ?_
    refine lv_iconst (v := nI 1) hx hb dX7_whyNotMilked_10 (by decide) ?_
    refine lv_icmp_lt (tgt := 20) hx hb dX7_whyNotMilked_11 (by decide) (fun c4 => ?_) (fun c4 => ?_)
    · refine lv_iconst (v := (-1 : Int32)) hx hb dX7_whyNotMilked_20 (by decide) ?_
      exact W.iret (v := (-1 : Int32)) hx hb hr (fun t ht9 hW9 => ⟨(-1 : Int32), rfl, (lf_whyNotMilked_2 a heat cools skinHeat today stirs steps thickness lumpNames lumpCells boatNames boatCells loads spoons spoonsLeft depths thicknessF x y n r1 hz p2 c3 c4), ht9⟩) (fun _ h => absurd h List.not_mem_nil) dX7_whyNotMilked_21
    · refine lv_iload_n hx hb dX7_whyNotMilked_14 rfl (lv_at hl 3 rfl) ?_
      refine lv_bipush (v := nI 9) hx hb dX7_whyNotMilked_15 (by decide) ?_
      refine lv_icmp_le (tgt := 22) hx hb dX7_whyNotMilked_17 (by decide) (fun c5 => ?_) (fun c5 => ?_)
      · obtain ⟨xn, h6, rfl⟩ := nat_of x 4 (by decide) (lf_whyNotMilked_3 a heat cools skinHeat today stirs steps thickness lumpNames lumpCells boatNames boatCells loads spoons spoonsLeft depths thicknessF x y n r1 hz p2 c3 c4 c5)
        obtain ⟨yn, h7, rfl⟩ := nat_of y 4 (by decide) (lf_whyNotMilked_4 a heat cools skinHeat today stirs steps thickness lumpNames lumpCells boatNames boatCells loads spoons spoonsLeft depths thicknessF y n r1 xn hz p2 c3 c4 c5 h6)
        refine lv_aload_n hx hb dX7_whyNotMilked_22 rfl (lv_at hl 0 rfl) ?_
        refine lv_bipush (v := nI 6) hx hb dX7_whyNotMilked_23 (by decide) ?_
        refine lv_iload_n hx hb dX7_whyNotMilked_25 rfl (lv_at hl 2 rfl) ?_
        refine lv_imul hx hb dX7_whyNotMilked_26 ?_
        refine r_ti (nI (6 * yn)) (pk_mul _ _) ?_
        refine lv_iload_n hx hb dX7_whyNotMilked_27 rfl (lv_at hl 1 rfl) ?_
        refine lv_iadd hx hb dX7_whyNotMilked_28 ?_
        refine r_ti (nI ((6 * yn) + xn)) (nI_add _ _) ?_
        refine vp_callSi (W.runV (As := [.int (nI ((6 * yn) + xn))]) (rest := []) ⟨hx, hb, hml, hown, hts⟩ (c_thicknessIn0 l dC dI ky a heat cools skinHeat today stirs steps thickness lumpNames lumpCells boatNames boatCells loads spoons spoonsLeft depths thicknessF ((6 * yn) + xn) hz (by omega)) (cwV 1 hts gX7_whyNotMilked_X7_thicknessIn rfl rfl rfl (by decide +kernel) ⟨(Nat.le_of_ble_eq_true rfl), (Nat.le_of_ble_eq_true rfl)⟩) (pre_PV hK hP [0, 1] rfl (ci := 7) (q0 := 0) rfl rfl) rfl rfl hl.1 rfl (lv_room (Nat.le_of_ble_eq_true rfl)) dX7_whyNotMilked_29 ⟨(Nat.le_of_ble_eq_true rfl), (Nat.le_of_ble_eq_true rfl)⟩) (fun r8 p9 => ?_)
        subst p9
        refine lv_if_ne (tgt := 39) hx hb dX7_whyNotMilked_32 (by decide) (fun c10 => absurd c10 (by decide)) (fun c10 => ?_)
        refine lv_iconst (v := nI 1) hx hb dX7_whyNotMilked_35 (by decide) ?_
        refine lv_goto (tgt := 40) hx hb dX7_whyNotMilked_36 (by decide) ?_
        exact W.iret (v := nI 1) hx hb hr (fun t ht9 hW9 => ⟨nI 1, rfl, (lf_whyNotMilked_5 a heat cools skinHeat today stirs steps thickness lumpNames lumpCells boatNames boatCells loads spoons spoonsLeft depths thicknessF n r1 xn yn hz p2 c3 c4 c5 h6 h7), ht9⟩) (fun _ h => absurd h List.not_mem_nil) dX7_whyNotMilked_40
      · refine lv_iconst (v := (-1 : Int32)) hx hb dX7_whyNotMilked_20 (by decide) ?_
        exact W.iret (v := (-1 : Int32)) hx hb hr (fun t ht9 hW9 => ⟨(-1 : Int32), rfl, (lf_whyNotMilked_6 a heat cools skinHeat today stirs steps thickness lumpNames lumpCells boatNames boatCells loads spoons spoonsLeft depths thicknessF x y n r1 hz p2 c3 c4 c5), ht9⟩) (fun _ h => absurd h List.not_mem_nil) dX7_whyNotMilked_21
set_option maxHeartbeats 4000000 in
set_option maxRecDepth 100000 in
theorem c_whyNotRowed0 (l : Launch) (dC : Nat → ClassId) (dI : Nat → Nat → Nat) (ky : Nat → ClassId) (a : Nat) (heat : Int32) (cools : Int32) (skinHeat : Int32) (today : Int32) (stirs : Int32) (steps : Int32) (thickness : Nat) (lumpNames : Nat) (lumpCells : Nat) (boatNames : Nat) (boatCells : Nat) (loads : Nat) (spoons : Nat) (spoonsLeft : Nat) (depths : Nat) (x : Int32) (side : Int32)  : Met l yX7_whyNotRowed wsX7_whyNotRowed ({ frames := 1, cells := 0, slots := 0, locals := 21 }) (PcP dC dI ky [.ref a, .int x, .int side] [(a, .inr (7, [.int (nI 4), .int (nI 4), .int heat, .int cools, .int skinHeat, .int today, .int stirs, .int steps, .int (nI 0), .int (nI 0), .ref thickness, .ref lumpNames, .ref lumpCells, .ref boatNames, .ref boatCells, .ref loads, .ref spoons, .ref spoonsLeft, .ref depths]))]) (vp_Si (fun r : Int32 => r = (-1 : Int32))) 0 0 (fun _ => False) := by
  refine Met.ofW (cc := cX7_whyNotRowed) (maxL := 4) (ret := (some .int)) (by decide) rfl ?_
  intro p e s m args below meth c s₁ B hml hv
  obtain ⟨rfl, hP, hK⟩ := hv
  have hx := B.exec
  have hb := B.bytes
  have hr := B.returns
  have hts := atoms_spec (ws := wsX7_whyNotRowed) B.pre
  have hown : s.vm.findClass RX7 = some m.cls := findClass_of_methodNamed B.named
  have hlocks := B.notSynchronized
  have hl := lv_entry ([.ref a, .int x, .int side]) (n := 4) (Nat.le_of_ble_eq_true rfl)
  rw [lg_entry_eq]
  generalize (lg_sl ([.ref a, .int x, .int side]) ++ List.replicate (4 - (lg_sl ([.ref a, .int x, .int side])).length) Slot.unset).toArray = ls at hl ⊢
  have hl : lv_has ls 4 [(0, .ref a), (1, .int x), (2, .int side)] := hl
  refine lv_aload_n hx hb dX7_whyNotRowed_0 rfl (lv_at hl 0 rfl) ?_
  refine lv_iload_n hx hb dX7_whyNotRowed_1 rfl (lv_at hl 1 rfl) ?_
  refine vp_callSi (W.runV (As := [.int x]) (rest := []) ⟨hx, hb, hml, hown, hts⟩ (c_isBoat0 l dC dI ky a heat cools skinHeat today stirs steps thickness lumpNames lumpCells boatNames boatCells loads spoons spoonsLeft depths x) (cwV 1 hts gX7_whyNotRowed_X7_isBoat rfl rfl rfl (by decide +kernel) ⟨(Nat.le_of_ble_eq_true rfl), (Nat.le_of_ble_eq_true rfl)⟩) (pre_PV hK hP [0] rfl (ci := 7) (q0 := 0) rfl rfl) rfl rfl hl.1 rfl (lv_room (Nat.le_of_ble_eq_true rfl)) dX7_whyNotRowed_2 ⟨(Nat.le_of_ble_eq_true rfl), (Nat.le_of_ble_eq_true rfl)⟩) (fun r1 p2 => ?_)
  subst p2
  refine lv_if_eq (tgt := 17) hx hb dX7_whyNotRowed_5 (by decide) (fun c3 => ?_) (fun c3 => absurd (by decide) c3)
  refine lv_iconst (v := (-1 : Int32)) hx hb dX7_whyNotRowed_17 (by decide) ?_
  exact W.iret (v := (-1 : Int32)) hx hb hr (fun t ht9 hW9 => ⟨(-1 : Int32), rfl, rfl, ht9⟩) (fun _ h => absurd h List.not_mem_nil) dX7_whyNotRowed_18
set_option maxRecDepth 20000 in
theorem lf_whyNotWarmed_1 (a : Nat) (cools : Int32) (skinHeat : Int32) (today : Int32) (stirs : Int32) (steps : Int32) (thickness : Nat) (lumpNames : Nat) (lumpCells : Nat) (boatNames : Nat) (boatCells : Nat) (loads : Nat) (spoons : Nat) (spoonsLeft : Nat) (depths : Nat) (n : Int32) (c1 : n < nI 1) : ((-1 : Int32) = (-1 : Int32) ∧ ¬ (1 ≤ n.toInt ∧ n.toInt ≤ 20)) ∨ ((-1 : Int32) = nI 0 ∧ 1 ≤ n.toInt ∧ n.toInt ≤ 20) := by
  have k_0 := ia_n 1 (by decide)
  have k_1 := ia_n 0 (by decide)
  simp only [ia_lt, ia_le, ia_eq, ia_m1, ia_0, ia_1, ne_eq, true_and, and_true, false_and, and_false, or_false, false_or, or_true, true_or, not_true_eq_false, not_false_eq_true] at *
  all_goals omega
set_option maxRecDepth 20000 in
theorem lf_whyNotWarmed_2 (a : Nat) (cools : Int32) (skinHeat : Int32) (today : Int32) (stirs : Int32) (steps : Int32) (thickness : Nat) (lumpNames : Nat) (lumpCells : Nat) (boatNames : Nat) (boatCells : Nat) (loads : Nat) (spoons : Nat) (spoonsLeft : Nat) (depths : Nat) (n : Int32) (c1 : ¬ n < nI 1) (c2 : n ≤ nI 20) : ((nI 0) = (-1 : Int32) ∧ ¬ (1 ≤ n.toInt ∧ n.toInt ≤ 20)) ∨ ((nI 0) = nI 0 ∧ 1 ≤ n.toInt ∧ n.toInt ≤ 20) := by
  have k_0 := ia_n 1 (by decide)
  have k_1 := ia_n 20 (by decide)
  have k_2 := ia_n 0 (by decide)
  simp only [ia_lt, ia_le, ia_eq, ia_m1, ia_0, ia_1, ne_eq, true_and, and_true, false_and, and_false, or_false, false_or, or_true, true_or, not_true_eq_false, not_false_eq_true] at *
  all_goals omega
set_option maxRecDepth 20000 in
theorem lf_whyNotWarmed_3 (a : Nat) (cools : Int32) (skinHeat : Int32) (today : Int32) (stirs : Int32) (steps : Int32) (thickness : Nat) (lumpNames : Nat) (lumpCells : Nat) (boatNames : Nat) (boatCells : Nat) (loads : Nat) (spoons : Nat) (spoonsLeft : Nat) (depths : Nat) (n : Int32) (c1 : ¬ n < nI 1) (c2 : ¬ n ≤ nI 20) : ((-1 : Int32) = (-1 : Int32) ∧ ¬ (1 ≤ n.toInt ∧ n.toInt ≤ 20)) ∨ ((-1 : Int32) = nI 0 ∧ 1 ≤ n.toInt ∧ n.toInt ≤ 20) := by
  have k_0 := ia_n 1 (by decide)
  have k_1 := ia_n 20 (by decide)
  have k_2 := ia_n 0 (by decide)
  simp only [ia_lt, ia_le, ia_eq, ia_m1, ia_0, ia_1, ne_eq, true_and, and_true, false_and, and_false, or_false, false_or, or_true, true_or, not_true_eq_false, not_false_eq_true] at *
  all_goals omega
set_option maxHeartbeats 4000000 in
set_option maxRecDepth 100000 in
theorem c_whyNotWarmed (l : Launch) (dC : Nat → ClassId) (dI : Nat → Nat → Nat) (ky : Nat → ClassId) (a : Nat) (cools : Int32) (skinHeat : Int32) (today : Int32) (stirs : Int32) (steps : Int32) (thickness : Nat) (lumpNames : Nat) (lumpCells : Nat) (boatNames : Nat) (boatCells : Nat) (loads : Nat) (spoons : Nat) (spoonsLeft : Nat) (depths : Nat) (n : Int32)  : Met l yX7_whyNotWarmed wsX7_whyNotWarmed ({ frames := 0, cells := 0, slots := 0, locals := 0 }) (PcP dC dI ky [.ref a, .int n] [(a, .inr (7, [.int (nI 4), .int (nI 4), .int (nI 10), .int cools, .int skinHeat, .int today, .int stirs, .int steps, .int (nI 0), .int (nI 0), .ref thickness, .ref lumpNames, .ref lumpCells, .ref boatNames, .ref boatCells, .ref loads, .ref spoons, .ref spoonsLeft, .ref depths]))]) (vp_Si (fun r : Int32 => (r = (-1 : Int32) ∧ ¬ (1 ≤ n.toInt ∧ n.toInt ≤ 20)) ∨ (r = nI 0 ∧ 1 ≤ n.toInt ∧ n.toInt ≤ 20))) 0 0 (fun _ => False) := by
  refine Met.ofW (cc := cX7_whyNotWarmed) (maxL := 2) (ret := (some .int)) (by decide) rfl ?_
  intro p e s m args below meth c s₁ B hml hv
  obtain ⟨rfl, hP, hK⟩ := hv
  have hx := B.exec
  have hb := B.bytes
  have hr := B.returns
  have hts := atoms_spec (ws := wsX7_whyNotWarmed) B.pre
  have hown : s.vm.findClass RX7 = some m.cls := findClass_of_methodNamed B.named
  have hlocks := B.notSynchronized
  have hin7 : ∀ w ∈ u_ws RX7 TX7 19, w ∈ wsX7_whyNotWarmed := by decide +kernel
  have hl := lv_entry ([.ref a, .int n]) (n := 2) (Nat.le_of_ble_eq_true rfl)
  rw [lg_entry_eq]
  generalize (lg_sl ([.ref a, .int n]) ++ List.replicate (2 - (lg_sl ([.ref a, .int n])).length) Slot.unset).toArray = ls at hl ⊢
  have hl : lv_has ls 2 [(0, .ref a), (1, .int n)] := hl
  refine lv_iload_n hx hb dX7_whyNotWarmed_0 rfl (lv_at hl 1 rfl) ?_
  refine lv_iconst (v := nI 1) hx hb dX7_whyNotWarmed_1 (by decide) ?_
  refine lv_icmp_lt (tgt := 11) hx hb dX7_whyNotWarmed_2 (by decide) (fun c1 => ?_) (fun c1 => ?_)
  · refine lv_iconst (v := (-1 : Int32)) hx hb dX7_whyNotWarmed_11 (by decide) ?_
    exact W.iret (v := (-1 : Int32)) hx hb hr (fun t ht9 hW9 => ⟨(-1 : Int32), rfl, (lf_whyNotWarmed_1 a cools skinHeat today stirs steps thickness lumpNames lumpCells boatNames boatCells loads spoons spoonsLeft depths n c1), ht9⟩) (fun _ h => absurd h List.not_mem_nil) dX7_whyNotWarmed_12
  · refine lv_iload_n hx hb dX7_whyNotWarmed_5 rfl (lv_at hl 1 rfl) ?_
    refine lv_bipush (v := nI 20) hx hb dX7_whyNotWarmed_6 (by decide) ?_
    refine lv_icmp_le (tgt := 13) hx hb dX7_whyNotWarmed_8 (by decide) (fun c2 => ?_) (fun c2 => ?_)
    · refine lv_aload_n hx hb dX7_whyNotWarmed_13 rfl (lv_at hl 0 rfl) ?_
      refine va_get (D := (dC, dI)) (ci := 7) (v := .int (nI 10)) (C := RX7) (T := TX7) (N := 19) hx hb hts hin7 hown hK hP 0 rfl rfl 2 (by decide) (hts (.fieldLink RX7 50 "PorridgeSea$Sea" "heat" "I") (List.mem_of_getElem? (i := 1) rfl)) (fun _ h9 => h9) rfl dX7_whyNotWarmed_14 ?_
      refine lv_bipush (v := nI 30) hx hb dX7_whyNotWarmed_17 (by decide) ?_
      refine lv_icmp_ne (tgt := 26) hx hb dX7_whyNotWarmed_19 (by decide) (fun c3 => ?_) (fun c3 => absurd c3 (by decide))
      refine lv_iconst (v := nI 0) hx hb dX7_whyNotWarmed_26 (by decide) ?_
      exact W.iret (v := nI 0) hx hb hr (fun t ht9 hW9 => ⟨nI 0, rfl, (lf_whyNotWarmed_2 a cools skinHeat today stirs steps thickness lumpNames lumpCells boatNames boatCells loads spoons spoonsLeft depths n c1 c2), ht9⟩) (fun _ h => absurd h List.not_mem_nil) dX7_whyNotWarmed_27
    · refine lv_iconst (v := (-1 : Int32)) hx hb dX7_whyNotWarmed_11 (by decide) ?_
      exact W.iret (v := (-1 : Int32)) hx hb hr (fun t ht9 hW9 => ⟨(-1 : Int32), rfl, (lf_whyNotWarmed_3 a cools skinHeat today stirs steps thickness lumpNames lumpCells boatNames boatCells loads spoons spoonsLeft depths n c1 c2), ht9⟩) (fun _ h => absurd h List.not_mem_nil) dX7_whyNotWarmed_12
set_option maxHeartbeats 4000000 in
set_option maxRecDepth 100000 in
theorem c_stirThickness00 (l : Launch) (dC : Nat → ClassId) (dI : Nat → Nat → Nat) (ky : Nat → ClassId) (sz : Nat) (a : Nat) (heat : Int32) (cools : Int32) (skinHeat : Int32) (today : Int32) (stirs : Int32) (steps : Int32) (thickness : Nat) (lumpNames : Nat) (lumpCells : Nat) (boatNames : Nat) (boatCells : Nat) (loads : Nat) (spoons : Nat) (spoonsLeft : Nat) (depths : Nat) (thicknessF : Nat → Int32) (n : Nat) (hn : n < 4) : Met l yX7_stirThickness wsX7_stirThickness ({ frames := 0, cells := 0, slots := 0, locals := 0 }) (PcU dC dI ky [.ref a, .int (nI 0), .int (nI n), .int (nI 0)] [(a, .inr (7, [.int (nI 4), .int (nI 4), .int heat, .int cools, .int skinHeat, .int today, .int stirs, .int steps, .int (nI 0), .int (nI 0), .ref thickness, .ref lumpNames, .ref lumpCells, .ref boatNames, .ref boatCells, .ref loads, .ref spoons, .ref spoonsLeft, .ref depths])), (thickness, .inl (ky 0, 36, .inl thicknessF))] sz) (va_Qv (fun (thicknessG : (Nat → Int32)) => True) (BU dC dI ky (fun (thicknessG : (Nat → Int32)) => [(a, .inr (7, [.int (nI 4), .int (nI 4), .int heat, .int cools, .int skinHeat, .int today, .int stirs, .int steps, .int (nI 0), .int (nI 0), .ref thickness, .ref lumpNames, .ref lumpCells, .ref boatNames, .ref boatCells, .ref loads, .ref spoons, .ref spoonsLeft, .ref depths])), (thickness, .inl (ky 0, 36, .inl thicknessG))]) (va_A [(a, .inr (7, [.int (nI 4), .int (nI 4), .int heat, .int cools, .int skinHeat, .int today, .int stirs, .int steps, .int (nI 0), .int (nI 0), .ref thickness, .ref lumpNames, .ref lumpCells, .ref boatNames, .ref boatCells, .ref loads, .ref spoons, .ref spoonsLeft, .ref depths])), (thickness, .inl (ky 0, 36, .inl thicknessF))] sz)) (va_A [(a, .inr (7, [.int (nI 4), .int (nI 4), .int heat, .int cools, .int skinHeat, .int today, .int stirs, .int steps, .int (nI 0), .int (nI 0), .ref thickness, .ref lumpNames, .ref lumpCells, .ref boatNames, .ref boatCells, .ref loads, .ref spoons, .ref spoonsLeft, .ref depths])), (thickness, .inl (ky 0, 36, .inl thicknessF))] sz)) 0 0 (va_A [(a, .inr (7, [.int (nI 4), .int (nI 4), .int heat, .int cools, .int skinHeat, .int today, .int stirs, .int steps, .int (nI 0), .int (nI 0), .ref thickness, .ref lumpNames, .ref lumpCells, .ref boatNames, .ref boatCells, .ref loads, .ref spoons, .ref spoonsLeft, .ref depths])), (thickness, .inl (ky 0, 36, .inl thicknessF))] sz) := by
  refine Met.ofW (cc := cX7_stirThickness) (maxL := 11) (ret := none) (by decide) rfl ?_
  intro p e s m args below meth c s₁ B hml hv
  obtain ⟨rfl, hsz, hP, hK, hD0⟩ := hv
  have hx := B.exec
  have hb := B.bytes
  have hr := B.returns
  have hts := atoms_spec (ws := wsX7_stirThickness) B.pre
  have hown : s.vm.findClass RX7 = some m.cls := findClass_of_methodNamed B.named
  have hlocks := B.notSynchronized
  have hin7 : ∀ w ∈ u_ws RX7 TX7 19, w ∈ wsX7_stirThickness := by decide +kernel
  subst hsz
  have hD := hD0.self (sz := s.heap.size)
  generalize hAe : va_A [(a, .inr (7, [.int (nI 4), .int (nI 4), .int heat, .int cools, .int skinHeat, .int today, .int stirs, .int steps, .int (nI 0), .int (nI 0), .ref thickness, .ref lumpNames, .ref lumpCells, .ref boatNames, .ref boatCells, .ref loads, .ref spoons, .ref spoonsLeft, .ref depths])), (thickness, .inl (ky 0, 36, .inl thicknessF))] s.heap.size = A at hD ⊢
  have hA : ∀ q : Nat, s.heap.size ≤ q → A q := fun q h => by rw [← hAe]; exact Or.inr h
  have hS : va_S A s.heap s.heap [] := va_S.rf
  have hP : va_P (dC, dI) vwCl [(a, .inr (7, [.int (nI 4), .int (nI 4), .int heat, .int cools, .int skinHeat, .int today, .int stirs, .int steps, .int (nI 0), .int (nI 0), .ref thickness, .ref lumpNames, .ref lumpCells, .ref boatNames, .ref boatCells, .ref loads, .ref spoons, .ref spoonsLeft, .ref depths])), (thickness, .inl (ky 0, 36, .inl thicknessF))] s.heap := hP
  have hl := lv_entry ([.ref a, .int (nI 0), .int (nI n), .int (nI 0)]) (n := 11) (Nat.le_of_ble_eq_true rfl)
  rw [lg_entry_eq]
  generalize (lg_sl ([.ref a, .int (nI 0), .int (nI n), .int (nI 0)]) ++ List.replicate (11 - (lg_sl ([.ref a, .int (nI 0), .int (nI n), .int (nI 0)])).length) Slot.unset).toArray = ls at hl ⊢
  have hl : lv_has ls 11 [(0, .ref a), (1, .int (nI 0)), (2, .int (nI n)), (3, .int (nI 0))] := hl
  have hH0 : True := trivial
  refine lv_iload_n hx hb dX7_stirThickness_0 rfl (lv_at hl 1 rfl) ?_
  refine lv_iconst (v := nI 1) hx hb dX7_stirThickness_1 (by decide) ?_
  refine lv_icmp_ne (tgt := 12) hx hb dX7_stirThickness_2 (by decide) (fun c1 => ?_) (fun c1 => absurd c1 (by decide))
  refine lv_aload_n hx hb dX7_stirThickness_12 rfl (lv_at hl 0 rfl) ?_
  refine va_get (D := (dC, dI)) (ci := 7) (v := .int (nI 4)) (C := RX7) (T := TX7) (N := 19) hx hb hts hin7 hown hK hP 0 rfl rfl 0 (by decide) (hts (.fieldLink RX7 43 "PorridgeSea$Sea" "wide" "I") (List.mem_of_getElem? (i := 2) rfl)) (fun _ h9 => h9) rfl dX7_stirThickness_13 ?_
  refine lv_istore (lv' := [(4, .int (nI 4)), (0, .ref a), (1, .int (nI 0)), (2, .int (nI n)), (3, .int (nI 0))]) hx hb dX7_stirThickness_16 hl (by decide) rfl (fun ls hl => ?_)
  refine lv_iload_n hx hb dX7_stirThickness_18 rfl (lv_at hl 2 rfl) ?_
  refine lv_iconst (v := nI 1) hx hb dX7_stirThickness_19 (by decide) ?_
  refine lv_icmp_ne (tgt := 27) hx hb dX7_stirThickness_20 (by decide) (fun c2 => ?_) (fun c2 => absurd c2 (by decide))
  refine lv_bipush (v := nI 6) hx hb dX7_stirThickness_27 (by decide) ?_
  refine lv_iload_n hx hb dX7_stirThickness_29 rfl (lv_at hl 3 rfl) ?_
  refine lv_imul hx hb dX7_stirThickness_30 ?_
  refine r_ti (nI (6 * n)) (pk_mul _ _) ?_
  refine lv_istore (lv' := [(5, .int (nI (6 * n))), (4, .int (nI 4)), (0, .ref a), (1, .int (nI 0)), (2, .int (nI n)), (3, .int (nI 0))]) hx hb dX7_stirThickness_31 hl (by decide) rfl (fun ls hl => ?_)
  refine lv_iload_n hx hb dX7_stirThickness_33 rfl (lv_at hl 3 rfl) ?_
  refine lv_iconst (v := nI 1) hx hb dX7_stirThickness_34 (by decide) ?_
  refine lv_icmp_ne (tgt := 43) hx hb dX7_stirThickness_35 (by decide) (fun c3 => ?_) (fun c3 => absurd c3 (by decide))
  refine lv_iconst (v := nI 1) hx hb dX7_stirThickness_43 (by decide) ?_
  refine lv_istore (lv' := [(6, .int (nI 1)), (5, .int (nI (6 * n))), (4, .int (nI 4)), (0, .ref a), (1, .int (nI 0)), (2, .int (nI n)), (3, .int (nI 0))]) hx hb dX7_stirThickness_44 hl (by decide) rfl (fun ls hl => ?_)
  refine lv_iconst (v := nI 1) hx hb dX7_stirThickness_46 (by decide) ?_
  refine lv_istore (lv' := [(7, .int (nI 1)), (6, .int (nI 1)), (5, .int (nI (6 * n))), (4, .int (nI 4)), (0, .ref a), (1, .int (nI 0)), (2, .int (nI n)), (3, .int (nI 0))]) hx hb dX7_stirThickness_47 hl (by decide) rfl (fun ls hl => ?_)
  refine lv_iload hx hb dX7_stirThickness_49 (lv_at hl 0 rfl) ?_
  refine lv_iload hx hb dX7_stirThickness_51 (lv_at hl 3 rfl) ?_
  refine lv_icmp_ge (tgt := 136) hx hb dX7_stirThickness_53 (by decide) (fun c4 => absurd c4 (by decide)) (fun c4 => ?_)
  refine lv_iload hx hb dX7_stirThickness_56 (lv_at hl 2 rfl) ?_
  refine lv_iload hx hb dX7_stirThickness_58 (lv_at hl 1 rfl) ?_
  refine lv_iload_n hx hb dX7_stirThickness_60 rfl (lv_at hl 7 rfl) ?_
  refine lv_iconst (v := nI 1) hx hb dX7_stirThickness_61 (by decide) ?_
  refine lv_icmp_ne (tgt := 70) hx hb dX7_stirThickness_62 (by decide) (fun c5 => ?_) (fun c5 => absurd c5 (by decide))
  refine lv_iload hx hb dX7_stirThickness_70 (lv_at hl 3 rfl) ?_
  refine lv_iload hx hb dX7_stirThickness_72 (lv_at hl 0 rfl) ?_
  refine lv_isub hx hb dX7_stirThickness_74 ?_
  refine r_ti (nI 3) (by decide) ?_
  refine lv_imul hx hb dX7_stirThickness_75 ?_
  refine r_ti (nI 3) (by decide) ?_
  refine lv_iadd hx hb dX7_stirThickness_76 ?_
  refine r_ti (nI ((6 * n) + 3)) (nI_add _ _) ?_
  refine lv_istore (lv' := [(8, .int (nI ((6 * n) + 3))), (7, .int (nI 1)), (6, .int (nI 1)), (5, .int (nI (6 * n))), (4, .int (nI 4)), (0, .ref a), (1, .int (nI 0)), (2, .int (nI n)), (3, .int (nI 0))]) hx hb dX7_stirThickness_77 hl (by decide) rfl (fun ls hl => ?_)
  refine lv_iload hx hb dX7_stirThickness_79 (lv_at hl 0 rfl) ?_
  refine lv_iload hx hb dX7_stirThickness_81 (lv_at hl 2 rfl) ?_
  refine lv_isub hx hb dX7_stirThickness_83 ?_
  refine r_ti (nI (((6 * n) + 3) - 1)) (pk_sub (by omega)) ?_
  refine lv_istore (lv' := [(9, .int (nI (((6 * n) + 3) - 1))), (8, .int (nI ((6 * n) + 3))), (7, .int (nI 1)), (6, .int (nI 1)), (5, .int (nI (6 * n))), (4, .int (nI 4)), (0, .ref a), (1, .int (nI 0)), (2, .int (nI n)), (3, .int (nI 0))]) hx hb dX7_stirThickness_84 hl (by decide) rfl (fun ls hl => ?_)
  refine lv_iload hx hb dX7_stirThickness_86 (lv_at hl 0 rfl) ?_
  refine n_if_lt (x := (((6 * n) + 3) - 1)) (tgt := 130) hx hb (by omega) dX7_stirThickness_88 (by decide) (fun c6 => c6.elim) (fun c6 => ?_)
  refine lv_iload hx hb dX7_stirThickness_91 (lv_at hl 1 rfl) ?_
  refine lv_bipush (v := nI 36) hx hb dX7_stirThickness_93 (by decide) ?_
  refine n_icmp_ge (x := ((6 * n) + 3)) (y := 36) (tgt := 130) hx hb (by omega) (by omega) dX7_stirThickness_95 (by decide) (fun c7 => by exfalso; omega) (fun c7 => ?_)
  refine lv_aload_n hx hb dX7_stirThickness_98 rfl (lv_at hl 6 rfl) ?_
  refine va_get (D := (dC, dI)) (ci := 7) (v := .ref thickness) (C := RX7) (T := TX7) (N := 19) hx hb hts hin7 hown hK hP 0 rfl rfl 10 (by decide) (hts (.fieldLink RX7 9 "PorridgeSea$Sea" "thickness" "[I") (List.mem_of_getElem? (i := 3) rfl)) (fun _ h9 => h9) rfl dX7_stirThickness_99 ?_
  refine lv_iload hx hb dX7_stirThickness_102 (lv_at hl 1 rfl) ?_
  obtain ⟨y8, e9⟩ : ∃ z9, z9 = thicknessF ((6 * n) + 3) := ⟨_, rfl⟩
  refine r_iald hx hb hK hP 1 rfl ((6 * n) + 3) (by omega) (by decide) y8 e9.symm dX7_stirThickness_104 ?_
  refine lv_istore (lv' := [(10, .int y8), (9, .int (nI (((6 * n) + 3) - 1))), (8, .int (nI ((6 * n) + 3))), (7, .int (nI 1)), (6, .int (nI 1)), (5, .int (nI (6 * n))), (4, .int (nI 4)), (0, .ref a), (1, .int (nI 0)), (2, .int (nI n)), (3, .int (nI 0))]) hx hb dX7_stirThickness_105 hl (by decide) rfl (fun ls hl => ?_)
  refine lv_aload_n hx hb dX7_stirThickness_107 rfl (lv_at hl 7 rfl) ?_
  refine va_get (D := (dC, dI)) (ci := 7) (v := .ref thickness) (C := RX7) (T := TX7) (N := 19) hx hb hts hin7 hown hK hP 0 rfl rfl 10 (by decide) (hts (.fieldLink RX7 9 "PorridgeSea$Sea" "thickness" "[I") (List.mem_of_getElem? (i := 3) rfl)) (fun _ h9 => h9) rfl dX7_stirThickness_108 ?_
  refine lv_iload hx hb dX7_stirThickness_111 (lv_at hl 2 rfl) ?_
  refine lv_aload_n hx hb dX7_stirThickness_113 rfl (lv_at hl 7 rfl) ?_
  refine va_get (D := (dC, dI)) (ci := 7) (v := .ref thickness) (C := RX7) (T := TX7) (N := 19) hx hb hts hin7 hown hK hP 0 rfl rfl 10 (by decide) (hts (.fieldLink RX7 9 "PorridgeSea$Sea" "thickness" "[I") (List.mem_of_getElem? (i := 3) rfl)) (fun _ h9 => h9) rfl dX7_stirThickness_114 ?_
  refine lv_iload hx hb dX7_stirThickness_117 (lv_at hl 1 rfl) ?_
  obtain ⟨y10, e11⟩ : ∃ z9, z9 = thicknessF (((6 * n) + 3) - 1) := ⟨_, rfl⟩
  refine r_iald hx hb hK hP 1 rfl (((6 * n) + 3) - 1) (by omega) (by decide) y10 e11.symm dX7_stirThickness_119 ?_
  refine r_iast (x := y10) hx hb hK hP hD hS 1 rfl ((6 * n) + 3) (by omega) (by decide) dX7_stirThickness_120 (fun H locs hP hD hS => ?_)
  obtain ⟨g12, e13⟩ : ∃ z9, z9 = upd thicknessF ((6 * n) + 3) y10 := ⟨_, rfl⟩
  rw [← e13] at hP hD
  have hP : va_P (dC, dI) vwCl [(a, .inr (7, [.int (nI 4), .int (nI 4), .int heat, .int cools, .int skinHeat, .int today, .int stirs, .int steps, .int (nI 0), .int (nI 0), .ref thickness, .ref lumpNames, .ref lumpCells, .ref boatNames, .ref boatCells, .ref loads, .ref spoons, .ref spoonsLeft, .ref depths])), (thickness, .inl (ky 0, 36, .inl g12))] H := hP
  have hD : va_D A [(a, .inr (7, [.int (nI 4), .int (nI 4), .int heat, .int cools, .int skinHeat, .int today, .int stirs, .int steps, .int (nI 0), .int (nI 0), .ref thickness, .ref lumpNames, .ref lumpCells, .ref boatNames, .ref boatCells, .ref loads, .ref spoons, .ref spoonsLeft, .ref depths])), (thickness, .inl (ky 0, 36, .inl g12))] := hD
  refine lv_aload_n hx hb dX7_stirThickness_121 rfl (lv_at hl 7 rfl) ?_
  refine va_get (D := (dC, dI)) (ci := 7) (v := .ref thickness) (C := RX7) (T := TX7) (N := 19) hx hb hts hin7 hown hK hP 0 rfl rfl 10 (by decide) (hts (.fieldLink RX7 9 "PorridgeSea$Sea" "thickness" "[I") (List.mem_of_getElem? (i := 3) rfl)) (fun _ h9 => h9) rfl dX7_stirThickness_122 ?_
  refine lv_iload hx hb dX7_stirThickness_125 (lv_at hl 1 rfl) ?_
  refine lv_iload hx hb dX7_stirThickness_127 (lv_at hl 0 rfl) ?_
  refine r_iast (x := y8) hx hb hK hP hD hS 1 rfl (((6 * n) + 3) - 1) (by omega) (by decide) dX7_stirThickness_129 (fun H locs hP hD hS => ?_)
  obtain ⟨g14, e15⟩ : ∃ z9, z9 = upd g12 (((6 * n) + 3) - 1) y8 := ⟨_, rfl⟩
  rw [← e15] at hP hD
  have hP : va_P (dC, dI) vwCl [(a, .inr (7, [.int (nI 4), .int (nI 4), .int heat, .int cools, .int skinHeat, .int today, .int stirs, .int steps, .int (nI 0), .int (nI 0), .ref thickness, .ref lumpNames, .ref lumpCells, .ref boatNames, .ref boatCells, .ref loads, .ref spoons, .ref spoonsLeft, .ref depths])), (thickness, .inl (ky 0, 36, .inl g14))] H := hP
  have hD : va_D A [(a, .inr (7, [.int (nI 4), .int (nI 4), .int heat, .int cools, .int skinHeat, .int today, .int stirs, .int steps, .int (nI 0), .int (nI 0), .ref thickness, .ref lumpNames, .ref lumpCells, .ref boatNames, .ref boatCells, .ref loads, .ref spoons, .ref spoonsLeft, .ref depths])), (thickness, .inl (ky 0, 36, .inl g14))] := hD
  refine lv_iinc (v := nI 2) (lv' := [(7, .int (nI 2)), (10, .int y8), (9, .int (nI (((6 * n) + 3) - 1))), (8, .int (nI ((6 * n) + 3))), (6, .int (nI 1)), (5, .int (nI (6 * n))), (4, .int (nI 4)), (0, .ref a), (1, .int (nI 0)), (2, .int (nI n)), (3, .int (nI 0))]) hx hb dX7_stirThickness_130 hl (k := 3) rfl (by decide) (by decide) rfl (fun ls hl => ?_)
  refine lv_goto (tgt := 49) hx hb dX7_stirThickness_133 (by decide) ?_
  refine lv_iload hx hb dX7_stirThickness_49 (lv_at hl 0 rfl) ?_
  refine lv_iload hx hb dX7_stirThickness_51 (lv_at hl 6 rfl) ?_
  refine lv_icmp_ge (tgt := 136) hx hb dX7_stirThickness_53 (by decide) (fun c16 => absurd c16 (by decide)) (fun c16 => ?_)
  refine lv_iload hx hb dX7_stirThickness_56 (lv_at hl 5 rfl) ?_
  refine lv_iload hx hb dX7_stirThickness_58 (lv_at hl 4 rfl) ?_
  refine lv_iload_n hx hb dX7_stirThickness_60 rfl (lv_at hl 10 rfl) ?_
  refine lv_iconst (v := nI 1) hx hb dX7_stirThickness_61 (by decide) ?_
  refine lv_icmp_ne (tgt := 70) hx hb dX7_stirThickness_62 (by decide) (fun c17 => ?_) (fun c17 => absurd c17 (by decide))
  refine lv_iload hx hb dX7_stirThickness_70 (lv_at hl 6 rfl) ?_
  refine lv_iload hx hb dX7_stirThickness_72 (lv_at hl 0 rfl) ?_
  refine lv_isub hx hb dX7_stirThickness_74 ?_
  refine r_ti (nI 2) (by decide) ?_
  refine lv_imul hx hb dX7_stirThickness_75 ?_
  refine r_ti (nI 2) (by decide) ?_
  refine lv_iadd hx hb dX7_stirThickness_76 ?_
  refine r_ti (nI ((6 * n) + 2)) (nI_add _ _) ?_
  refine lv_istore (lv' := [(8, .int (nI ((6 * n) + 2))), (7, .int (nI 2)), (10, .int y8), (9, .int (nI (((6 * n) + 3) - 1))), (6, .int (nI 1)), (5, .int (nI (6 * n))), (4, .int (nI 4)), (0, .ref a), (1, .int (nI 0)), (2, .int (nI n)), (3, .int (nI 0))]) hx hb dX7_stirThickness_77 hl (by decide) rfl (fun ls hl => ?_)
  refine lv_iload hx hb dX7_stirThickness_79 (lv_at hl 0 rfl) ?_
  refine lv_iload hx hb dX7_stirThickness_81 (lv_at hl 4 rfl) ?_
  refine lv_isub hx hb dX7_stirThickness_83 ?_
  refine r_ti (nI (((6 * n) + 2) - 1)) (pk_sub (by omega)) ?_
  refine lv_istore (lv' := [(9, .int (nI (((6 * n) + 2) - 1))), (8, .int (nI ((6 * n) + 2))), (7, .int (nI 2)), (10, .int y8), (6, .int (nI 1)), (5, .int (nI (6 * n))), (4, .int (nI 4)), (0, .ref a), (1, .int (nI 0)), (2, .int (nI n)), (3, .int (nI 0))]) hx hb dX7_stirThickness_84 hl (by decide) rfl (fun ls hl => ?_)
  refine lv_iload hx hb dX7_stirThickness_86 (lv_at hl 0 rfl) ?_
  refine n_if_lt (x := (((6 * n) + 2) - 1)) (tgt := 130) hx hb (by omega) dX7_stirThickness_88 (by decide) (fun c18 => c18.elim) (fun c18 => ?_)
  refine lv_iload hx hb dX7_stirThickness_91 (lv_at hl 1 rfl) ?_
  refine lv_bipush (v := nI 36) hx hb dX7_stirThickness_93 (by decide) ?_
  refine n_icmp_ge (x := ((6 * n) + 2)) (y := 36) (tgt := 130) hx hb (by omega) (by omega) dX7_stirThickness_95 (by decide) (fun c19 => by exfalso; omega) (fun c19 => ?_)
  refine lv_aload_n hx hb dX7_stirThickness_98 rfl (lv_at hl 7 rfl) ?_
  refine va_get (D := (dC, dI)) (ci := 7) (v := .ref thickness) (C := RX7) (T := TX7) (N := 19) hx hb hts hin7 hown hK hP 0 rfl rfl 10 (by decide) (hts (.fieldLink RX7 9 "PorridgeSea$Sea" "thickness" "[I") (List.mem_of_getElem? (i := 3) rfl)) (fun _ h9 => h9) rfl dX7_stirThickness_99 ?_
  refine lv_iload hx hb dX7_stirThickness_102 (lv_at hl 1 rfl) ?_
  obtain ⟨y20, e21⟩ : ∃ z9, z9 = g14 ((6 * n) + 2) := ⟨_, rfl⟩
  refine r_iald hx hb hK hP 1 rfl ((6 * n) + 2) (by omega) (by decide) y20 e21.symm dX7_stirThickness_104 ?_
  refine lv_istore (lv' := [(10, .int y20), (9, .int (nI (((6 * n) + 2) - 1))), (8, .int (nI ((6 * n) + 2))), (7, .int (nI 2)), (6, .int (nI 1)), (5, .int (nI (6 * n))), (4, .int (nI 4)), (0, .ref a), (1, .int (nI 0)), (2, .int (nI n)), (3, .int (nI 0))]) hx hb dX7_stirThickness_105 hl (by decide) rfl (fun ls hl => ?_)
  refine lv_aload_n hx hb dX7_stirThickness_107 rfl (lv_at hl 7 rfl) ?_
  refine va_get (D := (dC, dI)) (ci := 7) (v := .ref thickness) (C := RX7) (T := TX7) (N := 19) hx hb hts hin7 hown hK hP 0 rfl rfl 10 (by decide) (hts (.fieldLink RX7 9 "PorridgeSea$Sea" "thickness" "[I") (List.mem_of_getElem? (i := 3) rfl)) (fun _ h9 => h9) rfl dX7_stirThickness_108 ?_
  refine lv_iload hx hb dX7_stirThickness_111 (lv_at hl 2 rfl) ?_
  refine lv_aload_n hx hb dX7_stirThickness_113 rfl (lv_at hl 7 rfl) ?_
  refine va_get (D := (dC, dI)) (ci := 7) (v := .ref thickness) (C := RX7) (T := TX7) (N := 19) hx hb hts hin7 hown hK hP 0 rfl rfl 10 (by decide) (hts (.fieldLink RX7 9 "PorridgeSea$Sea" "thickness" "[I") (List.mem_of_getElem? (i := 3) rfl)) (fun _ h9 => h9) rfl dX7_stirThickness_114 ?_
  refine lv_iload hx hb dX7_stirThickness_117 (lv_at hl 1 rfl) ?_
  obtain ⟨y22, e23⟩ : ∃ z9, z9 = g14 (((6 * n) + 2) - 1) := ⟨_, rfl⟩
  refine r_iald hx hb hK hP 1 rfl (((6 * n) + 2) - 1) (by omega) (by decide) y22 e23.symm dX7_stirThickness_119 ?_
  refine r_iast (x := y22) hx hb hK hP hD hS 1 rfl ((6 * n) + 2) (by omega) (by decide) dX7_stirThickness_120 (fun H locs hP hD hS => ?_)
  obtain ⟨g24, e25⟩ : ∃ z9, z9 = upd g14 ((6 * n) + 2) y22 := ⟨_, rfl⟩
  rw [← e25] at hP hD
  have hP : va_P (dC, dI) vwCl [(a, .inr (7, [.int (nI 4), .int (nI 4), .int heat, .int cools, .int skinHeat, .int today, .int stirs, .int steps, .int (nI 0), .int (nI 0), .ref thickness, .ref lumpNames, .ref lumpCells, .ref boatNames, .ref boatCells, .ref loads, .ref spoons, .ref spoonsLeft, .ref depths])), (thickness, .inl (ky 0, 36, .inl g24))] H := hP
  have hD : va_D A [(a, .inr (7, [.int (nI 4), .int (nI 4), .int heat, .int cools, .int skinHeat, .int today, .int stirs, .int steps, .int (nI 0), .int (nI 0), .ref thickness, .ref lumpNames, .ref lumpCells, .ref boatNames, .ref boatCells, .ref loads, .ref spoons, .ref spoonsLeft, .ref depths])), (thickness, .inl (ky 0, 36, .inl g24))] := hD
  refine lv_aload_n hx hb dX7_stirThickness_121 rfl (lv_at hl 7 rfl) ?_
  refine va_get (D := (dC, dI)) (ci := 7) (v := .ref thickness) (C := RX7) (T := TX7) (N := 19) hx hb hts hin7 hown hK hP 0 rfl rfl 10 (by decide) (hts (.fieldLink RX7 9 "PorridgeSea$Sea" "thickness" "[I") (List.mem_of_getElem? (i := 3) rfl)) (fun _ h9 => h9) rfl dX7_stirThickness_122 ?_
  refine lv_iload hx hb dX7_stirThickness_125 (lv_at hl 1 rfl) ?_
  refine lv_iload hx hb dX7_stirThickness_127 (lv_at hl 0 rfl) ?_
  refine r_iast (x := y20) hx hb hK hP hD hS 1 rfl (((6 * n) + 2) - 1) (by omega) (by decide) dX7_stirThickness_129 (fun H locs hP hD hS => ?_)
  obtain ⟨g26, e27⟩ : ∃ z9, z9 = upd g24 (((6 * n) + 2) - 1) y20 := ⟨_, rfl⟩
  rw [← e27] at hP hD
  have hP : va_P (dC, dI) vwCl [(a, .inr (7, [.int (nI 4), .int (nI 4), .int heat, .int cools, .int skinHeat, .int today, .int stirs, .int steps, .int (nI 0), .int (nI 0), .ref thickness, .ref lumpNames, .ref lumpCells, .ref boatNames, .ref boatCells, .ref loads, .ref spoons, .ref spoonsLeft, .ref depths])), (thickness, .inl (ky 0, 36, .inl g26))] H := hP
  have hD : va_D A [(a, .inr (7, [.int (nI 4), .int (nI 4), .int heat, .int cools, .int skinHeat, .int today, .int stirs, .int steps, .int (nI 0), .int (nI 0), .ref thickness, .ref lumpNames, .ref lumpCells, .ref boatNames, .ref boatCells, .ref loads, .ref spoons, .ref spoonsLeft, .ref depths])), (thickness, .inl (ky 0, 36, .inl g26))] := hD
  refine lv_iinc (v := nI 3) (lv' := [(7, .int (nI 3)), (10, .int y20), (9, .int (nI (((6 * n) + 2) - 1))), (8, .int (nI ((6 * n) + 2))), (6, .int (nI 1)), (5, .int (nI (6 * n))), (4, .int (nI 4)), (0, .ref a), (1, .int (nI 0)), (2, .int (nI n)), (3, .int (nI 0))]) hx hb dX7_stirThickness_130 hl (k := 3) rfl (by decide) (by decide) rfl (fun ls hl => ?_)
  refine lv_goto (tgt := 49) hx hb dX7_stirThickness_133 (by decide) ?_
  refine lv_iload hx hb dX7_stirThickness_49 (lv_at hl 0 rfl) ?_
  refine lv_iload hx hb dX7_stirThickness_51 (lv_at hl 6 rfl) ?_
  refine lv_icmp_ge (tgt := 136) hx hb dX7_stirThickness_53 (by decide) (fun c28 => absurd c28 (by decide)) (fun c28 => ?_)
  refine lv_iload hx hb dX7_stirThickness_56 (lv_at hl 5 rfl) ?_
  refine lv_iload hx hb dX7_stirThickness_58 (lv_at hl 4 rfl) ?_
  refine lv_iload_n hx hb dX7_stirThickness_60 rfl (lv_at hl 10 rfl) ?_
  refine lv_iconst (v := nI 1) hx hb dX7_stirThickness_61 (by decide) ?_
  refine lv_icmp_ne (tgt := 70) hx hb dX7_stirThickness_62 (by decide) (fun c29 => ?_) (fun c29 => absurd c29 (by decide))
  refine lv_iload hx hb dX7_stirThickness_70 (lv_at hl 6 rfl) ?_
  refine lv_iload hx hb dX7_stirThickness_72 (lv_at hl 0 rfl) ?_
  refine lv_isub hx hb dX7_stirThickness_74 ?_
  refine r_ti (nI 1) (by decide) ?_
  refine lv_imul hx hb dX7_stirThickness_75 ?_
  refine r_ti (nI 1) (by decide) ?_
  refine lv_iadd hx hb dX7_stirThickness_76 ?_
  refine r_ti (nI ((6 * n) + 1)) (nI_add _ _) ?_
  refine lv_istore (lv' := [(8, .int (nI ((6 * n) + 1))), (7, .int (nI 3)), (10, .int y20), (9, .int (nI (((6 * n) + 2) - 1))), (6, .int (nI 1)), (5, .int (nI (6 * n))), (4, .int (nI 4)), (0, .ref a), (1, .int (nI 0)), (2, .int (nI n)), (3, .int (nI 0))]) hx hb dX7_stirThickness_77 hl (by decide) rfl (fun ls hl => ?_)
  refine lv_iload hx hb dX7_stirThickness_79 (lv_at hl 0 rfl) ?_
  refine lv_iload hx hb dX7_stirThickness_81 (lv_at hl 4 rfl) ?_
  refine lv_isub hx hb dX7_stirThickness_83 ?_
  refine r_ti (nI (((6 * n) + 1) - 1)) (pk_sub (by omega)) ?_
  refine lv_istore (lv' := [(9, .int (nI (((6 * n) + 1) - 1))), (8, .int (nI ((6 * n) + 1))), (7, .int (nI 3)), (10, .int y20), (6, .int (nI 1)), (5, .int (nI (6 * n))), (4, .int (nI 4)), (0, .ref a), (1, .int (nI 0)), (2, .int (nI n)), (3, .int (nI 0))]) hx hb dX7_stirThickness_84 hl (by decide) rfl (fun ls hl => ?_)
  refine lv_iload hx hb dX7_stirThickness_86 (lv_at hl 0 rfl) ?_
  refine n_if_lt (x := (((6 * n) + 1) - 1)) (tgt := 130) hx hb (by omega) dX7_stirThickness_88 (by decide) (fun c30 => c30.elim) (fun c30 => ?_)
  refine lv_iload hx hb dX7_stirThickness_91 (lv_at hl 1 rfl) ?_
  refine lv_bipush (v := nI 36) hx hb dX7_stirThickness_93 (by decide) ?_
  refine n_icmp_ge (x := ((6 * n) + 1)) (y := 36) (tgt := 130) hx hb (by omega) (by omega) dX7_stirThickness_95 (by decide) (fun c31 => by exfalso; omega) (fun c31 => ?_)
  refine lv_aload_n hx hb dX7_stirThickness_98 rfl (lv_at hl 7 rfl) ?_
  refine va_get (D := (dC, dI)) (ci := 7) (v := .ref thickness) (C := RX7) (T := TX7) (N := 19) hx hb hts hin7 hown hK hP 0 rfl rfl 10 (by decide) (hts (.fieldLink RX7 9 "PorridgeSea$Sea" "thickness" "[I") (List.mem_of_getElem? (i := 3) rfl)) (fun _ h9 => h9) rfl dX7_stirThickness_99 ?_
  refine lv_iload hx hb dX7_stirThickness_102 (lv_at hl 1 rfl) ?_
  obtain ⟨y32, e33⟩ : ∃ z9, z9 = g26 ((6 * n) + 1) := ⟨_, rfl⟩
  refine r_iald hx hb hK hP 1 rfl ((6 * n) + 1) (by omega) (by decide) y32 e33.symm dX7_stirThickness_104 ?_
  refine lv_istore (lv' := [(10, .int y32), (9, .int (nI (((6 * n) + 1) - 1))), (8, .int (nI ((6 * n) + 1))), (7, .int (nI 3)), (6, .int (nI 1)), (5, .int (nI (6 * n))), (4, .int (nI 4)), (0, .ref a), (1, .int (nI 0)), (2, .int (nI n)), (3, .int (nI 0))]) hx hb dX7_stirThickness_105 hl (by decide) rfl (fun ls hl => ?_)
  refine lv_aload_n hx hb dX7_stirThickness_107 rfl (lv_at hl 7 rfl) ?_
  refine va_get (D := (dC, dI)) (ci := 7) (v := .ref thickness) (C := RX7) (T := TX7) (N := 19) hx hb hts hin7 hown hK hP 0 rfl rfl 10 (by decide) (hts (.fieldLink RX7 9 "PorridgeSea$Sea" "thickness" "[I") (List.mem_of_getElem? (i := 3) rfl)) (fun _ h9 => h9) rfl dX7_stirThickness_108 ?_
  refine lv_iload hx hb dX7_stirThickness_111 (lv_at hl 2 rfl) ?_
  refine lv_aload_n hx hb dX7_stirThickness_113 rfl (lv_at hl 7 rfl) ?_
  refine va_get (D := (dC, dI)) (ci := 7) (v := .ref thickness) (C := RX7) (T := TX7) (N := 19) hx hb hts hin7 hown hK hP 0 rfl rfl 10 (by decide) (hts (.fieldLink RX7 9 "PorridgeSea$Sea" "thickness" "[I") (List.mem_of_getElem? (i := 3) rfl)) (fun _ h9 => h9) rfl dX7_stirThickness_114 ?_
  refine lv_iload hx hb dX7_stirThickness_117 (lv_at hl 1 rfl) ?_
  obtain ⟨y34, e35⟩ : ∃ z9, z9 = g26 (((6 * n) + 1) - 1) := ⟨_, rfl⟩
  refine r_iald hx hb hK hP 1 rfl (((6 * n) + 1) - 1) (by omega) (by decide) y34 e35.symm dX7_stirThickness_119 ?_
  refine r_iast (x := y34) hx hb hK hP hD hS 1 rfl ((6 * n) + 1) (by omega) (by decide) dX7_stirThickness_120 (fun H locs hP hD hS => ?_)
  obtain ⟨g36, e37⟩ : ∃ z9, z9 = upd g26 ((6 * n) + 1) y34 := ⟨_, rfl⟩
  rw [← e37] at hP hD
  have hP : va_P (dC, dI) vwCl [(a, .inr (7, [.int (nI 4), .int (nI 4), .int heat, .int cools, .int skinHeat, .int today, .int stirs, .int steps, .int (nI 0), .int (nI 0), .ref thickness, .ref lumpNames, .ref lumpCells, .ref boatNames, .ref boatCells, .ref loads, .ref spoons, .ref spoonsLeft, .ref depths])), (thickness, .inl (ky 0, 36, .inl g36))] H := hP
  have hD : va_D A [(a, .inr (7, [.int (nI 4), .int (nI 4), .int heat, .int cools, .int skinHeat, .int today, .int stirs, .int steps, .int (nI 0), .int (nI 0), .ref thickness, .ref lumpNames, .ref lumpCells, .ref boatNames, .ref boatCells, .ref loads, .ref spoons, .ref spoonsLeft, .ref depths])), (thickness, .inl (ky 0, 36, .inl g36))] := hD
  refine lv_aload_n hx hb dX7_stirThickness_121 rfl (lv_at hl 7 rfl) ?_
  refine va_get (D := (dC, dI)) (ci := 7) (v := .ref thickness) (C := RX7) (T := TX7) (N := 19) hx hb hts hin7 hown hK hP 0 rfl rfl 10 (by decide) (hts (.fieldLink RX7 9 "PorridgeSea$Sea" "thickness" "[I") (List.mem_of_getElem? (i := 3) rfl)) (fun _ h9 => h9) rfl dX7_stirThickness_122 ?_
  refine lv_iload hx hb dX7_stirThickness_125 (lv_at hl 1 rfl) ?_
  refine lv_iload hx hb dX7_stirThickness_127 (lv_at hl 0 rfl) ?_
  refine r_iast (x := y32) hx hb hK hP hD hS 1 rfl (((6 * n) + 1) - 1) (by omega) (by decide) dX7_stirThickness_129 (fun H locs hP hD hS => ?_)
  obtain ⟨g38, e39⟩ : ∃ z9, z9 = upd g36 (((6 * n) + 1) - 1) y32 := ⟨_, rfl⟩
  rw [← e39] at hP hD
  have hP : va_P (dC, dI) vwCl [(a, .inr (7, [.int (nI 4), .int (nI 4), .int heat, .int cools, .int skinHeat, .int today, .int stirs, .int steps, .int (nI 0), .int (nI 0), .ref thickness, .ref lumpNames, .ref lumpCells, .ref boatNames, .ref boatCells, .ref loads, .ref spoons, .ref spoonsLeft, .ref depths])), (thickness, .inl (ky 0, 36, .inl g38))] H := hP
  have hD : va_D A [(a, .inr (7, [.int (nI 4), .int (nI 4), .int heat, .int cools, .int skinHeat, .int today, .int stirs, .int steps, .int (nI 0), .int (nI 0), .ref thickness, .ref lumpNames, .ref lumpCells, .ref boatNames, .ref boatCells, .ref loads, .ref spoons, .ref spoonsLeft, .ref depths])), (thickness, .inl (ky 0, 36, .inl g38))] := hD
  refine lv_iinc (v := nI 4) (lv' := [(7, .int (nI 4)), (10, .int y32), (9, .int (nI (((6 * n) + 1) - 1))), (8, .int (nI ((6 * n) + 1))), (6, .int (nI 1)), (5, .int (nI (6 * n))), (4, .int (nI 4)), (0, .ref a), (1, .int (nI 0)), (2, .int (nI n)), (3, .int (nI 0))]) hx hb dX7_stirThickness_130 hl (k := 3) rfl (by decide) (by decide) rfl (fun ls hl => ?_)
  refine lv_goto (tgt := 49) hx hb dX7_stirThickness_133 (by decide) ?_
  refine lv_iload hx hb dX7_stirThickness_49 (lv_at hl 0 rfl) ?_
  refine lv_iload hx hb dX7_stirThickness_51 (lv_at hl 6 rfl) ?_
  refine lv_icmp_ge (tgt := 136) hx hb dX7_stirThickness_53 (by decide) (fun c40 => ?_) (fun c40 => absurd (by decide) c40)
  have hP9 := hP.sub (ws' := [(a, .inr (7, [.int (nI 4), .int (nI 4), .int heat, .int cools, .int skinHeat, .int today, .int stirs, .int steps, .int (nI 0), .int (nI 0), .ref thickness, .ref lumpNames, .ref lumpCells, .ref boatNames, .ref boatCells, .ref loads, .ref spoons, .ref spoonsLeft, .ref depths])), (thickness, .inl (ky 0, 36, .inl g38))]) [0, 1] rfl
  have hD9 := hD.sub (ws' := [(a, .inr (7, [.int (nI 4), .int (nI 4), .int heat, .int cools, .int skinHeat, .int today, .int stirs, .int steps, .int (nI 0), .int (nI 0), .ref thickness, .ref lumpNames, .ref lumpCells, .ref boatNames, .ref boatCells, .ref loads, .ref spoons, .ref spoonsLeft, .ref depths])), (thickness, .inl (ky 0, 36, .inl g38))]) [0, 1] (by decide) rfl
  refine W.widen (k := 0) (n := 0) (Nat.le_of_ble_eq_true rfl) (Nat.le_of_ble_eq_true rfl) ?_
  exact W.vret hx hb hr (fun t ht9 hW9 => ⟨⟨g38, rfl, trivial, by rw [ht9]; exact hP9, va_K.moved hW9.alike hK, hD9⟩, hS.F ht9⟩) hS.2.2 dX7_stirThickness_136
set_option maxHeartbeats 4000000 in
set_option maxRecDepth 100000 in
theorem c_stirLine00 (l : Launch) (dC : Nat → ClassId) (dI : Nat → Nat → Nat) (ky : Nat → ClassId) (sz : Nat) (a : Nat) (heat : Int32) (cools : Int32) (skinHeat : Int32) (today : Int32) (stirs : Int32) (steps : Int32) (thickness : Nat) (lumpNames : Nat) (lumpCells : Nat) (boatNames : Nat) (boatCells : Nat) (loads : Nat) (spoons : Nat) (spoonsLeft : Nat) (depths : Nat) (thicknessF : Nat → Int32) (n : Nat) (hn : n < 4) : Met l yX7_stirLine wsX7_stirLine ({ frames := 1, cells := 0, slots := 0, locals := 30 }) (PcU dC dI ky [.ref a, .int (nI 0), .int (nI n), .int (nI 0)] [(a, .inr (7, [.int (nI 4), .int (nI 4), .int heat, .int cools, .int skinHeat, .int today, .int stirs, .int steps, .int (nI 0), .int (nI 0), .ref thickness, .ref lumpNames, .ref lumpCells, .ref boatNames, .ref boatCells, .ref loads, .ref spoons, .ref spoonsLeft, .ref depths])), (thickness, .inl (ky 0, 36, .inl thicknessF))] sz) (va_Qv (fun (u : Int32 × (Nat → Int32)) => match u with | (stirsG, thicknessG) => True) (BU dC dI ky (fun (u : Int32 × (Nat → Int32)) => match u with | (stirsG, thicknessG) => [(a, .inr (7, [.int (nI 4), .int (nI 4), .int heat, .int cools, .int skinHeat, .int today, .int stirsG, .int steps, .int (nI 0), .int (nI 0), .ref thickness, .ref lumpNames, .ref lumpCells, .ref boatNames, .ref boatCells, .ref loads, .ref spoons, .ref spoonsLeft, .ref depths])), (thickness, .inl (ky 0, 36, .inl thicknessG))]) (va_A [(a, .inr (7, [.int (nI 4), .int (nI 4), .int heat, .int cools, .int skinHeat, .int today, .int stirs, .int steps, .int (nI 0), .int (nI 0), .ref thickness, .ref lumpNames, .ref lumpCells, .ref boatNames, .ref boatCells, .ref loads, .ref spoons, .ref spoonsLeft, .ref depths])), (thickness, .inl (ky 0, 36, .inl thicknessF))] sz)) (va_A [(a, .inr (7, [.int (nI 4), .int (nI 4), .int heat, .int cools, .int skinHeat, .int today, .int stirs, .int steps, .int (nI 0), .int (nI 0), .ref thickness, .ref lumpNames, .ref lumpCells, .ref boatNames, .ref boatCells, .ref loads, .ref spoons, .ref spoonsLeft, .ref depths])), (thickness, .inl (ky 0, 36, .inl thicknessF))] sz)) 0 0 (va_A [(a, .inr (7, [.int (nI 4), .int (nI 4), .int heat, .int cools, .int skinHeat, .int today, .int stirs, .int steps, .int (nI 0), .int (nI 0), .ref thickness, .ref lumpNames, .ref lumpCells, .ref boatNames, .ref boatCells, .ref loads, .ref spoons, .ref spoonsLeft, .ref depths])), (thickness, .inl (ky 0, 36, .inl thicknessF))] sz) := by
  refine Met.ofW (cc := cX7_stirLine) (maxL := 5) (ret := none) (by decide) rfl ?_
  intro p e s m args below meth c s₁ B hml hv
  obtain ⟨rfl, hsz, hP, hK, hD0⟩ := hv
  have hx := B.exec
  have hb := B.bytes
  have hr := B.returns
  have hts := atoms_spec (ws := wsX7_stirLine) B.pre
  have hown : s.vm.findClass RX7 = some m.cls := findClass_of_methodNamed B.named
  have hlocks := B.notSynchronized
  have hin7 : ∀ w ∈ u_ws RX7 TX7 19, w ∈ wsX7_stirLine := by decide +kernel
  subst hsz
  have hD := hD0.self (sz := s.heap.size)
  generalize hAe : va_A [(a, .inr (7, [.int (nI 4), .int (nI 4), .int heat, .int cools, .int skinHeat, .int today, .int stirs, .int steps, .int (nI 0), .int (nI 0), .ref thickness, .ref lumpNames, .ref lumpCells, .ref boatNames, .ref boatCells, .ref loads, .ref spoons, .ref spoonsLeft, .ref depths])), (thickness, .inl (ky 0, 36, .inl thicknessF))] s.heap.size = A at hD ⊢
  have hA : ∀ q : Nat, s.heap.size ≤ q → A q := fun q h => by rw [← hAe]; exact Or.inr h
  have hS : va_S A s.heap s.heap [] := va_S.rf
  have hP : va_P (dC, dI) vwCl [(a, .inr (7, [.int (nI 4), .int (nI 4), .int heat, .int cools, .int skinHeat, .int today, .int stirs, .int steps, .int (nI 0), .int (nI 0), .ref thickness, .ref lumpNames, .ref lumpCells, .ref boatNames, .ref boatCells, .ref loads, .ref spoons, .ref spoonsLeft, .ref depths])), (thickness, .inl (ky 0, 36, .inl thicknessF))] s.heap := hP
  have hl := lv_entry ([.ref a, .int (nI 0), .int (nI n), .int (nI 0)]) (n := 5) (Nat.le_of_ble_eq_true rfl)
  rw [lg_entry_eq]
  generalize (lg_sl ([.ref a, .int (nI 0), .int (nI n), .int (nI 0)]) ++ List.replicate (5 - (lg_sl ([.ref a, .int (nI 0), .int (nI n), .int (nI 0)])).length) Slot.unset).toArray = ls at hl ⊢
  have hl : lv_has ls 5 [(0, .ref a), (1, .int (nI 0)), (2, .int (nI n)), (3, .int (nI 0))] := hl
  have hH0 : True := trivial
  refine lv_aload_n hx hb dX7_stirLine_0 rfl (lv_at hl 0 rfl) ?_
  refine lv_iload_n hx hb dX7_stirLine_1 rfl (lv_at hl 1 rfl) ?_
  refine lv_iload_n hx hb dX7_stirLine_2 rfl (lv_at hl 2 rfl) ?_
  refine vp_callSi (W.runV (As := [.int (nI 0), .int (nI n)]) (rest := []) ⟨hx, hb, hml, hown, hts⟩ (c_isLine l dC dI ky a (nI 4) (nI 4) heat cools skinHeat today stirs steps (nI 0) (nI 0) thickness lumpNames lumpCells boatNames boatCells loads spoons spoonsLeft depths (nI 0) (nI n)) (cwV 2 hts gX7_stirLine_X7_isLine rfl rfl rfl (by decide +kernel) ⟨(Nat.le_of_ble_eq_true rfl), (Nat.le_of_ble_eq_true rfl)⟩) (pre_PV hK hP [0] rfl (ci := 7) (q0 := 0) rfl rfl) rfl rfl hl.1 rfl (lv_room (Nat.le_of_ble_eq_true rfl)) dX7_stirLine_3 ⟨(Nat.le_of_ble_eq_true rfl), (Nat.le_of_ble_eq_true rfl)⟩) (fun r1 p2 => ?_)
  refine lv_if_ne (tgt := 10) hx hb dX7_stirLine_6 (by decide) (fun c3 => ?_) (fun c3 => ?_)
  · refine lv_aload_n hx hb dX7_stirLine_10 rfl (lv_at hl 0 rfl) ?_
    refine lv_iload_n hx hb dX7_stirLine_11 rfl (lv_at hl 1 rfl) ?_
    refine lv_iload_n hx hb dX7_stirLine_12 rfl (lv_at hl 2 rfl) ?_
    refine lv_iload_n hx hb dX7_stirLine_13 rfl (lv_at hl 3 rfl) ?_
    refine r_call_v (wr := []) (va_runV (As := [.int (nI 0), .int (nI n), .int (nI 0)]) (rest := []) ⟨hx, hb, hml, hown, hts⟩ (c_stirThickness00 l dC dI ky s.heap.size a heat cools skinHeat today stirs steps thickness lumpNames lumpCells boatNames boatCells loads spoons spoonsLeft depths thicknessF n (by omega)) (cwV 3 hts gX7_stirLine_X7_stirThickness rfl rfl rfl (by decide +kernel) ⟨(Nat.le_of_ble_eq_true rfl), (Nat.le_of_ble_eq_true rfl)⟩) (pre_UV hK hP hD [0, 1] (by decide) rfl (ci := 7) (q0 := 0) rfl rfl) rfl rfl hl.1 rfl (lv_room (Nat.le_of_ble_eq_true rfl)) dX7_stirLine_14 ⟨(Nat.le_of_ble_eq_true rfl), (Nat.le_of_ble_eq_true rfl)⟩) hP hD hS hA [0, 1] [] rfl rfl (by decide) (by decide) (fun  u4 H locs p5 hP hD hS => ?_)
    obtain ⟨thicknessG_6, rfl⟩ : ∃ z, z = u4 := ⟨_, rfl⟩
    refine W.widen (k := 0) (n := 0) (Nat.le_of_ble_eq_true rfl) (Nat.le_of_ble_eq_true rfl) ?_
    have hP : va_P (dC, dI) vwCl [(a, .inr (7, [.int (nI 4), .int (nI 4), .int heat, .int cools, .int skinHeat, .int today, .int stirs, .int steps, .int (nI 0), .int (nI 0), .ref thickness, .ref lumpNames, .ref lumpCells, .ref boatNames, .ref boatCells, .ref loads, .ref spoons, .ref spoonsLeft, .ref depths])), (thickness, .inl (ky 0, 36, .inl thicknessG_6))] H := hP
    have hD : va_D A [(a, .inr (7, [.int (nI 4), .int (nI 4), .int heat, .int cools, .int skinHeat, .int today, .int stirs, .int steps, .int (nI 0), .int (nI 0), .ref thickness, .ref lumpNames, .ref lumpCells, .ref boatNames, .ref boatCells, .ref loads, .ref spoons, .ref spoonsLeft, .ref depths])), (thickness, .inl (ky 0, 36, .inl thicknessG_6))] := hD
    refine lv_iconst (v := nI 0) hx hb dX7_stirLine_17 (by decide) ?_
    refine lv_istore (lv' := [(4, .int (nI 0)), (0, .ref a), (1, .int (nI 0)), (2, .int (nI n)), (3, .int (nI 0))]) hx hb dX7_stirLine_18 hl (by decide) rfl (fun ls hl => ?_)
    refine lv_iload hx hb dX7_stirLine_20 (lv_at hl 0 rfl) ?_
    refine lv_aload_n hx hb dX7_stirLine_22 rfl (lv_at hl 1 rfl) ?_
    refine va_get (D := (dC, dI)) (ci := 7) (v := .int (nI 0)) (C := RX7) (T := TX7) (N := 19) hx hb hts hin7 hown hK hP 0 rfl rfl 8 (by decide) (hts (.fieldLink RX7 68 "PorridgeSea$Sea" "lumps" "I") (List.mem_of_getElem? (i := 1) rfl)) (fun _ h9 => h9) rfl dX7_stirLine_23 ?_
    refine lv_icmp_ge (tgt := 56) hx hb dX7_stirLine_26 (by decide) (fun c7 => ?_) (fun c7 => absurd (by decide) c7)
    refine lv_iconst (v := nI 0) hx hb dX7_stirLine_56 (by decide) ?_
    refine lv_istore (lv' := [(4, .int (nI 0)), (0, .ref a), (1, .int (nI 0)), (2, .int (nI n)), (3, .int (nI 0))]) hx hb dX7_stirLine_57 hl (by decide) rfl (fun ls hl => ?_)
    refine lv_iload hx hb dX7_stirLine_59 (lv_at hl 0 rfl) ?_
    refine lv_aload_n hx hb dX7_stirLine_61 rfl (lv_at hl 1 rfl) ?_
    refine va_get (D := (dC, dI)) (ci := 7) (v := .int (nI 0)) (C := RX7) (T := TX7) (N := 19) hx hb hts hin7 hown hK hP 0 rfl rfl 9 (by decide) (hts (.fieldLink RX7 71 "PorridgeSea$Sea" "boats" "I") (List.mem_of_getElem? (i := 3) rfl)) (fun _ h9 => h9) rfl dX7_stirLine_62 ?_
    refine lv_icmp_ge (tgt := 104) hx hb dX7_stirLine_65 (by decide) (fun c8 => ?_) (fun c8 => absurd (by decide) c8)
    refine lv_aload_n hx hb dX7_stirLine_104 rfl (lv_at hl 1 rfl) ?_
    refine lv_dup hx hb dX7_stirLine_105 rfl ?_
    refine va_get (D := (dC, dI)) (ci := 7) (v := .int stirs) (C := RX7) (T := TX7) (N := 19) hx hb hts hin7 hown hK hP 0 rfl rfl 6 (by decide) (hts (.fieldLink RX7 62 "PorridgeSea$Sea" "stirs" "I") (List.mem_of_getElem? (i := 5) rfl)) (fun _ h9 => h9) rfl dX7_stirLine_106 ?_
    refine lv_iconst (v := nI 1) hx hb dX7_stirLine_109 (by decide) ?_
    refine lv_iadd hx hb dX7_stirLine_110 ?_
    refine lv_topi (fun y9 e10 => ?_)
    refine va_put (D := (dC, dI)) (ci := 7) (v := .int y9) (ty := .int) (C := RX7) (T := TX7) (N := 19) hx hb hts hin7 tyX7 tyX7_ok nmX7 hown hK hP hD hS 0 rfl rfl 6 (by decide) (hts (.fieldLink RX7 62 "PorridgeSea$Sea" "stirs" "I") (List.mem_of_getElem? (i := 5) rfl)) (fun _ h9 => h9) rfl (by decide +kernel) rfl rfl (Nat.le_of_ble_eq_true rfl) dX7_stirLine_111 (fun H locs hP hD hS => ?_)
    have hP : va_P (dC, dI) vwCl [(a, .inr (7, [.int (nI 4), .int (nI 4), .int heat, .int cools, .int skinHeat, .int today, .int y9, .int steps, .int (nI 0), .int (nI 0), .ref thickness, .ref lumpNames, .ref lumpCells, .ref boatNames, .ref boatCells, .ref loads, .ref spoons, .ref spoonsLeft, .ref depths])), (thickness, .inl (ky 0, 36, .inl thicknessG_6))] H := hP
    have hD : va_D A [(a, .inr (7, [.int (nI 4), .int (nI 4), .int heat, .int cools, .int skinHeat, .int today, .int y9, .int steps, .int (nI 0), .int (nI 0), .ref thickness, .ref lumpNames, .ref lumpCells, .ref boatNames, .ref boatCells, .ref loads, .ref spoons, .ref spoonsLeft, .ref depths])), (thickness, .inl (ky 0, 36, .inl thicknessG_6))] := hD
    have hP9 := hP.sub (ws' := [(a, .inr (7, [.int (nI 4), .int (nI 4), .int heat, .int cools, .int skinHeat, .int today, .int y9, .int steps, .int (nI 0), .int (nI 0), .ref thickness, .ref lumpNames, .ref lumpCells, .ref boatNames, .ref boatCells, .ref loads, .ref spoons, .ref spoonsLeft, .ref depths])), (thickness, .inl (ky 0, 36, .inl thicknessG_6))]) [0, 1] rfl
    have hD9 := hD.sub (ws' := [(a, .inr (7, [.int (nI 4), .int (nI 4), .int heat, .int cools, .int skinHeat, .int today, .int y9, .int steps, .int (nI 0), .int (nI 0), .ref thickness, .ref lumpNames, .ref lumpCells, .ref boatNames, .ref boatCells, .ref loads, .ref spoons, .ref spoonsLeft, .ref depths])), (thickness, .inl (ky 0, 36, .inl thicknessG_6))]) [0, 1] (by decide) rfl
    refine W.widen (k := 0) (n := 0) (Nat.le_of_ble_eq_true rfl) (Nat.le_of_ble_eq_true rfl) ?_
    exact W.vret hx hb hr (fun t ht9 hW9 => ⟨⟨(y9, thicknessG_6), rfl, trivial, by rw [ht9]; exact hP9, va_K.moved hW9.alike hK, hD9⟩, hS.F ht9⟩) hS.2.2 dX7_stirLine_114
  · have hP9 := hP.sub (ws' := [(a, .inr (7, [.int (nI 4), .int (nI 4), .int heat, .int cools, .int skinHeat, .int today, .int stirs, .int steps, .int (nI 0), .int (nI 0), .ref thickness, .ref lumpNames, .ref lumpCells, .ref boatNames, .ref boatCells, .ref loads, .ref spoons, .ref spoonsLeft, .ref depths])), (thickness, .inl (ky 0, 36, .inl thicknessF))]) [0, 1] rfl
    have hD9 := hD.sub (ws' := [(a, .inr (7, [.int (nI 4), .int (nI 4), .int heat, .int cools, .int skinHeat, .int today, .int stirs, .int steps, .int (nI 0), .int (nI 0), .ref thickness, .ref lumpNames, .ref lumpCells, .ref boatNames, .ref boatCells, .ref loads, .ref spoons, .ref spoonsLeft, .ref depths])), (thickness, .inl (ky 0, 36, .inl thicknessF))]) [0, 1] (by decide) rfl
    refine W.widen (k := 0) (n := 0) (Nat.le_of_ble_eq_true rfl) (Nat.le_of_ble_eq_true rfl) ?_
    exact W.vret hx hb hr (fun t ht9 hW9 => ⟨⟨(stirs, thicknessF), rfl, trivial, by rw [ht9]; exact hP9, va_K.moved hW9.alike hK, hD9⟩, hS.F ht9⟩) hS.2.2 dX7_stirLine_9
set_option maxHeartbeats 4000000 in
set_option maxRecDepth 100000 in
theorem c_stirThickness01 (l : Launch) (dC : Nat → ClassId) (dI : Nat → Nat → Nat) (ky : Nat → ClassId) (sz : Nat) (a : Nat) (heat : Int32) (cools : Int32) (skinHeat : Int32) (today : Int32) (stirs : Int32) (steps : Int32) (thickness : Nat) (lumpNames : Nat) (lumpCells : Nat) (boatNames : Nat) (boatCells : Nat) (loads : Nat) (spoons : Nat) (spoonsLeft : Nat) (depths : Nat) (thicknessF : Nat → Int32) (n : Nat) (hn : n < 4) : Met l yX7_stirThickness wsX7_stirThickness ({ frames := 0, cells := 0, slots := 0, locals := 0 }) (PcU dC dI ky [.ref a, .int (nI 0), .int (nI n), .int (nI 1)] [(a, .inr (7, [.int (nI 4), .int (nI 4), .int heat, .int cools, .int skinHeat, .int today, .int stirs, .int steps, .int (nI 0), .int (nI 0), .ref thickness, .ref lumpNames, .ref lumpCells, .ref boatNames, .ref boatCells, .ref loads, .ref spoons, .ref spoonsLeft, .ref depths])), (thickness, .inl (ky 0, 36, .inl thicknessF))] sz) (va_Qv (fun (thicknessG : (Nat → Int32)) => True) (BU dC dI ky (fun (thicknessG : (Nat → Int32)) => [(a, .inr (7, [.int (nI 4), .int (nI 4), .int heat, .int cools, .int skinHeat, .int today, .int stirs, .int steps, .int (nI 0), .int (nI 0), .ref thickness, .ref lumpNames, .ref lumpCells, .ref boatNames, .ref boatCells, .ref loads, .ref spoons, .ref spoonsLeft, .ref depths])), (thickness, .inl (ky 0, 36, .inl thicknessG))]) (va_A [(a, .inr (7, [.int (nI 4), .int (nI 4), .int heat, .int cools, .int skinHeat, .int today, .int stirs, .int steps, .int (nI 0), .int (nI 0), .ref thickness, .ref lumpNames, .ref lumpCells, .ref boatNames, .ref boatCells, .ref loads, .ref spoons, .ref spoonsLeft, .ref depths])), (thickness, .inl (ky 0, 36, .inl thicknessF))] sz)) (va_A [(a, .inr (7, [.int (nI 4), .int (nI 4), .int heat, .int cools, .int skinHeat, .int today, .int stirs, .int steps, .int (nI 0), .int (nI 0), .ref thickness, .ref lumpNames, .ref lumpCells, .ref boatNames, .ref boatCells, .ref loads, .ref spoons, .ref spoonsLeft, .ref depths])), (thickness, .inl (ky 0, 36, .inl thicknessF))] sz)) 0 0 (va_A [(a, .inr (7, [.int (nI 4), .int (nI 4), .int heat, .int cools, .int skinHeat, .int today, .int stirs, .int steps, .int (nI 0), .int (nI 0), .ref thickness, .ref lumpNames, .ref lumpCells, .ref boatNames, .ref boatCells, .ref loads, .ref spoons, .ref spoonsLeft, .ref depths])), (thickness, .inl (ky 0, 36, .inl thicknessF))] sz) := by
  refine Met.ofW (cc := cX7_stirThickness) (maxL := 11) (ret := none) (by decide) rfl ?_
  intro p e s m args below meth c s₁ B hml hv
  obtain ⟨rfl, hsz, hP, hK, hD0⟩ := hv
  have hx := B.exec
  have hb := B.bytes
  have hr := B.returns
  have hts := atoms_spec (ws := wsX7_stirThickness) B.pre
  have hown : s.vm.findClass RX7 = some m.cls := findClass_of_methodNamed B.named
  have hlocks := B.notSynchronized
  have hin7 : ∀ w ∈ u_ws RX7 TX7 19, w ∈ wsX7_stirThickness := by decide +kernel
  subst hsz
  have hD := hD0.self (sz := s.heap.size)
  generalize hAe : va_A [(a, .inr (7, [.int (nI 4), .int (nI 4), .int heat, .int cools, .int skinHeat, .int today, .int stirs, .int steps, .int (nI 0), .int (nI 0), .ref thickness, .ref lumpNames, .ref lumpCells, .ref boatNames, .ref boatCells, .ref loads, .ref spoons, .ref spoonsLeft, .ref depths])), (thickness, .inl (ky 0, 36, .inl thicknessF))] s.heap.size = A at hD ⊢
  have hA : ∀ q : Nat, s.heap.size ≤ q → A q := fun q h => by rw [← hAe]; exact Or.inr h
  have hS : va_S A s.heap s.heap [] := va_S.rf
  have hP : va_P (dC, dI) vwCl [(a, .inr (7, [.int (nI 4), .int (nI 4), .int heat, .int cools, .int skinHeat, .int today, .int stirs, .int steps, .int (nI 0), .int (nI 0), .ref thickness, .ref lumpNames, .ref lumpCells, .ref boatNames, .ref boatCells, .ref loads, .ref spoons, .ref spoonsLeft, .ref depths])), (thickness, .inl (ky 0, 36, .inl thicknessF))] s.heap := hP
  have hl := lv_entry ([.ref a, .int (nI 0), .int (nI n), .int (nI 1)]) (n := 11) (Nat.le_of_ble_eq_true rfl)
  rw [lg_entry_eq]
  generalize (lg_sl ([.ref a, .int (nI 0), .int (nI n), .int (nI 1)]) ++ List.replicate (11 - (lg_sl ([.ref a, .int (nI 0), .int (nI n), .int (nI 1)])).length) Slot.unset).toArray = ls at hl ⊢
  have hl : lv_has ls 11 [(0, .ref a), (1, .int (nI 0)), (2, .int (nI n)), (3, .int (nI 1))] := hl
  have hH0 : True := trivial
  refine lv_iload_n hx hb dX7_stirThickness_0 rfl (lv_at hl 1 rfl) ?_
  refine lv_iconst (v := nI 1) hx hb dX7_stirThickness_1 (by decide) ?_
  refine lv_icmp_ne (tgt := 12) hx hb dX7_stirThickness_2 (by decide) (fun c1 => ?_) (fun c1 => absurd c1 (by decide))
  refine lv_aload_n hx hb dX7_stirThickness_12 rfl (lv_at hl 0 rfl) ?_
  refine va_get (D := (dC, dI)) (ci := 7) (v := .int (nI 4)) (C := RX7) (T := TX7) (N := 19) hx hb hts hin7 hown hK hP 0 rfl rfl 0 (by decide) (hts (.fieldLink RX7 43 "PorridgeSea$Sea" "wide" "I") (List.mem_of_getElem? (i := 2) rfl)) (fun _ h9 => h9) rfl dX7_stirThickness_13 ?_
  refine lv_istore (lv' := [(4, .int (nI 4)), (0, .ref a), (1, .int (nI 0)), (2, .int (nI n)), (3, .int (nI 1))]) hx hb dX7_stirThickness_16 hl (by decide) rfl (fun ls hl => ?_)
  refine lv_iload_n hx hb dX7_stirThickness_18 rfl (lv_at hl 2 rfl) ?_
  refine lv_iconst (v := nI 1) hx hb dX7_stirThickness_19 (by decide) ?_
  refine lv_icmp_ne (tgt := 27) hx hb dX7_stirThickness_20 (by decide) (fun c2 => ?_) (fun c2 => absurd c2 (by decide))
  refine lv_bipush (v := nI 6) hx hb dX7_stirThickness_27 (by decide) ?_
  refine lv_iload_n hx hb dX7_stirThickness_29 rfl (lv_at hl 3 rfl) ?_
  refine lv_imul hx hb dX7_stirThickness_30 ?_
  refine r_ti (nI (6 * n)) (pk_mul _ _) ?_
  refine lv_istore (lv' := [(5, .int (nI (6 * n))), (4, .int (nI 4)), (0, .ref a), (1, .int (nI 0)), (2, .int (nI n)), (3, .int (nI 1))]) hx hb dX7_stirThickness_31 hl (by decide) rfl (fun ls hl => ?_)
  refine lv_iload_n hx hb dX7_stirThickness_33 rfl (lv_at hl 3 rfl) ?_
  refine lv_iconst (v := nI 1) hx hb dX7_stirThickness_34 (by decide) ?_
  refine lv_icmp_ne (tgt := 43) hx hb dX7_stirThickness_35 (by decide) (fun c3 => ?_) (fun c3 => absurd c3 (by decide))
  refine lv_iconst (v := nI 1) hx hb dX7_stirThickness_43 (by decide) ?_
  refine lv_istore (lv' := [(6, .int (nI 1)), (5, .int (nI (6 * n))), (4, .int (nI 4)), (0, .ref a), (1, .int (nI 0)), (2, .int (nI n)), (3, .int (nI 1))]) hx hb dX7_stirThickness_44 hl (by decide) rfl (fun ls hl => ?_)
  refine lv_iconst (v := nI 1) hx hb dX7_stirThickness_46 (by decide) ?_
  refine lv_istore (lv' := [(7, .int (nI 1)), (6, .int (nI 1)), (5, .int (nI (6 * n))), (4, .int (nI 4)), (0, .ref a), (1, .int (nI 0)), (2, .int (nI n)), (3, .int (nI 1))]) hx hb dX7_stirThickness_47 hl (by decide) rfl (fun ls hl => ?_)
  refine lv_iload hx hb dX7_stirThickness_49 (lv_at hl 0 rfl) ?_
  refine lv_iload hx hb dX7_stirThickness_51 (lv_at hl 3 rfl) ?_
  refine lv_icmp_ge (tgt := 136) hx hb dX7_stirThickness_53 (by decide) (fun c4 => absurd c4 (by decide)) (fun c4 => ?_)
  refine lv_iload hx hb dX7_stirThickness_56 (lv_at hl 2 rfl) ?_
  refine lv_iload hx hb dX7_stirThickness_58 (lv_at hl 1 rfl) ?_
  refine lv_iload_n hx hb dX7_stirThickness_60 rfl (lv_at hl 7 rfl) ?_
  refine lv_iconst (v := nI 1) hx hb dX7_stirThickness_61 (by decide) ?_
  refine lv_icmp_ne (tgt := 70) hx hb dX7_stirThickness_62 (by decide) (fun c5 => absurd c5 (by decide)) (fun c5 => ?_)
  refine lv_iload hx hb dX7_stirThickness_65 (lv_at hl 0 rfl) ?_
  refine lv_goto (tgt := 75) hx hb dX7_stirThickness_67 (by decide) ?_
  refine lv_imul hx hb dX7_stirThickness_75 ?_
  refine r_ti (nI 1) (by decide) ?_
  refine lv_iadd hx hb dX7_stirThickness_76 ?_
  refine r_ti (nI ((6 * n) + 1)) (nI_add _ _) ?_
  refine lv_istore (lv' := [(8, .int (nI ((6 * n) + 1))), (7, .int (nI 1)), (6, .int (nI 1)), (5, .int (nI (6 * n))), (4, .int (nI 4)), (0, .ref a), (1, .int (nI 0)), (2, .int (nI n)), (3, .int (nI 1))]) hx hb dX7_stirThickness_77 hl (by decide) rfl (fun ls hl => ?_)
  refine lv_iload hx hb dX7_stirThickness_79 (lv_at hl 0 rfl) ?_
  refine lv_iload hx hb dX7_stirThickness_81 (lv_at hl 2 rfl) ?_
  refine lv_isub hx hb dX7_stirThickness_83 ?_
  refine r_ti (nI (((6 * n) + 1) - 1)) (pk_sub (by omega)) ?_
  refine lv_istore (lv' := [(9, .int (nI (((6 * n) + 1) - 1))), (8, .int (nI ((6 * n) + 1))), (7, .int (nI 1)), (6, .int (nI 1)), (5, .int (nI (6 * n))), (4, .int (nI 4)), (0, .ref a), (1, .int (nI 0)), (2, .int (nI n)), (3, .int (nI 1))]) hx hb dX7_stirThickness_84 hl (by decide) rfl (fun ls hl => ?_)
  refine lv_iload hx hb dX7_stirThickness_86 (lv_at hl 0 rfl) ?_
  refine n_if_lt (x := (((6 * n) + 1) - 1)) (tgt := 130) hx hb (by omega) dX7_stirThickness_88 (by decide) (fun c6 => c6.elim) (fun c6 => ?_)
  refine lv_iload hx hb dX7_stirThickness_91 (lv_at hl 1 rfl) ?_
  refine lv_bipush (v := nI 36) hx hb dX7_stirThickness_93 (by decide) ?_
  refine n_icmp_ge (x := ((6 * n) + 1)) (y := 36) (tgt := 130) hx hb (by omega) (by omega) dX7_stirThickness_95 (by decide) (fun c7 => by exfalso; omega) (fun c7 => ?_)
  refine lv_aload_n hx hb dX7_stirThickness_98 rfl (lv_at hl 6 rfl) ?_
  refine va_get (D := (dC, dI)) (ci := 7) (v := .ref thickness) (C := RX7) (T := TX7) (N := 19) hx hb hts hin7 hown hK hP 0 rfl rfl 10 (by decide) (hts (.fieldLink RX7 9 "PorridgeSea$Sea" "thickness" "[I") (List.mem_of_getElem? (i := 3) rfl)) (fun _ h9 => h9) rfl dX7_stirThickness_99 ?_
  refine lv_iload hx hb dX7_stirThickness_102 (lv_at hl 1 rfl) ?_
  obtain ⟨y8, e9⟩ : ∃ z9, z9 = thicknessF ((6 * n) + 1) := ⟨_, rfl⟩
  refine r_iald hx hb hK hP 1 rfl ((6 * n) + 1) (by omega) (by decide) y8 e9.symm dX7_stirThickness_104 ?_
  refine lv_istore (lv' := [(10, .int y8), (9, .int (nI (((6 * n) + 1) - 1))), (8, .int (nI ((6 * n) + 1))), (7, .int (nI 1)), (6, .int (nI 1)), (5, .int (nI (6 * n))), (4, .int (nI 4)), (0, .ref a), (1, .int (nI 0)), (2, .int (nI n)), (3, .int (nI 1))]) hx hb dX7_stirThickness_105 hl (by decide) rfl (fun ls hl => ?_)
  refine lv_aload_n hx hb dX7_stirThickness_107 rfl (lv_at hl 7 rfl) ?_
  refine va_get (D := (dC, dI)) (ci := 7) (v := .ref thickness) (C := RX7) (T := TX7) (N := 19) hx hb hts hin7 hown hK hP 0 rfl rfl 10 (by decide) (hts (.fieldLink RX7 9 "PorridgeSea$Sea" "thickness" "[I") (List.mem_of_getElem? (i := 3) rfl)) (fun _ h9 => h9) rfl dX7_stirThickness_108 ?_
  refine lv_iload hx hb dX7_stirThickness_111 (lv_at hl 2 rfl) ?_
  refine lv_aload_n hx hb dX7_stirThickness_113 rfl (lv_at hl 7 rfl) ?_
  refine va_get (D := (dC, dI)) (ci := 7) (v := .ref thickness) (C := RX7) (T := TX7) (N := 19) hx hb hts hin7 hown hK hP 0 rfl rfl 10 (by decide) (hts (.fieldLink RX7 9 "PorridgeSea$Sea" "thickness" "[I") (List.mem_of_getElem? (i := 3) rfl)) (fun _ h9 => h9) rfl dX7_stirThickness_114 ?_
  refine lv_iload hx hb dX7_stirThickness_117 (lv_at hl 1 rfl) ?_
  obtain ⟨y10, e11⟩ : ∃ z9, z9 = thicknessF (((6 * n) + 1) - 1) := ⟨_, rfl⟩
  refine r_iald hx hb hK hP 1 rfl (((6 * n) + 1) - 1) (by omega) (by decide) y10 e11.symm dX7_stirThickness_119 ?_
  refine r_iast (x := y10) hx hb hK hP hD hS 1 rfl ((6 * n) + 1) (by omega) (by decide) dX7_stirThickness_120 (fun H locs hP hD hS => ?_)
  obtain ⟨g12, e13⟩ : ∃ z9, z9 = upd thicknessF ((6 * n) + 1) y10 := ⟨_, rfl⟩
  rw [← e13] at hP hD
  have hP : va_P (dC, dI) vwCl [(a, .inr (7, [.int (nI 4), .int (nI 4), .int heat, .int cools, .int skinHeat, .int today, .int stirs, .int steps, .int (nI 0), .int (nI 0), .ref thickness, .ref lumpNames, .ref lumpCells, .ref boatNames, .ref boatCells, .ref loads, .ref spoons, .ref spoonsLeft, .ref depths])), (thickness, .inl (ky 0, 36, .inl g12))] H := hP
  have hD : va_D A [(a, .inr (7, [.int (nI 4), .int (nI 4), .int heat, .int cools, .int skinHeat, .int today, .int stirs, .int steps, .int (nI 0), .int (nI 0), .ref thickness, .ref lumpNames, .ref lumpCells, .ref boatNames, .ref boatCells, .ref loads, .ref spoons, .ref spoonsLeft, .ref depths])), (thickness, .inl (ky 0, 36, .inl g12))] := hD
  refine lv_aload_n hx hb dX7_stirThickness_121 rfl (lv_at hl 7 rfl) ?_
  refine va_get (D := (dC, dI)) (ci := 7) (v := .ref thickness) (C := RX7) (T := TX7) (N := 19) hx hb hts hin7 hown hK hP 0 rfl rfl 10 (by decide) (hts (.fieldLink RX7 9 "PorridgeSea$Sea" "thickness" "[I") (List.mem_of_getElem? (i := 3) rfl)) (fun _ h9 => h9) rfl dX7_stirThickness_122 ?_
  refine lv_iload hx hb dX7_stirThickness_125 (lv_at hl 1 rfl) ?_
  refine lv_iload hx hb dX7_stirThickness_127 (lv_at hl 0 rfl) ?_
  refine r_iast (x := y8) hx hb hK hP hD hS 1 rfl (((6 * n) + 1) - 1) (by omega) (by decide) dX7_stirThickness_129 (fun H locs hP hD hS => ?_)
  obtain ⟨g14, e15⟩ : ∃ z9, z9 = upd g12 (((6 * n) + 1) - 1) y8 := ⟨_, rfl⟩
  rw [← e15] at hP hD
  have hP : va_P (dC, dI) vwCl [(a, .inr (7, [.int (nI 4), .int (nI 4), .int heat, .int cools, .int skinHeat, .int today, .int stirs, .int steps, .int (nI 0), .int (nI 0), .ref thickness, .ref lumpNames, .ref lumpCells, .ref boatNames, .ref boatCells, .ref loads, .ref spoons, .ref spoonsLeft, .ref depths])), (thickness, .inl (ky 0, 36, .inl g14))] H := hP
  have hD : va_D A [(a, .inr (7, [.int (nI 4), .int (nI 4), .int heat, .int cools, .int skinHeat, .int today, .int stirs, .int steps, .int (nI 0), .int (nI 0), .ref thickness, .ref lumpNames, .ref lumpCells, .ref boatNames, .ref boatCells, .ref loads, .ref spoons, .ref spoonsLeft, .ref depths])), (thickness, .inl (ky 0, 36, .inl g14))] := hD
  refine lv_iinc (v := nI 2) (lv' := [(7, .int (nI 2)), (10, .int y8), (9, .int (nI (((6 * n) + 1) - 1))), (8, .int (nI ((6 * n) + 1))), (6, .int (nI 1)), (5, .int (nI (6 * n))), (4, .int (nI 4)), (0, .ref a), (1, .int (nI 0)), (2, .int (nI n)), (3, .int (nI 1))]) hx hb dX7_stirThickness_130 hl (k := 3) rfl (by decide) (by decide) rfl (fun ls hl => ?_)
  refine lv_goto (tgt := 49) hx hb dX7_stirThickness_133 (by decide) ?_
  refine lv_iload hx hb dX7_stirThickness_49 (lv_at hl 0 rfl) ?_
  refine lv_iload hx hb dX7_stirThickness_51 (lv_at hl 6 rfl) ?_
  refine lv_icmp_ge (tgt := 136) hx hb dX7_stirThickness_53 (by decide) (fun c16 => absurd c16 (by decide)) (fun c16 => ?_)
  refine lv_iload hx hb dX7_stirThickness_56 (lv_at hl 5 rfl) ?_
  refine lv_iload hx hb dX7_stirThickness_58 (lv_at hl 4 rfl) ?_
  refine lv_iload_n hx hb dX7_stirThickness_60 rfl (lv_at hl 10 rfl) ?_
  refine lv_iconst (v := nI 1) hx hb dX7_stirThickness_61 (by decide) ?_
  refine lv_icmp_ne (tgt := 70) hx hb dX7_stirThickness_62 (by decide) (fun c17 => absurd c17 (by decide)) (fun c17 => ?_)
  refine lv_iload hx hb dX7_stirThickness_65 (lv_at hl 0 rfl) ?_
  refine lv_goto (tgt := 75) hx hb dX7_stirThickness_67 (by decide) ?_
  refine lv_imul hx hb dX7_stirThickness_75 ?_
  refine r_ti (nI 2) (by decide) ?_
  refine lv_iadd hx hb dX7_stirThickness_76 ?_
  refine r_ti (nI ((6 * n) + 2)) (nI_add _ _) ?_
  refine lv_istore (lv' := [(8, .int (nI ((6 * n) + 2))), (7, .int (nI 2)), (10, .int y8), (9, .int (nI (((6 * n) + 1) - 1))), (6, .int (nI 1)), (5, .int (nI (6 * n))), (4, .int (nI 4)), (0, .ref a), (1, .int (nI 0)), (2, .int (nI n)), (3, .int (nI 1))]) hx hb dX7_stirThickness_77 hl (by decide) rfl (fun ls hl => ?_)
  refine lv_iload hx hb dX7_stirThickness_79 (lv_at hl 0 rfl) ?_
  refine lv_iload hx hb dX7_stirThickness_81 (lv_at hl 4 rfl) ?_
  refine lv_isub hx hb dX7_stirThickness_83 ?_
  refine r_ti (nI (((6 * n) + 2) - 1)) (pk_sub (by omega)) ?_
  refine lv_istore (lv' := [(9, .int (nI (((6 * n) + 2) - 1))), (8, .int (nI ((6 * n) + 2))), (7, .int (nI 2)), (10, .int y8), (6, .int (nI 1)), (5, .int (nI (6 * n))), (4, .int (nI 4)), (0, .ref a), (1, .int (nI 0)), (2, .int (nI n)), (3, .int (nI 1))]) hx hb dX7_stirThickness_84 hl (by decide) rfl (fun ls hl => ?_)
  refine lv_iload hx hb dX7_stirThickness_86 (lv_at hl 0 rfl) ?_
  refine n_if_lt (x := (((6 * n) + 2) - 1)) (tgt := 130) hx hb (by omega) dX7_stirThickness_88 (by decide) (fun c18 => c18.elim) (fun c18 => ?_)
  refine lv_iload hx hb dX7_stirThickness_91 (lv_at hl 1 rfl) ?_
  refine lv_bipush (v := nI 36) hx hb dX7_stirThickness_93 (by decide) ?_
  refine n_icmp_ge (x := ((6 * n) + 2)) (y := 36) (tgt := 130) hx hb (by omega) (by omega) dX7_stirThickness_95 (by decide) (fun c19 => by exfalso; omega) (fun c19 => ?_)
  refine lv_aload_n hx hb dX7_stirThickness_98 rfl (lv_at hl 7 rfl) ?_
  refine va_get (D := (dC, dI)) (ci := 7) (v := .ref thickness) (C := RX7) (T := TX7) (N := 19) hx hb hts hin7 hown hK hP 0 rfl rfl 10 (by decide) (hts (.fieldLink RX7 9 "PorridgeSea$Sea" "thickness" "[I") (List.mem_of_getElem? (i := 3) rfl)) (fun _ h9 => h9) rfl dX7_stirThickness_99 ?_
  refine lv_iload hx hb dX7_stirThickness_102 (lv_at hl 1 rfl) ?_
  obtain ⟨y20, e21⟩ : ∃ z9, z9 = g14 ((6 * n) + 2) := ⟨_, rfl⟩
  refine r_iald hx hb hK hP 1 rfl ((6 * n) + 2) (by omega) (by decide) y20 e21.symm dX7_stirThickness_104 ?_
  refine lv_istore (lv' := [(10, .int y20), (9, .int (nI (((6 * n) + 2) - 1))), (8, .int (nI ((6 * n) + 2))), (7, .int (nI 2)), (6, .int (nI 1)), (5, .int (nI (6 * n))), (4, .int (nI 4)), (0, .ref a), (1, .int (nI 0)), (2, .int (nI n)), (3, .int (nI 1))]) hx hb dX7_stirThickness_105 hl (by decide) rfl (fun ls hl => ?_)
  refine lv_aload_n hx hb dX7_stirThickness_107 rfl (lv_at hl 7 rfl) ?_
  refine va_get (D := (dC, dI)) (ci := 7) (v := .ref thickness) (C := RX7) (T := TX7) (N := 19) hx hb hts hin7 hown hK hP 0 rfl rfl 10 (by decide) (hts (.fieldLink RX7 9 "PorridgeSea$Sea" "thickness" "[I") (List.mem_of_getElem? (i := 3) rfl)) (fun _ h9 => h9) rfl dX7_stirThickness_108 ?_
  refine lv_iload hx hb dX7_stirThickness_111 (lv_at hl 2 rfl) ?_
  refine lv_aload_n hx hb dX7_stirThickness_113 rfl (lv_at hl 7 rfl) ?_
  refine va_get (D := (dC, dI)) (ci := 7) (v := .ref thickness) (C := RX7) (T := TX7) (N := 19) hx hb hts hin7 hown hK hP 0 rfl rfl 10 (by decide) (hts (.fieldLink RX7 9 "PorridgeSea$Sea" "thickness" "[I") (List.mem_of_getElem? (i := 3) rfl)) (fun _ h9 => h9) rfl dX7_stirThickness_114 ?_
  refine lv_iload hx hb dX7_stirThickness_117 (lv_at hl 1 rfl) ?_
  obtain ⟨y22, e23⟩ : ∃ z9, z9 = g14 (((6 * n) + 2) - 1) := ⟨_, rfl⟩
  refine r_iald hx hb hK hP 1 rfl (((6 * n) + 2) - 1) (by omega) (by decide) y22 e23.symm dX7_stirThickness_119 ?_
  refine r_iast (x := y22) hx hb hK hP hD hS 1 rfl ((6 * n) + 2) (by omega) (by decide) dX7_stirThickness_120 (fun H locs hP hD hS => ?_)
  obtain ⟨g24, e25⟩ : ∃ z9, z9 = upd g14 ((6 * n) + 2) y22 := ⟨_, rfl⟩
  rw [← e25] at hP hD
  have hP : va_P (dC, dI) vwCl [(a, .inr (7, [.int (nI 4), .int (nI 4), .int heat, .int cools, .int skinHeat, .int today, .int stirs, .int steps, .int (nI 0), .int (nI 0), .ref thickness, .ref lumpNames, .ref lumpCells, .ref boatNames, .ref boatCells, .ref loads, .ref spoons, .ref spoonsLeft, .ref depths])), (thickness, .inl (ky 0, 36, .inl g24))] H := hP
  have hD : va_D A [(a, .inr (7, [.int (nI 4), .int (nI 4), .int heat, .int cools, .int skinHeat, .int today, .int stirs, .int steps, .int (nI 0), .int (nI 0), .ref thickness, .ref lumpNames, .ref lumpCells, .ref boatNames, .ref boatCells, .ref loads, .ref spoons, .ref spoonsLeft, .ref depths])), (thickness, .inl (ky 0, 36, .inl g24))] := hD
  refine lv_aload_n hx hb dX7_stirThickness_121 rfl (lv_at hl 7 rfl) ?_
  refine va_get (D := (dC, dI)) (ci := 7) (v := .ref thickness) (C := RX7) (T := TX7) (N := 19) hx hb hts hin7 hown hK hP 0 rfl rfl 10 (by decide) (hts (.fieldLink RX7 9 "PorridgeSea$Sea" "thickness" "[I") (List.mem_of_getElem? (i := 3) rfl)) (fun _ h9 => h9) rfl dX7_stirThickness_122 ?_
  refine lv_iload hx hb dX7_stirThickness_125 (lv_at hl 1 rfl) ?_
  refine lv_iload hx hb dX7_stirThickness_127 (lv_at hl 0 rfl) ?_
  refine r_iast (x := y20) hx hb hK hP hD hS 1 rfl (((6 * n) + 2) - 1) (by omega) (by decide) dX7_stirThickness_129 (fun H locs hP hD hS => ?_)
  obtain ⟨g26, e27⟩ : ∃ z9, z9 = upd g24 (((6 * n) + 2) - 1) y20 := ⟨_, rfl⟩
  rw [← e27] at hP hD
  have hP : va_P (dC, dI) vwCl [(a, .inr (7, [.int (nI 4), .int (nI 4), .int heat, .int cools, .int skinHeat, .int today, .int stirs, .int steps, .int (nI 0), .int (nI 0), .ref thickness, .ref lumpNames, .ref lumpCells, .ref boatNames, .ref boatCells, .ref loads, .ref spoons, .ref spoonsLeft, .ref depths])), (thickness, .inl (ky 0, 36, .inl g26))] H := hP
  have hD : va_D A [(a, .inr (7, [.int (nI 4), .int (nI 4), .int heat, .int cools, .int skinHeat, .int today, .int stirs, .int steps, .int (nI 0), .int (nI 0), .ref thickness, .ref lumpNames, .ref lumpCells, .ref boatNames, .ref boatCells, .ref loads, .ref spoons, .ref spoonsLeft, .ref depths])), (thickness, .inl (ky 0, 36, .inl g26))] := hD
  refine lv_iinc (v := nI 3) (lv' := [(7, .int (nI 3)), (10, .int y20), (9, .int (nI (((6 * n) + 2) - 1))), (8, .int (nI ((6 * n) + 2))), (6, .int (nI 1)), (5, .int (nI (6 * n))), (4, .int (nI 4)), (0, .ref a), (1, .int (nI 0)), (2, .int (nI n)), (3, .int (nI 1))]) hx hb dX7_stirThickness_130 hl (k := 3) rfl (by decide) (by decide) rfl (fun ls hl => ?_)
  refine lv_goto (tgt := 49) hx hb dX7_stirThickness_133 (by decide) ?_
  refine lv_iload hx hb dX7_stirThickness_49 (lv_at hl 0 rfl) ?_
  refine lv_iload hx hb dX7_stirThickness_51 (lv_at hl 6 rfl) ?_
  refine lv_icmp_ge (tgt := 136) hx hb dX7_stirThickness_53 (by decide) (fun c28 => absurd c28 (by decide)) (fun c28 => ?_)
  refine lv_iload hx hb dX7_stirThickness_56 (lv_at hl 5 rfl) ?_
  refine lv_iload hx hb dX7_stirThickness_58 (lv_at hl 4 rfl) ?_
  refine lv_iload_n hx hb dX7_stirThickness_60 rfl (lv_at hl 10 rfl) ?_
  refine lv_iconst (v := nI 1) hx hb dX7_stirThickness_61 (by decide) ?_
  refine lv_icmp_ne (tgt := 70) hx hb dX7_stirThickness_62 (by decide) (fun c29 => absurd c29 (by decide)) (fun c29 => ?_)
  refine lv_iload hx hb dX7_stirThickness_65 (lv_at hl 0 rfl) ?_
  refine lv_goto (tgt := 75) hx hb dX7_stirThickness_67 (by decide) ?_
  refine lv_imul hx hb dX7_stirThickness_75 ?_
  refine r_ti (nI 3) (by decide) ?_
  refine lv_iadd hx hb dX7_stirThickness_76 ?_
  refine r_ti (nI ((6 * n) + 3)) (nI_add _ _) ?_
  refine lv_istore (lv' := [(8, .int (nI ((6 * n) + 3))), (7, .int (nI 3)), (10, .int y20), (9, .int (nI (((6 * n) + 2) - 1))), (6, .int (nI 1)), (5, .int (nI (6 * n))), (4, .int (nI 4)), (0, .ref a), (1, .int (nI 0)), (2, .int (nI n)), (3, .int (nI 1))]) hx hb dX7_stirThickness_77 hl (by decide) rfl (fun ls hl => ?_)
  refine lv_iload hx hb dX7_stirThickness_79 (lv_at hl 0 rfl) ?_
  refine lv_iload hx hb dX7_stirThickness_81 (lv_at hl 4 rfl) ?_
  refine lv_isub hx hb dX7_stirThickness_83 ?_
  refine r_ti (nI (((6 * n) + 3) - 1)) (pk_sub (by omega)) ?_
  refine lv_istore (lv' := [(9, .int (nI (((6 * n) + 3) - 1))), (8, .int (nI ((6 * n) + 3))), (7, .int (nI 3)), (10, .int y20), (6, .int (nI 1)), (5, .int (nI (6 * n))), (4, .int (nI 4)), (0, .ref a), (1, .int (nI 0)), (2, .int (nI n)), (3, .int (nI 1))]) hx hb dX7_stirThickness_84 hl (by decide) rfl (fun ls hl => ?_)
  refine lv_iload hx hb dX7_stirThickness_86 (lv_at hl 0 rfl) ?_
  refine n_if_lt (x := (((6 * n) + 3) - 1)) (tgt := 130) hx hb (by omega) dX7_stirThickness_88 (by decide) (fun c30 => c30.elim) (fun c30 => ?_)
  refine lv_iload hx hb dX7_stirThickness_91 (lv_at hl 1 rfl) ?_
  refine lv_bipush (v := nI 36) hx hb dX7_stirThickness_93 (by decide) ?_
  refine n_icmp_ge (x := ((6 * n) + 3)) (y := 36) (tgt := 130) hx hb (by omega) (by omega) dX7_stirThickness_95 (by decide) (fun c31 => by exfalso; omega) (fun c31 => ?_)
  refine lv_aload_n hx hb dX7_stirThickness_98 rfl (lv_at hl 7 rfl) ?_
  refine va_get (D := (dC, dI)) (ci := 7) (v := .ref thickness) (C := RX7) (T := TX7) (N := 19) hx hb hts hin7 hown hK hP 0 rfl rfl 10 (by decide) (hts (.fieldLink RX7 9 "PorridgeSea$Sea" "thickness" "[I") (List.mem_of_getElem? (i := 3) rfl)) (fun _ h9 => h9) rfl dX7_stirThickness_99 ?_
  refine lv_iload hx hb dX7_stirThickness_102 (lv_at hl 1 rfl) ?_
  obtain ⟨y32, e33⟩ : ∃ z9, z9 = g26 ((6 * n) + 3) := ⟨_, rfl⟩
  refine r_iald hx hb hK hP 1 rfl ((6 * n) + 3) (by omega) (by decide) y32 e33.symm dX7_stirThickness_104 ?_
  refine lv_istore (lv' := [(10, .int y32), (9, .int (nI (((6 * n) + 3) - 1))), (8, .int (nI ((6 * n) + 3))), (7, .int (nI 3)), (6, .int (nI 1)), (5, .int (nI (6 * n))), (4, .int (nI 4)), (0, .ref a), (1, .int (nI 0)), (2, .int (nI n)), (3, .int (nI 1))]) hx hb dX7_stirThickness_105 hl (by decide) rfl (fun ls hl => ?_)
  refine lv_aload_n hx hb dX7_stirThickness_107 rfl (lv_at hl 7 rfl) ?_
  refine va_get (D := (dC, dI)) (ci := 7) (v := .ref thickness) (C := RX7) (T := TX7) (N := 19) hx hb hts hin7 hown hK hP 0 rfl rfl 10 (by decide) (hts (.fieldLink RX7 9 "PorridgeSea$Sea" "thickness" "[I") (List.mem_of_getElem? (i := 3) rfl)) (fun _ h9 => h9) rfl dX7_stirThickness_108 ?_
  refine lv_iload hx hb dX7_stirThickness_111 (lv_at hl 2 rfl) ?_
  refine lv_aload_n hx hb dX7_stirThickness_113 rfl (lv_at hl 7 rfl) ?_
  refine va_get (D := (dC, dI)) (ci := 7) (v := .ref thickness) (C := RX7) (T := TX7) (N := 19) hx hb hts hin7 hown hK hP 0 rfl rfl 10 (by decide) (hts (.fieldLink RX7 9 "PorridgeSea$Sea" "thickness" "[I") (List.mem_of_getElem? (i := 3) rfl)) (fun _ h9 => h9) rfl dX7_stirThickness_114 ?_
  refine lv_iload hx hb dX7_stirThickness_117 (lv_at hl 1 rfl) ?_
  obtain ⟨y34, e35⟩ : ∃ z9, z9 = g26 (((6 * n) + 3) - 1) := ⟨_, rfl⟩
  refine r_iald hx hb hK hP 1 rfl (((6 * n) + 3) - 1) (by omega) (by decide) y34 e35.symm dX7_stirThickness_119 ?_
  refine r_iast (x := y34) hx hb hK hP hD hS 1 rfl ((6 * n) + 3) (by omega) (by decide) dX7_stirThickness_120 (fun H locs hP hD hS => ?_)
  obtain ⟨g36, e37⟩ : ∃ z9, z9 = upd g26 ((6 * n) + 3) y34 := ⟨_, rfl⟩
  rw [← e37] at hP hD
  have hP : va_P (dC, dI) vwCl [(a, .inr (7, [.int (nI 4), .int (nI 4), .int heat, .int cools, .int skinHeat, .int today, .int stirs, .int steps, .int (nI 0), .int (nI 0), .ref thickness, .ref lumpNames, .ref lumpCells, .ref boatNames, .ref boatCells, .ref loads, .ref spoons, .ref spoonsLeft, .ref depths])), (thickness, .inl (ky 0, 36, .inl g36))] H := hP
  have hD : va_D A [(a, .inr (7, [.int (nI 4), .int (nI 4), .int heat, .int cools, .int skinHeat, .int today, .int stirs, .int steps, .int (nI 0), .int (nI 0), .ref thickness, .ref lumpNames, .ref lumpCells, .ref boatNames, .ref boatCells, .ref loads, .ref spoons, .ref spoonsLeft, .ref depths])), (thickness, .inl (ky 0, 36, .inl g36))] := hD
  refine lv_aload_n hx hb dX7_stirThickness_121 rfl (lv_at hl 7 rfl) ?_
  refine va_get (D := (dC, dI)) (ci := 7) (v := .ref thickness) (C := RX7) (T := TX7) (N := 19) hx hb hts hin7 hown hK hP 0 rfl rfl 10 (by decide) (hts (.fieldLink RX7 9 "PorridgeSea$Sea" "thickness" "[I") (List.mem_of_getElem? (i := 3) rfl)) (fun _ h9 => h9) rfl dX7_stirThickness_122 ?_
  refine lv_iload hx hb dX7_stirThickness_125 (lv_at hl 1 rfl) ?_
  refine lv_iload hx hb dX7_stirThickness_127 (lv_at hl 0 rfl) ?_
  refine r_iast (x := y32) hx hb hK hP hD hS 1 rfl (((6 * n) + 3) - 1) (by omega) (by decide) dX7_stirThickness_129 (fun H locs hP hD hS => ?_)
  obtain ⟨g38, e39⟩ : ∃ z9, z9 = upd g36 (((6 * n) + 3) - 1) y32 := ⟨_, rfl⟩
  rw [← e39] at hP hD
  have hP : va_P (dC, dI) vwCl [(a, .inr (7, [.int (nI 4), .int (nI 4), .int heat, .int cools, .int skinHeat, .int today, .int stirs, .int steps, .int (nI 0), .int (nI 0), .ref thickness, .ref lumpNames, .ref lumpCells, .ref boatNames, .ref boatCells, .ref loads, .ref spoons, .ref spoonsLeft, .ref depths])), (thickness, .inl (ky 0, 36, .inl g38))] H := hP
  have hD : va_D A [(a, .inr (7, [.int (nI 4), .int (nI 4), .int heat, .int cools, .int skinHeat, .int today, .int stirs, .int steps, .int (nI 0), .int (nI 0), .ref thickness, .ref lumpNames, .ref lumpCells, .ref boatNames, .ref boatCells, .ref loads, .ref spoons, .ref spoonsLeft, .ref depths])), (thickness, .inl (ky 0, 36, .inl g38))] := hD
  refine lv_iinc (v := nI 4) (lv' := [(7, .int (nI 4)), (10, .int y32), (9, .int (nI (((6 * n) + 3) - 1))), (8, .int (nI ((6 * n) + 3))), (6, .int (nI 1)), (5, .int (nI (6 * n))), (4, .int (nI 4)), (0, .ref a), (1, .int (nI 0)), (2, .int (nI n)), (3, .int (nI 1))]) hx hb dX7_stirThickness_130 hl (k := 3) rfl (by decide) (by decide) rfl (fun ls hl => ?_)
  refine lv_goto (tgt := 49) hx hb dX7_stirThickness_133 (by decide) ?_
  refine lv_iload hx hb dX7_stirThickness_49 (lv_at hl 0 rfl) ?_
  refine lv_iload hx hb dX7_stirThickness_51 (lv_at hl 6 rfl) ?_
  refine lv_icmp_ge (tgt := 136) hx hb dX7_stirThickness_53 (by decide) (fun c40 => ?_) (fun c40 => absurd (by decide) c40)
  have hP9 := hP.sub (ws' := [(a, .inr (7, [.int (nI 4), .int (nI 4), .int heat, .int cools, .int skinHeat, .int today, .int stirs, .int steps, .int (nI 0), .int (nI 0), .ref thickness, .ref lumpNames, .ref lumpCells, .ref boatNames, .ref boatCells, .ref loads, .ref spoons, .ref spoonsLeft, .ref depths])), (thickness, .inl (ky 0, 36, .inl g38))]) [0, 1] rfl
  have hD9 := hD.sub (ws' := [(a, .inr (7, [.int (nI 4), .int (nI 4), .int heat, .int cools, .int skinHeat, .int today, .int stirs, .int steps, .int (nI 0), .int (nI 0), .ref thickness, .ref lumpNames, .ref lumpCells, .ref boatNames, .ref boatCells, .ref loads, .ref spoons, .ref spoonsLeft, .ref depths])), (thickness, .inl (ky 0, 36, .inl g38))]) [0, 1] (by decide) rfl
  refine W.widen (k := 0) (n := 0) (Nat.le_of_ble_eq_true rfl) (Nat.le_of_ble_eq_true rfl) ?_
  exact W.vret hx hb hr (fun t ht9 hW9 => ⟨⟨g38, rfl, trivial, by rw [ht9]; exact hP9, va_K.moved hW9.alike hK, hD9⟩, hS.F ht9⟩) hS.2.2 dX7_stirThickness_136
set_option maxHeartbeats 4000000 in
set_option maxRecDepth 100000 in
theorem c_stirLine01 (l : Launch) (dC : Nat → ClassId) (dI : Nat → Nat → Nat) (ky : Nat → ClassId) (sz : Nat) (a : Nat) (heat : Int32) (cools : Int32) (skinHeat : Int32) (today : Int32) (stirs : Int32) (steps : Int32) (thickness : Nat) (lumpNames : Nat) (lumpCells : Nat) (boatNames : Nat) (boatCells : Nat) (loads : Nat) (spoons : Nat) (spoonsLeft : Nat) (depths : Nat) (thicknessF : Nat → Int32) (n : Nat) (hn : n < 4) : Met l yX7_stirLine wsX7_stirLine ({ frames := 1, cells := 0, slots := 0, locals := 30 }) (PcU dC dI ky [.ref a, .int (nI 0), .int (nI n), .int (nI 1)] [(a, .inr (7, [.int (nI 4), .int (nI 4), .int heat, .int cools, .int skinHeat, .int today, .int stirs, .int steps, .int (nI 0), .int (nI 0), .ref thickness, .ref lumpNames, .ref lumpCells, .ref boatNames, .ref boatCells, .ref loads, .ref spoons, .ref spoonsLeft, .ref depths])), (thickness, .inl (ky 0, 36, .inl thicknessF))] sz) (va_Qv (fun (u : Int32 × (Nat → Int32)) => match u with | (stirsG, thicknessG) => True) (BU dC dI ky (fun (u : Int32 × (Nat → Int32)) => match u with | (stirsG, thicknessG) => [(a, .inr (7, [.int (nI 4), .int (nI 4), .int heat, .int cools, .int skinHeat, .int today, .int stirsG, .int steps, .int (nI 0), .int (nI 0), .ref thickness, .ref lumpNames, .ref lumpCells, .ref boatNames, .ref boatCells, .ref loads, .ref spoons, .ref spoonsLeft, .ref depths])), (thickness, .inl (ky 0, 36, .inl thicknessG))]) (va_A [(a, .inr (7, [.int (nI 4), .int (nI 4), .int heat, .int cools, .int skinHeat, .int today, .int stirs, .int steps, .int (nI 0), .int (nI 0), .ref thickness, .ref lumpNames, .ref lumpCells, .ref boatNames, .ref boatCells, .ref loads, .ref spoons, .ref spoonsLeft, .ref depths])), (thickness, .inl (ky 0, 36, .inl thicknessF))] sz)) (va_A [(a, .inr (7, [.int (nI 4), .int (nI 4), .int heat, .int cools, .int skinHeat, .int today, .int stirs, .int steps, .int (nI 0), .int (nI 0), .ref thickness, .ref lumpNames, .ref lumpCells, .ref boatNames, .ref boatCells, .ref loads, .ref spoons, .ref spoonsLeft, .ref depths])), (thickness, .inl (ky 0, 36, .inl thicknessF))] sz)) 0 0 (va_A [(a, .inr (7, [.int (nI 4), .int (nI 4), .int heat, .int cools, .int skinHeat, .int today, .int stirs, .int steps, .int (nI 0), .int (nI 0), .ref thickness, .ref lumpNames, .ref lumpCells, .ref boatNames, .ref boatCells, .ref loads, .ref spoons, .ref spoonsLeft, .ref depths])), (thickness, .inl (ky 0, 36, .inl thicknessF))] sz) := by
  refine Met.ofW (cc := cX7_stirLine) (maxL := 5) (ret := none) (by decide) rfl ?_
  intro p e s m args below meth c s₁ B hml hv
  obtain ⟨rfl, hsz, hP, hK, hD0⟩ := hv
  have hx := B.exec
  have hb := B.bytes
  have hr := B.returns
  have hts := atoms_spec (ws := wsX7_stirLine) B.pre
  have hown : s.vm.findClass RX7 = some m.cls := findClass_of_methodNamed B.named
  have hlocks := B.notSynchronized
  have hin7 : ∀ w ∈ u_ws RX7 TX7 19, w ∈ wsX7_stirLine := by decide +kernel
  subst hsz
  have hD := hD0.self (sz := s.heap.size)
  generalize hAe : va_A [(a, .inr (7, [.int (nI 4), .int (nI 4), .int heat, .int cools, .int skinHeat, .int today, .int stirs, .int steps, .int (nI 0), .int (nI 0), .ref thickness, .ref lumpNames, .ref lumpCells, .ref boatNames, .ref boatCells, .ref loads, .ref spoons, .ref spoonsLeft, .ref depths])), (thickness, .inl (ky 0, 36, .inl thicknessF))] s.heap.size = A at hD ⊢
  have hA : ∀ q : Nat, s.heap.size ≤ q → A q := fun q h => by rw [← hAe]; exact Or.inr h
  have hS : va_S A s.heap s.heap [] := va_S.rf
  have hP : va_P (dC, dI) vwCl [(a, .inr (7, [.int (nI 4), .int (nI 4), .int heat, .int cools, .int skinHeat, .int today, .int stirs, .int steps, .int (nI 0), .int (nI 0), .ref thickness, .ref lumpNames, .ref lumpCells, .ref boatNames, .ref boatCells, .ref loads, .ref spoons, .ref spoonsLeft, .ref depths])), (thickness, .inl (ky 0, 36, .inl thicknessF))] s.heap := hP
  have hl := lv_entry ([.ref a, .int (nI 0), .int (nI n), .int (nI 1)]) (n := 5) (Nat.le_of_ble_eq_true rfl)
  rw [lg_entry_eq]
  generalize (lg_sl ([.ref a, .int (nI 0), .int (nI n), .int (nI 1)]) ++ List.replicate (5 - (lg_sl ([.ref a, .int (nI 0), .int (nI n), .int (nI 1)])).length) Slot.unset).toArray = ls at hl ⊢
  have hl : lv_has ls 5 [(0, .ref a), (1, .int (nI 0)), (2, .int (nI n)), (3, .int (nI 1))] := hl
  have hH0 : True := trivial
  refine lv_aload_n hx hb dX7_stirLine_0 rfl (lv_at hl 0 rfl) ?_
  refine lv_iload_n hx hb dX7_stirLine_1 rfl (lv_at hl 1 rfl) ?_
  refine lv_iload_n hx hb dX7_stirLine_2 rfl (lv_at hl 2 rfl) ?_
  refine vp_callSi (W.runV (As := [.int (nI 0), .int (nI n)]) (rest := []) ⟨hx, hb, hml, hown, hts⟩ (c_isLine l dC dI ky a (nI 4) (nI 4) heat cools skinHeat today stirs steps (nI 0) (nI 0) thickness lumpNames lumpCells boatNames boatCells loads spoons spoonsLeft depths (nI 0) (nI n)) (cwV 2 hts gX7_stirLine_X7_isLine rfl rfl rfl (by decide +kernel) ⟨(Nat.le_of_ble_eq_true rfl), (Nat.le_of_ble_eq_true rfl)⟩) (pre_PV hK hP [0] rfl (ci := 7) (q0 := 0) rfl rfl) rfl rfl hl.1 rfl (lv_room (Nat.le_of_ble_eq_true rfl)) dX7_stirLine_3 ⟨(Nat.le_of_ble_eq_true rfl), (Nat.le_of_ble_eq_true rfl)⟩) (fun r1 p2 => ?_)
  refine lv_if_ne (tgt := 10) hx hb dX7_stirLine_6 (by decide) (fun c3 => ?_) (fun c3 => ?_)
  · refine lv_aload_n hx hb dX7_stirLine_10 rfl (lv_at hl 0 rfl) ?_
    refine lv_iload_n hx hb dX7_stirLine_11 rfl (lv_at hl 1 rfl) ?_
    refine lv_iload_n hx hb dX7_stirLine_12 rfl (lv_at hl 2 rfl) ?_
    refine lv_iload_n hx hb dX7_stirLine_13 rfl (lv_at hl 3 rfl) ?_
    refine r_call_v (wr := []) (va_runV (As := [.int (nI 0), .int (nI n), .int (nI 1)]) (rest := []) ⟨hx, hb, hml, hown, hts⟩ (c_stirThickness01 l dC dI ky s.heap.size a heat cools skinHeat today stirs steps thickness lumpNames lumpCells boatNames boatCells loads spoons spoonsLeft depths thicknessF n (by omega)) (cwV 3 hts gX7_stirLine_X7_stirThickness rfl rfl rfl (by decide +kernel) ⟨(Nat.le_of_ble_eq_true rfl), (Nat.le_of_ble_eq_true rfl)⟩) (pre_UV hK hP hD [0, 1] (by decide) rfl (ci := 7) (q0 := 0) rfl rfl) rfl rfl hl.1 rfl (lv_room (Nat.le_of_ble_eq_true rfl)) dX7_stirLine_14 ⟨(Nat.le_of_ble_eq_true rfl), (Nat.le_of_ble_eq_true rfl)⟩) hP hD hS hA [0, 1] [] rfl rfl (by decide) (by decide) (fun  u4 H locs p5 hP hD hS => ?_)
    obtain ⟨thicknessG_6, rfl⟩ : ∃ z, z = u4 := ⟨_, rfl⟩
    refine W.widen (k := 0) (n := 0) (Nat.le_of_ble_eq_true rfl) (Nat.le_of_ble_eq_true rfl) ?_
    have hP : va_P (dC, dI) vwCl [(a, .inr (7, [.int (nI 4), .int (nI 4), .int heat, .int cools, .int skinHeat, .int today, .int stirs, .int steps, .int (nI 0), .int (nI 0), .ref thickness, .ref lumpNames, .ref lumpCells, .ref boatNames, .ref boatCells, .ref loads, .ref spoons, .ref spoonsLeft, .ref depths])), (thickness, .inl (ky 0, 36, .inl thicknessG_6))] H := hP
    have hD : va_D A [(a, .inr (7, [.int (nI 4), .int (nI 4), .int heat, .int cools, .int skinHeat, .int today, .int stirs, .int steps, .int (nI 0), .int (nI 0), .ref thickness, .ref lumpNames, .ref lumpCells, .ref boatNames, .ref boatCells, .ref loads, .ref spoons, .ref spoonsLeft, .ref depths])), (thickness, .inl (ky 0, 36, .inl thicknessG_6))] := hD
    refine lv_iconst (v := nI 0) hx hb dX7_stirLine_17 (by decide) ?_
    refine lv_istore (lv' := [(4, .int (nI 0)), (0, .ref a), (1, .int (nI 0)), (2, .int (nI n)), (3, .int (nI 1))]) hx hb dX7_stirLine_18 hl (by decide) rfl (fun ls hl => ?_)
    refine lv_iload hx hb dX7_stirLine_20 (lv_at hl 0 rfl) ?_
    refine lv_aload_n hx hb dX7_stirLine_22 rfl (lv_at hl 1 rfl) ?_
    refine va_get (D := (dC, dI)) (ci := 7) (v := .int (nI 0)) (C := RX7) (T := TX7) (N := 19) hx hb hts hin7 hown hK hP 0 rfl rfl 8 (by decide) (hts (.fieldLink RX7 68 "PorridgeSea$Sea" "lumps" "I") (List.mem_of_getElem? (i := 1) rfl)) (fun _ h9 => h9) rfl dX7_stirLine_23 ?_
    refine lv_icmp_ge (tgt := 56) hx hb dX7_stirLine_26 (by decide) (fun c7 => ?_) (fun c7 => absurd (by decide) c7)
    refine lv_iconst (v := nI 0) hx hb dX7_stirLine_56 (by decide) ?_
    refine lv_istore (lv' := [(4, .int (nI 0)), (0, .ref a), (1, .int (nI 0)), (2, .int (nI n)), (3, .int (nI 1))]) hx hb dX7_stirLine_57 hl (by decide) rfl (fun ls hl => ?_)
    refine lv_iload hx hb dX7_stirLine_59 (lv_at hl 0 rfl) ?_
    refine lv_aload_n hx hb dX7_stirLine_61 rfl (lv_at hl 1 rfl) ?_
    refine va_get (D := (dC, dI)) (ci := 7) (v := .int (nI 0)) (C := RX7) (T := TX7) (N := 19) hx hb hts hin7 hown hK hP 0 rfl rfl 9 (by decide) (hts (.fieldLink RX7 71 "PorridgeSea$Sea" "boats" "I") (List.mem_of_getElem? (i := 3) rfl)) (fun _ h9 => h9) rfl dX7_stirLine_62 ?_
    refine lv_icmp_ge (tgt := 104) hx hb dX7_stirLine_65 (by decide) (fun c8 => ?_) (fun c8 => absurd (by decide) c8)
    refine lv_aload_n hx hb dX7_stirLine_104 rfl (lv_at hl 1 rfl) ?_
    refine lv_dup hx hb dX7_stirLine_105 rfl ?_
    refine va_get (D := (dC, dI)) (ci := 7) (v := .int stirs) (C := RX7) (T := TX7) (N := 19) hx hb hts hin7 hown hK hP 0 rfl rfl 6 (by decide) (hts (.fieldLink RX7 62 "PorridgeSea$Sea" "stirs" "I") (List.mem_of_getElem? (i := 5) rfl)) (fun _ h9 => h9) rfl dX7_stirLine_106 ?_
    refine lv_iconst (v := nI 1) hx hb dX7_stirLine_109 (by decide) ?_
    refine lv_iadd hx hb dX7_stirLine_110 ?_
    refine lv_topi (fun y9 e10 => ?_)
    refine va_put (D := (dC, dI)) (ci := 7) (v := .int y9) (ty := .int) (C := RX7) (T := TX7) (N := 19) hx hb hts hin7 tyX7 tyX7_ok nmX7 hown hK hP hD hS 0 rfl rfl 6 (by decide) (hts (.fieldLink RX7 62 "PorridgeSea$Sea" "stirs" "I") (List.mem_of_getElem? (i := 5) rfl)) (fun _ h9 => h9) rfl (by decide +kernel) rfl rfl (Nat.le_of_ble_eq_true rfl) dX7_stirLine_111 (fun H locs hP hD hS => ?_)
    have hP : va_P (dC, dI) vwCl [(a, .inr (7, [.int (nI 4), .int (nI 4), .int heat, .int cools, .int skinHeat, .int today, .int y9, .int steps, .int (nI 0), .int (nI 0), .ref thickness, .ref lumpNames, .ref lumpCells, .ref boatNames, .ref boatCells, .ref loads, .ref spoons, .ref spoonsLeft, .ref depths])), (thickness, .inl (ky 0, 36, .inl thicknessG_6))] H := hP
    have hD : va_D A [(a, .inr (7, [.int (nI 4), .int (nI 4), .int heat, .int cools, .int skinHeat, .int today, .int y9, .int steps, .int (nI 0), .int (nI 0), .ref thickness, .ref lumpNames, .ref lumpCells, .ref boatNames, .ref boatCells, .ref loads, .ref spoons, .ref spoonsLeft, .ref depths])), (thickness, .inl (ky 0, 36, .inl thicknessG_6))] := hD
    have hP9 := hP.sub (ws' := [(a, .inr (7, [.int (nI 4), .int (nI 4), .int heat, .int cools, .int skinHeat, .int today, .int y9, .int steps, .int (nI 0), .int (nI 0), .ref thickness, .ref lumpNames, .ref lumpCells, .ref boatNames, .ref boatCells, .ref loads, .ref spoons, .ref spoonsLeft, .ref depths])), (thickness, .inl (ky 0, 36, .inl thicknessG_6))]) [0, 1] rfl
    have hD9 := hD.sub (ws' := [(a, .inr (7, [.int (nI 4), .int (nI 4), .int heat, .int cools, .int skinHeat, .int today, .int y9, .int steps, .int (nI 0), .int (nI 0), .ref thickness, .ref lumpNames, .ref lumpCells, .ref boatNames, .ref boatCells, .ref loads, .ref spoons, .ref spoonsLeft, .ref depths])), (thickness, .inl (ky 0, 36, .inl thicknessG_6))]) [0, 1] (by decide) rfl
    refine W.widen (k := 0) (n := 0) (Nat.le_of_ble_eq_true rfl) (Nat.le_of_ble_eq_true rfl) ?_
    exact W.vret hx hb hr (fun t ht9 hW9 => ⟨⟨(y9, thicknessG_6), rfl, trivial, by rw [ht9]; exact hP9, va_K.moved hW9.alike hK, hD9⟩, hS.F ht9⟩) hS.2.2 dX7_stirLine_114
  · have hP9 := hP.sub (ws' := [(a, .inr (7, [.int (nI 4), .int (nI 4), .int heat, .int cools, .int skinHeat, .int today, .int stirs, .int steps, .int (nI 0), .int (nI 0), .ref thickness, .ref lumpNames, .ref lumpCells, .ref boatNames, .ref boatCells, .ref loads, .ref spoons, .ref spoonsLeft, .ref depths])), (thickness, .inl (ky 0, 36, .inl thicknessF))]) [0, 1] rfl
    have hD9 := hD.sub (ws' := [(a, .inr (7, [.int (nI 4), .int (nI 4), .int heat, .int cools, .int skinHeat, .int today, .int stirs, .int steps, .int (nI 0), .int (nI 0), .ref thickness, .ref lumpNames, .ref lumpCells, .ref boatNames, .ref boatCells, .ref loads, .ref spoons, .ref spoonsLeft, .ref depths])), (thickness, .inl (ky 0, 36, .inl thicknessF))]) [0, 1] (by decide) rfl
    refine W.widen (k := 0) (n := 0) (Nat.le_of_ble_eq_true rfl) (Nat.le_of_ble_eq_true rfl) ?_
    exact W.vret hx hb hr (fun t ht9 hW9 => ⟨⟨(stirs, thicknessF), rfl, trivial, by rw [ht9]; exact hP9, va_K.moved hW9.alike hK, hD9⟩, hS.F ht9⟩) hS.2.2 dX7_stirLine_9
set_option maxHeartbeats 4000000 in
set_option maxRecDepth 100000 in
theorem c_stirThickness10 (l : Launch) (dC : Nat → ClassId) (dI : Nat → Nat → Nat) (ky : Nat → ClassId) (sz : Nat) (a : Nat) (heat : Int32) (cools : Int32) (skinHeat : Int32) (today : Int32) (stirs : Int32) (steps : Int32) (thickness : Nat) (lumpNames : Nat) (lumpCells : Nat) (boatNames : Nat) (boatCells : Nat) (loads : Nat) (spoons : Nat) (spoonsLeft : Nat) (depths : Nat) (thicknessF : Nat → Int32) (n : Nat) (hn : n < 4) : Met l yX7_stirThickness wsX7_stirThickness ({ frames := 0, cells := 0, slots := 0, locals := 0 }) (PcU dC dI ky [.ref a, .int (nI 1), .int (nI n), .int (nI 0)] [(a, .inr (7, [.int (nI 4), .int (nI 4), .int heat, .int cools, .int skinHeat, .int today, .int stirs, .int steps, .int (nI 0), .int (nI 0), .ref thickness, .ref lumpNames, .ref lumpCells, .ref boatNames, .ref boatCells, .ref loads, .ref spoons, .ref spoonsLeft, .ref depths])), (thickness, .inl (ky 0, 36, .inl thicknessF))] sz) (va_Qv (fun (thicknessG : (Nat → Int32)) => True) (BU dC dI ky (fun (thicknessG : (Nat → Int32)) => [(a, .inr (7, [.int (nI 4), .int (nI 4), .int heat, .int cools, .int skinHeat, .int today, .int stirs, .int steps, .int (nI 0), .int (nI 0), .ref thickness, .ref lumpNames, .ref lumpCells, .ref boatNames, .ref boatCells, .ref loads, .ref spoons, .ref spoonsLeft, .ref depths])), (thickness, .inl (ky 0, 36, .inl thicknessG))]) (va_A [(a, .inr (7, [.int (nI 4), .int (nI 4), .int heat, .int cools, .int skinHeat, .int today, .int stirs, .int steps, .int (nI 0), .int (nI 0), .ref thickness, .ref lumpNames, .ref lumpCells, .ref boatNames, .ref boatCells, .ref loads, .ref spoons, .ref spoonsLeft, .ref depths])), (thickness, .inl (ky 0, 36, .inl thicknessF))] sz)) (va_A [(a, .inr (7, [.int (nI 4), .int (nI 4), .int heat, .int cools, .int skinHeat, .int today, .int stirs, .int steps, .int (nI 0), .int (nI 0), .ref thickness, .ref lumpNames, .ref lumpCells, .ref boatNames, .ref boatCells, .ref loads, .ref spoons, .ref spoonsLeft, .ref depths])), (thickness, .inl (ky 0, 36, .inl thicknessF))] sz)) 0 0 (va_A [(a, .inr (7, [.int (nI 4), .int (nI 4), .int heat, .int cools, .int skinHeat, .int today, .int stirs, .int steps, .int (nI 0), .int (nI 0), .ref thickness, .ref lumpNames, .ref lumpCells, .ref boatNames, .ref boatCells, .ref loads, .ref spoons, .ref spoonsLeft, .ref depths])), (thickness, .inl (ky 0, 36, .inl thicknessF))] sz) := by
  refine Met.ofW (cc := cX7_stirThickness) (maxL := 11) (ret := none) (by decide) rfl ?_
  intro p e s m args below meth c s₁ B hml hv
  obtain ⟨rfl, hsz, hP, hK, hD0⟩ := hv
  have hx := B.exec
  have hb := B.bytes
  have hr := B.returns
  have hts := atoms_spec (ws := wsX7_stirThickness) B.pre
  have hown : s.vm.findClass RX7 = some m.cls := findClass_of_methodNamed B.named
  have hlocks := B.notSynchronized
  have hin7 : ∀ w ∈ u_ws RX7 TX7 19, w ∈ wsX7_stirThickness := by decide +kernel
  subst hsz
  have hD := hD0.self (sz := s.heap.size)
  generalize hAe : va_A [(a, .inr (7, [.int (nI 4), .int (nI 4), .int heat, .int cools, .int skinHeat, .int today, .int stirs, .int steps, .int (nI 0), .int (nI 0), .ref thickness, .ref lumpNames, .ref lumpCells, .ref boatNames, .ref boatCells, .ref loads, .ref spoons, .ref spoonsLeft, .ref depths])), (thickness, .inl (ky 0, 36, .inl thicknessF))] s.heap.size = A at hD ⊢
  have hA : ∀ q : Nat, s.heap.size ≤ q → A q := fun q h => by rw [← hAe]; exact Or.inr h
  have hS : va_S A s.heap s.heap [] := va_S.rf
  have hP : va_P (dC, dI) vwCl [(a, .inr (7, [.int (nI 4), .int (nI 4), .int heat, .int cools, .int skinHeat, .int today, .int stirs, .int steps, .int (nI 0), .int (nI 0), .ref thickness, .ref lumpNames, .ref lumpCells, .ref boatNames, .ref boatCells, .ref loads, .ref spoons, .ref spoonsLeft, .ref depths])), (thickness, .inl (ky 0, 36, .inl thicknessF))] s.heap := hP
  have hl := lv_entry ([.ref a, .int (nI 1), .int (nI n), .int (nI 0)]) (n := 11) (Nat.le_of_ble_eq_true rfl)
  rw [lg_entry_eq]
  generalize (lg_sl ([.ref a, .int (nI 1), .int (nI n), .int (nI 0)]) ++ List.replicate (11 - (lg_sl ([.ref a, .int (nI 1), .int (nI n), .int (nI 0)])).length) Slot.unset).toArray = ls at hl ⊢
  have hl : lv_has ls 11 [(0, .ref a), (1, .int (nI 1)), (2, .int (nI n)), (3, .int (nI 0))] := hl
  have hH0 : True := trivial
  refine lv_iload_n hx hb dX7_stirThickness_0 rfl (lv_at hl 1 rfl) ?_
  refine lv_iconst (v := nI 1) hx hb dX7_stirThickness_1 (by decide) ?_
  refine lv_icmp_ne (tgt := 12) hx hb dX7_stirThickness_2 (by decide) (fun c1 => absurd c1 (by decide)) (fun c1 => ?_)
  refine lv_aload_n hx hb dX7_stirThickness_5 rfl (lv_at hl 0 rfl) ?_
  refine va_get (D := (dC, dI)) (ci := 7) (v := .int (nI 4)) (C := RX7) (T := TX7) (N := 19) hx hb hts hin7 hown hK hP 0 rfl rfl 1 (by decide) (hts (.fieldLink RX7 47 "PorridgeSea$Sea" "high" "I") (List.mem_of_getElem? (i := 1) rfl)) (fun _ h9 => h9) rfl dX7_stirThickness_6 ?_
  refine lv_goto (tgt := 16) hx hb dX7_stirThickness_9 (by decide) ?_
  refine lv_istore (lv' := [(4, .int (nI 4)), (0, .ref a), (1, .int (nI 1)), (2, .int (nI n)), (3, .int (nI 0))]) hx hb dX7_stirThickness_16 hl (by decide) rfl (fun ls hl => ?_)
  refine lv_iload_n hx hb dX7_stirThickness_18 rfl (lv_at hl 2 rfl) ?_
  refine lv_iconst (v := nI 1) hx hb dX7_stirThickness_19 (by decide) ?_
  refine lv_icmp_ne (tgt := 27) hx hb dX7_stirThickness_20 (by decide) (fun c2 => absurd c2 (by decide)) (fun c2 => ?_)
  refine lv_iload_n hx hb dX7_stirThickness_23 rfl (lv_at hl 3 rfl) ?_
  refine lv_goto (tgt := 31) hx hb dX7_stirThickness_24 (by decide) ?_
  refine lv_istore (lv' := [(5, .int (nI n)), (4, .int (nI 4)), (0, .ref a), (1, .int (nI 1)), (2, .int (nI n)), (3, .int (nI 0))]) hx hb dX7_stirThickness_31 hl (by decide) rfl (fun ls hl => ?_)
  refine lv_iload_n hx hb dX7_stirThickness_33 rfl (lv_at hl 3 rfl) ?_
  refine lv_iconst (v := nI 1) hx hb dX7_stirThickness_34 (by decide) ?_
  refine lv_icmp_ne (tgt := 43) hx hb dX7_stirThickness_35 (by decide) (fun c3 => absurd c3 (by decide)) (fun c3 => ?_)
  refine lv_bipush (v := nI 6) hx hb dX7_stirThickness_38 (by decide) ?_
  refine lv_goto (tgt := 44) hx hb dX7_stirThickness_40 (by decide) ?_
  refine lv_istore (lv' := [(6, .int (nI 6)), (5, .int (nI n)), (4, .int (nI 4)), (0, .ref a), (1, .int (nI 1)), (2, .int (nI n)), (3, .int (nI 0))]) hx hb dX7_stirThickness_44 hl (by decide) rfl (fun ls hl => ?_)
  refine lv_iconst (v := nI 1) hx hb dX7_stirThickness_46 (by decide) ?_
  refine lv_istore (lv' := [(7, .int (nI 1)), (6, .int (nI 6)), (5, .int (nI n)), (4, .int (nI 4)), (0, .ref a), (1, .int (nI 1)), (2, .int (nI n)), (3, .int (nI 0))]) hx hb dX7_stirThickness_47 hl (by decide) rfl (fun ls hl => ?_)
  refine lv_iload hx hb dX7_stirThickness_49 (lv_at hl 0 rfl) ?_
  refine lv_iload hx hb dX7_stirThickness_51 (lv_at hl 3 rfl) ?_
  refine lv_icmp_ge (tgt := 136) hx hb dX7_stirThickness_53 (by decide) (fun c4 => absurd c4 (by decide)) (fun c4 => ?_)
  refine lv_iload hx hb dX7_stirThickness_56 (lv_at hl 2 rfl) ?_
  refine lv_iload hx hb dX7_stirThickness_58 (lv_at hl 1 rfl) ?_
  refine lv_iload_n hx hb dX7_stirThickness_60 rfl (lv_at hl 7 rfl) ?_
  refine lv_iconst (v := nI 1) hx hb dX7_stirThickness_61 (by decide) ?_
  refine lv_icmp_ne (tgt := 70) hx hb dX7_stirThickness_62 (by decide) (fun c5 => ?_) (fun c5 => absurd c5 (by decide))
  refine lv_iload hx hb dX7_stirThickness_70 (lv_at hl 3 rfl) ?_
  refine lv_iload hx hb dX7_stirThickness_72 (lv_at hl 0 rfl) ?_
  refine lv_isub hx hb dX7_stirThickness_74 ?_
  refine r_ti (nI 3) (by decide) ?_
  refine lv_imul hx hb dX7_stirThickness_75 ?_
  refine r_ti (nI 18) (by decide) ?_
  refine lv_iadd hx hb dX7_stirThickness_76 ?_
  refine r_ti (nI (n + 18)) (nI_add _ _) ?_
  refine lv_istore (lv' := [(8, .int (nI (n + 18))), (7, .int (nI 1)), (6, .int (nI 6)), (5, .int (nI n)), (4, .int (nI 4)), (0, .ref a), (1, .int (nI 1)), (2, .int (nI n)), (3, .int (nI 0))]) hx hb dX7_stirThickness_77 hl (by decide) rfl (fun ls hl => ?_)
  refine lv_iload hx hb dX7_stirThickness_79 (lv_at hl 0 rfl) ?_
  refine lv_iload hx hb dX7_stirThickness_81 (lv_at hl 2 rfl) ?_
  refine lv_isub hx hb dX7_stirThickness_83 ?_
  refine r_ti (nI ((n + 18) - 6)) (pk_sub (by omega)) ?_
  refine lv_istore (lv' := [(9, .int (nI ((n + 18) - 6))), (8, .int (nI (n + 18))), (7, .int (nI 1)), (6, .int (nI 6)), (5, .int (nI n)), (4, .int (nI 4)), (0, .ref a), (1, .int (nI 1)), (2, .int (nI n)), (3, .int (nI 0))]) hx hb dX7_stirThickness_84 hl (by decide) rfl (fun ls hl => ?_)
  refine lv_iload hx hb dX7_stirThickness_86 (lv_at hl 0 rfl) ?_
  refine n_if_lt (x := ((n + 18) - 6)) (tgt := 130) hx hb (by omega) dX7_stirThickness_88 (by decide) (fun c6 => c6.elim) (fun c6 => ?_)
  refine lv_iload hx hb dX7_stirThickness_91 (lv_at hl 1 rfl) ?_
  refine lv_bipush (v := nI 36) hx hb dX7_stirThickness_93 (by decide) ?_
  refine n_icmp_ge (x := (n + 18)) (y := 36) (tgt := 130) hx hb (by omega) (by omega) dX7_stirThickness_95 (by decide) (fun c7 => by exfalso; omega) (fun c7 => ?_)
  refine lv_aload_n hx hb dX7_stirThickness_98 rfl (lv_at hl 6 rfl) ?_
  refine va_get (D := (dC, dI)) (ci := 7) (v := .ref thickness) (C := RX7) (T := TX7) (N := 19) hx hb hts hin7 hown hK hP 0 rfl rfl 10 (by decide) (hts (.fieldLink RX7 9 "PorridgeSea$Sea" "thickness" "[I") (List.mem_of_getElem? (i := 3) rfl)) (fun _ h9 => h9) rfl dX7_stirThickness_99 ?_
  refine lv_iload hx hb dX7_stirThickness_102 (lv_at hl 1 rfl) ?_
  obtain ⟨y8, e9⟩ : ∃ z9, z9 = thicknessF (n + 18) := ⟨_, rfl⟩
  refine r_iald hx hb hK hP 1 rfl (n + 18) (by omega) (by decide) y8 e9.symm dX7_stirThickness_104 ?_
  refine lv_istore (lv' := [(10, .int y8), (9, .int (nI ((n + 18) - 6))), (8, .int (nI (n + 18))), (7, .int (nI 1)), (6, .int (nI 6)), (5, .int (nI n)), (4, .int (nI 4)), (0, .ref a), (1, .int (nI 1)), (2, .int (nI n)), (3, .int (nI 0))]) hx hb dX7_stirThickness_105 hl (by decide) rfl (fun ls hl => ?_)
  refine lv_aload_n hx hb dX7_stirThickness_107 rfl (lv_at hl 7 rfl) ?_
  refine va_get (D := (dC, dI)) (ci := 7) (v := .ref thickness) (C := RX7) (T := TX7) (N := 19) hx hb hts hin7 hown hK hP 0 rfl rfl 10 (by decide) (hts (.fieldLink RX7 9 "PorridgeSea$Sea" "thickness" "[I") (List.mem_of_getElem? (i := 3) rfl)) (fun _ h9 => h9) rfl dX7_stirThickness_108 ?_
  refine lv_iload hx hb dX7_stirThickness_111 (lv_at hl 2 rfl) ?_
  refine lv_aload_n hx hb dX7_stirThickness_113 rfl (lv_at hl 7 rfl) ?_
  refine va_get (D := (dC, dI)) (ci := 7) (v := .ref thickness) (C := RX7) (T := TX7) (N := 19) hx hb hts hin7 hown hK hP 0 rfl rfl 10 (by decide) (hts (.fieldLink RX7 9 "PorridgeSea$Sea" "thickness" "[I") (List.mem_of_getElem? (i := 3) rfl)) (fun _ h9 => h9) rfl dX7_stirThickness_114 ?_
  refine lv_iload hx hb dX7_stirThickness_117 (lv_at hl 1 rfl) ?_
  obtain ⟨y10, e11⟩ : ∃ z9, z9 = thicknessF ((n + 18) - 6) := ⟨_, rfl⟩
  refine r_iald hx hb hK hP 1 rfl ((n + 18) - 6) (by omega) (by decide) y10 e11.symm dX7_stirThickness_119 ?_
  refine r_iast (x := y10) hx hb hK hP hD hS 1 rfl (n + 18) (by omega) (by decide) dX7_stirThickness_120 (fun H locs hP hD hS => ?_)
  obtain ⟨g12, e13⟩ : ∃ z9, z9 = upd thicknessF (n + 18) y10 := ⟨_, rfl⟩
  rw [← e13] at hP hD
  have hP : va_P (dC, dI) vwCl [(a, .inr (7, [.int (nI 4), .int (nI 4), .int heat, .int cools, .int skinHeat, .int today, .int stirs, .int steps, .int (nI 0), .int (nI 0), .ref thickness, .ref lumpNames, .ref lumpCells, .ref boatNames, .ref boatCells, .ref loads, .ref spoons, .ref spoonsLeft, .ref depths])), (thickness, .inl (ky 0, 36, .inl g12))] H := hP
  have hD : va_D A [(a, .inr (7, [.int (nI 4), .int (nI 4), .int heat, .int cools, .int skinHeat, .int today, .int stirs, .int steps, .int (nI 0), .int (nI 0), .ref thickness, .ref lumpNames, .ref lumpCells, .ref boatNames, .ref boatCells, .ref loads, .ref spoons, .ref spoonsLeft, .ref depths])), (thickness, .inl (ky 0, 36, .inl g12))] := hD
  refine lv_aload_n hx hb dX7_stirThickness_121 rfl (lv_at hl 7 rfl) ?_
  refine va_get (D := (dC, dI)) (ci := 7) (v := .ref thickness) (C := RX7) (T := TX7) (N := 19) hx hb hts hin7 hown hK hP 0 rfl rfl 10 (by decide) (hts (.fieldLink RX7 9 "PorridgeSea$Sea" "thickness" "[I") (List.mem_of_getElem? (i := 3) rfl)) (fun _ h9 => h9) rfl dX7_stirThickness_122 ?_
  refine lv_iload hx hb dX7_stirThickness_125 (lv_at hl 1 rfl) ?_
  refine lv_iload hx hb dX7_stirThickness_127 (lv_at hl 0 rfl) ?_
  refine r_iast (x := y8) hx hb hK hP hD hS 1 rfl ((n + 18) - 6) (by omega) (by decide) dX7_stirThickness_129 (fun H locs hP hD hS => ?_)
  obtain ⟨g14, e15⟩ : ∃ z9, z9 = upd g12 ((n + 18) - 6) y8 := ⟨_, rfl⟩
  rw [← e15] at hP hD
  have hP : va_P (dC, dI) vwCl [(a, .inr (7, [.int (nI 4), .int (nI 4), .int heat, .int cools, .int skinHeat, .int today, .int stirs, .int steps, .int (nI 0), .int (nI 0), .ref thickness, .ref lumpNames, .ref lumpCells, .ref boatNames, .ref boatCells, .ref loads, .ref spoons, .ref spoonsLeft, .ref depths])), (thickness, .inl (ky 0, 36, .inl g14))] H := hP
  have hD : va_D A [(a, .inr (7, [.int (nI 4), .int (nI 4), .int heat, .int cools, .int skinHeat, .int today, .int stirs, .int steps, .int (nI 0), .int (nI 0), .ref thickness, .ref lumpNames, .ref lumpCells, .ref boatNames, .ref boatCells, .ref loads, .ref spoons, .ref spoonsLeft, .ref depths])), (thickness, .inl (ky 0, 36, .inl g14))] := hD
  refine lv_iinc (v := nI 2) (lv' := [(7, .int (nI 2)), (10, .int y8), (9, .int (nI ((n + 18) - 6))), (8, .int (nI (n + 18))), (6, .int (nI 6)), (5, .int (nI n)), (4, .int (nI 4)), (0, .ref a), (1, .int (nI 1)), (2, .int (nI n)), (3, .int (nI 0))]) hx hb dX7_stirThickness_130 hl (k := 3) rfl (by decide) (by decide) rfl (fun ls hl => ?_)
  refine lv_goto (tgt := 49) hx hb dX7_stirThickness_133 (by decide) ?_
  refine lv_iload hx hb dX7_stirThickness_49 (lv_at hl 0 rfl) ?_
  refine lv_iload hx hb dX7_stirThickness_51 (lv_at hl 6 rfl) ?_
  refine lv_icmp_ge (tgt := 136) hx hb dX7_stirThickness_53 (by decide) (fun c16 => absurd c16 (by decide)) (fun c16 => ?_)
  refine lv_iload hx hb dX7_stirThickness_56 (lv_at hl 5 rfl) ?_
  refine lv_iload hx hb dX7_stirThickness_58 (lv_at hl 4 rfl) ?_
  refine lv_iload_n hx hb dX7_stirThickness_60 rfl (lv_at hl 10 rfl) ?_
  refine lv_iconst (v := nI 1) hx hb dX7_stirThickness_61 (by decide) ?_
  refine lv_icmp_ne (tgt := 70) hx hb dX7_stirThickness_62 (by decide) (fun c17 => ?_) (fun c17 => absurd c17 (by decide))
  refine lv_iload hx hb dX7_stirThickness_70 (lv_at hl 6 rfl) ?_
  refine lv_iload hx hb dX7_stirThickness_72 (lv_at hl 0 rfl) ?_
  refine lv_isub hx hb dX7_stirThickness_74 ?_
  refine r_ti (nI 2) (by decide) ?_
  refine lv_imul hx hb dX7_stirThickness_75 ?_
  refine r_ti (nI 12) (by decide) ?_
  refine lv_iadd hx hb dX7_stirThickness_76 ?_
  refine r_ti (nI (n + 12)) (nI_add _ _) ?_
  refine lv_istore (lv' := [(8, .int (nI (n + 12))), (7, .int (nI 2)), (10, .int y8), (9, .int (nI ((n + 18) - 6))), (6, .int (nI 6)), (5, .int (nI n)), (4, .int (nI 4)), (0, .ref a), (1, .int (nI 1)), (2, .int (nI n)), (3, .int (nI 0))]) hx hb dX7_stirThickness_77 hl (by decide) rfl (fun ls hl => ?_)
  refine lv_iload hx hb dX7_stirThickness_79 (lv_at hl 0 rfl) ?_
  refine lv_iload hx hb dX7_stirThickness_81 (lv_at hl 4 rfl) ?_
  refine lv_isub hx hb dX7_stirThickness_83 ?_
  refine r_ti (nI ((n + 12) - 6)) (pk_sub (by omega)) ?_
  refine lv_istore (lv' := [(9, .int (nI ((n + 12) - 6))), (8, .int (nI (n + 12))), (7, .int (nI 2)), (10, .int y8), (6, .int (nI 6)), (5, .int (nI n)), (4, .int (nI 4)), (0, .ref a), (1, .int (nI 1)), (2, .int (nI n)), (3, .int (nI 0))]) hx hb dX7_stirThickness_84 hl (by decide) rfl (fun ls hl => ?_)
  refine lv_iload hx hb dX7_stirThickness_86 (lv_at hl 0 rfl) ?_
  refine n_if_lt (x := ((n + 12) - 6)) (tgt := 130) hx hb (by omega) dX7_stirThickness_88 (by decide) (fun c18 => c18.elim) (fun c18 => ?_)
  refine lv_iload hx hb dX7_stirThickness_91 (lv_at hl 1 rfl) ?_
  refine lv_bipush (v := nI 36) hx hb dX7_stirThickness_93 (by decide) ?_
  refine n_icmp_ge (x := (n + 12)) (y := 36) (tgt := 130) hx hb (by omega) (by omega) dX7_stirThickness_95 (by decide) (fun c19 => by exfalso; omega) (fun c19 => ?_)
  refine lv_aload_n hx hb dX7_stirThickness_98 rfl (lv_at hl 7 rfl) ?_
  refine va_get (D := (dC, dI)) (ci := 7) (v := .ref thickness) (C := RX7) (T := TX7) (N := 19) hx hb hts hin7 hown hK hP 0 rfl rfl 10 (by decide) (hts (.fieldLink RX7 9 "PorridgeSea$Sea" "thickness" "[I") (List.mem_of_getElem? (i := 3) rfl)) (fun _ h9 => h9) rfl dX7_stirThickness_99 ?_
  refine lv_iload hx hb dX7_stirThickness_102 (lv_at hl 1 rfl) ?_
  obtain ⟨y20, e21⟩ : ∃ z9, z9 = g14 (n + 12) := ⟨_, rfl⟩
  refine r_iald hx hb hK hP 1 rfl (n + 12) (by omega) (by decide) y20 e21.symm dX7_stirThickness_104 ?_
  refine lv_istore (lv' := [(10, .int y20), (9, .int (nI ((n + 12) - 6))), (8, .int (nI (n + 12))), (7, .int (nI 2)), (6, .int (nI 6)), (5, .int (nI n)), (4, .int (nI 4)), (0, .ref a), (1, .int (nI 1)), (2, .int (nI n)), (3, .int (nI 0))]) hx hb dX7_stirThickness_105 hl (by decide) rfl (fun ls hl => ?_)
  refine lv_aload_n hx hb dX7_stirThickness_107 rfl (lv_at hl 7 rfl) ?_
  refine va_get (D := (dC, dI)) (ci := 7) (v := .ref thickness) (C := RX7) (T := TX7) (N := 19) hx hb hts hin7 hown hK hP 0 rfl rfl 10 (by decide) (hts (.fieldLink RX7 9 "PorridgeSea$Sea" "thickness" "[I") (List.mem_of_getElem? (i := 3) rfl)) (fun _ h9 => h9) rfl dX7_stirThickness_108 ?_
  refine lv_iload hx hb dX7_stirThickness_111 (lv_at hl 2 rfl) ?_
  refine lv_aload_n hx hb dX7_stirThickness_113 rfl (lv_at hl 7 rfl) ?_
  refine va_get (D := (dC, dI)) (ci := 7) (v := .ref thickness) (C := RX7) (T := TX7) (N := 19) hx hb hts hin7 hown hK hP 0 rfl rfl 10 (by decide) (hts (.fieldLink RX7 9 "PorridgeSea$Sea" "thickness" "[I") (List.mem_of_getElem? (i := 3) rfl)) (fun _ h9 => h9) rfl dX7_stirThickness_114 ?_
  refine lv_iload hx hb dX7_stirThickness_117 (lv_at hl 1 rfl) ?_
  obtain ⟨y22, e23⟩ : ∃ z9, z9 = g14 ((n + 12) - 6) := ⟨_, rfl⟩
  refine r_iald hx hb hK hP 1 rfl ((n + 12) - 6) (by omega) (by decide) y22 e23.symm dX7_stirThickness_119 ?_
  refine r_iast (x := y22) hx hb hK hP hD hS 1 rfl (n + 12) (by omega) (by decide) dX7_stirThickness_120 (fun H locs hP hD hS => ?_)
  obtain ⟨g24, e25⟩ : ∃ z9, z9 = upd g14 (n + 12) y22 := ⟨_, rfl⟩
  rw [← e25] at hP hD
  have hP : va_P (dC, dI) vwCl [(a, .inr (7, [.int (nI 4), .int (nI 4), .int heat, .int cools, .int skinHeat, .int today, .int stirs, .int steps, .int (nI 0), .int (nI 0), .ref thickness, .ref lumpNames, .ref lumpCells, .ref boatNames, .ref boatCells, .ref loads, .ref spoons, .ref spoonsLeft, .ref depths])), (thickness, .inl (ky 0, 36, .inl g24))] H := hP
  have hD : va_D A [(a, .inr (7, [.int (nI 4), .int (nI 4), .int heat, .int cools, .int skinHeat, .int today, .int stirs, .int steps, .int (nI 0), .int (nI 0), .ref thickness, .ref lumpNames, .ref lumpCells, .ref boatNames, .ref boatCells, .ref loads, .ref spoons, .ref spoonsLeft, .ref depths])), (thickness, .inl (ky 0, 36, .inl g24))] := hD
  refine lv_aload_n hx hb dX7_stirThickness_121 rfl (lv_at hl 7 rfl) ?_
  refine va_get (D := (dC, dI)) (ci := 7) (v := .ref thickness) (C := RX7) (T := TX7) (N := 19) hx hb hts hin7 hown hK hP 0 rfl rfl 10 (by decide) (hts (.fieldLink RX7 9 "PorridgeSea$Sea" "thickness" "[I") (List.mem_of_getElem? (i := 3) rfl)) (fun _ h9 => h9) rfl dX7_stirThickness_122 ?_
  refine lv_iload hx hb dX7_stirThickness_125 (lv_at hl 1 rfl) ?_
  refine lv_iload hx hb dX7_stirThickness_127 (lv_at hl 0 rfl) ?_
  refine r_iast (x := y20) hx hb hK hP hD hS 1 rfl ((n + 12) - 6) (by omega) (by decide) dX7_stirThickness_129 (fun H locs hP hD hS => ?_)
  obtain ⟨g26, e27⟩ : ∃ z9, z9 = upd g24 ((n + 12) - 6) y20 := ⟨_, rfl⟩
  rw [← e27] at hP hD
  have hP : va_P (dC, dI) vwCl [(a, .inr (7, [.int (nI 4), .int (nI 4), .int heat, .int cools, .int skinHeat, .int today, .int stirs, .int steps, .int (nI 0), .int (nI 0), .ref thickness, .ref lumpNames, .ref lumpCells, .ref boatNames, .ref boatCells, .ref loads, .ref spoons, .ref spoonsLeft, .ref depths])), (thickness, .inl (ky 0, 36, .inl g26))] H := hP
  have hD : va_D A [(a, .inr (7, [.int (nI 4), .int (nI 4), .int heat, .int cools, .int skinHeat, .int today, .int stirs, .int steps, .int (nI 0), .int (nI 0), .ref thickness, .ref lumpNames, .ref lumpCells, .ref boatNames, .ref boatCells, .ref loads, .ref spoons, .ref spoonsLeft, .ref depths])), (thickness, .inl (ky 0, 36, .inl g26))] := hD
  refine lv_iinc (v := nI 3) (lv' := [(7, .int (nI 3)), (10, .int y20), (9, .int (nI ((n + 12) - 6))), (8, .int (nI (n + 12))), (6, .int (nI 6)), (5, .int (nI n)), (4, .int (nI 4)), (0, .ref a), (1, .int (nI 1)), (2, .int (nI n)), (3, .int (nI 0))]) hx hb dX7_stirThickness_130 hl (k := 3) rfl (by decide) (by decide) rfl (fun ls hl => ?_)
  refine lv_goto (tgt := 49) hx hb dX7_stirThickness_133 (by decide) ?_
  refine lv_iload hx hb dX7_stirThickness_49 (lv_at hl 0 rfl) ?_
  refine lv_iload hx hb dX7_stirThickness_51 (lv_at hl 6 rfl) ?_
  refine lv_icmp_ge (tgt := 136) hx hb dX7_stirThickness_53 (by decide) (fun c28 => absurd c28 (by decide)) (fun c28 => ?_)
  refine lv_iload hx hb dX7_stirThickness_56 (lv_at hl 5 rfl) ?_
  refine lv_iload hx hb dX7_stirThickness_58 (lv_at hl 4 rfl) ?_
  refine lv_iload_n hx hb dX7_stirThickness_60 rfl (lv_at hl 10 rfl) ?_
  refine lv_iconst (v := nI 1) hx hb dX7_stirThickness_61 (by decide) ?_
  refine lv_icmp_ne (tgt := 70) hx hb dX7_stirThickness_62 (by decide) (fun c29 => ?_) (fun c29 => absurd c29 (by decide))
  refine lv_iload hx hb dX7_stirThickness_70 (lv_at hl 6 rfl) ?_
  refine lv_iload hx hb dX7_stirThickness_72 (lv_at hl 0 rfl) ?_
  refine lv_isub hx hb dX7_stirThickness_74 ?_
  refine r_ti (nI 1) (by decide) ?_
  refine lv_imul hx hb dX7_stirThickness_75 ?_
  refine r_ti (nI 6) (by decide) ?_
  refine lv_iadd hx hb dX7_stirThickness_76 ?_
  refine r_ti (nI (n + 6)) (nI_add _ _) ?_
  refine lv_istore (lv' := [(8, .int (nI (n + 6))), (7, .int (nI 3)), (10, .int y20), (9, .int (nI ((n + 12) - 6))), (6, .int (nI 6)), (5, .int (nI n)), (4, .int (nI 4)), (0, .ref a), (1, .int (nI 1)), (2, .int (nI n)), (3, .int (nI 0))]) hx hb dX7_stirThickness_77 hl (by decide) rfl (fun ls hl => ?_)
  refine lv_iload hx hb dX7_stirThickness_79 (lv_at hl 0 rfl) ?_
  refine lv_iload hx hb dX7_stirThickness_81 (lv_at hl 4 rfl) ?_
  refine lv_isub hx hb dX7_stirThickness_83 ?_
  refine r_ti (nI ((n + 6) - 6)) (pk_sub (by omega)) ?_
  refine lv_istore (lv' := [(9, .int (nI ((n + 6) - 6))), (8, .int (nI (n + 6))), (7, .int (nI 3)), (10, .int y20), (6, .int (nI 6)), (5, .int (nI n)), (4, .int (nI 4)), (0, .ref a), (1, .int (nI 1)), (2, .int (nI n)), (3, .int (nI 0))]) hx hb dX7_stirThickness_84 hl (by decide) rfl (fun ls hl => ?_)
  refine lv_iload hx hb dX7_stirThickness_86 (lv_at hl 0 rfl) ?_
  refine n_if_lt (x := ((n + 6) - 6)) (tgt := 130) hx hb (by omega) dX7_stirThickness_88 (by decide) (fun c30 => c30.elim) (fun c30 => ?_)
  refine lv_iload hx hb dX7_stirThickness_91 (lv_at hl 1 rfl) ?_
  refine lv_bipush (v := nI 36) hx hb dX7_stirThickness_93 (by decide) ?_
  refine n_icmp_ge (x := (n + 6)) (y := 36) (tgt := 130) hx hb (by omega) (by omega) dX7_stirThickness_95 (by decide) (fun c31 => by exfalso; omega) (fun c31 => ?_)
  refine lv_aload_n hx hb dX7_stirThickness_98 rfl (lv_at hl 7 rfl) ?_
  refine va_get (D := (dC, dI)) (ci := 7) (v := .ref thickness) (C := RX7) (T := TX7) (N := 19) hx hb hts hin7 hown hK hP 0 rfl rfl 10 (by decide) (hts (.fieldLink RX7 9 "PorridgeSea$Sea" "thickness" "[I") (List.mem_of_getElem? (i := 3) rfl)) (fun _ h9 => h9) rfl dX7_stirThickness_99 ?_
  refine lv_iload hx hb dX7_stirThickness_102 (lv_at hl 1 rfl) ?_
  obtain ⟨y32, e33⟩ : ∃ z9, z9 = g26 (n + 6) := ⟨_, rfl⟩
  refine r_iald hx hb hK hP 1 rfl (n + 6) (by omega) (by decide) y32 e33.symm dX7_stirThickness_104 ?_
  refine lv_istore (lv' := [(10, .int y32), (9, .int (nI ((n + 6) - 6))), (8, .int (nI (n + 6))), (7, .int (nI 3)), (6, .int (nI 6)), (5, .int (nI n)), (4, .int (nI 4)), (0, .ref a), (1, .int (nI 1)), (2, .int (nI n)), (3, .int (nI 0))]) hx hb dX7_stirThickness_105 hl (by decide) rfl (fun ls hl => ?_)
  refine lv_aload_n hx hb dX7_stirThickness_107 rfl (lv_at hl 7 rfl) ?_
  refine va_get (D := (dC, dI)) (ci := 7) (v := .ref thickness) (C := RX7) (T := TX7) (N := 19) hx hb hts hin7 hown hK hP 0 rfl rfl 10 (by decide) (hts (.fieldLink RX7 9 "PorridgeSea$Sea" "thickness" "[I") (List.mem_of_getElem? (i := 3) rfl)) (fun _ h9 => h9) rfl dX7_stirThickness_108 ?_
  refine lv_iload hx hb dX7_stirThickness_111 (lv_at hl 2 rfl) ?_
  refine lv_aload_n hx hb dX7_stirThickness_113 rfl (lv_at hl 7 rfl) ?_
  refine va_get (D := (dC, dI)) (ci := 7) (v := .ref thickness) (C := RX7) (T := TX7) (N := 19) hx hb hts hin7 hown hK hP 0 rfl rfl 10 (by decide) (hts (.fieldLink RX7 9 "PorridgeSea$Sea" "thickness" "[I") (List.mem_of_getElem? (i := 3) rfl)) (fun _ h9 => h9) rfl dX7_stirThickness_114 ?_
  refine lv_iload hx hb dX7_stirThickness_117 (lv_at hl 1 rfl) ?_
  obtain ⟨y34, e35⟩ : ∃ z9, z9 = g26 ((n + 6) - 6) := ⟨_, rfl⟩
  refine r_iald hx hb hK hP 1 rfl ((n + 6) - 6) (by omega) (by decide) y34 e35.symm dX7_stirThickness_119 ?_
  refine r_iast (x := y34) hx hb hK hP hD hS 1 rfl (n + 6) (by omega) (by decide) dX7_stirThickness_120 (fun H locs hP hD hS => ?_)
  obtain ⟨g36, e37⟩ : ∃ z9, z9 = upd g26 (n + 6) y34 := ⟨_, rfl⟩
  rw [← e37] at hP hD
  have hP : va_P (dC, dI) vwCl [(a, .inr (7, [.int (nI 4), .int (nI 4), .int heat, .int cools, .int skinHeat, .int today, .int stirs, .int steps, .int (nI 0), .int (nI 0), .ref thickness, .ref lumpNames, .ref lumpCells, .ref boatNames, .ref boatCells, .ref loads, .ref spoons, .ref spoonsLeft, .ref depths])), (thickness, .inl (ky 0, 36, .inl g36))] H := hP
  have hD : va_D A [(a, .inr (7, [.int (nI 4), .int (nI 4), .int heat, .int cools, .int skinHeat, .int today, .int stirs, .int steps, .int (nI 0), .int (nI 0), .ref thickness, .ref lumpNames, .ref lumpCells, .ref boatNames, .ref boatCells, .ref loads, .ref spoons, .ref spoonsLeft, .ref depths])), (thickness, .inl (ky 0, 36, .inl g36))] := hD
  refine lv_aload_n hx hb dX7_stirThickness_121 rfl (lv_at hl 7 rfl) ?_
  refine va_get (D := (dC, dI)) (ci := 7) (v := .ref thickness) (C := RX7) (T := TX7) (N := 19) hx hb hts hin7 hown hK hP 0 rfl rfl 10 (by decide) (hts (.fieldLink RX7 9 "PorridgeSea$Sea" "thickness" "[I") (List.mem_of_getElem? (i := 3) rfl)) (fun _ h9 => h9) rfl dX7_stirThickness_122 ?_
  refine lv_iload hx hb dX7_stirThickness_125 (lv_at hl 1 rfl) ?_
  refine lv_iload hx hb dX7_stirThickness_127 (lv_at hl 0 rfl) ?_
  refine r_iast (x := y32) hx hb hK hP hD hS 1 rfl ((n + 6) - 6) (by omega) (by decide) dX7_stirThickness_129 (fun H locs hP hD hS => ?_)
  obtain ⟨g38, e39⟩ : ∃ z9, z9 = upd g36 ((n + 6) - 6) y32 := ⟨_, rfl⟩
  rw [← e39] at hP hD
  have hP : va_P (dC, dI) vwCl [(a, .inr (7, [.int (nI 4), .int (nI 4), .int heat, .int cools, .int skinHeat, .int today, .int stirs, .int steps, .int (nI 0), .int (nI 0), .ref thickness, .ref lumpNames, .ref lumpCells, .ref boatNames, .ref boatCells, .ref loads, .ref spoons, .ref spoonsLeft, .ref depths])), (thickness, .inl (ky 0, 36, .inl g38))] H := hP
  have hD : va_D A [(a, .inr (7, [.int (nI 4), .int (nI 4), .int heat, .int cools, .int skinHeat, .int today, .int stirs, .int steps, .int (nI 0), .int (nI 0), .ref thickness, .ref lumpNames, .ref lumpCells, .ref boatNames, .ref boatCells, .ref loads, .ref spoons, .ref spoonsLeft, .ref depths])), (thickness, .inl (ky 0, 36, .inl g38))] := hD
  refine lv_iinc (v := nI 4) (lv' := [(7, .int (nI 4)), (10, .int y32), (9, .int (nI ((n + 6) - 6))), (8, .int (nI (n + 6))), (6, .int (nI 6)), (5, .int (nI n)), (4, .int (nI 4)), (0, .ref a), (1, .int (nI 1)), (2, .int (nI n)), (3, .int (nI 0))]) hx hb dX7_stirThickness_130 hl (k := 3) rfl (by decide) (by decide) rfl (fun ls hl => ?_)
  refine lv_goto (tgt := 49) hx hb dX7_stirThickness_133 (by decide) ?_
  refine lv_iload hx hb dX7_stirThickness_49 (lv_at hl 0 rfl) ?_
  refine lv_iload hx hb dX7_stirThickness_51 (lv_at hl 6 rfl) ?_
  refine lv_icmp_ge (tgt := 136) hx hb dX7_stirThickness_53 (by decide) (fun c40 => ?_) (fun c40 => absurd (by decide) c40)
  have hP9 := hP.sub (ws' := [(a, .inr (7, [.int (nI 4), .int (nI 4), .int heat, .int cools, .int skinHeat, .int today, .int stirs, .int steps, .int (nI 0), .int (nI 0), .ref thickness, .ref lumpNames, .ref lumpCells, .ref boatNames, .ref boatCells, .ref loads, .ref spoons, .ref spoonsLeft, .ref depths])), (thickness, .inl (ky 0, 36, .inl g38))]) [0, 1] rfl
  have hD9 := hD.sub (ws' := [(a, .inr (7, [.int (nI 4), .int (nI 4), .int heat, .int cools, .int skinHeat, .int today, .int stirs, .int steps, .int (nI 0), .int (nI 0), .ref thickness, .ref lumpNames, .ref lumpCells, .ref boatNames, .ref boatCells, .ref loads, .ref spoons, .ref spoonsLeft, .ref depths])), (thickness, .inl (ky 0, 36, .inl g38))]) [0, 1] (by decide) rfl
  refine W.widen (k := 0) (n := 0) (Nat.le_of_ble_eq_true rfl) (Nat.le_of_ble_eq_true rfl) ?_
  exact W.vret hx hb hr (fun t ht9 hW9 => ⟨⟨g38, rfl, trivial, by rw [ht9]; exact hP9, va_K.moved hW9.alike hK, hD9⟩, hS.F ht9⟩) hS.2.2 dX7_stirThickness_136
set_option maxHeartbeats 4000000 in
set_option maxRecDepth 100000 in
theorem c_stirLine10 (l : Launch) (dC : Nat → ClassId) (dI : Nat → Nat → Nat) (ky : Nat → ClassId) (sz : Nat) (a : Nat) (heat : Int32) (cools : Int32) (skinHeat : Int32) (today : Int32) (stirs : Int32) (steps : Int32) (thickness : Nat) (lumpNames : Nat) (lumpCells : Nat) (boatNames : Nat) (boatCells : Nat) (loads : Nat) (spoons : Nat) (spoonsLeft : Nat) (depths : Nat) (thicknessF : Nat → Int32) (n : Nat) (hn : n < 4) : Met l yX7_stirLine wsX7_stirLine ({ frames := 1, cells := 0, slots := 0, locals := 30 }) (PcU dC dI ky [.ref a, .int (nI 1), .int (nI n), .int (nI 0)] [(a, .inr (7, [.int (nI 4), .int (nI 4), .int heat, .int cools, .int skinHeat, .int today, .int stirs, .int steps, .int (nI 0), .int (nI 0), .ref thickness, .ref lumpNames, .ref lumpCells, .ref boatNames, .ref boatCells, .ref loads, .ref spoons, .ref spoonsLeft, .ref depths])), (thickness, .inl (ky 0, 36, .inl thicknessF))] sz) (va_Qv (fun (u : Int32 × (Nat → Int32)) => match u with | (stirsG, thicknessG) => True) (BU dC dI ky (fun (u : Int32 × (Nat → Int32)) => match u with | (stirsG, thicknessG) => [(a, .inr (7, [.int (nI 4), .int (nI 4), .int heat, .int cools, .int skinHeat, .int today, .int stirsG, .int steps, .int (nI 0), .int (nI 0), .ref thickness, .ref lumpNames, .ref lumpCells, .ref boatNames, .ref boatCells, .ref loads, .ref spoons, .ref spoonsLeft, .ref depths])), (thickness, .inl (ky 0, 36, .inl thicknessG))]) (va_A [(a, .inr (7, [.int (nI 4), .int (nI 4), .int heat, .int cools, .int skinHeat, .int today, .int stirs, .int steps, .int (nI 0), .int (nI 0), .ref thickness, .ref lumpNames, .ref lumpCells, .ref boatNames, .ref boatCells, .ref loads, .ref spoons, .ref spoonsLeft, .ref depths])), (thickness, .inl (ky 0, 36, .inl thicknessF))] sz)) (va_A [(a, .inr (7, [.int (nI 4), .int (nI 4), .int heat, .int cools, .int skinHeat, .int today, .int stirs, .int steps, .int (nI 0), .int (nI 0), .ref thickness, .ref lumpNames, .ref lumpCells, .ref boatNames, .ref boatCells, .ref loads, .ref spoons, .ref spoonsLeft, .ref depths])), (thickness, .inl (ky 0, 36, .inl thicknessF))] sz)) 0 0 (va_A [(a, .inr (7, [.int (nI 4), .int (nI 4), .int heat, .int cools, .int skinHeat, .int today, .int stirs, .int steps, .int (nI 0), .int (nI 0), .ref thickness, .ref lumpNames, .ref lumpCells, .ref boatNames, .ref boatCells, .ref loads, .ref spoons, .ref spoonsLeft, .ref depths])), (thickness, .inl (ky 0, 36, .inl thicknessF))] sz) := by
  refine Met.ofW (cc := cX7_stirLine) (maxL := 5) (ret := none) (by decide) rfl ?_
  intro p e s m args below meth c s₁ B hml hv
  obtain ⟨rfl, hsz, hP, hK, hD0⟩ := hv
  have hx := B.exec
  have hb := B.bytes
  have hr := B.returns
  have hts := atoms_spec (ws := wsX7_stirLine) B.pre
  have hown : s.vm.findClass RX7 = some m.cls := findClass_of_methodNamed B.named
  have hlocks := B.notSynchronized
  have hin7 : ∀ w ∈ u_ws RX7 TX7 19, w ∈ wsX7_stirLine := by decide +kernel
  subst hsz
  have hD := hD0.self (sz := s.heap.size)
  generalize hAe : va_A [(a, .inr (7, [.int (nI 4), .int (nI 4), .int heat, .int cools, .int skinHeat, .int today, .int stirs, .int steps, .int (nI 0), .int (nI 0), .ref thickness, .ref lumpNames, .ref lumpCells, .ref boatNames, .ref boatCells, .ref loads, .ref spoons, .ref spoonsLeft, .ref depths])), (thickness, .inl (ky 0, 36, .inl thicknessF))] s.heap.size = A at hD ⊢
  have hA : ∀ q : Nat, s.heap.size ≤ q → A q := fun q h => by rw [← hAe]; exact Or.inr h
  have hS : va_S A s.heap s.heap [] := va_S.rf
  have hP : va_P (dC, dI) vwCl [(a, .inr (7, [.int (nI 4), .int (nI 4), .int heat, .int cools, .int skinHeat, .int today, .int stirs, .int steps, .int (nI 0), .int (nI 0), .ref thickness, .ref lumpNames, .ref lumpCells, .ref boatNames, .ref boatCells, .ref loads, .ref spoons, .ref spoonsLeft, .ref depths])), (thickness, .inl (ky 0, 36, .inl thicknessF))] s.heap := hP
  have hl := lv_entry ([.ref a, .int (nI 1), .int (nI n), .int (nI 0)]) (n := 5) (Nat.le_of_ble_eq_true rfl)
  rw [lg_entry_eq]
  generalize (lg_sl ([.ref a, .int (nI 1), .int (nI n), .int (nI 0)]) ++ List.replicate (5 - (lg_sl ([.ref a, .int (nI 1), .int (nI n), .int (nI 0)])).length) Slot.unset).toArray = ls at hl ⊢
  have hl : lv_has ls 5 [(0, .ref a), (1, .int (nI 1)), (2, .int (nI n)), (3, .int (nI 0))] := hl
  have hH0 : True := trivial
  refine lv_aload_n hx hb dX7_stirLine_0 rfl (lv_at hl 0 rfl) ?_
  refine lv_iload_n hx hb dX7_stirLine_1 rfl (lv_at hl 1 rfl) ?_
  refine lv_iload_n hx hb dX7_stirLine_2 rfl (lv_at hl 2 rfl) ?_
  refine vp_callSi (W.runV (As := [.int (nI 1), .int (nI n)]) (rest := []) ⟨hx, hb, hml, hown, hts⟩ (c_isLine l dC dI ky a (nI 4) (nI 4) heat cools skinHeat today stirs steps (nI 0) (nI 0) thickness lumpNames lumpCells boatNames boatCells loads spoons spoonsLeft depths (nI 1) (nI n)) (cwV 2 hts gX7_stirLine_X7_isLine rfl rfl rfl (by decide +kernel) ⟨(Nat.le_of_ble_eq_true rfl), (Nat.le_of_ble_eq_true rfl)⟩) (pre_PV hK hP [0] rfl (ci := 7) (q0 := 0) rfl rfl) rfl rfl hl.1 rfl (lv_room (Nat.le_of_ble_eq_true rfl)) dX7_stirLine_3 ⟨(Nat.le_of_ble_eq_true rfl), (Nat.le_of_ble_eq_true rfl)⟩) (fun r1 p2 => ?_)
  refine lv_if_ne (tgt := 10) hx hb dX7_stirLine_6 (by decide) (fun c3 => ?_) (fun c3 => ?_)
  · refine lv_aload_n hx hb dX7_stirLine_10 rfl (lv_at hl 0 rfl) ?_
    refine lv_iload_n hx hb dX7_stirLine_11 rfl (lv_at hl 1 rfl) ?_
    refine lv_iload_n hx hb dX7_stirLine_12 rfl (lv_at hl 2 rfl) ?_
    refine lv_iload_n hx hb dX7_stirLine_13 rfl (lv_at hl 3 rfl) ?_
    refine r_call_v (wr := []) (va_runV (As := [.int (nI 1), .int (nI n), .int (nI 0)]) (rest := []) ⟨hx, hb, hml, hown, hts⟩ (c_stirThickness10 l dC dI ky s.heap.size a heat cools skinHeat today stirs steps thickness lumpNames lumpCells boatNames boatCells loads spoons spoonsLeft depths thicknessF n (by omega)) (cwV 3 hts gX7_stirLine_X7_stirThickness rfl rfl rfl (by decide +kernel) ⟨(Nat.le_of_ble_eq_true rfl), (Nat.le_of_ble_eq_true rfl)⟩) (pre_UV hK hP hD [0, 1] (by decide) rfl (ci := 7) (q0 := 0) rfl rfl) rfl rfl hl.1 rfl (lv_room (Nat.le_of_ble_eq_true rfl)) dX7_stirLine_14 ⟨(Nat.le_of_ble_eq_true rfl), (Nat.le_of_ble_eq_true rfl)⟩) hP hD hS hA [0, 1] [] rfl rfl (by decide) (by decide) (fun  u4 H locs p5 hP hD hS => ?_)
    obtain ⟨thicknessG_6, rfl⟩ : ∃ z, z = u4 := ⟨_, rfl⟩
    refine W.widen (k := 0) (n := 0) (Nat.le_of_ble_eq_true rfl) (Nat.le_of_ble_eq_true rfl) ?_
    have hP : va_P (dC, dI) vwCl [(a, .inr (7, [.int (nI 4), .int (nI 4), .int heat, .int cools, .int skinHeat, .int today, .int stirs, .int steps, .int (nI 0), .int (nI 0), .ref thickness, .ref lumpNames, .ref lumpCells, .ref boatNames, .ref boatCells, .ref loads, .ref spoons, .ref spoonsLeft, .ref depths])), (thickness, .inl (ky 0, 36, .inl thicknessG_6))] H := hP
    have hD : va_D A [(a, .inr (7, [.int (nI 4), .int (nI 4), .int heat, .int cools, .int skinHeat, .int today, .int stirs, .int steps, .int (nI 0), .int (nI 0), .ref thickness, .ref lumpNames, .ref lumpCells, .ref boatNames, .ref boatCells, .ref loads, .ref spoons, .ref spoonsLeft, .ref depths])), (thickness, .inl (ky 0, 36, .inl thicknessG_6))] := hD
    refine lv_iconst (v := nI 0) hx hb dX7_stirLine_17 (by decide) ?_
    refine lv_istore (lv' := [(4, .int (nI 0)), (0, .ref a), (1, .int (nI 1)), (2, .int (nI n)), (3, .int (nI 0))]) hx hb dX7_stirLine_18 hl (by decide) rfl (fun ls hl => ?_)
    refine lv_iload hx hb dX7_stirLine_20 (lv_at hl 0 rfl) ?_
    refine lv_aload_n hx hb dX7_stirLine_22 rfl (lv_at hl 1 rfl) ?_
    refine va_get (D := (dC, dI)) (ci := 7) (v := .int (nI 0)) (C := RX7) (T := TX7) (N := 19) hx hb hts hin7 hown hK hP 0 rfl rfl 8 (by decide) (hts (.fieldLink RX7 68 "PorridgeSea$Sea" "lumps" "I") (List.mem_of_getElem? (i := 1) rfl)) (fun _ h9 => h9) rfl dX7_stirLine_23 ?_
    refine lv_icmp_ge (tgt := 56) hx hb dX7_stirLine_26 (by decide) (fun c7 => ?_) (fun c7 => absurd (by decide) c7)
    refine lv_iconst (v := nI 0) hx hb dX7_stirLine_56 (by decide) ?_
    refine lv_istore (lv' := [(4, .int (nI 0)), (0, .ref a), (1, .int (nI 1)), (2, .int (nI n)), (3, .int (nI 0))]) hx hb dX7_stirLine_57 hl (by decide) rfl (fun ls hl => ?_)
    refine lv_iload hx hb dX7_stirLine_59 (lv_at hl 0 rfl) ?_
    refine lv_aload_n hx hb dX7_stirLine_61 rfl (lv_at hl 1 rfl) ?_
    refine va_get (D := (dC, dI)) (ci := 7) (v := .int (nI 0)) (C := RX7) (T := TX7) (N := 19) hx hb hts hin7 hown hK hP 0 rfl rfl 9 (by decide) (hts (.fieldLink RX7 71 "PorridgeSea$Sea" "boats" "I") (List.mem_of_getElem? (i := 3) rfl)) (fun _ h9 => h9) rfl dX7_stirLine_62 ?_
    refine lv_icmp_ge (tgt := 104) hx hb dX7_stirLine_65 (by decide) (fun c8 => ?_) (fun c8 => absurd (by decide) c8)
    refine lv_aload_n hx hb dX7_stirLine_104 rfl (lv_at hl 1 rfl) ?_
    refine lv_dup hx hb dX7_stirLine_105 rfl ?_
    refine va_get (D := (dC, dI)) (ci := 7) (v := .int stirs) (C := RX7) (T := TX7) (N := 19) hx hb hts hin7 hown hK hP 0 rfl rfl 6 (by decide) (hts (.fieldLink RX7 62 "PorridgeSea$Sea" "stirs" "I") (List.mem_of_getElem? (i := 5) rfl)) (fun _ h9 => h9) rfl dX7_stirLine_106 ?_
    refine lv_iconst (v := nI 1) hx hb dX7_stirLine_109 (by decide) ?_
    refine lv_iadd hx hb dX7_stirLine_110 ?_
    refine lv_topi (fun y9 e10 => ?_)
    refine va_put (D := (dC, dI)) (ci := 7) (v := .int y9) (ty := .int) (C := RX7) (T := TX7) (N := 19) hx hb hts hin7 tyX7 tyX7_ok nmX7 hown hK hP hD hS 0 rfl rfl 6 (by decide) (hts (.fieldLink RX7 62 "PorridgeSea$Sea" "stirs" "I") (List.mem_of_getElem? (i := 5) rfl)) (fun _ h9 => h9) rfl (by decide +kernel) rfl rfl (Nat.le_of_ble_eq_true rfl) dX7_stirLine_111 (fun H locs hP hD hS => ?_)
    have hP : va_P (dC, dI) vwCl [(a, .inr (7, [.int (nI 4), .int (nI 4), .int heat, .int cools, .int skinHeat, .int today, .int y9, .int steps, .int (nI 0), .int (nI 0), .ref thickness, .ref lumpNames, .ref lumpCells, .ref boatNames, .ref boatCells, .ref loads, .ref spoons, .ref spoonsLeft, .ref depths])), (thickness, .inl (ky 0, 36, .inl thicknessG_6))] H := hP
    have hD : va_D A [(a, .inr (7, [.int (nI 4), .int (nI 4), .int heat, .int cools, .int skinHeat, .int today, .int y9, .int steps, .int (nI 0), .int (nI 0), .ref thickness, .ref lumpNames, .ref lumpCells, .ref boatNames, .ref boatCells, .ref loads, .ref spoons, .ref spoonsLeft, .ref depths])), (thickness, .inl (ky 0, 36, .inl thicknessG_6))] := hD
    have hP9 := hP.sub (ws' := [(a, .inr (7, [.int (nI 4), .int (nI 4), .int heat, .int cools, .int skinHeat, .int today, .int y9, .int steps, .int (nI 0), .int (nI 0), .ref thickness, .ref lumpNames, .ref lumpCells, .ref boatNames, .ref boatCells, .ref loads, .ref spoons, .ref spoonsLeft, .ref depths])), (thickness, .inl (ky 0, 36, .inl thicknessG_6))]) [0, 1] rfl
    have hD9 := hD.sub (ws' := [(a, .inr (7, [.int (nI 4), .int (nI 4), .int heat, .int cools, .int skinHeat, .int today, .int y9, .int steps, .int (nI 0), .int (nI 0), .ref thickness, .ref lumpNames, .ref lumpCells, .ref boatNames, .ref boatCells, .ref loads, .ref spoons, .ref spoonsLeft, .ref depths])), (thickness, .inl (ky 0, 36, .inl thicknessG_6))]) [0, 1] (by decide) rfl
    refine W.widen (k := 0) (n := 0) (Nat.le_of_ble_eq_true rfl) (Nat.le_of_ble_eq_true rfl) ?_
    exact W.vret hx hb hr (fun t ht9 hW9 => ⟨⟨(y9, thicknessG_6), rfl, trivial, by rw [ht9]; exact hP9, va_K.moved hW9.alike hK, hD9⟩, hS.F ht9⟩) hS.2.2 dX7_stirLine_114
  · have hP9 := hP.sub (ws' := [(a, .inr (7, [.int (nI 4), .int (nI 4), .int heat, .int cools, .int skinHeat, .int today, .int stirs, .int steps, .int (nI 0), .int (nI 0), .ref thickness, .ref lumpNames, .ref lumpCells, .ref boatNames, .ref boatCells, .ref loads, .ref spoons, .ref spoonsLeft, .ref depths])), (thickness, .inl (ky 0, 36, .inl thicknessF))]) [0, 1] rfl
    have hD9 := hD.sub (ws' := [(a, .inr (7, [.int (nI 4), .int (nI 4), .int heat, .int cools, .int skinHeat, .int today, .int stirs, .int steps, .int (nI 0), .int (nI 0), .ref thickness, .ref lumpNames, .ref lumpCells, .ref boatNames, .ref boatCells, .ref loads, .ref spoons, .ref spoonsLeft, .ref depths])), (thickness, .inl (ky 0, 36, .inl thicknessF))]) [0, 1] (by decide) rfl
    refine W.widen (k := 0) (n := 0) (Nat.le_of_ble_eq_true rfl) (Nat.le_of_ble_eq_true rfl) ?_
    exact W.vret hx hb hr (fun t ht9 hW9 => ⟨⟨(stirs, thicknessF), rfl, trivial, by rw [ht9]; exact hP9, va_K.moved hW9.alike hK, hD9⟩, hS.F ht9⟩) hS.2.2 dX7_stirLine_9
set_option maxHeartbeats 4000000 in
set_option maxRecDepth 100000 in
theorem c_stirThickness11 (l : Launch) (dC : Nat → ClassId) (dI : Nat → Nat → Nat) (ky : Nat → ClassId) (sz : Nat) (a : Nat) (heat : Int32) (cools : Int32) (skinHeat : Int32) (today : Int32) (stirs : Int32) (steps : Int32) (thickness : Nat) (lumpNames : Nat) (lumpCells : Nat) (boatNames : Nat) (boatCells : Nat) (loads : Nat) (spoons : Nat) (spoonsLeft : Nat) (depths : Nat) (thicknessF : Nat → Int32) (n : Nat) (hn : n < 4) : Met l yX7_stirThickness wsX7_stirThickness ({ frames := 0, cells := 0, slots := 0, locals := 0 }) (PcU dC dI ky [.ref a, .int (nI 1), .int (nI n), .int (nI 1)] [(a, .inr (7, [.int (nI 4), .int (nI 4), .int heat, .int cools, .int skinHeat, .int today, .int stirs, .int steps, .int (nI 0), .int (nI 0), .ref thickness, .ref lumpNames, .ref lumpCells, .ref boatNames, .ref boatCells, .ref loads, .ref spoons, .ref spoonsLeft, .ref depths])), (thickness, .inl (ky 0, 36, .inl thicknessF))] sz) (va_Qv (fun (thicknessG : (Nat → Int32)) => True) (BU dC dI ky (fun (thicknessG : (Nat → Int32)) => [(a, .inr (7, [.int (nI 4), .int (nI 4), .int heat, .int cools, .int skinHeat, .int today, .int stirs, .int steps, .int (nI 0), .int (nI 0), .ref thickness, .ref lumpNames, .ref lumpCells, .ref boatNames, .ref boatCells, .ref loads, .ref spoons, .ref spoonsLeft, .ref depths])), (thickness, .inl (ky 0, 36, .inl thicknessG))]) (va_A [(a, .inr (7, [.int (nI 4), .int (nI 4), .int heat, .int cools, .int skinHeat, .int today, .int stirs, .int steps, .int (nI 0), .int (nI 0), .ref thickness, .ref lumpNames, .ref lumpCells, .ref boatNames, .ref boatCells, .ref loads, .ref spoons, .ref spoonsLeft, .ref depths])), (thickness, .inl (ky 0, 36, .inl thicknessF))] sz)) (va_A [(a, .inr (7, [.int (nI 4), .int (nI 4), .int heat, .int cools, .int skinHeat, .int today, .int stirs, .int steps, .int (nI 0), .int (nI 0), .ref thickness, .ref lumpNames, .ref lumpCells, .ref boatNames, .ref boatCells, .ref loads, .ref spoons, .ref spoonsLeft, .ref depths])), (thickness, .inl (ky 0, 36, .inl thicknessF))] sz)) 0 0 (va_A [(a, .inr (7, [.int (nI 4), .int (nI 4), .int heat, .int cools, .int skinHeat, .int today, .int stirs, .int steps, .int (nI 0), .int (nI 0), .ref thickness, .ref lumpNames, .ref lumpCells, .ref boatNames, .ref boatCells, .ref loads, .ref spoons, .ref spoonsLeft, .ref depths])), (thickness, .inl (ky 0, 36, .inl thicknessF))] sz) := by
  refine Met.ofW (cc := cX7_stirThickness) (maxL := 11) (ret := none) (by decide) rfl ?_
  intro p e s m args below meth c s₁ B hml hv
  obtain ⟨rfl, hsz, hP, hK, hD0⟩ := hv
  have hx := B.exec
  have hb := B.bytes
  have hr := B.returns
  have hts := atoms_spec (ws := wsX7_stirThickness) B.pre
  have hown : s.vm.findClass RX7 = some m.cls := findClass_of_methodNamed B.named
  have hlocks := B.notSynchronized
  have hin7 : ∀ w ∈ u_ws RX7 TX7 19, w ∈ wsX7_stirThickness := by decide +kernel
  subst hsz
  have hD := hD0.self (sz := s.heap.size)
  generalize hAe : va_A [(a, .inr (7, [.int (nI 4), .int (nI 4), .int heat, .int cools, .int skinHeat, .int today, .int stirs, .int steps, .int (nI 0), .int (nI 0), .ref thickness, .ref lumpNames, .ref lumpCells, .ref boatNames, .ref boatCells, .ref loads, .ref spoons, .ref spoonsLeft, .ref depths])), (thickness, .inl (ky 0, 36, .inl thicknessF))] s.heap.size = A at hD ⊢
  have hA : ∀ q : Nat, s.heap.size ≤ q → A q := fun q h => by rw [← hAe]; exact Or.inr h
  have hS : va_S A s.heap s.heap [] := va_S.rf
  have hP : va_P (dC, dI) vwCl [(a, .inr (7, [.int (nI 4), .int (nI 4), .int heat, .int cools, .int skinHeat, .int today, .int stirs, .int steps, .int (nI 0), .int (nI 0), .ref thickness, .ref lumpNames, .ref lumpCells, .ref boatNames, .ref boatCells, .ref loads, .ref spoons, .ref spoonsLeft, .ref depths])), (thickness, .inl (ky 0, 36, .inl thicknessF))] s.heap := hP
  have hl := lv_entry ([.ref a, .int (nI 1), .int (nI n), .int (nI 1)]) (n := 11) (Nat.le_of_ble_eq_true rfl)
  rw [lg_entry_eq]
  generalize (lg_sl ([.ref a, .int (nI 1), .int (nI n), .int (nI 1)]) ++ List.replicate (11 - (lg_sl ([.ref a, .int (nI 1), .int (nI n), .int (nI 1)])).length) Slot.unset).toArray = ls at hl ⊢
  have hl : lv_has ls 11 [(0, .ref a), (1, .int (nI 1)), (2, .int (nI n)), (3, .int (nI 1))] := hl
  have hH0 : True := trivial
  refine lv_iload_n hx hb dX7_stirThickness_0 rfl (lv_at hl 1 rfl) ?_
  refine lv_iconst (v := nI 1) hx hb dX7_stirThickness_1 (by decide) ?_
  refine lv_icmp_ne (tgt := 12) hx hb dX7_stirThickness_2 (by decide) (fun c1 => absurd c1 (by decide)) (fun c1 => ?_)
  refine lv_aload_n hx hb dX7_stirThickness_5 rfl (lv_at hl 0 rfl) ?_
  refine va_get (D := (dC, dI)) (ci := 7) (v := .int (nI 4)) (C := RX7) (T := TX7) (N := 19) hx hb hts hin7 hown hK hP 0 rfl rfl 1 (by decide) (hts (.fieldLink RX7 47 "PorridgeSea$Sea" "high" "I") (List.mem_of_getElem? (i := 1) rfl)) (fun _ h9 => h9) rfl dX7_stirThickness_6 ?_
  refine lv_goto (tgt := 16) hx hb dX7_stirThickness_9 (by decide) ?_
  refine lv_istore (lv' := [(4, .int (nI 4)), (0, .ref a), (1, .int (nI 1)), (2, .int (nI n)), (3, .int (nI 1))]) hx hb dX7_stirThickness_16 hl (by decide) rfl (fun ls hl => ?_)
  refine lv_iload_n hx hb dX7_stirThickness_18 rfl (lv_at hl 2 rfl) ?_
  refine lv_iconst (v := nI 1) hx hb dX7_stirThickness_19 (by decide) ?_
  refine lv_icmp_ne (tgt := 27) hx hb dX7_stirThickness_20 (by decide) (fun c2 => absurd c2 (by decide)) (fun c2 => ?_)
  refine lv_iload_n hx hb dX7_stirThickness_23 rfl (lv_at hl 3 rfl) ?_
  refine lv_goto (tgt := 31) hx hb dX7_stirThickness_24 (by decide) ?_
  refine lv_istore (lv' := [(5, .int (nI n)), (4, .int (nI 4)), (0, .ref a), (1, .int (nI 1)), (2, .int (nI n)), (3, .int (nI 1))]) hx hb dX7_stirThickness_31 hl (by decide) rfl (fun ls hl => ?_)
  refine lv_iload_n hx hb dX7_stirThickness_33 rfl (lv_at hl 3 rfl) ?_
  refine lv_iconst (v := nI 1) hx hb dX7_stirThickness_34 (by decide) ?_
  refine lv_icmp_ne (tgt := 43) hx hb dX7_stirThickness_35 (by decide) (fun c3 => absurd c3 (by decide)) (fun c3 => ?_)
  refine lv_bipush (v := nI 6) hx hb dX7_stirThickness_38 (by decide) ?_
  refine lv_goto (tgt := 44) hx hb dX7_stirThickness_40 (by decide) ?_
  refine lv_istore (lv' := [(6, .int (nI 6)), (5, .int (nI n)), (4, .int (nI 4)), (0, .ref a), (1, .int (nI 1)), (2, .int (nI n)), (3, .int (nI 1))]) hx hb dX7_stirThickness_44 hl (by decide) rfl (fun ls hl => ?_)
  refine lv_iconst (v := nI 1) hx hb dX7_stirThickness_46 (by decide) ?_
  refine lv_istore (lv' := [(7, .int (nI 1)), (6, .int (nI 6)), (5, .int (nI n)), (4, .int (nI 4)), (0, .ref a), (1, .int (nI 1)), (2, .int (nI n)), (3, .int (nI 1))]) hx hb dX7_stirThickness_47 hl (by decide) rfl (fun ls hl => ?_)
  refine lv_iload hx hb dX7_stirThickness_49 (lv_at hl 0 rfl) ?_
  refine lv_iload hx hb dX7_stirThickness_51 (lv_at hl 3 rfl) ?_
  refine lv_icmp_ge (tgt := 136) hx hb dX7_stirThickness_53 (by decide) (fun c4 => absurd c4 (by decide)) (fun c4 => ?_)
  refine lv_iload hx hb dX7_stirThickness_56 (lv_at hl 2 rfl) ?_
  refine lv_iload hx hb dX7_stirThickness_58 (lv_at hl 1 rfl) ?_
  refine lv_iload_n hx hb dX7_stirThickness_60 rfl (lv_at hl 7 rfl) ?_
  refine lv_iconst (v := nI 1) hx hb dX7_stirThickness_61 (by decide) ?_
  refine lv_icmp_ne (tgt := 70) hx hb dX7_stirThickness_62 (by decide) (fun c5 => absurd c5 (by decide)) (fun c5 => ?_)
  refine lv_iload hx hb dX7_stirThickness_65 (lv_at hl 0 rfl) ?_
  refine lv_goto (tgt := 75) hx hb dX7_stirThickness_67 (by decide) ?_
  refine lv_imul hx hb dX7_stirThickness_75 ?_
  refine r_ti (nI 6) (by decide) ?_
  refine lv_iadd hx hb dX7_stirThickness_76 ?_
  refine r_ti (nI (n + 6)) (nI_add _ _) ?_
  refine lv_istore (lv' := [(8, .int (nI (n + 6))), (7, .int (nI 1)), (6, .int (nI 6)), (5, .int (nI n)), (4, .int (nI 4)), (0, .ref a), (1, .int (nI 1)), (2, .int (nI n)), (3, .int (nI 1))]) hx hb dX7_stirThickness_77 hl (by decide) rfl (fun ls hl => ?_)
  refine lv_iload hx hb dX7_stirThickness_79 (lv_at hl 0 rfl) ?_
  refine lv_iload hx hb dX7_stirThickness_81 (lv_at hl 2 rfl) ?_
  refine lv_isub hx hb dX7_stirThickness_83 ?_
  refine r_ti (nI ((n + 6) - 6)) (pk_sub (by omega)) ?_
  refine lv_istore (lv' := [(9, .int (nI ((n + 6) - 6))), (8, .int (nI (n + 6))), (7, .int (nI 1)), (6, .int (nI 6)), (5, .int (nI n)), (4, .int (nI 4)), (0, .ref a), (1, .int (nI 1)), (2, .int (nI n)), (3, .int (nI 1))]) hx hb dX7_stirThickness_84 hl (by decide) rfl (fun ls hl => ?_)
  refine lv_iload hx hb dX7_stirThickness_86 (lv_at hl 0 rfl) ?_
  refine n_if_lt (x := ((n + 6) - 6)) (tgt := 130) hx hb (by omega) dX7_stirThickness_88 (by decide) (fun c6 => c6.elim) (fun c6 => ?_)
  refine lv_iload hx hb dX7_stirThickness_91 (lv_at hl 1 rfl) ?_
  refine lv_bipush (v := nI 36) hx hb dX7_stirThickness_93 (by decide) ?_
  refine n_icmp_ge (x := (n + 6)) (y := 36) (tgt := 130) hx hb (by omega) (by omega) dX7_stirThickness_95 (by decide) (fun c7 => by exfalso; omega) (fun c7 => ?_)
  refine lv_aload_n hx hb dX7_stirThickness_98 rfl (lv_at hl 6 rfl) ?_
  refine va_get (D := (dC, dI)) (ci := 7) (v := .ref thickness) (C := RX7) (T := TX7) (N := 19) hx hb hts hin7 hown hK hP 0 rfl rfl 10 (by decide) (hts (.fieldLink RX7 9 "PorridgeSea$Sea" "thickness" "[I") (List.mem_of_getElem? (i := 3) rfl)) (fun _ h9 => h9) rfl dX7_stirThickness_99 ?_
  refine lv_iload hx hb dX7_stirThickness_102 (lv_at hl 1 rfl) ?_
  obtain ⟨y8, e9⟩ : ∃ z9, z9 = thicknessF (n + 6) := ⟨_, rfl⟩
  refine r_iald hx hb hK hP 1 rfl (n + 6) (by omega) (by decide) y8 e9.symm dX7_stirThickness_104 ?_
  refine lv_istore (lv' := [(10, .int y8), (9, .int (nI ((n + 6) - 6))), (8, .int (nI (n + 6))), (7, .int (nI 1)), (6, .int (nI 6)), (5, .int (nI n)), (4, .int (nI 4)), (0, .ref a), (1, .int (nI 1)), (2, .int (nI n)), (3, .int (nI 1))]) hx hb dX7_stirThickness_105 hl (by decide) rfl (fun ls hl => ?_)
  refine lv_aload_n hx hb dX7_stirThickness_107 rfl (lv_at hl 7 rfl) ?_
  refine va_get (D := (dC, dI)) (ci := 7) (v := .ref thickness) (C := RX7) (T := TX7) (N := 19) hx hb hts hin7 hown hK hP 0 rfl rfl 10 (by decide) (hts (.fieldLink RX7 9 "PorridgeSea$Sea" "thickness" "[I") (List.mem_of_getElem? (i := 3) rfl)) (fun _ h9 => h9) rfl dX7_stirThickness_108 ?_
  refine lv_iload hx hb dX7_stirThickness_111 (lv_at hl 2 rfl) ?_
  refine lv_aload_n hx hb dX7_stirThickness_113 rfl (lv_at hl 7 rfl) ?_
  refine va_get (D := (dC, dI)) (ci := 7) (v := .ref thickness) (C := RX7) (T := TX7) (N := 19) hx hb hts hin7 hown hK hP 0 rfl rfl 10 (by decide) (hts (.fieldLink RX7 9 "PorridgeSea$Sea" "thickness" "[I") (List.mem_of_getElem? (i := 3) rfl)) (fun _ h9 => h9) rfl dX7_stirThickness_114 ?_
  refine lv_iload hx hb dX7_stirThickness_117 (lv_at hl 1 rfl) ?_
  obtain ⟨y10, e11⟩ : ∃ z9, z9 = thicknessF ((n + 6) - 6) := ⟨_, rfl⟩
  refine r_iald hx hb hK hP 1 rfl ((n + 6) - 6) (by omega) (by decide) y10 e11.symm dX7_stirThickness_119 ?_
  refine r_iast (x := y10) hx hb hK hP hD hS 1 rfl (n + 6) (by omega) (by decide) dX7_stirThickness_120 (fun H locs hP hD hS => ?_)
  obtain ⟨g12, e13⟩ : ∃ z9, z9 = upd thicknessF (n + 6) y10 := ⟨_, rfl⟩
  rw [← e13] at hP hD
  have hP : va_P (dC, dI) vwCl [(a, .inr (7, [.int (nI 4), .int (nI 4), .int heat, .int cools, .int skinHeat, .int today, .int stirs, .int steps, .int (nI 0), .int (nI 0), .ref thickness, .ref lumpNames, .ref lumpCells, .ref boatNames, .ref boatCells, .ref loads, .ref spoons, .ref spoonsLeft, .ref depths])), (thickness, .inl (ky 0, 36, .inl g12))] H := hP
  have hD : va_D A [(a, .inr (7, [.int (nI 4), .int (nI 4), .int heat, .int cools, .int skinHeat, .int today, .int stirs, .int steps, .int (nI 0), .int (nI 0), .ref thickness, .ref lumpNames, .ref lumpCells, .ref boatNames, .ref boatCells, .ref loads, .ref spoons, .ref spoonsLeft, .ref depths])), (thickness, .inl (ky 0, 36, .inl g12))] := hD
  refine lv_aload_n hx hb dX7_stirThickness_121 rfl (lv_at hl 7 rfl) ?_
  refine va_get (D := (dC, dI)) (ci := 7) (v := .ref thickness) (C := RX7) (T := TX7) (N := 19) hx hb hts hin7 hown hK hP 0 rfl rfl 10 (by decide) (hts (.fieldLink RX7 9 "PorridgeSea$Sea" "thickness" "[I") (List.mem_of_getElem? (i := 3) rfl)) (fun _ h9 => h9) rfl dX7_stirThickness_122 ?_
  refine lv_iload hx hb dX7_stirThickness_125 (lv_at hl 1 rfl) ?_
  refine lv_iload hx hb dX7_stirThickness_127 (lv_at hl 0 rfl) ?_
  refine r_iast (x := y8) hx hb hK hP hD hS 1 rfl ((n + 6) - 6) (by omega) (by decide) dX7_stirThickness_129 (fun H locs hP hD hS => ?_)
  obtain ⟨g14, e15⟩ : ∃ z9, z9 = upd g12 ((n + 6) - 6) y8 := ⟨_, rfl⟩
  rw [← e15] at hP hD
  have hP : va_P (dC, dI) vwCl [(a, .inr (7, [.int (nI 4), .int (nI 4), .int heat, .int cools, .int skinHeat, .int today, .int stirs, .int steps, .int (nI 0), .int (nI 0), .ref thickness, .ref lumpNames, .ref lumpCells, .ref boatNames, .ref boatCells, .ref loads, .ref spoons, .ref spoonsLeft, .ref depths])), (thickness, .inl (ky 0, 36, .inl g14))] H := hP
  have hD : va_D A [(a, .inr (7, [.int (nI 4), .int (nI 4), .int heat, .int cools, .int skinHeat, .int today, .int stirs, .int steps, .int (nI 0), .int (nI 0), .ref thickness, .ref lumpNames, .ref lumpCells, .ref boatNames, .ref boatCells, .ref loads, .ref spoons, .ref spoonsLeft, .ref depths])), (thickness, .inl (ky 0, 36, .inl g14))] := hD
  refine lv_iinc (v := nI 2) (lv' := [(7, .int (nI 2)), (10, .int y8), (9, .int (nI ((n + 6) - 6))), (8, .int (nI (n + 6))), (6, .int (nI 6)), (5, .int (nI n)), (4, .int (nI 4)), (0, .ref a), (1, .int (nI 1)), (2, .int (nI n)), (3, .int (nI 1))]) hx hb dX7_stirThickness_130 hl (k := 3) rfl (by decide) (by decide) rfl (fun ls hl => ?_)
  refine lv_goto (tgt := 49) hx hb dX7_stirThickness_133 (by decide) ?_
  refine lv_iload hx hb dX7_stirThickness_49 (lv_at hl 0 rfl) ?_
  refine lv_iload hx hb dX7_stirThickness_51 (lv_at hl 6 rfl) ?_
  refine lv_icmp_ge (tgt := 136) hx hb dX7_stirThickness_53 (by decide) (fun c16 => absurd c16 (by decide)) (fun c16 => ?_)
  refine lv_iload hx hb dX7_stirThickness_56 (lv_at hl 5 rfl) ?_
  refine lv_iload hx hb dX7_stirThickness_58 (lv_at hl 4 rfl) ?_
  refine lv_iload_n hx hb dX7_stirThickness_60 rfl (lv_at hl 10 rfl) ?_
  refine lv_iconst (v := nI 1) hx hb dX7_stirThickness_61 (by decide) ?_
  refine lv_icmp_ne (tgt := 70) hx hb dX7_stirThickness_62 (by decide) (fun c17 => absurd c17 (by decide)) (fun c17 => ?_)
  refine lv_iload hx hb dX7_stirThickness_65 (lv_at hl 0 rfl) ?_
  refine lv_goto (tgt := 75) hx hb dX7_stirThickness_67 (by decide) ?_
  refine lv_imul hx hb dX7_stirThickness_75 ?_
  refine r_ti (nI 12) (by decide) ?_
  refine lv_iadd hx hb dX7_stirThickness_76 ?_
  refine r_ti (nI (n + 12)) (nI_add _ _) ?_
  refine lv_istore (lv' := [(8, .int (nI (n + 12))), (7, .int (nI 2)), (10, .int y8), (9, .int (nI ((n + 6) - 6))), (6, .int (nI 6)), (5, .int (nI n)), (4, .int (nI 4)), (0, .ref a), (1, .int (nI 1)), (2, .int (nI n)), (3, .int (nI 1))]) hx hb dX7_stirThickness_77 hl (by decide) rfl (fun ls hl => ?_)
  refine lv_iload hx hb dX7_stirThickness_79 (lv_at hl 0 rfl) ?_
  refine lv_iload hx hb dX7_stirThickness_81 (lv_at hl 4 rfl) ?_
  refine lv_isub hx hb dX7_stirThickness_83 ?_
  refine r_ti (nI ((n + 12) - 6)) (pk_sub (by omega)) ?_
  refine lv_istore (lv' := [(9, .int (nI ((n + 12) - 6))), (8, .int (nI (n + 12))), (7, .int (nI 2)), (10, .int y8), (6, .int (nI 6)), (5, .int (nI n)), (4, .int (nI 4)), (0, .ref a), (1, .int (nI 1)), (2, .int (nI n)), (3, .int (nI 1))]) hx hb dX7_stirThickness_84 hl (by decide) rfl (fun ls hl => ?_)
  refine lv_iload hx hb dX7_stirThickness_86 (lv_at hl 0 rfl) ?_
  refine n_if_lt (x := ((n + 12) - 6)) (tgt := 130) hx hb (by omega) dX7_stirThickness_88 (by decide) (fun c18 => c18.elim) (fun c18 => ?_)
  refine lv_iload hx hb dX7_stirThickness_91 (lv_at hl 1 rfl) ?_
  refine lv_bipush (v := nI 36) hx hb dX7_stirThickness_93 (by decide) ?_
  refine n_icmp_ge (x := (n + 12)) (y := 36) (tgt := 130) hx hb (by omega) (by omega) dX7_stirThickness_95 (by decide) (fun c19 => by exfalso; omega) (fun c19 => ?_)
  refine lv_aload_n hx hb dX7_stirThickness_98 rfl (lv_at hl 7 rfl) ?_
  refine va_get (D := (dC, dI)) (ci := 7) (v := .ref thickness) (C := RX7) (T := TX7) (N := 19) hx hb hts hin7 hown hK hP 0 rfl rfl 10 (by decide) (hts (.fieldLink RX7 9 "PorridgeSea$Sea" "thickness" "[I") (List.mem_of_getElem? (i := 3) rfl)) (fun _ h9 => h9) rfl dX7_stirThickness_99 ?_
  refine lv_iload hx hb dX7_stirThickness_102 (lv_at hl 1 rfl) ?_
  obtain ⟨y20, e21⟩ : ∃ z9, z9 = g14 (n + 12) := ⟨_, rfl⟩
  refine r_iald hx hb hK hP 1 rfl (n + 12) (by omega) (by decide) y20 e21.symm dX7_stirThickness_104 ?_
  refine lv_istore (lv' := [(10, .int y20), (9, .int (nI ((n + 12) - 6))), (8, .int (nI (n + 12))), (7, .int (nI 2)), (6, .int (nI 6)), (5, .int (nI n)), (4, .int (nI 4)), (0, .ref a), (1, .int (nI 1)), (2, .int (nI n)), (3, .int (nI 1))]) hx hb dX7_stirThickness_105 hl (by decide) rfl (fun ls hl => ?_)
  refine lv_aload_n hx hb dX7_stirThickness_107 rfl (lv_at hl 7 rfl) ?_
  refine va_get (D := (dC, dI)) (ci := 7) (v := .ref thickness) (C := RX7) (T := TX7) (N := 19) hx hb hts hin7 hown hK hP 0 rfl rfl 10 (by decide) (hts (.fieldLink RX7 9 "PorridgeSea$Sea" "thickness" "[I") (List.mem_of_getElem? (i := 3) rfl)) (fun _ h9 => h9) rfl dX7_stirThickness_108 ?_
  refine lv_iload hx hb dX7_stirThickness_111 (lv_at hl 2 rfl) ?_
  refine lv_aload_n hx hb dX7_stirThickness_113 rfl (lv_at hl 7 rfl) ?_
  refine va_get (D := (dC, dI)) (ci := 7) (v := .ref thickness) (C := RX7) (T := TX7) (N := 19) hx hb hts hin7 hown hK hP 0 rfl rfl 10 (by decide) (hts (.fieldLink RX7 9 "PorridgeSea$Sea" "thickness" "[I") (List.mem_of_getElem? (i := 3) rfl)) (fun _ h9 => h9) rfl dX7_stirThickness_114 ?_
  refine lv_iload hx hb dX7_stirThickness_117 (lv_at hl 1 rfl) ?_
  obtain ⟨y22, e23⟩ : ∃ z9, z9 = g14 ((n + 12) - 6) := ⟨_, rfl⟩
  refine r_iald hx hb hK hP 1 rfl ((n + 12) - 6) (by omega) (by decide) y22 e23.symm dX7_stirThickness_119 ?_
  refine r_iast (x := y22) hx hb hK hP hD hS 1 rfl (n + 12) (by omega) (by decide) dX7_stirThickness_120 (fun H locs hP hD hS => ?_)
  obtain ⟨g24, e25⟩ : ∃ z9, z9 = upd g14 (n + 12) y22 := ⟨_, rfl⟩
  rw [← e25] at hP hD
  have hP : va_P (dC, dI) vwCl [(a, .inr (7, [.int (nI 4), .int (nI 4), .int heat, .int cools, .int skinHeat, .int today, .int stirs, .int steps, .int (nI 0), .int (nI 0), .ref thickness, .ref lumpNames, .ref lumpCells, .ref boatNames, .ref boatCells, .ref loads, .ref spoons, .ref spoonsLeft, .ref depths])), (thickness, .inl (ky 0, 36, .inl g24))] H := hP
  have hD : va_D A [(a, .inr (7, [.int (nI 4), .int (nI 4), .int heat, .int cools, .int skinHeat, .int today, .int stirs, .int steps, .int (nI 0), .int (nI 0), .ref thickness, .ref lumpNames, .ref lumpCells, .ref boatNames, .ref boatCells, .ref loads, .ref spoons, .ref spoonsLeft, .ref depths])), (thickness, .inl (ky 0, 36, .inl g24))] := hD
  refine lv_aload_n hx hb dX7_stirThickness_121 rfl (lv_at hl 7 rfl) ?_
  refine va_get (D := (dC, dI)) (ci := 7) (v := .ref thickness) (C := RX7) (T := TX7) (N := 19) hx hb hts hin7 hown hK hP 0 rfl rfl 10 (by decide) (hts (.fieldLink RX7 9 "PorridgeSea$Sea" "thickness" "[I") (List.mem_of_getElem? (i := 3) rfl)) (fun _ h9 => h9) rfl dX7_stirThickness_122 ?_
  refine lv_iload hx hb dX7_stirThickness_125 (lv_at hl 1 rfl) ?_
  refine lv_iload hx hb dX7_stirThickness_127 (lv_at hl 0 rfl) ?_
  refine r_iast (x := y20) hx hb hK hP hD hS 1 rfl ((n + 12) - 6) (by omega) (by decide) dX7_stirThickness_129 (fun H locs hP hD hS => ?_)
  obtain ⟨g26, e27⟩ : ∃ z9, z9 = upd g24 ((n + 12) - 6) y20 := ⟨_, rfl⟩
  rw [← e27] at hP hD
  have hP : va_P (dC, dI) vwCl [(a, .inr (7, [.int (nI 4), .int (nI 4), .int heat, .int cools, .int skinHeat, .int today, .int stirs, .int steps, .int (nI 0), .int (nI 0), .ref thickness, .ref lumpNames, .ref lumpCells, .ref boatNames, .ref boatCells, .ref loads, .ref spoons, .ref spoonsLeft, .ref depths])), (thickness, .inl (ky 0, 36, .inl g26))] H := hP
  have hD : va_D A [(a, .inr (7, [.int (nI 4), .int (nI 4), .int heat, .int cools, .int skinHeat, .int today, .int stirs, .int steps, .int (nI 0), .int (nI 0), .ref thickness, .ref lumpNames, .ref lumpCells, .ref boatNames, .ref boatCells, .ref loads, .ref spoons, .ref spoonsLeft, .ref depths])), (thickness, .inl (ky 0, 36, .inl g26))] := hD
  refine lv_iinc (v := nI 3) (lv' := [(7, .int (nI 3)), (10, .int y20), (9, .int (nI ((n + 12) - 6))), (8, .int (nI (n + 12))), (6, .int (nI 6)), (5, .int (nI n)), (4, .int (nI 4)), (0, .ref a), (1, .int (nI 1)), (2, .int (nI n)), (3, .int (nI 1))]) hx hb dX7_stirThickness_130 hl (k := 3) rfl (by decide) (by decide) rfl (fun ls hl => ?_)
  refine lv_goto (tgt := 49) hx hb dX7_stirThickness_133 (by decide) ?_
  refine lv_iload hx hb dX7_stirThickness_49 (lv_at hl 0 rfl) ?_
  refine lv_iload hx hb dX7_stirThickness_51 (lv_at hl 6 rfl) ?_
  refine lv_icmp_ge (tgt := 136) hx hb dX7_stirThickness_53 (by decide) (fun c28 => absurd c28 (by decide)) (fun c28 => ?_)
  refine lv_iload hx hb dX7_stirThickness_56 (lv_at hl 5 rfl) ?_
  refine lv_iload hx hb dX7_stirThickness_58 (lv_at hl 4 rfl) ?_
  refine lv_iload_n hx hb dX7_stirThickness_60 rfl (lv_at hl 10 rfl) ?_
  refine lv_iconst (v := nI 1) hx hb dX7_stirThickness_61 (by decide) ?_
  refine lv_icmp_ne (tgt := 70) hx hb dX7_stirThickness_62 (by decide) (fun c29 => absurd c29 (by decide)) (fun c29 => ?_)
  refine lv_iload hx hb dX7_stirThickness_65 (lv_at hl 0 rfl) ?_
  refine lv_goto (tgt := 75) hx hb dX7_stirThickness_67 (by decide) ?_
  refine lv_imul hx hb dX7_stirThickness_75 ?_
  refine r_ti (nI 18) (by decide) ?_
  refine lv_iadd hx hb dX7_stirThickness_76 ?_
  refine r_ti (nI (n + 18)) (nI_add _ _) ?_
  refine lv_istore (lv' := [(8, .int (nI (n + 18))), (7, .int (nI 3)), (10, .int y20), (9, .int (nI ((n + 12) - 6))), (6, .int (nI 6)), (5, .int (nI n)), (4, .int (nI 4)), (0, .ref a), (1, .int (nI 1)), (2, .int (nI n)), (3, .int (nI 1))]) hx hb dX7_stirThickness_77 hl (by decide) rfl (fun ls hl => ?_)
  refine lv_iload hx hb dX7_stirThickness_79 (lv_at hl 0 rfl) ?_
  refine lv_iload hx hb dX7_stirThickness_81 (lv_at hl 4 rfl) ?_
  refine lv_isub hx hb dX7_stirThickness_83 ?_
  refine r_ti (nI ((n + 18) - 6)) (pk_sub (by omega)) ?_
  refine lv_istore (lv' := [(9, .int (nI ((n + 18) - 6))), (8, .int (nI (n + 18))), (7, .int (nI 3)), (10, .int y20), (6, .int (nI 6)), (5, .int (nI n)), (4, .int (nI 4)), (0, .ref a), (1, .int (nI 1)), (2, .int (nI n)), (3, .int (nI 1))]) hx hb dX7_stirThickness_84 hl (by decide) rfl (fun ls hl => ?_)
  refine lv_iload hx hb dX7_stirThickness_86 (lv_at hl 0 rfl) ?_
  refine n_if_lt (x := ((n + 18) - 6)) (tgt := 130) hx hb (by omega) dX7_stirThickness_88 (by decide) (fun c30 => c30.elim) (fun c30 => ?_)
  refine lv_iload hx hb dX7_stirThickness_91 (lv_at hl 1 rfl) ?_
  refine lv_bipush (v := nI 36) hx hb dX7_stirThickness_93 (by decide) ?_
  refine n_icmp_ge (x := (n + 18)) (y := 36) (tgt := 130) hx hb (by omega) (by omega) dX7_stirThickness_95 (by decide) (fun c31 => by exfalso; omega) (fun c31 => ?_)
  refine lv_aload_n hx hb dX7_stirThickness_98 rfl (lv_at hl 7 rfl) ?_
  refine va_get (D := (dC, dI)) (ci := 7) (v := .ref thickness) (C := RX7) (T := TX7) (N := 19) hx hb hts hin7 hown hK hP 0 rfl rfl 10 (by decide) (hts (.fieldLink RX7 9 "PorridgeSea$Sea" "thickness" "[I") (List.mem_of_getElem? (i := 3) rfl)) (fun _ h9 => h9) rfl dX7_stirThickness_99 ?_
  refine lv_iload hx hb dX7_stirThickness_102 (lv_at hl 1 rfl) ?_
  obtain ⟨y32, e33⟩ : ∃ z9, z9 = g26 (n + 18) := ⟨_, rfl⟩
  refine r_iald hx hb hK hP 1 rfl (n + 18) (by omega) (by decide) y32 e33.symm dX7_stirThickness_104 ?_
  refine lv_istore (lv' := [(10, .int y32), (9, .int (nI ((n + 18) - 6))), (8, .int (nI (n + 18))), (7, .int (nI 3)), (6, .int (nI 6)), (5, .int (nI n)), (4, .int (nI 4)), (0, .ref a), (1, .int (nI 1)), (2, .int (nI n)), (3, .int (nI 1))]) hx hb dX7_stirThickness_105 hl (by decide) rfl (fun ls hl => ?_)
  refine lv_aload_n hx hb dX7_stirThickness_107 rfl (lv_at hl 7 rfl) ?_
  refine va_get (D := (dC, dI)) (ci := 7) (v := .ref thickness) (C := RX7) (T := TX7) (N := 19) hx hb hts hin7 hown hK hP 0 rfl rfl 10 (by decide) (hts (.fieldLink RX7 9 "PorridgeSea$Sea" "thickness" "[I") (List.mem_of_getElem? (i := 3) rfl)) (fun _ h9 => h9) rfl dX7_stirThickness_108 ?_
  refine lv_iload hx hb dX7_stirThickness_111 (lv_at hl 2 rfl) ?_
  refine lv_aload_n hx hb dX7_stirThickness_113 rfl (lv_at hl 7 rfl) ?_
  refine va_get (D := (dC, dI)) (ci := 7) (v := .ref thickness) (C := RX7) (T := TX7) (N := 19) hx hb hts hin7 hown hK hP 0 rfl rfl 10 (by decide) (hts (.fieldLink RX7 9 "PorridgeSea$Sea" "thickness" "[I") (List.mem_of_getElem? (i := 3) rfl)) (fun _ h9 => h9) rfl dX7_stirThickness_114 ?_
  refine lv_iload hx hb dX7_stirThickness_117 (lv_at hl 1 rfl) ?_
  obtain ⟨y34, e35⟩ : ∃ z9, z9 = g26 ((n + 18) - 6) := ⟨_, rfl⟩
  refine r_iald hx hb hK hP 1 rfl ((n + 18) - 6) (by omega) (by decide) y34 e35.symm dX7_stirThickness_119 ?_
  refine r_iast (x := y34) hx hb hK hP hD hS 1 rfl (n + 18) (by omega) (by decide) dX7_stirThickness_120 (fun H locs hP hD hS => ?_)
  obtain ⟨g36, e37⟩ : ∃ z9, z9 = upd g26 (n + 18) y34 := ⟨_, rfl⟩
  rw [← e37] at hP hD
  have hP : va_P (dC, dI) vwCl [(a, .inr (7, [.int (nI 4), .int (nI 4), .int heat, .int cools, .int skinHeat, .int today, .int stirs, .int steps, .int (nI 0), .int (nI 0), .ref thickness, .ref lumpNames, .ref lumpCells, .ref boatNames, .ref boatCells, .ref loads, .ref spoons, .ref spoonsLeft, .ref depths])), (thickness, .inl (ky 0, 36, .inl g36))] H := hP
  have hD : va_D A [(a, .inr (7, [.int (nI 4), .int (nI 4), .int heat, .int cools, .int skinHeat, .int today, .int stirs, .int steps, .int (nI 0), .int (nI 0), .ref thickness, .ref lumpNames, .ref lumpCells, .ref boatNames, .ref boatCells, .ref loads, .ref spoons, .ref spoonsLeft, .ref depths])), (thickness, .inl (ky 0, 36, .inl g36))] := hD
  refine lv_aload_n hx hb dX7_stirThickness_121 rfl (lv_at hl 7 rfl) ?_
  refine va_get (D := (dC, dI)) (ci := 7) (v := .ref thickness) (C := RX7) (T := TX7) (N := 19) hx hb hts hin7 hown hK hP 0 rfl rfl 10 (by decide) (hts (.fieldLink RX7 9 "PorridgeSea$Sea" "thickness" "[I") (List.mem_of_getElem? (i := 3) rfl)) (fun _ h9 => h9) rfl dX7_stirThickness_122 ?_
  refine lv_iload hx hb dX7_stirThickness_125 (lv_at hl 1 rfl) ?_
  refine lv_iload hx hb dX7_stirThickness_127 (lv_at hl 0 rfl) ?_
  refine r_iast (x := y32) hx hb hK hP hD hS 1 rfl ((n + 18) - 6) (by omega) (by decide) dX7_stirThickness_129 (fun H locs hP hD hS => ?_)
  obtain ⟨g38, e39⟩ : ∃ z9, z9 = upd g36 ((n + 18) - 6) y32 := ⟨_, rfl⟩
  rw [← e39] at hP hD
  have hP : va_P (dC, dI) vwCl [(a, .inr (7, [.int (nI 4), .int (nI 4), .int heat, .int cools, .int skinHeat, .int today, .int stirs, .int steps, .int (nI 0), .int (nI 0), .ref thickness, .ref lumpNames, .ref lumpCells, .ref boatNames, .ref boatCells, .ref loads, .ref spoons, .ref spoonsLeft, .ref depths])), (thickness, .inl (ky 0, 36, .inl g38))] H := hP
  have hD : va_D A [(a, .inr (7, [.int (nI 4), .int (nI 4), .int heat, .int cools, .int skinHeat, .int today, .int stirs, .int steps, .int (nI 0), .int (nI 0), .ref thickness, .ref lumpNames, .ref lumpCells, .ref boatNames, .ref boatCells, .ref loads, .ref spoons, .ref spoonsLeft, .ref depths])), (thickness, .inl (ky 0, 36, .inl g38))] := hD
  refine lv_iinc (v := nI 4) (lv' := [(7, .int (nI 4)), (10, .int y32), (9, .int (nI ((n + 18) - 6))), (8, .int (nI (n + 18))), (6, .int (nI 6)), (5, .int (nI n)), (4, .int (nI 4)), (0, .ref a), (1, .int (nI 1)), (2, .int (nI n)), (3, .int (nI 1))]) hx hb dX7_stirThickness_130 hl (k := 3) rfl (by decide) (by decide) rfl (fun ls hl => ?_)
  refine lv_goto (tgt := 49) hx hb dX7_stirThickness_133 (by decide) ?_
  refine lv_iload hx hb dX7_stirThickness_49 (lv_at hl 0 rfl) ?_
  refine lv_iload hx hb dX7_stirThickness_51 (lv_at hl 6 rfl) ?_
  refine lv_icmp_ge (tgt := 136) hx hb dX7_stirThickness_53 (by decide) (fun c40 => ?_) (fun c40 => absurd (by decide) c40)
  have hP9 := hP.sub (ws' := [(a, .inr (7, [.int (nI 4), .int (nI 4), .int heat, .int cools, .int skinHeat, .int today, .int stirs, .int steps, .int (nI 0), .int (nI 0), .ref thickness, .ref lumpNames, .ref lumpCells, .ref boatNames, .ref boatCells, .ref loads, .ref spoons, .ref spoonsLeft, .ref depths])), (thickness, .inl (ky 0, 36, .inl g38))]) [0, 1] rfl
  have hD9 := hD.sub (ws' := [(a, .inr (7, [.int (nI 4), .int (nI 4), .int heat, .int cools, .int skinHeat, .int today, .int stirs, .int steps, .int (nI 0), .int (nI 0), .ref thickness, .ref lumpNames, .ref lumpCells, .ref boatNames, .ref boatCells, .ref loads, .ref spoons, .ref spoonsLeft, .ref depths])), (thickness, .inl (ky 0, 36, .inl g38))]) [0, 1] (by decide) rfl
  refine W.widen (k := 0) (n := 0) (Nat.le_of_ble_eq_true rfl) (Nat.le_of_ble_eq_true rfl) ?_
  exact W.vret hx hb hr (fun t ht9 hW9 => ⟨⟨g38, rfl, trivial, by rw [ht9]; exact hP9, va_K.moved hW9.alike hK, hD9⟩, hS.F ht9⟩) hS.2.2 dX7_stirThickness_136
set_option maxHeartbeats 4000000 in
set_option maxRecDepth 100000 in
theorem c_stirLine11 (l : Launch) (dC : Nat → ClassId) (dI : Nat → Nat → Nat) (ky : Nat → ClassId) (sz : Nat) (a : Nat) (heat : Int32) (cools : Int32) (skinHeat : Int32) (today : Int32) (stirs : Int32) (steps : Int32) (thickness : Nat) (lumpNames : Nat) (lumpCells : Nat) (boatNames : Nat) (boatCells : Nat) (loads : Nat) (spoons : Nat) (spoonsLeft : Nat) (depths : Nat) (thicknessF : Nat → Int32) (n : Nat) (hn : n < 4) : Met l yX7_stirLine wsX7_stirLine ({ frames := 1, cells := 0, slots := 0, locals := 30 }) (PcU dC dI ky [.ref a, .int (nI 1), .int (nI n), .int (nI 1)] [(a, .inr (7, [.int (nI 4), .int (nI 4), .int heat, .int cools, .int skinHeat, .int today, .int stirs, .int steps, .int (nI 0), .int (nI 0), .ref thickness, .ref lumpNames, .ref lumpCells, .ref boatNames, .ref boatCells, .ref loads, .ref spoons, .ref spoonsLeft, .ref depths])), (thickness, .inl (ky 0, 36, .inl thicknessF))] sz) (va_Qv (fun (u : Int32 × (Nat → Int32)) => match u with | (stirsG, thicknessG) => True) (BU dC dI ky (fun (u : Int32 × (Nat → Int32)) => match u with | (stirsG, thicknessG) => [(a, .inr (7, [.int (nI 4), .int (nI 4), .int heat, .int cools, .int skinHeat, .int today, .int stirsG, .int steps, .int (nI 0), .int (nI 0), .ref thickness, .ref lumpNames, .ref lumpCells, .ref boatNames, .ref boatCells, .ref loads, .ref spoons, .ref spoonsLeft, .ref depths])), (thickness, .inl (ky 0, 36, .inl thicknessG))]) (va_A [(a, .inr (7, [.int (nI 4), .int (nI 4), .int heat, .int cools, .int skinHeat, .int today, .int stirs, .int steps, .int (nI 0), .int (nI 0), .ref thickness, .ref lumpNames, .ref lumpCells, .ref boatNames, .ref boatCells, .ref loads, .ref spoons, .ref spoonsLeft, .ref depths])), (thickness, .inl (ky 0, 36, .inl thicknessF))] sz)) (va_A [(a, .inr (7, [.int (nI 4), .int (nI 4), .int heat, .int cools, .int skinHeat, .int today, .int stirs, .int steps, .int (nI 0), .int (nI 0), .ref thickness, .ref lumpNames, .ref lumpCells, .ref boatNames, .ref boatCells, .ref loads, .ref spoons, .ref spoonsLeft, .ref depths])), (thickness, .inl (ky 0, 36, .inl thicknessF))] sz)) 0 0 (va_A [(a, .inr (7, [.int (nI 4), .int (nI 4), .int heat, .int cools, .int skinHeat, .int today, .int stirs, .int steps, .int (nI 0), .int (nI 0), .ref thickness, .ref lumpNames, .ref lumpCells, .ref boatNames, .ref boatCells, .ref loads, .ref spoons, .ref spoonsLeft, .ref depths])), (thickness, .inl (ky 0, 36, .inl thicknessF))] sz) := by
  refine Met.ofW (cc := cX7_stirLine) (maxL := 5) (ret := none) (by decide) rfl ?_
  intro p e s m args below meth c s₁ B hml hv
  obtain ⟨rfl, hsz, hP, hK, hD0⟩ := hv
  have hx := B.exec
  have hb := B.bytes
  have hr := B.returns
  have hts := atoms_spec (ws := wsX7_stirLine) B.pre
  have hown : s.vm.findClass RX7 = some m.cls := findClass_of_methodNamed B.named
  have hlocks := B.notSynchronized
  have hin7 : ∀ w ∈ u_ws RX7 TX7 19, w ∈ wsX7_stirLine := by decide +kernel
  subst hsz
  have hD := hD0.self (sz := s.heap.size)
  generalize hAe : va_A [(a, .inr (7, [.int (nI 4), .int (nI 4), .int heat, .int cools, .int skinHeat, .int today, .int stirs, .int steps, .int (nI 0), .int (nI 0), .ref thickness, .ref lumpNames, .ref lumpCells, .ref boatNames, .ref boatCells, .ref loads, .ref spoons, .ref spoonsLeft, .ref depths])), (thickness, .inl (ky 0, 36, .inl thicknessF))] s.heap.size = A at hD ⊢
  have hA : ∀ q : Nat, s.heap.size ≤ q → A q := fun q h => by rw [← hAe]; exact Or.inr h
  have hS : va_S A s.heap s.heap [] := va_S.rf
  have hP : va_P (dC, dI) vwCl [(a, .inr (7, [.int (nI 4), .int (nI 4), .int heat, .int cools, .int skinHeat, .int today, .int stirs, .int steps, .int (nI 0), .int (nI 0), .ref thickness, .ref lumpNames, .ref lumpCells, .ref boatNames, .ref boatCells, .ref loads, .ref spoons, .ref spoonsLeft, .ref depths])), (thickness, .inl (ky 0, 36, .inl thicknessF))] s.heap := hP
  have hl := lv_entry ([.ref a, .int (nI 1), .int (nI n), .int (nI 1)]) (n := 5) (Nat.le_of_ble_eq_true rfl)
  rw [lg_entry_eq]
  generalize (lg_sl ([.ref a, .int (nI 1), .int (nI n), .int (nI 1)]) ++ List.replicate (5 - (lg_sl ([.ref a, .int (nI 1), .int (nI n), .int (nI 1)])).length) Slot.unset).toArray = ls at hl ⊢
  have hl : lv_has ls 5 [(0, .ref a), (1, .int (nI 1)), (2, .int (nI n)), (3, .int (nI 1))] := hl
  have hH0 : True := trivial
  refine lv_aload_n hx hb dX7_stirLine_0 rfl (lv_at hl 0 rfl) ?_
  refine lv_iload_n hx hb dX7_stirLine_1 rfl (lv_at hl 1 rfl) ?_
  refine lv_iload_n hx hb dX7_stirLine_2 rfl (lv_at hl 2 rfl) ?_
  refine vp_callSi (W.runV (As := [.int (nI 1), .int (nI n)]) (rest := []) ⟨hx, hb, hml, hown, hts⟩ (c_isLine l dC dI ky a (nI 4) (nI 4) heat cools skinHeat today stirs steps (nI 0) (nI 0) thickness lumpNames lumpCells boatNames boatCells loads spoons spoonsLeft depths (nI 1) (nI n)) (cwV 2 hts gX7_stirLine_X7_isLine rfl rfl rfl (by decide +kernel) ⟨(Nat.le_of_ble_eq_true rfl), (Nat.le_of_ble_eq_true rfl)⟩) (pre_PV hK hP [0] rfl (ci := 7) (q0 := 0) rfl rfl) rfl rfl hl.1 rfl (lv_room (Nat.le_of_ble_eq_true rfl)) dX7_stirLine_3 ⟨(Nat.le_of_ble_eq_true rfl), (Nat.le_of_ble_eq_true rfl)⟩) (fun r1 p2 => ?_)
  refine lv_if_ne (tgt := 10) hx hb dX7_stirLine_6 (by decide) (fun c3 => ?_) (fun c3 => ?_)
  · refine lv_aload_n hx hb dX7_stirLine_10 rfl (lv_at hl 0 rfl) ?_
    refine lv_iload_n hx hb dX7_stirLine_11 rfl (lv_at hl 1 rfl) ?_
    refine lv_iload_n hx hb dX7_stirLine_12 rfl (lv_at hl 2 rfl) ?_
    refine lv_iload_n hx hb dX7_stirLine_13 rfl (lv_at hl 3 rfl) ?_
    refine r_call_v (wr := []) (va_runV (As := [.int (nI 1), .int (nI n), .int (nI 1)]) (rest := []) ⟨hx, hb, hml, hown, hts⟩ (c_stirThickness11 l dC dI ky s.heap.size a heat cools skinHeat today stirs steps thickness lumpNames lumpCells boatNames boatCells loads spoons spoonsLeft depths thicknessF n (by omega)) (cwV 3 hts gX7_stirLine_X7_stirThickness rfl rfl rfl (by decide +kernel) ⟨(Nat.le_of_ble_eq_true rfl), (Nat.le_of_ble_eq_true rfl)⟩) (pre_UV hK hP hD [0, 1] (by decide) rfl (ci := 7) (q0 := 0) rfl rfl) rfl rfl hl.1 rfl (lv_room (Nat.le_of_ble_eq_true rfl)) dX7_stirLine_14 ⟨(Nat.le_of_ble_eq_true rfl), (Nat.le_of_ble_eq_true rfl)⟩) hP hD hS hA [0, 1] [] rfl rfl (by decide) (by decide) (fun  u4 H locs p5 hP hD hS => ?_)
    obtain ⟨thicknessG_6, rfl⟩ : ∃ z, z = u4 := ⟨_, rfl⟩
    refine W.widen (k := 0) (n := 0) (Nat.le_of_ble_eq_true rfl) (Nat.le_of_ble_eq_true rfl) ?_
    have hP : va_P (dC, dI) vwCl [(a, .inr (7, [.int (nI 4), .int (nI 4), .int heat, .int cools, .int skinHeat, .int today, .int stirs, .int steps, .int (nI 0), .int (nI 0), .ref thickness, .ref lumpNames, .ref lumpCells, .ref boatNames, .ref boatCells, .ref loads, .ref spoons, .ref spoonsLeft, .ref depths])), (thickness, .inl (ky 0, 36, .inl thicknessG_6))] H := hP
    have hD : va_D A [(a, .inr (7, [.int (nI 4), .int (nI 4), .int heat, .int cools, .int skinHeat, .int today, .int stirs, .int steps, .int (nI 0), .int (nI 0), .ref thickness, .ref lumpNames, .ref lumpCells, .ref boatNames, .ref boatCells, .ref loads, .ref spoons, .ref spoonsLeft, .ref depths])), (thickness, .inl (ky 0, 36, .inl thicknessG_6))] := hD
    refine lv_iconst (v := nI 0) hx hb dX7_stirLine_17 (by decide) ?_
    refine lv_istore (lv' := [(4, .int (nI 0)), (0, .ref a), (1, .int (nI 1)), (2, .int (nI n)), (3, .int (nI 1))]) hx hb dX7_stirLine_18 hl (by decide) rfl (fun ls hl => ?_)
    refine lv_iload hx hb dX7_stirLine_20 (lv_at hl 0 rfl) ?_
    refine lv_aload_n hx hb dX7_stirLine_22 rfl (lv_at hl 1 rfl) ?_
    refine va_get (D := (dC, dI)) (ci := 7) (v := .int (nI 0)) (C := RX7) (T := TX7) (N := 19) hx hb hts hin7 hown hK hP 0 rfl rfl 8 (by decide) (hts (.fieldLink RX7 68 "PorridgeSea$Sea" "lumps" "I") (List.mem_of_getElem? (i := 1) rfl)) (fun _ h9 => h9) rfl dX7_stirLine_23 ?_
    refine lv_icmp_ge (tgt := 56) hx hb dX7_stirLine_26 (by decide) (fun c7 => ?_) (fun c7 => absurd (by decide) c7)
    refine lv_iconst (v := nI 0) hx hb dX7_stirLine_56 (by decide) ?_
    refine lv_istore (lv' := [(4, .int (nI 0)), (0, .ref a), (1, .int (nI 1)), (2, .int (nI n)), (3, .int (nI 1))]) hx hb dX7_stirLine_57 hl (by decide) rfl (fun ls hl => ?_)
    refine lv_iload hx hb dX7_stirLine_59 (lv_at hl 0 rfl) ?_
    refine lv_aload_n hx hb dX7_stirLine_61 rfl (lv_at hl 1 rfl) ?_
    refine va_get (D := (dC, dI)) (ci := 7) (v := .int (nI 0)) (C := RX7) (T := TX7) (N := 19) hx hb hts hin7 hown hK hP 0 rfl rfl 9 (by decide) (hts (.fieldLink RX7 71 "PorridgeSea$Sea" "boats" "I") (List.mem_of_getElem? (i := 3) rfl)) (fun _ h9 => h9) rfl dX7_stirLine_62 ?_
    refine lv_icmp_ge (tgt := 104) hx hb dX7_stirLine_65 (by decide) (fun c8 => ?_) (fun c8 => absurd (by decide) c8)
    refine lv_aload_n hx hb dX7_stirLine_104 rfl (lv_at hl 1 rfl) ?_
    refine lv_dup hx hb dX7_stirLine_105 rfl ?_
    refine va_get (D := (dC, dI)) (ci := 7) (v := .int stirs) (C := RX7) (T := TX7) (N := 19) hx hb hts hin7 hown hK hP 0 rfl rfl 6 (by decide) (hts (.fieldLink RX7 62 "PorridgeSea$Sea" "stirs" "I") (List.mem_of_getElem? (i := 5) rfl)) (fun _ h9 => h9) rfl dX7_stirLine_106 ?_
    refine lv_iconst (v := nI 1) hx hb dX7_stirLine_109 (by decide) ?_
    refine lv_iadd hx hb dX7_stirLine_110 ?_
    refine lv_topi (fun y9 e10 => ?_)
    refine va_put (D := (dC, dI)) (ci := 7) (v := .int y9) (ty := .int) (C := RX7) (T := TX7) (N := 19) hx hb hts hin7 tyX7 tyX7_ok nmX7 hown hK hP hD hS 0 rfl rfl 6 (by decide) (hts (.fieldLink RX7 62 "PorridgeSea$Sea" "stirs" "I") (List.mem_of_getElem? (i := 5) rfl)) (fun _ h9 => h9) rfl (by decide +kernel) rfl rfl (Nat.le_of_ble_eq_true rfl) dX7_stirLine_111 (fun H locs hP hD hS => ?_)
    have hP : va_P (dC, dI) vwCl [(a, .inr (7, [.int (nI 4), .int (nI 4), .int heat, .int cools, .int skinHeat, .int today, .int y9, .int steps, .int (nI 0), .int (nI 0), .ref thickness, .ref lumpNames, .ref lumpCells, .ref boatNames, .ref boatCells, .ref loads, .ref spoons, .ref spoonsLeft, .ref depths])), (thickness, .inl (ky 0, 36, .inl thicknessG_6))] H := hP
    have hD : va_D A [(a, .inr (7, [.int (nI 4), .int (nI 4), .int heat, .int cools, .int skinHeat, .int today, .int y9, .int steps, .int (nI 0), .int (nI 0), .ref thickness, .ref lumpNames, .ref lumpCells, .ref boatNames, .ref boatCells, .ref loads, .ref spoons, .ref spoonsLeft, .ref depths])), (thickness, .inl (ky 0, 36, .inl thicknessG_6))] := hD
    have hP9 := hP.sub (ws' := [(a, .inr (7, [.int (nI 4), .int (nI 4), .int heat, .int cools, .int skinHeat, .int today, .int y9, .int steps, .int (nI 0), .int (nI 0), .ref thickness, .ref lumpNames, .ref lumpCells, .ref boatNames, .ref boatCells, .ref loads, .ref spoons, .ref spoonsLeft, .ref depths])), (thickness, .inl (ky 0, 36, .inl thicknessG_6))]) [0, 1] rfl
    have hD9 := hD.sub (ws' := [(a, .inr (7, [.int (nI 4), .int (nI 4), .int heat, .int cools, .int skinHeat, .int today, .int y9, .int steps, .int (nI 0), .int (nI 0), .ref thickness, .ref lumpNames, .ref lumpCells, .ref boatNames, .ref boatCells, .ref loads, .ref spoons, .ref spoonsLeft, .ref depths])), (thickness, .inl (ky 0, 36, .inl thicknessG_6))]) [0, 1] (by decide) rfl
    refine W.widen (k := 0) (n := 0) (Nat.le_of_ble_eq_true rfl) (Nat.le_of_ble_eq_true rfl) ?_
    exact W.vret hx hb hr (fun t ht9 hW9 => ⟨⟨(y9, thicknessG_6), rfl, trivial, by rw [ht9]; exact hP9, va_K.moved hW9.alike hK, hD9⟩, hS.F ht9⟩) hS.2.2 dX7_stirLine_114
  · have hP9 := hP.sub (ws' := [(a, .inr (7, [.int (nI 4), .int (nI 4), .int heat, .int cools, .int skinHeat, .int today, .int stirs, .int steps, .int (nI 0), .int (nI 0), .ref thickness, .ref lumpNames, .ref lumpCells, .ref boatNames, .ref boatCells, .ref loads, .ref spoons, .ref spoonsLeft, .ref depths])), (thickness, .inl (ky 0, 36, .inl thicknessF))]) [0, 1] rfl
    have hD9 := hD.sub (ws' := [(a, .inr (7, [.int (nI 4), .int (nI 4), .int heat, .int cools, .int skinHeat, .int today, .int stirs, .int steps, .int (nI 0), .int (nI 0), .ref thickness, .ref lumpNames, .ref lumpCells, .ref boatNames, .ref boatCells, .ref loads, .ref spoons, .ref spoonsLeft, .ref depths])), (thickness, .inl (ky 0, 36, .inl thicknessF))]) [0, 1] (by decide) rfl
    refine W.widen (k := 0) (n := 0) (Nat.le_of_ble_eq_true rfl) (Nat.le_of_ble_eq_true rfl) ?_
    exact W.vret hx hb hr (fun t ht9 hW9 => ⟨⟨(stirs, thicknessF), rfl, trivial, by rw [ht9]; exact hP9, va_K.moved hW9.alike hK, hD9⟩, hS.F ht9⟩) hS.2.2 dX7_stirLine_9
set_option maxHeartbeats 4000000 in
set_option maxRecDepth 100000 in
theorem c_thicken (l : Launch) (dC : Nat → ClassId) (dI : Nat → Nat → Nat) (ky : Nat → ClassId) (sz : Nat) (a : Nat) (heat : Int32) (cools : Int32) (skinHeat : Int32) (today : Int32) (stirs : Int32) (steps : Int32) (thickness : Nat) (lumpNames : Nat) (lumpCells : Nat) (boatNames : Nat) (boatCells : Nat) (loads : Nat) (spoons : Nat) (spoonsLeft : Nat) (depths : Nat) (thicknessF : Nat → Int32) (x : Nat) (y : Nat) (n : Int32) (hxx : x < 4) (hyy : y < 4) : Met l yX7_thicken wsX7_thicken ({ frames := 1, cells := 0, slots := 0, locals := 22 }) (PcU dC dI ky [.ref a, .int (nI x), .int (nI y), .int n] [(a, .inr (7, [.int (nI 4), .int (nI 4), .int heat, .int cools, .int skinHeat, .int today, .int stirs, .int steps, .int (nI 0), .int (nI 0), .ref thickness, .ref lumpNames, .ref lumpCells, .ref boatNames, .ref boatCells, .ref loads, .ref spoons, .ref spoonsLeft, .ref depths])), (thickness, .inl (ky 0, 36, .inl thicknessF))] sz) (va_Qv (fun (thicknessG : (Nat → Int32)) => True) (BU dC dI ky (fun (thicknessG : (Nat → Int32)) => [(a, .inr (7, [.int (nI 4), .int (nI 4), .int heat, .int cools, .int skinHeat, .int today, .int stirs, .int steps, .int (nI 0), .int (nI 0), .ref thickness, .ref lumpNames, .ref lumpCells, .ref boatNames, .ref boatCells, .ref loads, .ref spoons, .ref spoonsLeft, .ref depths])), (thickness, .inl (ky 0, 36, .inl thicknessG))]) (va_A [(a, .inr (7, [.int (nI 4), .int (nI 4), .int heat, .int cools, .int skinHeat, .int today, .int stirs, .int steps, .int (nI 0), .int (nI 0), .ref thickness, .ref lumpNames, .ref lumpCells, .ref boatNames, .ref boatCells, .ref loads, .ref spoons, .ref spoonsLeft, .ref depths])), (thickness, .inl (ky 0, 36, .inl thicknessF))] sz)) (va_A [(a, .inr (7, [.int (nI 4), .int (nI 4), .int heat, .int cools, .int skinHeat, .int today, .int stirs, .int steps, .int (nI 0), .int (nI 0), .ref thickness, .ref lumpNames, .ref lumpCells, .ref boatNames, .ref boatCells, .ref loads, .ref spoons, .ref spoonsLeft, .ref depths])), (thickness, .inl (ky 0, 36, .inl thicknessF))] sz)) 0 0 (va_A [(a, .inr (7, [.int (nI 4), .int (nI 4), .int heat, .int cools, .int skinHeat, .int today, .int stirs, .int steps, .int (nI 0), .int (nI 0), .ref thickness, .ref lumpNames, .ref lumpCells, .ref boatNames, .ref boatCells, .ref loads, .ref spoons, .ref spoonsLeft, .ref depths])), (thickness, .inl (ky 0, 36, .inl thicknessF))] sz) := by
  refine Met.ofW (cc := cX7_thicken) (maxL := 5) (ret := none) (by decide) rfl ?_
  intro p e s m args below meth c s₁ B hml hv
  obtain ⟨rfl, hsz, hP, hK, hD0⟩ := hv
  have hx := B.exec
  have hb := B.bytes
  have hr := B.returns
  have hts := atoms_spec (ws := wsX7_thicken) B.pre
  have hown : s.vm.findClass RX7 = some m.cls := findClass_of_methodNamed B.named
  have hlocks := B.notSynchronized
  have hin7 : ∀ w ∈ u_ws RX7 TX7 19, w ∈ wsX7_thicken := by decide +kernel
  subst hsz
  have hD := hD0.self (sz := s.heap.size)
  generalize hAe : va_A [(a, .inr (7, [.int (nI 4), .int (nI 4), .int heat, .int cools, .int skinHeat, .int today, .int stirs, .int steps, .int (nI 0), .int (nI 0), .ref thickness, .ref lumpNames, .ref lumpCells, .ref boatNames, .ref boatCells, .ref loads, .ref spoons, .ref spoonsLeft, .ref depths])), (thickness, .inl (ky 0, 36, .inl thicknessF))] s.heap.size = A at hD ⊢
  have hA : ∀ q : Nat, s.heap.size ≤ q → A q := fun q h => by rw [← hAe]; exact Or.inr h
  have hS : va_S A s.heap s.heap [] := va_S.rf
  have hP : va_P (dC, dI) vwCl [(a, .inr (7, [.int (nI 4), .int (nI 4), .int heat, .int cools, .int skinHeat, .int today, .int stirs, .int steps, .int (nI 0), .int (nI 0), .ref thickness, .ref lumpNames, .ref lumpCells, .ref boatNames, .ref boatCells, .ref loads, .ref spoons, .ref spoonsLeft, .ref depths])), (thickness, .inl (ky 0, 36, .inl thicknessF))] s.heap := hP
  have hl := lv_entry ([.ref a, .int (nI x), .int (nI y), .int n]) (n := 5) (Nat.le_of_ble_eq_true rfl)
  rw [lg_entry_eq]
  generalize (lg_sl ([.ref a, .int (nI x), .int (nI y), .int n]) ++ List.replicate (5 - (lg_sl ([.ref a, .int (nI x), .int (nI y), .int n])).length) Slot.unset).toArray = ls at hl ⊢
  have hl : lv_has ls 5 [(0, .ref a), (1, .int (nI x)), (2, .int (nI y)), (3, .int n)] := hl
  have hH0 : True := trivial
  refine lv_aload_n hx hb dX7_thicken_0 rfl (lv_at hl 0 rfl) ?_
  refine lv_iload_n hx hb dX7_thicken_1 rfl (lv_at hl 1 rfl) ?_
  refine lv_iload_n hx hb dX7_thicken_2 rfl (lv_at hl 2 rfl) ?_
  refine vp_callSi (W.runV (As := [.int (nI x), .int (nI y)]) (rest := []) ⟨hx, hb, hml, hown, hts⟩ (c_isCell l dC dI ky a (nI 4) (nI 4) heat cools skinHeat today stirs steps (nI 0) (nI 0) thickness lumpNames lumpCells boatNames boatCells loads spoons spoonsLeft depths (nI x) (nI y)) (cwV 2 hts gX7_thicken_X7_isCell rfl rfl rfl (by decide +kernel) ⟨(Nat.le_of_ble_eq_true rfl), (Nat.le_of_ble_eq_true rfl)⟩) (pre_PV hK hP [0] rfl (ci := 7) (q0 := 0) rfl rfl) rfl rfl hl.1 rfl (lv_room (Nat.le_of_ble_eq_true rfl)) dX7_thicken_3 ⟨(Nat.le_of_ble_eq_true rfl), (Nat.le_of_ble_eq_true rfl)⟩) (fun r1 p2 => ?_)
  refine lv_if_eq (tgt := 42) hx hb dX7_thicken_6 (by decide) (fun c3 => ?_) (fun c3 => ?_)
  · have hP9 := hP.sub (ws' := [(a, .inr (7, [.int (nI 4), .int (nI 4), .int heat, .int cools, .int skinHeat, .int today, .int stirs, .int steps, .int (nI 0), .int (nI 0), .ref thickness, .ref lumpNames, .ref lumpCells, .ref boatNames, .ref boatCells, .ref loads, .ref spoons, .ref spoonsLeft, .ref depths])), (thickness, .inl (ky 0, 36, .inl thicknessF))]) [0, 1] rfl
    have hD9 := hD.sub (ws' := [(a, .inr (7, [.int (nI 4), .int (nI 4), .int heat, .int cools, .int skinHeat, .int today, .int stirs, .int steps, .int (nI 0), .int (nI 0), .ref thickness, .ref lumpNames, .ref lumpCells, .ref boatNames, .ref boatCells, .ref loads, .ref spoons, .ref spoonsLeft, .ref depths])), (thickness, .inl (ky 0, 36, .inl thicknessF))]) [0, 1] (by decide) rfl
    refine W.widen (k := 0) (n := 0) (Nat.le_of_ble_eq_true rfl) (Nat.le_of_ble_eq_true rfl) ?_
    exact W.vret hx hb hr (fun t ht9 hW9 => ⟨⟨thicknessF, rfl, trivial, by rw [ht9]; exact hP9, va_K.moved hW9.alike hK, hD9⟩, hS.F ht9⟩) hS.2.2 dX7_thicken_42
  · refine lv_bipush (v := nI 6) hx hb dX7_thicken_9 (by decide) ?_
    refine lv_iload_n hx hb dX7_thicken_11 rfl (lv_at hl 2 rfl) ?_
    refine lv_imul hx hb dX7_thicken_12 ?_
    refine r_ti (nI (6 * y)) (pk_mul _ _) ?_
    refine lv_iload_n hx hb dX7_thicken_13 rfl (lv_at hl 1 rfl) ?_
    refine lv_iadd hx hb dX7_thicken_14 ?_
    refine r_ti (nI ((6 * y) + x)) (nI_add _ _) ?_
    refine lv_istore (lv' := [(4, .int (nI ((6 * y) + x))), (0, .ref a), (1, .int (nI x)), (2, .int (nI y)), (3, .int n)]) hx hb dX7_thicken_15 hl (by decide) rfl (fun ls hl => ?_)
    refine lv_aload_n hx hb dX7_thicken_17 rfl (lv_at hl 1 rfl) ?_
    refine va_get (D := (dC, dI)) (ci := 7) (v := .ref thickness) (C := RX7) (T := TX7) (N := 19) hx hb hts hin7 hown hK hP 0 rfl rfl 10 (by decide) (hts (.fieldLink RX7 9 "PorridgeSea$Sea" "thickness" "[I") (List.mem_of_getElem? (i := 1) rfl)) (fun _ h9 => h9) rfl dX7_thicken_18 ?_
    refine lv_iload hx hb dX7_thicken_21 (lv_at hl 0 rfl) ?_
    refine lv_iconst (v := nI 0) hx hb dX7_thicken_23 (by decide) ?_
    refine lv_bipush (v := nI 9) hx hb dX7_thicken_24 (by decide) ?_
    refine lv_aload_n hx hb dX7_thicken_26 rfl (lv_at hl 1 rfl) ?_
    refine va_get (D := (dC, dI)) (ci := 7) (v := .ref thickness) (C := RX7) (T := TX7) (N := 19) hx hb hts hin7 hown hK hP 0 rfl rfl 10 (by decide) (hts (.fieldLink RX7 9 "PorridgeSea$Sea" "thickness" "[I") (List.mem_of_getElem? (i := 1) rfl)) (fun _ h9 => h9) rfl dX7_thicken_27 ?_
    refine lv_iload hx hb dX7_thicken_30 (lv_at hl 0 rfl) ?_
    obtain ⟨y4, e5⟩ : ∃ z9, z9 = thicknessF ((6 * y) + x) := ⟨_, rfl⟩
    refine r_iald hx hb hK hP 1 rfl ((6 * y) + x) (by omega) (by decide) y4 e5.symm dX7_thicken_32 ?_
    refine lv_iload_n hx hb dX7_thicken_33 rfl (lv_at hl 4 rfl) ?_
    refine lv_iadd hx hb dX7_thicken_34 ?_
    refine lv_topi (fun y6 e7 => ?_)
    refine va_mmin hx hb (by rw [hml]; exact hl.1.symm) hown (hts _ (List.mem_of_getElem? (i := 2) rfl)) (hts _ (List.mem_of_getElem? (i := 3) rfl)) (hts _ (List.mem_of_getElem? (i := 4) rfl)) (hts _ (List.mem_of_getElem? (i := 5) rfl)) (Nat.le_of_ble_eq_true rfl) (Nat.le_of_ble_eq_true rfl) (Nat.le_of_ble_eq_true rfl) (Nat.le_of_ble_eq_true rfl) dX7_thicken_35 ?_
    refine lv_topi (fun y8 e9 => ?_)
    refine va_mmax hx hb (by rw [hml]; exact hl.1.symm) hown (hts _ (List.mem_of_getElem? (i := 6) rfl)) (hts _ (List.mem_of_getElem? (i := 7) rfl)) (hts _ (List.mem_of_getElem? (i := 4) rfl)) (hts _ (List.mem_of_getElem? (i := 8) rfl)) (Nat.le_of_ble_eq_true rfl) (Nat.le_of_ble_eq_true rfl) (Nat.le_of_ble_eq_true rfl) (Nat.le_of_ble_eq_true rfl) dX7_thicken_38 ?_
    refine lv_topi (fun y10 e11 => ?_)
    refine r_iast (x := y10) hx hb hK hP hD hS 1 rfl ((6 * y) + x) (by omega) (by decide) dX7_thicken_41 (fun H locs hP hD hS => ?_)
    obtain ⟨g12, e13⟩ : ∃ z9, z9 = upd thicknessF ((6 * y) + x) y10 := ⟨_, rfl⟩
    rw [← e13] at hP hD
    have hP : va_P (dC, dI) vwCl [(a, .inr (7, [.int (nI 4), .int (nI 4), .int heat, .int cools, .int skinHeat, .int today, .int stirs, .int steps, .int (nI 0), .int (nI 0), .ref thickness, .ref lumpNames, .ref lumpCells, .ref boatNames, .ref boatCells, .ref loads, .ref spoons, .ref spoonsLeft, .ref depths])), (thickness, .inl (ky 0, 36, .inl g12))] H := hP
    have hD : va_D A [(a, .inr (7, [.int (nI 4), .int (nI 4), .int heat, .int cools, .int skinHeat, .int today, .int stirs, .int steps, .int (nI 0), .int (nI 0), .ref thickness, .ref lumpNames, .ref lumpCells, .ref boatNames, .ref boatCells, .ref loads, .ref spoons, .ref spoonsLeft, .ref depths])), (thickness, .inl (ky 0, 36, .inl g12))] := hD
    have hP9 := hP.sub (ws' := [(a, .inr (7, [.int (nI 4), .int (nI 4), .int heat, .int cools, .int skinHeat, .int today, .int stirs, .int steps, .int (nI 0), .int (nI 0), .ref thickness, .ref lumpNames, .ref lumpCells, .ref boatNames, .ref boatCells, .ref loads, .ref spoons, .ref spoonsLeft, .ref depths])), (thickness, .inl (ky 0, 36, .inl g12))]) [0, 1] rfl
    have hD9 := hD.sub (ws' := [(a, .inr (7, [.int (nI 4), .int (nI 4), .int heat, .int cools, .int skinHeat, .int today, .int stirs, .int steps, .int (nI 0), .int (nI 0), .ref thickness, .ref lumpNames, .ref lumpCells, .ref boatNames, .ref boatCells, .ref loads, .ref spoons, .ref spoonsLeft, .ref depths])), (thickness, .inl (ky 0, 36, .inl g12))]) [0, 1] (by decide) rfl
    refine W.widen (k := 0) (n := 0) (Nat.le_of_ble_eq_true rfl) (Nat.le_of_ble_eq_true rfl) ?_
    exact W.vret hx hb hr (fun t ht9 hW9 => ⟨⟨g12, rfl, trivial, by rw [ht9]; exact hP9, va_K.moved hW9.alike hK, hD9⟩, hS.F ht9⟩) hS.2.2 dX7_thicken_42
set_option maxHeartbeats 4000000 in
set_option maxRecDepth 100000 in
theorem c_warm (l : Launch) (dC : Nat → ClassId) (dI : Nat → Nat → Nat) (ky : Nat → ClassId) (sz : Nat) (a : Nat) (heat : Int32) (cools : Int32) (skinHeat : Int32) (today : Int32) (stirs : Int32) (steps : Int32) (thickness : Nat) (lumpNames : Nat) (lumpCells : Nat) (boatNames : Nat) (boatCells : Nat) (loads : Nat) (spoons : Nat) (spoonsLeft : Nat) (depths : Nat) (n : Int32)  : Met l yX7_warm wsX7_warm ({ frames := 1, cells := 0, slots := 0, locals := 15 }) (PcU dC dI ky [.ref a, .int n] [(a, .inr (7, [.int (nI 4), .int (nI 4), .int heat, .int cools, .int skinHeat, .int today, .int stirs, .int steps, .int (nI 0), .int (nI 0), .ref thickness, .ref lumpNames, .ref lumpCells, .ref boatNames, .ref boatCells, .ref loads, .ref spoons, .ref spoonsLeft, .ref depths]))] sz) (va_Qv (fun (heatG : Int32) => True) (BU dC dI ky (fun (heatG : Int32) => [(a, .inr (7, [.int (nI 4), .int (nI 4), .int heatG, .int cools, .int skinHeat, .int today, .int stirs, .int steps, .int (nI 0), .int (nI 0), .ref thickness, .ref lumpNames, .ref lumpCells, .ref boatNames, .ref boatCells, .ref loads, .ref spoons, .ref spoonsLeft, .ref depths]))]) (va_A [(a, .inr (7, [.int (nI 4), .int (nI 4), .int heat, .int cools, .int skinHeat, .int today, .int stirs, .int steps, .int (nI 0), .int (nI 0), .ref thickness, .ref lumpNames, .ref lumpCells, .ref boatNames, .ref boatCells, .ref loads, .ref spoons, .ref spoonsLeft, .ref depths]))] sz)) (va_A [(a, .inr (7, [.int (nI 4), .int (nI 4), .int heat, .int cools, .int skinHeat, .int today, .int stirs, .int steps, .int (nI 0), .int (nI 0), .ref thickness, .ref lumpNames, .ref lumpCells, .ref boatNames, .ref boatCells, .ref loads, .ref spoons, .ref spoonsLeft, .ref depths]))] sz)) 0 0 (va_A [(a, .inr (7, [.int (nI 4), .int (nI 4), .int heat, .int cools, .int skinHeat, .int today, .int stirs, .int steps, .int (nI 0), .int (nI 0), .ref thickness, .ref lumpNames, .ref lumpCells, .ref boatNames, .ref boatCells, .ref loads, .ref spoons, .ref spoonsLeft, .ref depths]))] sz) := by
  refine Met.ofW (cc := cX7_warm) (maxL := 2) (ret := none) (by decide) rfl ?_
  intro p e s m args below meth c s₁ B hml hv
  obtain ⟨rfl, hsz, hP, hK, hD0⟩ := hv
  have hx := B.exec
  have hb := B.bytes
  have hr := B.returns
  have hts := atoms_spec (ws := wsX7_warm) B.pre
  have hown : s.vm.findClass RX7 = some m.cls := findClass_of_methodNamed B.named
  have hlocks := B.notSynchronized
  have hin7 : ∀ w ∈ u_ws RX7 TX7 19, w ∈ wsX7_warm := by decide +kernel
  subst hsz
  have hD := hD0.self (sz := s.heap.size)
  generalize hAe : va_A [(a, .inr (7, [.int (nI 4), .int (nI 4), .int heat, .int cools, .int skinHeat, .int today, .int stirs, .int steps, .int (nI 0), .int (nI 0), .ref thickness, .ref lumpNames, .ref lumpCells, .ref boatNames, .ref boatCells, .ref loads, .ref spoons, .ref spoonsLeft, .ref depths]))] s.heap.size = A at hD ⊢
  have hA : ∀ q : Nat, s.heap.size ≤ q → A q := fun q h => by rw [← hAe]; exact Or.inr h
  have hS : va_S A s.heap s.heap [] := va_S.rf
  have hP : va_P (dC, dI) vwCl [(a, .inr (7, [.int (nI 4), .int (nI 4), .int heat, .int cools, .int skinHeat, .int today, .int stirs, .int steps, .int (nI 0), .int (nI 0), .ref thickness, .ref lumpNames, .ref lumpCells, .ref boatNames, .ref boatCells, .ref loads, .ref spoons, .ref spoonsLeft, .ref depths]))] s.heap := hP
  have hl := lv_entry ([.ref a, .int n]) (n := 2) (Nat.le_of_ble_eq_true rfl)
  rw [lg_entry_eq]
  generalize (lg_sl ([.ref a, .int n]) ++ List.replicate (2 - (lg_sl ([.ref a, .int n])).length) Slot.unset).toArray = ls at hl ⊢
  have hl : lv_has ls 2 [(0, .ref a), (1, .int n)] := hl
  have hH0 : True := trivial
  refine lv_aload_n hx hb dX7_warm_0 rfl (lv_at hl 0 rfl) ?_
  refine lv_bipush (v := nI 30) hx hb dX7_warm_1 (by decide) ?_
  refine lv_aload_n hx hb dX7_warm_3 rfl (lv_at hl 0 rfl) ?_
  refine va_get (D := (dC, dI)) (ci := 7) (v := .int heat) (C := RX7) (T := TX7) (N := 19) hx hb hts hin7 hown hK hP 0 rfl rfl 2 (by decide) (hts (.fieldLink RX7 50 "PorridgeSea$Sea" "heat" "I") (List.mem_of_getElem? (i := 1) rfl)) (fun _ h9 => h9) rfl dX7_warm_4 ?_
  refine lv_iload_n hx hb dX7_warm_7 rfl (lv_at hl 1 rfl) ?_
  refine lv_iadd hx hb dX7_warm_8 ?_
  refine lv_topi (fun y1 e2 => ?_)
  refine va_mmin hx hb (by rw [hml]; exact hl.1.symm) hown (hts _ (List.mem_of_getElem? (i := 2) rfl)) (hts _ (List.mem_of_getElem? (i := 3) rfl)) (hts _ (List.mem_of_getElem? (i := 4) rfl)) (hts _ (List.mem_of_getElem? (i := 5) rfl)) (Nat.le_of_ble_eq_true rfl) (Nat.le_of_ble_eq_true rfl) (Nat.le_of_ble_eq_true rfl) (Nat.le_of_ble_eq_true rfl) dX7_warm_9 ?_
  refine lv_topi (fun y3 e4 => ?_)
  refine va_put (D := (dC, dI)) (ci := 7) (v := .int y3) (ty := .int) (C := RX7) (T := TX7) (N := 19) hx hb hts hin7 tyX7 tyX7_ok nmX7 hown hK hP hD hS 0 rfl rfl 2 (by decide) (hts (.fieldLink RX7 50 "PorridgeSea$Sea" "heat" "I") (List.mem_of_getElem? (i := 1) rfl)) (fun _ h9 => h9) rfl (by decide +kernel) rfl rfl (Nat.le_of_ble_eq_true rfl) dX7_warm_12 (fun H locs hP hD hS => ?_)
  have hP : va_P (dC, dI) vwCl [(a, .inr (7, [.int (nI 4), .int (nI 4), .int y3, .int cools, .int skinHeat, .int today, .int stirs, .int steps, .int (nI 0), .int (nI 0), .ref thickness, .ref lumpNames, .ref lumpCells, .ref boatNames, .ref boatCells, .ref loads, .ref spoons, .ref spoonsLeft, .ref depths]))] H := hP
  have hD : va_D A [(a, .inr (7, [.int (nI 4), .int (nI 4), .int y3, .int cools, .int skinHeat, .int today, .int stirs, .int steps, .int (nI 0), .int (nI 0), .ref thickness, .ref lumpNames, .ref lumpCells, .ref boatNames, .ref boatCells, .ref loads, .ref spoons, .ref spoonsLeft, .ref depths]))] := hD
  have hP9 := hP.sub (ws' := [(a, .inr (7, [.int (nI 4), .int (nI 4), .int y3, .int cools, .int skinHeat, .int today, .int stirs, .int steps, .int (nI 0), .int (nI 0), .ref thickness, .ref lumpNames, .ref lumpCells, .ref boatNames, .ref boatCells, .ref loads, .ref spoons, .ref spoonsLeft, .ref depths]))]) [0] rfl
  have hD9 := hD.sub (ws' := [(a, .inr (7, [.int (nI 4), .int (nI 4), .int y3, .int cools, .int skinHeat, .int today, .int stirs, .int steps, .int (nI 0), .int (nI 0), .ref thickness, .ref lumpNames, .ref lumpCells, .ref boatNames, .ref boatCells, .ref loads, .ref spoons, .ref spoonsLeft, .ref depths]))]) [0] (by decide) rfl
  refine W.widen (k := 0) (n := 0) (Nat.le_of_ble_eq_true rfl) (Nat.le_of_ble_eq_true rfl) ?_
  exact W.vret hx hb hr (fun t ht9 hW9 => ⟨⟨y3, rfl, trivial, by rw [ht9]; exact hP9, va_K.moved hW9.alike hK, hD9⟩, hS.F ht9⟩) hS.2.2 dX7_warm_15
set_option maxHeartbeats 4000000 in
set_option maxRecDepth 100000 in
theorem c_passDay (l : Launch) (dC : Nat → ClassId) (dI : Nat → Nat → Nat) (ky : Nat → ClassId) (sz : Nat) (a : Nat) (heat : Int32) (cools : Int32) (skinHeat : Int32) (today : Int32) (stirs : Int32) (steps : Int32) (thickness : Nat) (lumpNames : Nat) (lumpCells : Nat) (boatNames : Nat) (boatCells : Nat) (loads : Nat) (spoons : Nat) (spoonsLeft : Nat) (depths : Nat)  : Met l yX7_passDay wsX7_passDay ({ frames := 1, cells := 0, slots := 0, locals := 15 }) (PcU dC dI ky [.ref a] [(a, .inr (7, [.int (nI 4), .int (nI 4), .int heat, .int cools, .int skinHeat, .int today, .int stirs, .int steps, .int (nI 0), .int (nI 0), .ref thickness, .ref lumpNames, .ref lumpCells, .ref boatNames, .ref boatCells, .ref loads, .ref spoons, .ref spoonsLeft, .ref depths]))] sz) (va_Qv (fun (u : Int32 × Int32) => match u with | (heatG, todayG) => True) (BU dC dI ky (fun (u : Int32 × Int32) => match u with | (heatG, todayG) => [(a, .inr (7, [.int (nI 4), .int (nI 4), .int heatG, .int cools, .int skinHeat, .int todayG, .int stirs, .int steps, .int (nI 0), .int (nI 0), .ref thickness, .ref lumpNames, .ref lumpCells, .ref boatNames, .ref boatCells, .ref loads, .ref spoons, .ref spoonsLeft, .ref depths]))]) (va_A [(a, .inr (7, [.int (nI 4), .int (nI 4), .int heat, .int cools, .int skinHeat, .int today, .int stirs, .int steps, .int (nI 0), .int (nI 0), .ref thickness, .ref lumpNames, .ref lumpCells, .ref boatNames, .ref boatCells, .ref loads, .ref spoons, .ref spoonsLeft, .ref depths]))] sz)) (va_A [(a, .inr (7, [.int (nI 4), .int (nI 4), .int heat, .int cools, .int skinHeat, .int today, .int stirs, .int steps, .int (nI 0), .int (nI 0), .ref thickness, .ref lumpNames, .ref lumpCells, .ref boatNames, .ref boatCells, .ref loads, .ref spoons, .ref spoonsLeft, .ref depths]))] sz)) 0 0 (va_A [(a, .inr (7, [.int (nI 4), .int (nI 4), .int heat, .int cools, .int skinHeat, .int today, .int stirs, .int steps, .int (nI 0), .int (nI 0), .ref thickness, .ref lumpNames, .ref lumpCells, .ref boatNames, .ref boatCells, .ref loads, .ref spoons, .ref spoonsLeft, .ref depths]))] sz) := by
  refine Met.ofW (cc := cX7_passDay) (maxL := 2) (ret := none) (by decide) rfl ?_
  intro p e s m args below meth c s₁ B hml hv
  obtain ⟨rfl, hsz, hP, hK, hD0⟩ := hv
  have hx := B.exec
  have hb := B.bytes
  have hr := B.returns
  have hts := atoms_spec (ws := wsX7_passDay) B.pre
  have hown : s.vm.findClass RX7 = some m.cls := findClass_of_methodNamed B.named
  have hlocks := B.notSynchronized
  have hin7 : ∀ w ∈ u_ws RX7 TX7 19, w ∈ wsX7_passDay := by decide +kernel
  subst hsz
  have hD := hD0.self (sz := s.heap.size)
  generalize hAe : va_A [(a, .inr (7, [.int (nI 4), .int (nI 4), .int heat, .int cools, .int skinHeat, .int today, .int stirs, .int steps, .int (nI 0), .int (nI 0), .ref thickness, .ref lumpNames, .ref lumpCells, .ref boatNames, .ref boatCells, .ref loads, .ref spoons, .ref spoonsLeft, .ref depths]))] s.heap.size = A at hD ⊢
  have hA : ∀ q : Nat, s.heap.size ≤ q → A q := fun q h => by rw [← hAe]; exact Or.inr h
  have hS : va_S A s.heap s.heap [] := va_S.rf
  have hP : va_P (dC, dI) vwCl [(a, .inr (7, [.int (nI 4), .int (nI 4), .int heat, .int cools, .int skinHeat, .int today, .int stirs, .int steps, .int (nI 0), .int (nI 0), .ref thickness, .ref lumpNames, .ref lumpCells, .ref boatNames, .ref boatCells, .ref loads, .ref spoons, .ref spoonsLeft, .ref depths]))] s.heap := hP
  have hl := lv_entry ([.ref a]) (n := 2) (Nat.le_of_ble_eq_true rfl)
  rw [lg_entry_eq]
  generalize (lg_sl ([.ref a]) ++ List.replicate (2 - (lg_sl ([.ref a])).length) Slot.unset).toArray = ls at hl ⊢
  have hl : lv_has ls 2 [(0, .ref a)] := hl
  have hH0 : True := trivial
  refine lv_iconst (v := nI 0) hx hb dX7_passDay_0 (by decide) ?_
  refine lv_istore_n (lv' := [(1, .int (nI 0)), (0, .ref a)]) hx hb dX7_passDay_1 rfl hl (by decide) rfl (fun ls hl => ?_)
  refine lv_iload_n hx hb dX7_passDay_2 rfl (lv_at hl 0 rfl) ?_
  refine lv_aload_n hx hb dX7_passDay_3 rfl (lv_at hl 1 rfl) ?_
  refine va_get (D := (dC, dI)) (ci := 7) (v := .int (nI 0)) (C := RX7) (T := TX7) (N := 19) hx hb hts hin7 hown hK hP 0 rfl rfl 9 (by decide) (hts (.fieldLink RX7 71 "PorridgeSea$Sea" "boats" "I") (List.mem_of_getElem? (i := 1) rfl)) (fun _ h9 => h9) rfl dX7_passDay_4 ?_
  refine lv_icmp_ge (tgt := 62) hx hb dX7_passDay_7 (by decide) (fun c1 => ?_) (fun c1 => absurd (by decide) c1)
  refine lv_aload_n hx hb dX7_passDay_62 rfl (lv_at hl 1 rfl) ?_
  refine lv_iconst (v := nI 0) hx hb dX7_passDay_63 (by decide) ?_
  refine lv_aload_n hx hb dX7_passDay_64 rfl (lv_at hl 1 rfl) ?_
  refine va_get (D := (dC, dI)) (ci := 7) (v := .int heat) (C := RX7) (T := TX7) (N := 19) hx hb hts hin7 hown hK hP 0 rfl rfl 2 (by decide) (hts (.fieldLink RX7 50 "PorridgeSea$Sea" "heat" "I") (List.mem_of_getElem? (i := 5) rfl)) (fun _ h9 => h9) rfl dX7_passDay_65 ?_
  refine lv_aload_n hx hb dX7_passDay_68 rfl (lv_at hl 1 rfl) ?_
  refine va_get (D := (dC, dI)) (ci := 7) (v := .int cools) (C := RX7) (T := TX7) (N := 19) hx hb hts hin7 hown hK hP 0 rfl rfl 3 (by decide) (hts (.fieldLink RX7 53 "PorridgeSea$Sea" "cools" "I") (List.mem_of_getElem? (i := 6) rfl)) (fun _ h9 => h9) rfl dX7_passDay_69 ?_
  refine lv_isub hx hb dX7_passDay_72 ?_
  refine lv_topi (fun y2 e3 => ?_)
  refine va_mmax hx hb (by rw [hml]; exact hl.1.symm) hown (hts _ (List.mem_of_getElem? (i := 7) rfl)) (hts _ (List.mem_of_getElem? (i := 8) rfl)) (hts _ (List.mem_of_getElem? (i := 9) rfl)) (hts _ (List.mem_of_getElem? (i := 10) rfl)) (Nat.le_of_ble_eq_true rfl) (Nat.le_of_ble_eq_true rfl) (Nat.le_of_ble_eq_true rfl) (Nat.le_of_ble_eq_true rfl) dX7_passDay_73 ?_
  refine lv_topi (fun y4 e5 => ?_)
  refine va_put (D := (dC, dI)) (ci := 7) (v := .int y4) (ty := .int) (C := RX7) (T := TX7) (N := 19) hx hb hts hin7 tyX7 tyX7_ok nmX7 hown hK hP hD hS 0 rfl rfl 2 (by decide) (hts (.fieldLink RX7 50 "PorridgeSea$Sea" "heat" "I") (List.mem_of_getElem? (i := 5) rfl)) (fun _ h9 => h9) rfl (by decide +kernel) rfl rfl (Nat.le_of_ble_eq_true rfl) dX7_passDay_76 (fun H locs hP hD hS => ?_)
  have hP : va_P (dC, dI) vwCl [(a, .inr (7, [.int (nI 4), .int (nI 4), .int y4, .int cools, .int skinHeat, .int today, .int stirs, .int steps, .int (nI 0), .int (nI 0), .ref thickness, .ref lumpNames, .ref lumpCells, .ref boatNames, .ref boatCells, .ref loads, .ref spoons, .ref spoonsLeft, .ref depths]))] H := hP
  have hD : va_D A [(a, .inr (7, [.int (nI 4), .int (nI 4), .int y4, .int cools, .int skinHeat, .int today, .int stirs, .int steps, .int (nI 0), .int (nI 0), .ref thickness, .ref lumpNames, .ref lumpCells, .ref boatNames, .ref boatCells, .ref loads, .ref spoons, .ref spoonsLeft, .ref depths]))] := hD
  refine lv_aload_n hx hb dX7_passDay_79 rfl (lv_at hl 1 rfl) ?_
  refine lv_dup hx hb dX7_passDay_80 rfl ?_
  refine va_get (D := (dC, dI)) (ci := 7) (v := .int today) (C := RX7) (T := TX7) (N := 19) hx hb hts hin7 hown hK hP 0 rfl rfl 5 (by decide) (hts (.fieldLink RX7 59 "PorridgeSea$Sea" "today" "I") (List.mem_of_getElem? (i := 11) rfl)) (fun _ h9 => h9) rfl dX7_passDay_81 ?_
  refine lv_iconst (v := nI 1) hx hb dX7_passDay_84 (by decide) ?_
  refine lv_iadd hx hb dX7_passDay_85 ?_
  refine lv_topi (fun y6 e7 => ?_)
  refine va_put (D := (dC, dI)) (ci := 7) (v := .int y6) (ty := .int) (C := RX7) (T := TX7) (N := 19) hx hb hts hin7 tyX7 tyX7_ok nmX7 hown hK hP hD hS 0 rfl rfl 5 (by decide) (hts (.fieldLink RX7 59 "PorridgeSea$Sea" "today" "I") (List.mem_of_getElem? (i := 11) rfl)) (fun _ h9 => h9) rfl (by decide +kernel) rfl rfl (Nat.le_of_ble_eq_true rfl) dX7_passDay_86 (fun H locs hP hD hS => ?_)
  have hP : va_P (dC, dI) vwCl [(a, .inr (7, [.int (nI 4), .int (nI 4), .int y4, .int cools, .int skinHeat, .int y6, .int stirs, .int steps, .int (nI 0), .int (nI 0), .ref thickness, .ref lumpNames, .ref lumpCells, .ref boatNames, .ref boatCells, .ref loads, .ref spoons, .ref spoonsLeft, .ref depths]))] H := hP
  have hD : va_D A [(a, .inr (7, [.int (nI 4), .int (nI 4), .int y4, .int cools, .int skinHeat, .int y6, .int stirs, .int steps, .int (nI 0), .int (nI 0), .ref thickness, .ref lumpNames, .ref lumpCells, .ref boatNames, .ref boatCells, .ref loads, .ref spoons, .ref spoonsLeft, .ref depths]))] := hD
  have hP9 := hP.sub (ws' := [(a, .inr (7, [.int (nI 4), .int (nI 4), .int y4, .int cools, .int skinHeat, .int y6, .int stirs, .int steps, .int (nI 0), .int (nI 0), .ref thickness, .ref lumpNames, .ref lumpCells, .ref boatNames, .ref boatCells, .ref loads, .ref spoons, .ref spoonsLeft, .ref depths]))]) [0] rfl
  have hD9 := hD.sub (ws' := [(a, .inr (7, [.int (nI 4), .int (nI 4), .int y4, .int cools, .int skinHeat, .int y6, .int stirs, .int steps, .int (nI 0), .int (nI 0), .ref thickness, .ref lumpNames, .ref lumpCells, .ref boatNames, .ref boatCells, .ref loads, .ref spoons, .ref spoonsLeft, .ref depths]))]) [0] (by decide) rfl
  refine W.widen (k := 0) (n := 0) (Nat.le_of_ble_eq_true rfl) (Nat.le_of_ble_eq_true rfl) ?_
  exact W.vret hx hb hr (fun t ht9 hW9 => ⟨⟨(y4, y6), rfl, trivial, by rw [ht9]; exact hP9, va_K.moved hW9.alike hK, hD9⟩, hS.F ht9⟩) hS.2.2 dX7_passDay_89
set_option maxHeartbeats 4000000 in
set_option maxRecDepth 100000 in
theorem lp_passDays {p : Program} {l : Launch} {e : Env} {R : Room} {s : State} {m : MethodId} {args : Array Value} {below : List Frame} {meth : Method} {c : Code} {Q : State → Prop} {dC : Nat → ClassId} {dI : Nat → Nat → Nat} {ky : Nat → ClassId} {H0 : Heap} {A : Nat → Prop} (hx : p.tables.exec = Jvm.exec) (hb : c.code = cX7_passDays) (hml : c.maxLocals = 4) (hown : s.vm.findClass RX7 = some m.cls) (hts : ∀ w ∈ wsX7_passDays, w.before args s = true) (hK : Kk dC dI ky s) (hA : ∀ q, H0.size ≤ q → A q) (hRf : 2 ≤ R.frames) (hRl : 36 ≤ R.locals) (hRc : 0 ≤ R.cells) (hRs : 0 ≤ R.slots) (a : Nat) (heat : Int32) (cools : Int32) (skinHeat : Int32) (stirs : Int32) (steps : Int32) (thickness : Nat) (lumpNames : Nat) (lumpCells : Nat) (boatNames : Nat) (boatCells : Nat) (loads : Nat) (spoons : Nat) (spoonsLeft : Nat) (depths : Nat) (n : Nat) (hn : n ≤ 60) (kx : ∀ (i : Nat) (ht : Int32) (td : Int32), n = i → ∀ (H : Heap) (locs : List Loc) (ls : Array Slot), va_P (dC, dI) vwCl [(a, .inr (7, [.int (nI 4), .int (nI 4), .int ht, .int cools, .int skinHeat, .int td, .int stirs, .int steps, .int (nI 0), .int (nI 0), .ref thickness, .ref lumpNames, .ref lumpCells, .ref boatNames, .ref boatCells, .ref loads, .ref spoons, .ref spoonsLeft, .ref depths]))] H → va_D A [(a, .inr (7, [.int (nI 4), .int (nI 4), .int ht, .int cools, .int skinHeat, .int td, .int stirs, .int steps, .int (nI 0), .int (nI 0), .ref thickness, .ref lumpNames, .ref lumpCells, .ref boatNames, .ref boatCells, .ref loads, .ref spoons, .ref spoonsLeft, .ref depths]))] → va_S A H0 H locs → lv_has ls 4 [(3, .int (nI i)), (2, .int (nI n)), (0, .ref a), (1, .int (nI n))] → W p l e R s m args below meth c H locs 0 0 Q (F0 m 26 ls [])) :
    ∀ (nN i : Nat) (ht : Int32) (td : Int32), i ≤ n → n + 1 ≤ i + nN → ∀ (H : Heap) (locs : List Loc) (ls : Array Slot), va_P (dC, dI) vwCl [(a, .inr (7, [.int (nI 4), .int (nI 4), .int ht, .int cools, .int skinHeat, .int td, .int stirs, .int steps, .int (nI 0), .int (nI 0), .ref thickness, .ref lumpNames, .ref lumpCells, .ref boatNames, .ref boatCells, .ref loads, .ref spoons, .ref spoonsLeft, .ref depths]))] H → va_D A [(a, .inr (7, [.int (nI 4), .int (nI 4), .int ht, .int cools, .int skinHeat, .int td, .int stirs, .int steps, .int (nI 0), .int (nI 0), .ref thickness, .ref lumpNames, .ref lumpCells, .ref boatNames, .ref boatCells, .ref loads, .ref spoons, .ref spoonsLeft, .ref depths]))] → va_S A H0 H locs → lv_has ls 4 [(3, .int (nI i)), (2, .int (nI n)), (0, .ref a), (1, .int (nI n))] → W p l e R s m args below meth c H locs 0 0 Q (F0 m 11 ls []) := by
  intro nN
  induction nN with
  | zero => intro i ht td hi hnN; exfalso; omega
  | succ nN ih =>
    intro i ht td hi hnN  H locs ls hP hD hS hl
    refine lv_iload_n hx hb dX7_passDays_11 rfl (lv_at hl 0 rfl) ?_
    refine lv_iload_n hx hb dX7_passDays_12 rfl (lv_at hl 1 rfl) ?_
    refine n_icmp_ge (x := i) (y := n) (tgt := 26) hx hb (by omega) (by omega) dX7_passDays_13 (by decide) (fun c1 => ?_) (fun c1 => ?_)
    · exact kx i ht td (by omega)  H locs ls hP hD hS (lv_sub hl [0, 1, 2, 3] rfl)
    · refine lv_aload_n hx hb dX7_passDays_16 rfl (lv_at hl 2 rfl) ?_
      refine r_call_v (wr := []) (va_runV (As := []) (rest := []) ⟨hx, hb, hml, hown, hts⟩ (c_passDay l dC dI ky H.size a ht cools skinHeat td stirs steps thickness lumpNames lumpCells boatNames boatCells loads spoons spoonsLeft depths) (cwV 0 hts gX7_passDays_X7_passDay rfl rfl rfl (by decide +kernel) ⟨(Nat.le_trans (Nat.le_of_ble_eq_true rfl) hRf), (Nat.le_trans (Nat.le_of_ble_eq_true rfl) hRl)⟩) (pre_UV hK hP hD [0] (by decide) rfl (ci := 7) (q0 := 0) rfl rfl) rfl rfl hl.1 rfl (lv_room (Nat.le_of_ble_eq_true rfl)) dX7_passDays_17 ⟨(Nat.le_trans (Nat.le_of_ble_eq_true rfl) hRc), (Nat.le_trans (Nat.le_of_ble_eq_true rfl) hRs)⟩) hP hD hS hA [0] [] rfl rfl (by decide) (by decide) (fun  u2 H locs p3 hP hD hS => ?_)
      obtain ⟨heatG_4, todayG_5⟩ := u2
      have hP : va_P (dC, dI) vwCl [(a, .inr (7, [.int (nI 4), .int (nI 4), .int heatG_4, .int cools, .int skinHeat, .int todayG_5, .int stirs, .int steps, .int (nI 0), .int (nI 0), .ref thickness, .ref lumpNames, .ref lumpCells, .ref boatNames, .ref boatCells, .ref loads, .ref spoons, .ref spoonsLeft, .ref depths]))] H := hP
      have hD : va_D A [(a, .inr (7, [.int (nI 4), .int (nI 4), .int heatG_4, .int cools, .int skinHeat, .int todayG_5, .int stirs, .int steps, .int (nI 0), .int (nI 0), .ref thickness, .ref lumpNames, .ref lumpCells, .ref boatNames, .ref boatCells, .ref loads, .ref spoons, .ref spoonsLeft, .ref depths]))] := hD
      refine lv_iinc (v := nI (i + 1)) (lv' := [(3, .int (nI (i + 1))), (2, .int (nI n)), (0, .ref a), (1, .int (nI n))]) hx hb dX7_passDays_20 hl (k := 0) rfl (show nI i + nI 1 = nI (i + 1) from nI_add _ _) (by decide) rfl (fun ls hl => ?_)
      refine lv_goto (tgt := 11) hx hb dX7_passDays_23 (by decide) ?_
      exact ih (i + 1) heatG_4 todayG_5 (by omega) (by omega)  _ _ _ hP hD hS (lv_sub hl [0, 1, 2, 3] rfl)
set_option maxHeartbeats 4000000 in
set_option maxRecDepth 100000 in
theorem c_passDays (l : Launch) (dC : Nat → ClassId) (dI : Nat → Nat → Nat) (ky : Nat → ClassId) (sz : Nat) (a : Nat) (heat : Int32) (cools : Int32) (skinHeat : Int32) (stirs : Int32) (steps : Int32) (thickness : Nat) (lumpNames : Nat) (lumpCells : Nat) (boatNames : Nat) (boatCells : Nat) (loads : Nat) (spoons : Nat) (spoonsLeft : Nat) (depths : Nat) (n : Nat) (hn : n ≤ 60) : Met l yX7_passDays wsX7_passDays ({ frames := 2, cells := 0, slots := 0, locals := 36 }) (PcU dC dI ky [.ref a, .int (nI n)] [(a, .inr (7, [.int (nI 4), .int (nI 4), .int heat, .int cools, .int skinHeat, .int (nI 0), .int stirs, .int steps, .int (nI 0), .int (nI 0), .ref thickness, .ref lumpNames, .ref lumpCells, .ref boatNames, .ref boatCells, .ref loads, .ref spoons, .ref spoonsLeft, .ref depths]))] sz) (va_Qi (fun (r : Int32) (u : Int32 × Int32) => match u with | (heatG, todayG) => r = nI n) (BU dC dI ky (fun (u : Int32 × Int32) => match u with | (heatG, todayG) => [(a, .inr (7, [.int (nI 4), .int (nI 4), .int heatG, .int cools, .int skinHeat, .int todayG, .int stirs, .int steps, .int (nI 0), .int (nI 0), .ref thickness, .ref lumpNames, .ref lumpCells, .ref boatNames, .ref boatCells, .ref loads, .ref spoons, .ref spoonsLeft, .ref depths]))]) (va_A [(a, .inr (7, [.int (nI 4), .int (nI 4), .int heat, .int cools, .int skinHeat, .int (nI 0), .int stirs, .int steps, .int (nI 0), .int (nI 0), .ref thickness, .ref lumpNames, .ref lumpCells, .ref boatNames, .ref boatCells, .ref loads, .ref spoons, .ref spoonsLeft, .ref depths]))] sz)) (va_A [(a, .inr (7, [.int (nI 4), .int (nI 4), .int heat, .int cools, .int skinHeat, .int (nI 0), .int stirs, .int steps, .int (nI 0), .int (nI 0), .ref thickness, .ref lumpNames, .ref lumpCells, .ref boatNames, .ref boatCells, .ref loads, .ref spoons, .ref spoonsLeft, .ref depths]))] sz)) 0 0 (va_A [(a, .inr (7, [.int (nI 4), .int (nI 4), .int heat, .int cools, .int skinHeat, .int (nI 0), .int stirs, .int steps, .int (nI 0), .int (nI 0), .ref thickness, .ref lumpNames, .ref lumpCells, .ref boatNames, .ref boatCells, .ref loads, .ref spoons, .ref spoonsLeft, .ref depths]))] sz) := by
  refine Met.ofW (cc := cX7_passDays) (maxL := 4) (ret := (some .int)) (by decide) rfl ?_
  intro p e s m args below meth c s₁ B hml hv
  obtain ⟨rfl, hsz, hP, hK, hD0⟩ := hv
  have hx := B.exec
  have hb := B.bytes
  have hr := B.returns
  have hts := atoms_spec (ws := wsX7_passDays) B.pre
  have hown : s.vm.findClass RX7 = some m.cls := findClass_of_methodNamed B.named
  have hlocks := B.notSynchronized
  subst hsz
  have hD := hD0.self (sz := s.heap.size)
  generalize hAe : va_A [(a, .inr (7, [.int (nI 4), .int (nI 4), .int heat, .int cools, .int skinHeat, .int (nI 0), .int stirs, .int steps, .int (nI 0), .int (nI 0), .ref thickness, .ref lumpNames, .ref lumpCells, .ref boatNames, .ref boatCells, .ref loads, .ref spoons, .ref spoonsLeft, .ref depths]))] s.heap.size = A at hD ⊢
  have hA : ∀ q : Nat, s.heap.size ≤ q → A q := fun q h => by rw [← hAe]; exact Or.inr h
  have hS : va_S A s.heap s.heap [] := va_S.rf
  have hP : va_P (dC, dI) vwCl [(a, .inr (7, [.int (nI 4), .int (nI 4), .int heat, .int cools, .int skinHeat, .int (nI 0), .int stirs, .int steps, .int (nI 0), .int (nI 0), .ref thickness, .ref lumpNames, .ref lumpCells, .ref boatNames, .ref boatCells, .ref loads, .ref spoons, .ref spoonsLeft, .ref depths]))] s.heap := hP
  have hl := lv_entry ([.ref a, .int (nI n)]) (n := 4) (Nat.le_of_ble_eq_true rfl)
  rw [lg_entry_eq]
  generalize (lg_sl ([.ref a, .int (nI n)]) ++ List.replicate (4 - (lg_sl ([.ref a, .int (nI n)])).length) Slot.unset).toArray = ls at hl ⊢
  have hl : lv_has ls 4 [(0, .ref a), (1, .int (nI n))] := hl
  have hH0 : True := trivial
  refine lv_iload_n hx hb dX7_passDays_0 rfl (lv_at hl 1 rfl) ?_
  refine lv_aload_n hx hb dX7_passDays_1 rfl (lv_at hl 0 rfl) ?_
  refine vp_callSi (W.runV (As := []) (rest := [.int (nI n)]) ⟨hx, hb, hml, hown, hts⟩ (c_daysLeft0 l dC dI ky a heat cools skinHeat stirs steps thickness lumpNames lumpCells boatNames boatCells loads spoons spoonsLeft depths) (cwV 0 hts gX7_passDays_X7_daysLeft rfl rfl rfl (by decide +kernel) ⟨(Nat.le_of_ble_eq_true rfl), (Nat.le_of_ble_eq_true rfl)⟩) (pre_PV hK hP [0] rfl (ci := 7) (q0 := 0) rfl rfl) rfl rfl hl.1 rfl (lv_room (Nat.le_of_ble_eq_true rfl)) dX7_passDays_2 ⟨(Nat.le_of_ble_eq_true rfl), (Nat.le_of_ble_eq_true rfl)⟩) (fun r1 p2 => ?_)
  subst p2
  refine va_mmin hx hb (by rw [hml]; exact hl.1.symm) hown (hts _ (List.mem_of_getElem? (i := 1) rfl)) (hts _ (List.mem_of_getElem? (i := 2) rfl)) (hts _ (List.mem_of_getElem? (i := 3) rfl)) (hts _ (List.mem_of_getElem? (i := 4) rfl)) (Nat.le_of_ble_eq_true rfl) (Nat.le_of_ble_eq_true rfl) (Nat.le_of_ble_eq_true rfl) (Nat.le_of_ble_eq_true rfl) dX7_passDays_5 ?_
  refine r_ti (nI n) (if_neg (nI_nlt (by omega) (by omega))) ?_
  refine lv_istore_n (lv' := [(2, .int (nI n)), (0, .ref a), (1, .int (nI n))]) hx hb dX7_passDays_8 rfl hl (by decide) rfl (fun ls hl => ?_)
  refine lv_iconst (v := nI 0) hx hb dX7_passDays_9 (by decide) ?_
  refine lv_istore_n (lv' := [(3, .int (nI 0)), (2, .int (nI n)), (0, .ref a), (1, .int (nI n))]) hx hb dX7_passDays_10 rfl hl (by decide) rfl (fun ls hl => ?_)
  refine lp_passDays hx hb hml hown hts hK hA (Nat.le_of_ble_eq_true rfl) (Nat.le_of_ble_eq_true rfl) (Nat.le_of_ble_eq_true rfl) (Nat.le_of_ble_eq_true rfl) a heat cools skinHeat stirs steps thickness lumpNames lumpCells boatNames boatCells loads spoons spoonsLeft depths n hn ?_ (n + 1) 0 heat (nI 0) (by omega) (by omega)  _ _ _ hP hD hS (lv_sub hl [0, 1, 2, 3] rfl)
  intro i ht td hiN  H locs ls hP hD hS hl
  subst hiN
  refine lv_iload_n hx hb dX7_passDays_26 rfl (lv_at hl 1 rfl) ?_
  have hP9 := hP.sub (ws' := [(a, .inr (7, [.int (nI 4), .int (nI 4), .int ht, .int cools, .int skinHeat, .int td, .int stirs, .int steps, .int (nI 0), .int (nI 0), .ref thickness, .ref lumpNames, .ref lumpCells, .ref boatNames, .ref boatCells, .ref loads, .ref spoons, .ref spoonsLeft, .ref depths]))]) [0] rfl
  have hD9 := hD.sub (ws' := [(a, .inr (7, [.int (nI 4), .int (nI 4), .int ht, .int cools, .int skinHeat, .int td, .int stirs, .int steps, .int (nI 0), .int (nI 0), .ref thickness, .ref lumpNames, .ref lumpCells, .ref boatNames, .ref boatCells, .ref loads, .ref spoons, .ref spoonsLeft, .ref depths]))]) [0] (by decide) rfl
  refine W.widen (k := 0) (n := 0) (Nat.le_of_ble_eq_true rfl) (Nat.le_of_ble_eq_true rfl) ?_
  exact W.iret (v := nI n) hx hb hr (fun t ht9 hW9 => ⟨⟨nI n, (ht, td), rfl, rfl, by rw [ht9]; exact hP9, va_K.moved hW9.alike hK, hD9⟩, hS.F ht9⟩) hS.2.2 dX7_passDays_27
